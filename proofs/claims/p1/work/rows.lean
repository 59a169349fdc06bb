section
/-- a private method of a class that the tables say can be made, by its rows of tables_1 -/
def lw_okq (q : MethodName × Nat) : Prop := (q.1.cls ≠ "java/lang/invoke/MethodHandle" ∧ q.1.cls ≠ "java/lang/invoke/VarHandle") ∧ Cond.instantiable q.1.cls q.2 ∈ tables_1 ∧ Cond.privateMethod q.1 ∈ tables_1 ∧ Cond.instanceMethod q.1 ∈ tables_1
theorem lw_p0 : lw_okq (⟨"SaidShallow", "putNumber", "(I)V"⟩, 19) := ⟨⟨by decide +kernel, by decide +kernel⟩, List.mem_of_getElem? (i := 23) (by decide +kernel), List.mem_of_getElem? (i := 553) (by decide +kernel), List.mem_of_getElem? (i := 554) (by decide +kernel)⟩
theorem lw_p1 : lw_okq (⟨"SaidShallow", "emptyTape", "()I"⟩, 19) := ⟨⟨by decide +kernel, by decide +kernel⟩, List.mem_of_getElem? (i := 23) (by decide +kernel), List.mem_of_getElem? (i := 565) (by decide +kernel), List.mem_of_getElem? (i := 566) (by decide +kernel)⟩
theorem lw_p2 : lw_okq (⟨"SaidShallow$Reader", "peek", "()I"⟩, 10) := ⟨⟨by decide +kernel, by decide +kernel⟩, List.mem_of_getElem? (i := 407) (by decide +kernel), List.mem_of_getElem? (i := 590) (by decide +kernel), List.mem_of_getElem? (i := 591) (by decide +kernel)⟩
theorem lw_p3 : lw_okq (⟨"SaidShallow$Reader", "readStatement", "()Z"⟩, 10) := ⟨⟨by decide +kernel, by decide +kernel⟩, List.mem_of_getElem? (i := 407) (by decide +kernel), List.mem_of_getElem? (i := 594) (by decide +kernel), List.mem_of_getElem? (i := 595) (by decide +kernel)⟩
theorem lw_p4 : lw_okq (⟨"SaidShallow$Reader", "isKeyword", "(Ljava/lang/String;I)Z"⟩, 10) := ⟨⟨by decide +kernel, by decide +kernel⟩, List.mem_of_getElem? (i := 407) (by decide +kernel), List.mem_of_getElem? (i := 602) (by decide +kernel), List.mem_of_getElem? (i := 603) (by decide +kernel)⟩
theorem lw_p5 : lw_okq (⟨"SaidShallow$Reader", "readLetters", "()Z"⟩, 10) := ⟨⟨by decide +kernel, by decide +kernel⟩, List.mem_of_getElem? (i := 407) (by decide +kernel), List.mem_of_getElem? (i := 654) (by decide +kernel), List.mem_of_getElem? (i := 655) (by decide +kernel)⟩
theorem lw_p6 : lw_okq (⟨"SaidShallow$Reader", "fail", "(II)Z"⟩, 10) := ⟨⟨by decide +kernel, by decide +kernel⟩, List.mem_of_getElem? (i := 407) (by decide +kernel), List.mem_of_getElem? (i := 662) (by decide +kernel), List.mem_of_getElem? (i := 663) (by decide +kernel)⟩
theorem lw_p7 : lw_okq (⟨"SaidShallow$Tongue", "keepPair", "(IIII)V"⟩, 16) := ⟨⟨by decide +kernel, by decide +kernel⟩, List.mem_of_getElem? (i := 37) (by decide +kernel), List.mem_of_getElem? (i := 670) (by decide +kernel), List.mem_of_getElem? (i := 671) (by decide +kernel)⟩
theorem lw_p8 : lw_okq (⟨"SaidShallow$Reader", "readClass", "()Z"⟩, 10) := ⟨⟨by decide +kernel, by decide +kernel⟩, List.mem_of_getElem? (i := 407) (by decide +kernel), List.mem_of_getElem? (i := 675) (by decide +kernel), List.mem_of_getElem? (i := 676) (by decide +kernel)⟩
theorem lw_p9 : lw_okq (⟨"SaidShallow$Reader", "readPair", "()Z"⟩, 10) := ⟨⟨by decide +kernel, by decide +kernel⟩, List.mem_of_getElem? (i := 407) (by decide +kernel), List.mem_of_getElem? (i := 683) (by decide +kernel), List.mem_of_getElem? (i := 684) (by decide +kernel)⟩
theorem lw_p10 : lw_okq (⟨"SaidShallow$Reader", "readS", "()Z"⟩, 10) := ⟨⟨by decide +kernel, by decide +kernel⟩, List.mem_of_getElem? (i := 407) (by decide +kernel), List.mem_of_getElem? (i := 687) (by decide +kernel), List.mem_of_getElem? (i := 688) (by decide +kernel)⟩
theorem lw_p11 : lw_okq (⟨"SaidShallow$Reader", "expect", "(I)Z"⟩, 10) := ⟨⟨by decide +kernel, by decide +kernel⟩, List.mem_of_getElem? (i := 407) (by decide +kernel), List.mem_of_getElem? (i := 691) (by decide +kernel), List.mem_of_getElem? (i := 692) (by decide +kernel)⟩
theorem lw_p12 : lw_okq (⟨"SaidShallow$Reader", "skipIf", "(I)Z"⟩, 10) := ⟨⟨by decide +kernel, by decide +kernel⟩, List.mem_of_getElem? (i := 407) (by decide +kernel), List.mem_of_getElem? (i := 695) (by decide +kernel), List.mem_of_getElem? (i := 696) (by decide +kernel)⟩
theorem lw_p13 : lw_okq (⟨"SaidShallow$Reader", "readRule", "(I)Z"⟩, 10) := ⟨⟨by decide +kernel, by decide +kernel⟩, List.mem_of_getElem? (i := 407) (by decide +kernel), List.mem_of_getElem? (i := 708) (by decide +kernel), List.mem_of_getElem? (i := 709) (by decide +kernel)⟩
theorem lw_p14 : lw_okq (⟨"SaidShallow$Reader", "readOp", "(LSaidShallow$Rule;)Z"⟩, 10) := ⟨⟨by decide +kernel, by decide +kernel⟩, List.mem_of_getElem? (i := 407) (by decide +kernel), List.mem_of_getElem? (i := 721) (by decide +kernel), List.mem_of_getElem? (i := 722) (by decide +kernel)⟩
theorem lw_p15 : lw_okq (⟨"SaidShallow$Reader", "standsHere", "(Ljava/lang/String;)Z"⟩, 10) := ⟨⟨by decide +kernel, by decide +kernel⟩, List.mem_of_getElem? (i := 407) (by decide +kernel), List.mem_of_getElem? (i := 726) (by decide +kernel), List.mem_of_getElem? (i := 727) (by decide +kernel)⟩
def lw_privs_1 : List (MethodName × Nat) := [(⟨"SaidShallow", "putNumber", "(I)V"⟩, 19), (⟨"SaidShallow", "emptyTape", "()I"⟩, 19), (⟨"SaidShallow$Reader", "peek", "()I"⟩, 10), (⟨"SaidShallow$Reader", "readStatement", "()Z"⟩, 10), (⟨"SaidShallow$Reader", "isKeyword", "(Ljava/lang/String;I)Z"⟩, 10), (⟨"SaidShallow$Reader", "readLetters", "()Z"⟩, 10), (⟨"SaidShallow$Reader", "fail", "(II)Z"⟩, 10), (⟨"SaidShallow$Tongue", "keepPair", "(IIII)V"⟩, 16), (⟨"SaidShallow$Reader", "readClass", "()Z"⟩, 10), (⟨"SaidShallow$Reader", "readPair", "()Z"⟩, 10), (⟨"SaidShallow$Reader", "readS", "()Z"⟩, 10), (⟨"SaidShallow$Reader", "expect", "(I)Z"⟩, 10), (⟨"SaidShallow$Reader", "skipIf", "(I)Z"⟩, 10), (⟨"SaidShallow$Reader", "readRule", "(I)Z"⟩, 10), (⟨"SaidShallow$Reader", "readOp", "(LSaidShallow$Rule;)Z"⟩, 10), (⟨"SaidShallow$Reader", "standsHere", "(Ljava/lang/String;)Z"⟩, 10)]
theorem lw_r1 : ∀ q ∈ lw_privs_1, lw_okq q := List.forall_mem_cons.mpr ⟨lw_p0, List.forall_mem_cons.mpr ⟨lw_p1, List.forall_mem_cons.mpr ⟨lw_p2, List.forall_mem_cons.mpr ⟨lw_p3, List.forall_mem_cons.mpr ⟨lw_p4, List.forall_mem_cons.mpr ⟨lw_p5, List.forall_mem_cons.mpr ⟨lw_p6, List.forall_mem_cons.mpr ⟨lw_p7, List.forall_mem_cons.mpr ⟨lw_p8, List.forall_mem_cons.mpr ⟨lw_p9, List.forall_mem_cons.mpr ⟨lw_p10, List.forall_mem_cons.mpr ⟨lw_p11, List.forall_mem_cons.mpr ⟨lw_p12, List.forall_mem_cons.mpr ⟨lw_p13, List.forall_mem_cons.mpr ⟨lw_p14, List.forall_mem_cons.mpr ⟨lw_p15, fun _ h => absurd h List.not_mem_nil⟩⟩⟩⟩⟩⟩⟩⟩⟩⟩⟩⟩⟩⟩⟩⟩
theorem lw_p16 : lw_okq (⟨"SaidShallow$Rule", "isAlways", "()Z"⟩, 11) := ⟨⟨by decide +kernel, by decide +kernel⟩, List.mem_of_getElem? (i := 65) (by decide +kernel), List.mem_of_getElem? (i := 733) (by decide +kernel), List.mem_of_getElem? (i := 734) (by decide +kernel)⟩
theorem lw_p17 : lw_okq (⟨"SaidShallow$Reader", "readContext", "(LSaidShallow$Rule;)Z"⟩, 10) := ⟨⟨by decide +kernel, by decide +kernel⟩, List.mem_of_getElem? (i := 407) (by decide +kernel), List.mem_of_getElem? (i := 737) (by decide +kernel), List.mem_of_getElem? (i := 738) (by decide +kernel)⟩
theorem lw_p18 : lw_okq (⟨"SaidShallow$Reader", "readItems", "(LSaidShallow$Side;I)Z"⟩, 10) := ⟨⟨by decide +kernel, by decide +kernel⟩, List.mem_of_getElem? (i := 407) (by decide +kernel), List.mem_of_getElem? (i := 749) (by decide +kernel), List.mem_of_getElem? (i := 750) (by decide +kernel)⟩
theorem lw_p19 : lw_okq (⟨"SaidShallow$Reader", "readX", "()Z"⟩, 10) := ⟨⟨by decide +kernel, by decide +kernel⟩, List.mem_of_getElem? (i := 407) (by decide +kernel), List.mem_of_getElem? (i := 756) (by decide +kernel), List.mem_of_getElem? (i := 757) (by decide +kernel)⟩
theorem lw_p20 : lw_okq (⟨"SaidShallow$Reader", "isNext", "(I)Z"⟩, 10) := ⟨⟨by decide +kernel, by decide +kernel⟩, List.mem_of_getElem? (i := 407) (by decide +kernel), List.mem_of_getElem? (i := 760) (by decide +kernel), List.mem_of_getElem? (i := 761) (by decide +kernel)⟩
theorem lw_p21 : lw_okq (⟨"SaidShallow$Reader", "readPart", "(LSaidShallow$WordList;II)Z"⟩, 10) := ⟨⟨by decide +kernel, by decide +kernel⟩, List.mem_of_getElem? (i := 407) (by decide +kernel), List.mem_of_getElem? (i := 770) (by decide +kernel), List.mem_of_getElem? (i := 771) (by decide +kernel)⟩
theorem lw_p22 : lw_okq (⟨"SaidShallow$Side", "takes", "(III)Z"⟩, 6) := ⟨⟨by decide +kernel, by decide +kernel⟩, List.mem_of_getElem? (i := 71) (by decide +kernel), List.mem_of_getElem? (i := 795) (by decide +kernel), List.mem_of_getElem? (i := 796) (by decide +kernel)⟩
theorem lw_p23 : lw_okq (⟨"SaidShallow$Rule", "roleOf", "(II)I"⟩, 11) := ⟨⟨by decide +kernel, by decide +kernel⟩, List.mem_of_getElem? (i := 65) (by decide +kernel), List.mem_of_getElem? (i := 799) (by decide +kernel), List.mem_of_getElem? (i := 800) (by decide +kernel)⟩
theorem lw_p24 : lw_okq (⟨"SaidShallow", "isSet", "(I)Z"⟩, 19) := ⟨⟨by decide +kernel, by decide +kernel⟩, List.mem_of_getElem? (i := 23) (by decide +kernel), List.mem_of_getElem? (i := 859) (by decide +kernel), List.mem_of_getElem? (i := 860) (by decide +kernel)⟩
theorem lw_p25 : lw_okq (⟨"SaidShallow", "findWords", "(Z)I"⟩, 19) := ⟨⟨by decide +kernel, by decide +kernel⟩, List.mem_of_getElem? (i := 23) (by decide +kernel), List.mem_of_getElem? (i := 871) (by decide +kernel), List.mem_of_getElem? (i := 872) (by decide +kernel)⟩
theorem lw_p26 : lw_okq (⟨"SaidShallow", "takeWord", "()I"⟩, 19) := ⟨⟨by decide +kernel, by decide +kernel⟩, List.mem_of_getElem? (i := 23) (by decide +kernel), List.mem_of_getElem? (i := 875) (by decide +kernel), List.mem_of_getElem? (i := 876) (by decide +kernel)⟩
theorem lw_p27 : lw_okq (⟨"SaidShallow", "areLetters", "(II)Z"⟩, 19) := ⟨⟨by decide +kernel, by decide +kernel⟩, List.mem_of_getElem? (i := 23) (by decide +kernel), List.mem_of_getElem? (i := 879) (by decide +kernel), List.mem_of_getElem? (i := 880) (by decide +kernel)⟩
theorem lw_p28 : lw_okq (⟨"SaidShallow$Rows", "breakable", "(I)I"⟩, 18) := ⟨⟨by decide +kernel, by decide +kernel⟩, List.mem_of_getElem? (i := 31) (by decide +kernel), List.mem_of_getElem? (i := 897) (by decide +kernel), List.mem_of_getElem? (i := 898) (by decide +kernel)⟩
theorem lw_p29 : lw_okq (⟨"SaidShallow$Rows", "hasSign", "(I)Z"⟩, 18) := ⟨⟨by decide +kernel, by decide +kernel⟩, List.mem_of_getElem? (i := 31) (by decide +kernel), List.mem_of_getElem? (i := 901) (by decide +kernel), List.mem_of_getElem? (i := 902) (by decide +kernel)⟩
theorem lw_p30 : lw_okq (⟨"SaidShallow$Rows", "descend", "(IIIII)Z"⟩, 18) := ⟨⟨by decide +kernel, by decide +kernel⟩, List.mem_of_getElem? (i := 31) (by decide +kernel), List.mem_of_getElem? (i := 914) (by decide +kernel), List.mem_of_getElem? (i := 915) (by decide +kernel)⟩
theorem lw_p31 : lw_okq (⟨"SaidShallow$DeadEnds", "slotOfKey", "()I"⟩, 6) := ⟨⟨by decide +kernel, by decide +kernel⟩, List.mem_of_getElem? (i := 274) (by decide +kernel), List.mem_of_getElem? (i := 930) (by decide +kernel), List.mem_of_getElem? (i := 931) (by decide +kernel)⟩
def lw_privs_2 : List (MethodName × Nat) := [(⟨"SaidShallow$Rule", "isAlways", "()Z"⟩, 11), (⟨"SaidShallow$Reader", "readContext", "(LSaidShallow$Rule;)Z"⟩, 10), (⟨"SaidShallow$Reader", "readItems", "(LSaidShallow$Side;I)Z"⟩, 10), (⟨"SaidShallow$Reader", "readX", "()Z"⟩, 10), (⟨"SaidShallow$Reader", "isNext", "(I)Z"⟩, 10), (⟨"SaidShallow$Reader", "readPart", "(LSaidShallow$WordList;II)Z"⟩, 10), (⟨"SaidShallow$Side", "takes", "(III)Z"⟩, 6), (⟨"SaidShallow$Rule", "roleOf", "(II)I"⟩, 11), (⟨"SaidShallow", "isSet", "(I)Z"⟩, 19), (⟨"SaidShallow", "findWords", "(Z)I"⟩, 19), (⟨"SaidShallow", "takeWord", "()I"⟩, 19), (⟨"SaidShallow", "areLetters", "(II)Z"⟩, 19), (⟨"SaidShallow$Rows", "breakable", "(I)I"⟩, 18), (⟨"SaidShallow$Rows", "hasSign", "(I)Z"⟩, 18), (⟨"SaidShallow$Rows", "descend", "(IIIII)Z"⟩, 18), (⟨"SaidShallow$DeadEnds", "slotOfKey", "()I"⟩, 6)]
theorem lw_r2 : ∀ q ∈ lw_privs_2, lw_okq q := List.forall_mem_cons.mpr ⟨lw_p16, List.forall_mem_cons.mpr ⟨lw_p17, List.forall_mem_cons.mpr ⟨lw_p18, List.forall_mem_cons.mpr ⟨lw_p19, List.forall_mem_cons.mpr ⟨lw_p20, List.forall_mem_cons.mpr ⟨lw_p21, List.forall_mem_cons.mpr ⟨lw_p22, List.forall_mem_cons.mpr ⟨lw_p23, List.forall_mem_cons.mpr ⟨lw_p24, List.forall_mem_cons.mpr ⟨lw_p25, List.forall_mem_cons.mpr ⟨lw_p26, List.forall_mem_cons.mpr ⟨lw_p27, List.forall_mem_cons.mpr ⟨lw_p28, List.forall_mem_cons.mpr ⟨lw_p29, List.forall_mem_cons.mpr ⟨lw_p30, List.forall_mem_cons.mpr ⟨lw_p31, fun _ h => absurd h List.not_mem_nil⟩⟩⟩⟩⟩⟩⟩⟩⟩⟩⟩⟩⟩⟩⟩⟩
theorem lw_p32 : lw_okq (⟨"SaidShallow$DeadEnds", "isKeyAt", "(I)Z"⟩, 6) := ⟨⟨by decide +kernel, by decide +kernel⟩, List.mem_of_getElem? (i := 274) (by decide +kernel), List.mem_of_getElem? (i := 935) (by decide +kernel), List.mem_of_getElem? (i := 936) (by decide +kernel)⟩
theorem lw_p33 : lw_okq (⟨"SaidShallow$Rows", "complete", "(II)Z"⟩, 18) := ⟨⟨by decide +kernel, by decide +kernel⟩, List.mem_of_getElem? (i := 31) (by decide +kernel), List.mem_of_getElem? (i := 939) (by decide +kernel), List.mem_of_getElem? (i := 940) (by decide +kernel)⟩
theorem lw_p34 : lw_okq (⟨"SaidShallow$Track", "endsWell", "(I)Z"⟩, 5) := ⟨⟨by decide +kernel, by decide +kernel⟩, List.mem_of_getElem? (i := 252) (by decide +kernel), List.mem_of_getElem? (i := 947) (by decide +kernel), List.mem_of_getElem? (i := 948) (by decide +kernel)⟩
theorem lw_p35 : lw_okq (⟨"SaidShallow$Rows", "isLeft", "(I)Z"⟩, 18) := ⟨⟨by decide +kernel, by decide +kernel⟩, List.mem_of_getElem? (i := 31) (by decide +kernel), List.mem_of_getElem? (i := 952) (by decide +kernel), List.mem_of_getElem? (i := 953) (by decide +kernel)⟩
theorem lw_p36 : lw_okq (⟨"SaidShallow$Rows", "hasWanted", "(I)Z"⟩, 18) := ⟨⟨by decide +kernel, by decide +kernel⟩, List.mem_of_getElem? (i := 31) (by decide +kernel), List.mem_of_getElem? (i := 956) (by decide +kernel), List.mem_of_getElem? (i := 957) (by decide +kernel)⟩
theorem lw_p37 : lw_okq (⟨"SaidShallow$Rows", "choiceOf", "(II)I"⟩, 18) := ⟨⟨by decide +kernel, by decide +kernel⟩, List.mem_of_getElem? (i := 31) (by decide +kernel), List.mem_of_getElem? (i := 965) (by decide +kernel), List.mem_of_getElem? (i := 966) (by decide +kernel)⟩
theorem lw_p38 : lw_okq (⟨"SaidShallow$Track", "advance", "(LSaidShallow$Rule;II)Z"⟩, 5) := ⟨⟨by decide +kernel, by decide +kernel⟩, List.mem_of_getElem? (i := 252) (by decide +kernel), List.mem_of_getElem? (i := 977) (by decide +kernel), List.mem_of_getElem? (i := 978) (by decide +kernel)⟩
theorem lw_p39 : lw_okq (⟨"SaidShallow$Track", "owe", "(LSaidShallow$Rule;II)Z"⟩, 5) := ⟨⟨by decide +kernel, by decide +kernel⟩, List.mem_of_getElem? (i := 252) (by decide +kernel), List.mem_of_getElem? (i := 984) (by decide +kernel), List.mem_of_getElem? (i := 985) (by decide +kernel)⟩
theorem lw_p40 : lw_okq (⟨"SaidShallow", "keepCouple", "(III)V"⟩, 19) := ⟨⟨by decide +kernel, by decide +kernel⟩, List.mem_of_getElem? (i := 23) (by decide +kernel), List.mem_of_getElem? (i := 1020) (by decide +kernel), List.mem_of_getElem? (i := 1021) (by decide +kernel)⟩
theorem lw_p41 : lw_okq (⟨"SaidShallow$Rows", "layRow", "([IIII)Z"⟩, 18) := ⟨⟨by decide +kernel, by decide +kernel⟩, List.mem_of_getElem? (i := 31) (by decide +kernel), List.mem_of_getElem? (i := 1043) (by decide +kernel), List.mem_of_getElem? (i := 1044) (by decide +kernel)⟩
theorem lw_p42 : lw_okq (⟨"SaidShallow$Rows", "breaksOf", "(II)I"⟩, 18) := ⟨⟨by decide +kernel, by decide +kernel⟩, List.mem_of_getElem? (i := 31) (by decide +kernel), List.mem_of_getElem? (i := 1048) (by decide +kernel), List.mem_of_getElem? (i := 1049) (by decide +kernel)⟩
theorem lw_p43 : lw_okq (⟨"SaidShallow", "takeRow", "()I"⟩, 19) := ⟨⟨by decide +kernel, by decide +kernel⟩, List.mem_of_getElem? (i := 23) (by decide +kernel), List.mem_of_getElem? (i := 1071) (by decide +kernel), List.mem_of_getElem? (i := 1072) (by decide +kernel)⟩
theorem lw_p44 : lw_okq (⟨"SaidShallow", "pairOfSigns", "(II)I"⟩, 19) := ⟨⟨by decide +kernel, by decide +kernel⟩, List.mem_of_getElem? (i := 23) (by decide +kernel), List.mem_of_getElem? (i := 1075) (by decide +kernel), List.mem_of_getElem? (i := 1076) (by decide +kernel)⟩
theorem lw_p45 : lw_okq (⟨"SaidShallow", "isRule", "(I)Z"⟩, 19) := ⟨⟨by decide +kernel, by decide +kernel⟩, List.mem_of_getElem? (i := 23) (by decide +kernel), List.mem_of_getElem? (i := 1104) (by decide +kernel), List.mem_of_getElem? (i := 1105) (by decide +kernel)⟩
theorem lw_p46 : lw_okq (⟨"SaidShallow$BestOrder", "fillAfter", "(LSaidShallow$Tongue;I)V"⟩, 11) := ⟨⟨by decide +kernel, by decide +kernel⟩, List.mem_of_getElem? (i := 449) (by decide +kernel), List.mem_of_getElem? (i := 1142) (by decide +kernel), List.mem_of_getElem? (i := 1143) (by decide +kernel)⟩
theorem lw_p47 : lw_okq (⟨"SaidShallow$BestOrder", "fillAgrees", "(LSaidShallow$Rows;LSaidShallow$Standing;)V"⟩, 11) := ⟨⟨by decide +kernel, by decide +kernel⟩, List.mem_of_getElem? (i := 449) (by decide +kernel), List.mem_of_getElem? (i := 1150) (by decide +kernel), List.mem_of_getElem? (i := 1151) (by decide +kernel)⟩
def lw_privs_3 : List (MethodName × Nat) := [(⟨"SaidShallow$DeadEnds", "isKeyAt", "(I)Z"⟩, 6), (⟨"SaidShallow$Rows", "complete", "(II)Z"⟩, 18), (⟨"SaidShallow$Track", "endsWell", "(I)Z"⟩, 5), (⟨"SaidShallow$Rows", "isLeft", "(I)Z"⟩, 18), (⟨"SaidShallow$Rows", "hasWanted", "(I)Z"⟩, 18), (⟨"SaidShallow$Rows", "choiceOf", "(II)I"⟩, 18), (⟨"SaidShallow$Track", "advance", "(LSaidShallow$Rule;II)Z"⟩, 5), (⟨"SaidShallow$Track", "owe", "(LSaidShallow$Rule;II)Z"⟩, 5), (⟨"SaidShallow", "keepCouple", "(III)V"⟩, 19), (⟨"SaidShallow$Rows", "layRow", "([IIII)Z"⟩, 18), (⟨"SaidShallow$Rows", "breaksOf", "(II)I"⟩, 18), (⟨"SaidShallow", "takeRow", "()I"⟩, 19), (⟨"SaidShallow", "pairOfSigns", "(II)I"⟩, 19), (⟨"SaidShallow", "isRule", "(I)Z"⟩, 19), (⟨"SaidShallow$BestOrder", "fillAfter", "(LSaidShallow$Tongue;I)V"⟩, 11), (⟨"SaidShallow$BestOrder", "fillAgrees", "(LSaidShallow$Rows;LSaidShallow$Standing;)V"⟩, 11)]
theorem lw_r3 : ∀ q ∈ lw_privs_3, lw_okq q := List.forall_mem_cons.mpr ⟨lw_p32, List.forall_mem_cons.mpr ⟨lw_p33, List.forall_mem_cons.mpr ⟨lw_p34, List.forall_mem_cons.mpr ⟨lw_p35, List.forall_mem_cons.mpr ⟨lw_p36, List.forall_mem_cons.mpr ⟨lw_p37, List.forall_mem_cons.mpr ⟨lw_p38, List.forall_mem_cons.mpr ⟨lw_p39, List.forall_mem_cons.mpr ⟨lw_p40, List.forall_mem_cons.mpr ⟨lw_p41, List.forall_mem_cons.mpr ⟨lw_p42, List.forall_mem_cons.mpr ⟨lw_p43, List.forall_mem_cons.mpr ⟨lw_p44, List.forall_mem_cons.mpr ⟨lw_p45, List.forall_mem_cons.mpr ⟨lw_p46, List.forall_mem_cons.mpr ⟨lw_p47, fun _ h => absurd h List.not_mem_nil⟩⟩⟩⟩⟩⟩⟩⟩⟩⟩⟩⟩⟩⟩⟩⟩
theorem lw_p48 : lw_okq (⟨"SaidShallow$BestOrder", "noteSaid", "(LSaidShallow$Rows;I)V"⟩, 11) := ⟨⟨by decide +kernel, by decide +kernel⟩, List.mem_of_getElem? (i := 449) (by decide +kernel), List.mem_of_getElem? (i := 1157) (by decide +kernel), List.mem_of_getElem? (i := 1158) (by decide +kernel)⟩
theorem lw_p49 : lw_okq (⟨"SaidShallow$BestOrder", "tryOrders", "(II)V"⟩, 11) := ⟨⟨by decide +kernel, by decide +kernel⟩, List.mem_of_getElem? (i := 449) (by decide +kernel), List.mem_of_getElem? (i := 1162) (by decide +kernel), List.mem_of_getElem? (i := 1163) (by decide +kernel)⟩
theorem lw_p50 : lw_okq (⟨"SaidShallow$BestOrder", "judge", "(I)V"⟩, 11) := ⟨⟨by decide +kernel, by decide +kernel⟩, List.mem_of_getElem? (i := 449) (by decide +kernel), List.mem_of_getElem? (i := 1166) (by decide +kernel), List.mem_of_getElem? (i := 1167) (by decide +kernel)⟩
theorem lw_p51 : lw_okq (⟨"SaidShallow$Side", "moveCouples", "(JILSaidShallow$Side;IIZ)J"⟩, 6) := ⟨⟨by decide +kernel, by decide +kernel⟩, List.mem_of_getElem? (i := 71) (by decide +kernel), List.mem_of_getElem? (i := 1194) (by decide +kernel), List.mem_of_getElem? (i := 1195) (by decide +kernel)⟩
theorem lw_p52 : lw_okq (⟨"SaidShallow$Side", "moveAlone", "(IIIZ)I"⟩, 6) := ⟨⟨by decide +kernel, by decide +kernel⟩, List.mem_of_getElem? (i := 71) (by decide +kernel), List.mem_of_getElem? (i := 1198) (by decide +kernel), List.mem_of_getElem? (i := 1199) (by decide +kernel)⟩
theorem lw_p53 : lw_okq (⟨"SaidShallow", "firstParted", "(III)I"⟩, 19) := ⟨⟨by decide +kernel, by decide +kernel⟩, List.mem_of_getElem? (i := 23) (by decide +kernel), List.mem_of_getElem? (i := 1208) (by decide +kernel), List.mem_of_getElem? (i := 1209) (by decide +kernel)⟩
theorem lw_p54 : lw_okq (⟨"SaidShallow$Rows", "shortCode", "(I)I"⟩, 18) := ⟨⟨by decide +kernel, by decide +kernel⟩, List.mem_of_getElem? (i := 31) (by decide +kernel), List.mem_of_getElem? (i := 1216) (by decide +kernel), List.mem_of_getElem? (i := 1217) (by decide +kernel)⟩
theorem lw_p55 : lw_okq (⟨"SaidShallow$Rows", "clearMarks", "()V"⟩, 18) := ⟨⟨by decide +kernel, by decide +kernel⟩, List.mem_of_getElem? (i := 31) (by decide +kernel), List.mem_of_getElem? (i := 1221) (by decide +kernel), List.mem_of_getElem? (i := 1222) (by decide +kernel)⟩
theorem lw_p56 : lw_okq (⟨"SaidShallow$Rows", "meetsNeeds", "(I)Z"⟩, 18) := ⟨⟨by decide +kernel, by decide +kernel⟩, List.mem_of_getElem? (i := 31) (by decide +kernel), List.mem_of_getElem? (i := 1247) (by decide +kernel), List.mem_of_getElem? (i := 1248) (by decide +kernel)⟩
theorem lw_p57 : lw_okq (⟨"SaidShallow", "placeOfColon", "(I)I"⟩, 19) := ⟨⟨by decide +kernel, by decide +kernel⟩, List.mem_of_getElem? (i := 23) (by decide +kernel), List.mem_of_getElem? (i := 1255) (by decide +kernel), List.mem_of_getElem? (i := 1256) (by decide +kernel)⟩
theorem lw_p58 : lw_okq (⟨"SaidShallow", "lookFurther", "(I)I"⟩, 19) := ⟨⟨by decide +kernel, by decide +kernel⟩, List.mem_of_getElem? (i := 23) (by decide +kernel), List.mem_of_getElem? (i := 1313) (by decide +kernel), List.mem_of_getElem? (i := 1314) (by decide +kernel)⟩
theorem lw_p59 : lw_okq (⟨"SaidShallowModel", "sign", "()I"⟩, 56) := ⟨⟨by decide +kernel, by decide +kernel⟩, List.mem_of_getElem? (i := 1318) (by decide +kernel), List.mem_of_getElem? (i := 1512) (by decide +kernel), List.mem_of_getElem? (i := 1513) (by decide +kernel)⟩
theorem lw_p60 : lw_okq (⟨"SaidShallowModel", "blanks", "()V"⟩, 56) := ⟨⟨by decide +kernel, by decide +kernel⟩, List.mem_of_getElem? (i := 1318) (by decide +kernel), List.mem_of_getElem? (i := 1516) (by decide +kernel), List.mem_of_getElem? (i := 1517) (by decide +kernel)⟩
theorem lw_p61 : lw_okq (⟨"SaidShallowModel", "see", "(I)I"⟩, 56) := ⟨⟨by decide +kernel, by decide +kernel⟩, List.mem_of_getElem? (i := 1318) (by decide +kernel), List.mem_of_getElem? (i := 1520) (by decide +kernel), List.mem_of_getElem? (i := 1521) (by decide +kernel)⟩
theorem lw_p62 : lw_okq (⟨"SaidShallowModel", "statement", "()Z"⟩, 56) := ⟨⟨by decide +kernel, by decide +kernel⟩, List.mem_of_getElem? (i := 1318) (by decide +kernel), List.mem_of_getElem? (i := 1524) (by decide +kernel), List.mem_of_getElem? (i := 1525) (by decide +kernel)⟩
theorem lw_p63 : lw_okq (⟨"SaidShallowModel", "is", "(IILjava/lang/String;)Z"⟩, 56) := ⟨⟨by decide +kernel, by decide +kernel⟩, List.mem_of_getElem? (i := 1318) (by decide +kernel), List.mem_of_getElem? (i := 1532) (by decide +kernel), List.mem_of_getElem? (i := 1533) (by decide +kernel)⟩
def lw_privs_4 : List (MethodName × Nat) := [(⟨"SaidShallow$BestOrder", "noteSaid", "(LSaidShallow$Rows;I)V"⟩, 11), (⟨"SaidShallow$BestOrder", "tryOrders", "(II)V"⟩, 11), (⟨"SaidShallow$BestOrder", "judge", "(I)V"⟩, 11), (⟨"SaidShallow$Side", "moveCouples", "(JILSaidShallow$Side;IIZ)J"⟩, 6), (⟨"SaidShallow$Side", "moveAlone", "(IIIZ)I"⟩, 6), (⟨"SaidShallow", "firstParted", "(III)I"⟩, 19), (⟨"SaidShallow$Rows", "shortCode", "(I)I"⟩, 18), (⟨"SaidShallow$Rows", "clearMarks", "()V"⟩, 18), (⟨"SaidShallow$Rows", "meetsNeeds", "(I)Z"⟩, 18), (⟨"SaidShallow", "placeOfColon", "(I)I"⟩, 19), (⟨"SaidShallow", "lookFurther", "(I)I"⟩, 19), (⟨"SaidShallowModel", "sign", "()I"⟩, 56), (⟨"SaidShallowModel", "blanks", "()V"⟩, 56), (⟨"SaidShallowModel", "see", "(I)I"⟩, 56), (⟨"SaidShallowModel", "statement", "()Z"⟩, 56), (⟨"SaidShallowModel", "is", "(IILjava/lang/String;)Z"⟩, 56)]
theorem lw_r4 : ∀ q ∈ lw_privs_4, lw_okq q := List.forall_mem_cons.mpr ⟨lw_p48, List.forall_mem_cons.mpr ⟨lw_p49, List.forall_mem_cons.mpr ⟨lw_p50, List.forall_mem_cons.mpr ⟨lw_p51, List.forall_mem_cons.mpr ⟨lw_p52, List.forall_mem_cons.mpr ⟨lw_p53, List.forall_mem_cons.mpr ⟨lw_p54, List.forall_mem_cons.mpr ⟨lw_p55, List.forall_mem_cons.mpr ⟨lw_p56, List.forall_mem_cons.mpr ⟨lw_p57, List.forall_mem_cons.mpr ⟨lw_p58, List.forall_mem_cons.mpr ⟨lw_p59, List.forall_mem_cons.mpr ⟨lw_p60, List.forall_mem_cons.mpr ⟨lw_p61, List.forall_mem_cons.mpr ⟨lw_p62, List.forall_mem_cons.mpr ⟨lw_p63, fun _ h => absurd h List.not_mem_nil⟩⟩⟩⟩⟩⟩⟩⟩⟩⟩⟩⟩⟩⟩⟩⟩
theorem lw_p64 : lw_okq (⟨"SaidShallowModel", "letters", "()Z"⟩, 56) := ⟨⟨by decide +kernel, by decide +kernel⟩, List.mem_of_getElem? (i := 1318) (by decide +kernel), List.mem_of_getElem? (i := 1538) (by decide +kernel), List.mem_of_getElem? (i := 1539) (by decide +kernel)⟩
theorem lw_p65 : lw_okq (⟨"SaidShallowModel", "bad", "(II)Z"⟩, 56) := ⟨⟨by decide +kernel, by decide +kernel⟩, List.mem_of_getElem? (i := 1318) (by decide +kernel), List.mem_of_getElem? (i := 1542) (by decide +kernel), List.mem_of_getElem? (i := 1543) (by decide +kernel)⟩
theorem lw_p66 : lw_okq (⟨"SaidShallowModel", "classOf", "()Z"⟩, 56) := ⟨⟨by decide +kernel, by decide +kernel⟩, List.mem_of_getElem? (i := 1318) (by decide +kernel), List.mem_of_getElem? (i := 1550) (by decide +kernel), List.mem_of_getElem? (i := 1551) (by decide +kernel)⟩
theorem lw_p67 : lw_okq (⟨"SaidShallowModel", "takesPair", "()Z"⟩, 56) := ⟨⟨by decide +kernel, by decide +kernel⟩, List.mem_of_getElem? (i := 1318) (by decide +kernel), List.mem_of_getElem? (i := 1555) (by decide +kernel), List.mem_of_getElem? (i := 1556) (by decide +kernel)⟩
theorem lw_p68 : lw_okq (⟨"SaidShallowModel", "takesS", "()Z"⟩, 56) := ⟨⟨by decide +kernel, by decide +kernel⟩, List.mem_of_getElem? (i := 1318) (by decide +kernel), List.mem_of_getElem? (i := 1559) (by decide +kernel), List.mem_of_getElem? (i := 1560) (by decide +kernel)⟩
theorem lw_p69 : lw_okq (⟨"SaidShallowModel", "takes", "(I)Z"⟩, 56) := ⟨⟨by decide +kernel, by decide +kernel⟩, List.mem_of_getElem? (i := 1318) (by decide +kernel), List.mem_of_getElem? (i := 1563) (by decide +kernel), List.mem_of_getElem? (i := 1564) (by decide +kernel)⟩
theorem lw_p70 : lw_okq (⟨"SaidShallowModel", "ruled", "()Z"⟩, 56) := ⟨⟨by decide +kernel, by decide +kernel⟩, List.mem_of_getElem? (i := 1318) (by decide +kernel), List.mem_of_getElem? (i := 1571) (by decide +kernel), List.mem_of_getElem? (i := 1572) (by decide +kernel)⟩
theorem lw_p71 : lw_okq (⟨"SaidShallowModel", "op", "()I"⟩, 56) := ⟨⟨by decide +kernel, by decide +kernel⟩, List.mem_of_getElem? (i := 1318) (by decide +kernel), List.mem_of_getElem? (i := 1575) (by decide +kernel), List.mem_of_getElem? (i := 1576) (by decide +kernel)⟩
theorem lw_p72 : lw_okq (⟨"SaidShallowModel", "context", "(I)Z"⟩, 56) := ⟨⟨by decide +kernel, by decide +kernel⟩, List.mem_of_getElem? (i := 1318) (by decide +kernel), List.mem_of_getElem? (i := 1579) (by decide +kernel), List.mem_of_getElem? (i := 1580) (by decide +kernel)⟩
theorem lw_p73 : lw_okq (⟨"SaidShallowModel", "side", "(II)Z"⟩, 56) := ⟨⟨by decide +kernel, by decide +kernel⟩, List.mem_of_getElem? (i := 1318) (by decide +kernel), List.mem_of_getElem? (i := 1583) (by decide +kernel), List.mem_of_getElem? (i := 1584) (by decide +kernel)⟩
theorem lw_p74 : lw_okq (⟨"SaidShallowModel", "takesX", "()Z"⟩, 56) := ⟨⟨by decide +kernel, by decide +kernel⟩, List.mem_of_getElem? (i := 1318) (by decide +kernel), List.mem_of_getElem? (i := 1590) (by decide +kernel), List.mem_of_getElem? (i := 1591) (by decide +kernel)⟩
theorem lw_p75 : lw_okq (⟨"SaidShallowModel", "item", "(I)Z"⟩, 56) := ⟨⟨by decide +kernel, by decide +kernel⟩, List.mem_of_getElem? (i := 1318) (by decide +kernel), List.mem_of_getElem? (i := 1594) (by decide +kernel), List.mem_of_getElem? (i := 1595) (by decide +kernel)⟩
theorem lw_p76 : lw_okq (⟨"SaidShallowModel", "word", "(IZ)Z"⟩, 56) := ⟨⟨by decide +kernel, by decide +kernel⟩, List.mem_of_getElem? (i := 1318) (by decide +kernel), List.mem_of_getElem? (i := 1599) (by decide +kernel), List.mem_of_getElem? (i := 1600) (by decide +kernel)⟩
theorem lw_p77 : lw_okq (⟨"SaidShallowModel", "allRules", "()I"⟩, 56) := ⟨⟨by decide +kernel, by decide +kernel⟩, List.mem_of_getElem? (i := 1318) (by decide +kernel), List.mem_of_getElem? (i := 1612) (by decide +kernel), List.mem_of_getElem? (i := 1613) (by decide +kernel)⟩
theorem lw_p78 : lw_okq (⟨"SaidShallowModel", "words", "(I)I"⟩, 56) := ⟨⟨by decide +kernel, by decide +kernel⟩, List.mem_of_getElem? (i := 1318) (by decide +kernel), List.mem_of_getElem? (i := 1628) (by decide +kernel), List.mem_of_getElem? (i := 1629) (by decide +kernel)⟩
theorem lw_p79 : lw_okq (⟨"SaidShallowModel", "takesWord", "(II)Z"⟩, 56) := ⟨⟨by decide +kernel, by decide +kernel⟩, List.mem_of_getElem? (i := 1318) (by decide +kernel), List.mem_of_getElem? (i := 1632) (by decide +kernel), List.mem_of_getElem? (i := 1633) (by decide +kernel)⟩
def lw_privs_5 : List (MethodName × Nat) := [(⟨"SaidShallowModel", "letters", "()Z"⟩, 56), (⟨"SaidShallowModel", "bad", "(II)Z"⟩, 56), (⟨"SaidShallowModel", "classOf", "()Z"⟩, 56), (⟨"SaidShallowModel", "takesPair", "()Z"⟩, 56), (⟨"SaidShallowModel", "takesS", "()Z"⟩, 56), (⟨"SaidShallowModel", "takes", "(I)Z"⟩, 56), (⟨"SaidShallowModel", "ruled", "()Z"⟩, 56), (⟨"SaidShallowModel", "op", "()I"⟩, 56), (⟨"SaidShallowModel", "context", "(I)Z"⟩, 56), (⟨"SaidShallowModel", "side", "(II)Z"⟩, 56), (⟨"SaidShallowModel", "takesX", "()Z"⟩, 56), (⟨"SaidShallowModel", "item", "(I)Z"⟩, 56), (⟨"SaidShallowModel", "word", "(IZ)Z"⟩, 56), (⟨"SaidShallowModel", "allRules", "()I"⟩, 56), (⟨"SaidShallowModel", "words", "(I)I"⟩, 56), (⟨"SaidShallowModel", "takesWord", "(II)Z"⟩, 56)]
theorem lw_r5 : ∀ q ∈ lw_privs_5, lw_okq q := List.forall_mem_cons.mpr ⟨lw_p64, List.forall_mem_cons.mpr ⟨lw_p65, List.forall_mem_cons.mpr ⟨lw_p66, List.forall_mem_cons.mpr ⟨lw_p67, List.forall_mem_cons.mpr ⟨lw_p68, List.forall_mem_cons.mpr ⟨lw_p69, List.forall_mem_cons.mpr ⟨lw_p70, List.forall_mem_cons.mpr ⟨lw_p71, List.forall_mem_cons.mpr ⟨lw_p72, List.forall_mem_cons.mpr ⟨lw_p73, List.forall_mem_cons.mpr ⟨lw_p74, List.forall_mem_cons.mpr ⟨lw_p75, List.forall_mem_cons.mpr ⟨lw_p76, List.forall_mem_cons.mpr ⟨lw_p77, List.forall_mem_cons.mpr ⟨lw_p78, List.forall_mem_cons.mpr ⟨lw_p79, fun _ h => absurd h List.not_mem_nil⟩⟩⟩⟩⟩⟩⟩⟩⟩⟩⟩⟩⟩⟩⟩⟩
theorem lw_p80 : lw_okq (⟨"SaidShallowModel", "sets", "(I)V"⟩, 56) := ⟨⟨by decide +kernel, by decide +kernel⟩, List.mem_of_getElem? (i := 1318) (by decide +kernel), List.mem_of_getElem? (i := 1636) (by decide +kernel), List.mem_of_getElem? (i := 1637) (by decide +kernel)⟩
theorem lw_p81 : lw_okq (⟨"SaidShallowModel", "begins", "()V"⟩, 56) := ⟨⟨by decide +kernel, by decide +kernel⟩, List.mem_of_getElem? (i := 1318) (by decide +kernel), List.mem_of_getElem? (i := 1640) (by decide +kernel), List.mem_of_getElem? (i := 1641) (by decide +kernel)⟩
theorem lw_p82 : lw_okq (⟨"SaidShallowModel", "closed", "(III)I"⟩, 56) := ⟨⟨by decide +kernel, by decide +kernel⟩, List.mem_of_getElem? (i := 1318) (by decide +kernel), List.mem_of_getElem? (i := 1644) (by decide +kernel), List.mem_of_getElem? (i := 1645) (by decide +kernel)⟩
theorem lw_p83 : lw_okq (⟨"SaidShallowModel", "itemsOf", "(II)I"⟩, 56) := ⟨⟨by decide +kernel, by decide +kernel⟩, List.mem_of_getElem? (i := 1318) (by decide +kernel), List.mem_of_getElem? (i := 1648) (by decide +kernel), List.mem_of_getElem? (i := 1649) (by decide +kernel)⟩
theorem lw_p84 : lw_okq (⟨"SaidShallowModel", "goes", "(IIIII)V"⟩, 56) := ⟨⟨by decide +kernel, by decide +kernel⟩, List.mem_of_getElem? (i := 1318) (by decide +kernel), List.mem_of_getElem? (i := 1652) (by decide +kernel), List.mem_of_getElem? (i := 1653) (by decide +kernel)⟩
theorem lw_p85 : lw_okq (⟨"SaidShallowModel", "closes", "(II)Z"⟩, 56) := ⟨⟨by decide +kernel, by decide +kernel⟩, List.mem_of_getElem? (i := 1318) (by decide +kernel), List.mem_of_getElem? (i := 1656) (by decide +kernel), List.mem_of_getElem? (i := 1657) (by decide +kernel)⟩
theorem lw_p86 : lw_okq (⟨"SaidShallowModel", "ofRule", "(II)I"⟩, 56) := ⟨⟨by decide +kernel, by decide +kernel⟩, List.mem_of_getElem? (i := 1318) (by decide +kernel), List.mem_of_getElem? (i := 1660) (by decide +kernel), List.mem_of_getElem? (i := 1661) (by decide +kernel)⟩
theorem lw_p87 : lw_okq (⟨"SaidShallowModel", "isDone", "(III)Z"⟩, 56) := ⟨⟨by decide +kernel, by decide +kernel⟩, List.mem_of_getElem? (i := 1318) (by decide +kernel), List.mem_of_getElem? (i := 1664) (by decide +kernel), List.mem_of_getElem? (i := 1665) (by decide +kernel)⟩
theorem lw_p88 : lw_okq (⟨"SaidShallowModel", "completes", "(II)V"⟩, 56) := ⟨⟨by decide +kernel, by decide +kernel⟩, List.mem_of_getElem? (i := 1318) (by decide +kernel), List.mem_of_getElem? (i := 1668) (by decide +kernel), List.mem_of_getElem? (i := 1669) (by decide +kernel)⟩
theorem lw_p89 : lw_okq (⟨"SaidShallowModel", "finds", "(I)V"⟩, 56) := ⟨⟨by decide +kernel, by decide +kernel⟩, List.mem_of_getElem? (i := 1318) (by decide +kernel), List.mem_of_getElem? (i := 1672) (by decide +kernel), List.mem_of_getElem? (i := 1673) (by decide +kernel)⟩
theorem lw_p90 : lw_okq (⟨"SaidShallowModel", "padded", "(I)J"⟩, 56) := ⟨⟨by decide +kernel, by decide +kernel⟩, List.mem_of_getElem? (i := 1318) (by decide +kernel), List.mem_of_getElem? (i := 1676) (by decide +kernel), List.mem_of_getElem? (i := 1677) (by decide +kernel)⟩
theorem lw_p91 : lw_okq (⟨"SaidShallowModel", "marks", "(I)V"⟩, 56) := ⟨⟨by decide +kernel, by decide +kernel⟩, List.mem_of_getElem? (i := 1318) (by decide +kernel), List.mem_of_getElem? (i := 1681) (by decide +kernel), List.mem_of_getElem? (i := 1682) (by decide +kernel)⟩
theorem lw_p92 : lw_okq (⟨"SaidShallowModel", "numberOf", "(I)I"⟩, 56) := ⟨⟨by decide +kernel, by decide +kernel⟩, List.mem_of_getElem? (i := 1318) (by decide +kernel), List.mem_of_getElem? (i := 1685) (by decide +kernel), List.mem_of_getElem? (i := 1686) (by decide +kernel)⟩
theorem lw_p93 : lw_okq (⟨"SaidShallowModel", "breaks", "(II)V"⟩, 56) := ⟨⟨by decide +kernel, by decide +kernel⟩, List.mem_of_getElem? (i := 1318) (by decide +kernel), List.mem_of_getElem? (i := 1689) (by decide +kernel), List.mem_of_getElem? (i := 1690) (by decide +kernel)⟩
theorem lw_p94 : lw_okq (⟨"SaidShallowModel", "isBroken", "(II[II)Z"⟩, 56) := ⟨⟨by decide +kernel, by decide +kernel⟩, List.mem_of_getElem? (i := 1318) (by decide +kernel), List.mem_of_getElem? (i := 1693) (by decide +kernel), List.mem_of_getElem? (i := 1694) (by decide +kernel)⟩
theorem lw_p95 : lw_okq (⟨"SaidShallowModel", "someHolds", "(II[II)Z"⟩, 56) := ⟨⟨by decide +kernel, by decide +kernel⟩, List.mem_of_getElem? (i := 1318) (by decide +kernel), List.mem_of_getElem? (i := 1697) (by decide +kernel), List.mem_of_getElem? (i := 1698) (by decide +kernel)⟩
def lw_privs_6 : List (MethodName × Nat) := [(⟨"SaidShallowModel", "sets", "(I)V"⟩, 56), (⟨"SaidShallowModel", "begins", "()V"⟩, 56), (⟨"SaidShallowModel", "closed", "(III)I"⟩, 56), (⟨"SaidShallowModel", "itemsOf", "(II)I"⟩, 56), (⟨"SaidShallowModel", "goes", "(IIIII)V"⟩, 56), (⟨"SaidShallowModel", "closes", "(II)Z"⟩, 56), (⟨"SaidShallowModel", "ofRule", "(II)I"⟩, 56), (⟨"SaidShallowModel", "isDone", "(III)Z"⟩, 56), (⟨"SaidShallowModel", "completes", "(II)V"⟩, 56), (⟨"SaidShallowModel", "finds", "(I)V"⟩, 56), (⟨"SaidShallowModel", "padded", "(I)J"⟩, 56), (⟨"SaidShallowModel", "marks", "(I)V"⟩, 56), (⟨"SaidShallowModel", "numberOf", "(I)I"⟩, 56), (⟨"SaidShallowModel", "breaks", "(II)V"⟩, 56), (⟨"SaidShallowModel", "isBroken", "(II[II)Z"⟩, 56), (⟨"SaidShallowModel", "someHolds", "(II[II)Z"⟩, 56)]
theorem lw_r6 : ∀ q ∈ lw_privs_6, lw_okq q := List.forall_mem_cons.mpr ⟨lw_p80, List.forall_mem_cons.mpr ⟨lw_p81, List.forall_mem_cons.mpr ⟨lw_p82, List.forall_mem_cons.mpr ⟨lw_p83, List.forall_mem_cons.mpr ⟨lw_p84, List.forall_mem_cons.mpr ⟨lw_p85, List.forall_mem_cons.mpr ⟨lw_p86, List.forall_mem_cons.mpr ⟨lw_p87, List.forall_mem_cons.mpr ⟨lw_p88, List.forall_mem_cons.mpr ⟨lw_p89, List.forall_mem_cons.mpr ⟨lw_p90, List.forall_mem_cons.mpr ⟨lw_p91, List.forall_mem_cons.mpr ⟨lw_p92, List.forall_mem_cons.mpr ⟨lw_p93, List.forall_mem_cons.mpr ⟨lw_p94, List.forall_mem_cons.mpr ⟨lw_p95, fun _ h => absurd h List.not_mem_nil⟩⟩⟩⟩⟩⟩⟩⟩⟩⟩⟩⟩⟩⟩⟩⟩
theorem lw_p96 : lw_okq (⟨"SaidShallowModel", "holds", "(II[II)Z"⟩, 56) := ⟨⟨by decide +kernel, by decide +kernel⟩, List.mem_of_getElem? (i := 1318) (by decide +kernel), List.mem_of_getElem? (i := 1701) (by decide +kernel), List.mem_of_getElem? (i := 1702) (by decide +kernel)⟩
theorem lw_p97 : lw_okq (⟨"SaidShallowModel", "goesOn", "(IIII)I"⟩, 56) := ⟨⟨by decide +kernel, by decide +kernel⟩, List.mem_of_getElem? (i := 1318) (by decide +kernel), List.mem_of_getElem? (i := 1705) (by decide +kernel), List.mem_of_getElem? (i := 1706) (by decide +kernel)⟩
theorem lw_p98 : lw_okq (⟨"SaidShallowModel", "isAnchored", "(II)Z"⟩, 56) := ⟨⟨by decide +kernel, by decide +kernel⟩, List.mem_of_getElem? (i := 1318) (by decide +kernel), List.mem_of_getElem? (i := 1709) (by decide +kernel), List.mem_of_getElem? (i := 1710) (by decide +kernel)⟩
theorem lw_p99 : lw_okq (⟨"SaidShallowModel", "reads", "(III)Z"⟩, 56) := ⟨⟨by decide +kernel, by decide +kernel⟩, List.mem_of_getElem? (i := 1318) (by decide +kernel), List.mem_of_getElem? (i := 1713) (by decide +kernel), List.mem_of_getElem? (i := 1714) (by decide +kernel)⟩
theorem lw_p100 : lw_okq (⟨"SaidShallowModel", "isMet", "(II)Z"⟩, 56) := ⟨⟨by decide +kernel, by decide +kernel⟩, List.mem_of_getElem? (i := 1318) (by decide +kernel), List.mem_of_getElem? (i := 1717) (by decide +kernel), List.mem_of_getElem? (i := 1718) (by decide +kernel)⟩
theorem lw_p101 : lw_okq (⟨"SaidShallowModel", "needsGoOn", "(II)Z"⟩, 56) := ⟨⟨by decide +kernel, by decide +kernel⟩, List.mem_of_getElem? (i := 1318) (by decide +kernel), List.mem_of_getElem? (i := 1721) (by decide +kernel), List.mem_of_getElem? (i := 1722) (by decide +kernel)⟩
theorem lw_p102 : lw_okq (⟨"SaidShallowModel", "asks", "(III)Z"⟩, 56) := ⟨⟨by decide +kernel, by decide +kernel⟩, List.mem_of_getElem? (i := 1318) (by decide +kernel), List.mem_of_getElem? (i := 1725) (by decide +kernel), List.mem_of_getElem? (i := 1726) (by decide +kernel)⟩
theorem lw_p103 : lw_okq (⟨"SaidShallowModel", "isSaid", "(I)Z"⟩, 56) := ⟨⟨by decide +kernel, by decide +kernel⟩, List.mem_of_getElem? (i := 1318) (by decide +kernel), List.mem_of_getElem? (i := 1741) (by decide +kernel), List.mem_of_getElem? (i := 1742) (by decide +kernel)⟩
theorem lw_p104 : lw_okq (⟨"SaidShallowModel", "aligns", "(IIIII)Z"⟩, 56) := ⟨⟨by decide +kernel, by decide +kernel⟩, List.mem_of_getElem? (i := 1318) (by decide +kernel), List.mem_of_getElem? (i := 1745) (by decide +kernel), List.mem_of_getElem? (i := 1746) (by decide +kernel)⟩
theorem lw_p105 : lw_okq (⟨"SaidShallowModel", "takesRow", "()I"⟩, 56) := ⟨⟨by decide +kernel, by decide +kernel⟩, List.mem_of_getElem? (i := 1318) (by decide +kernel), List.mem_of_getElem? (i := 1757) (by decide +kernel), List.mem_of_getElem? (i := 1758) (by decide +kernel)⟩
theorem lw_p106 : lw_okq (⟨"SaidShallowModel", "age", "(I)V"⟩, 56) := ⟨⟨by decide +kernel, by decide +kernel⟩, List.mem_of_getElem? (i := 1318) (by decide +kernel), List.mem_of_getElem? (i := 1769) (by decide +kernel), List.mem_of_getElem? (i := 1770) (by decide +kernel)⟩
theorem lw_p107 : lw_okq (⟨"SaidShallowModel", "isRule", "(I)Z"⟩, 56) := ⟨⟨by decide +kernel, by decide +kernel⟩, List.mem_of_getElem? (i := 1318) (by decide +kernel), List.mem_of_getElem? (i := 1781) (by decide +kernel), List.mem_of_getElem? (i := 1782) (by decide +kernel)⟩
theorem lw_p108 : lw_okq (⟨"SaidShallowModel", "canQuarrel", "(II)Z"⟩, 56) := ⟨⟨by decide +kernel, by decide +kernel⟩, List.mem_of_getElem? (i := 1318) (by decide +kernel), List.mem_of_getElem? (i := 1785) (by decide +kernel), List.mem_of_getElem? (i := 1786) (by decide +kernel)⟩
theorem lw_p109 : lw_okq (⟨"SaidShallowModel", "never", "(I)Z"⟩, 56) := ⟨⟨by decide +kernel, by decide +kernel⟩, List.mem_of_getElem? (i := 1318) (by decide +kernel), List.mem_of_getElem? (i := 1789) (by decide +kernel), List.mem_of_getElem? (i := 1790) (by decide +kernel)⟩
theorem lw_p110 : lw_okq (⟨"SaidShallowModel", "fewestPairs", "(III)I"⟩, 56) := ⟨⟨by decide +kernel, by decide +kernel⟩, List.mem_of_getElem? (i := 1318) (by decide +kernel), List.mem_of_getElem? (i := 1793) (by decide +kernel), List.mem_of_getElem? (i := 1794) (by decide +kernel)⟩
theorem lw_p111 : lw_okq (⟨"SaidShallowModel", "sideGoes", "(IIII)I"⟩, 56) := ⟨⟨by decide +kernel, by decide +kernel⟩, List.mem_of_getElem? (i := 1318) (by decide +kernel), List.mem_of_getElem? (i := 1797) (by decide +kernel), List.mem_of_getElem? (i := 1798) (by decide +kernel)⟩
def lw_privs_7 : List (MethodName × Nat) := [(⟨"SaidShallowModel", "holds", "(II[II)Z"⟩, 56), (⟨"SaidShallowModel", "goesOn", "(IIII)I"⟩, 56), (⟨"SaidShallowModel", "isAnchored", "(II)Z"⟩, 56), (⟨"SaidShallowModel", "reads", "(III)Z"⟩, 56), (⟨"SaidShallowModel", "isMet", "(II)Z"⟩, 56), (⟨"SaidShallowModel", "needsGoOn", "(II)Z"⟩, 56), (⟨"SaidShallowModel", "asks", "(III)Z"⟩, 56), (⟨"SaidShallowModel", "isSaid", "(I)Z"⟩, 56), (⟨"SaidShallowModel", "aligns", "(IIIII)Z"⟩, 56), (⟨"SaidShallowModel", "takesRow", "()I"⟩, 56), (⟨"SaidShallowModel", "age", "(I)V"⟩, 56), (⟨"SaidShallowModel", "isRule", "(I)Z"⟩, 56), (⟨"SaidShallowModel", "canQuarrel", "(II)Z"⟩, 56), (⟨"SaidShallowModel", "never", "(I)Z"⟩, 56), (⟨"SaidShallowModel", "fewestPairs", "(III)I"⟩, 56), (⟨"SaidShallowModel", "sideGoes", "(IIII)I"⟩, 56)]
theorem lw_r7 : ∀ q ∈ lw_privs_7, lw_okq q := List.forall_mem_cons.mpr ⟨lw_p96, List.forall_mem_cons.mpr ⟨lw_p97, List.forall_mem_cons.mpr ⟨lw_p98, List.forall_mem_cons.mpr ⟨lw_p99, List.forall_mem_cons.mpr ⟨lw_p100, List.forall_mem_cons.mpr ⟨lw_p101, List.forall_mem_cons.mpr ⟨lw_p102, List.forall_mem_cons.mpr ⟨lw_p103, List.forall_mem_cons.mpr ⟨lw_p104, List.forall_mem_cons.mpr ⟨lw_p105, List.forall_mem_cons.mpr ⟨lw_p106, List.forall_mem_cons.mpr ⟨lw_p107, List.forall_mem_cons.mpr ⟨lw_p108, List.forall_mem_cons.mpr ⟨lw_p109, List.forall_mem_cons.mpr ⟨lw_p110, List.forall_mem_cons.mpr ⟨lw_p111, fun _ h => absurd h List.not_mem_nil⟩⟩⟩⟩⟩⟩⟩⟩⟩⟩⟩⟩⟩⟩⟩⟩
theorem lw_p112 : lw_okq (⟨"SaidShallowModel", "partsOf", "(III)I"⟩, 56) := ⟨⟨by decide +kernel, by decide +kernel⟩, List.mem_of_getElem? (i := 1318) (by decide +kernel), List.mem_of_getElem? (i := 1805) (by decide +kernel), List.mem_of_getElem? (i := 1806) (by decide +kernel)⟩
theorem lw_p113 : lw_okq (⟨"SaidShallowModel", "wordsUpTo", "(I)I"⟩, 56) := ⟨⟨by decide +kernel, by decide +kernel⟩, List.mem_of_getElem? (i := 1318) (by decide +kernel), List.mem_of_getElem? (i := 1809) (by decide +kernel), List.mem_of_getElem? (i := 1810) (by decide +kernel)⟩
theorem lw_p114 : lw_okq (⟨"SaidShallowModel", "laysWord", "(I)V"⟩, 56) := ⟨⟨by decide +kernel, by decide +kernel⟩, List.mem_of_getElem? (i := 1318) (by decide +kernel), List.mem_of_getElem? (i := 1813) (by decide +kernel), List.mem_of_getElem? (i := 1814) (by decide +kernel)⟩
theorem lw_p115 : lw_okq (⟨"SaidShallowModel", "isParted", "(II)Z"⟩, 56) := ⟨⟨by decide +kernel, by decide +kernel⟩, List.mem_of_getElem? (i := 1318) (by decide +kernel), List.mem_of_getElem? (i := 1817) (by decide +kernel), List.mem_of_getElem? (i := 1818) (by decide +kernel)⟩
theorem lw_p116 : lw_okq (⟨"SaidShallowModel", "marksAll", "(I)V"⟩, 56) := ⟨⟨by decide +kernel, by decide +kernel⟩, List.mem_of_getElem? (i := 1318) (by decide +kernel), List.mem_of_getElem? (i := 1821) (by decide +kernel), List.mem_of_getElem? (i := 1822) (by decide +kernel)⟩
theorem lw_p117 : lw_okq (⟨"SaidShallowModel", "isUsed", "(I)Z"⟩, 56) := ⟨⟨by decide +kernel, by decide +kernel⟩, List.mem_of_getElem? (i := 1318) (by decide +kernel), List.mem_of_getElem? (i := 1829) (by decide +kernel), List.mem_of_getElem? (i := 1830) (by decide +kernel)⟩
theorem lw_p118 : lw_okq (⟨"SaidShallowModel", "triesOrders", "(II)V"⟩, 56) := ⟨⟨by decide +kernel, by decide +kernel⟩, List.mem_of_getElem? (i := 1318) (by decide +kernel), List.mem_of_getElem? (i := 1848) (by decide +kernel), List.mem_of_getElem? (i := 1849) (by decide +kernel)⟩
theorem lw_p119 : lw_okq (⟨"SaidShallowModel", "agreeing", "(I)I"⟩, 56) := ⟨⟨by decide +kernel, by decide +kernel⟩, List.mem_of_getElem? (i := 1318) (by decide +kernel), List.mem_of_getElem? (i := 1852) (by decide +kernel), List.mem_of_getElem? (i := 1853) (by decide +kernel)⟩
theorem lw_p120 : lw_okq (⟨"SaidShallowModel", "firstWrong", "(I)I"⟩, 56) := ⟨⟨by decide +kernel, by decide +kernel⟩, List.mem_of_getElem? (i := 1318) (by decide +kernel), List.mem_of_getElem? (i := 1864) (by decide +kernel), List.mem_of_getElem? (i := 1865) (by decide +kernel)⟩
theorem lw_p121 : lw_okq (⟨"SaidShallowModel", "isRight", "(II)Z"⟩, 56) := ⟨⟨by decide +kernel, by decide +kernel⟩, List.mem_of_getElem? (i := 1318) (by decide +kernel), List.mem_of_getElem? (i := 1868) (by decide +kernel), List.mem_of_getElem? (i := 1869) (by decide +kernel)⟩
def lw_privs_8 : List (MethodName × Nat) := [(⟨"SaidShallowModel", "partsOf", "(III)I"⟩, 56), (⟨"SaidShallowModel", "wordsUpTo", "(I)I"⟩, 56), (⟨"SaidShallowModel", "laysWord", "(I)V"⟩, 56), (⟨"SaidShallowModel", "isParted", "(II)Z"⟩, 56), (⟨"SaidShallowModel", "marksAll", "(I)V"⟩, 56), (⟨"SaidShallowModel", "isUsed", "(I)Z"⟩, 56), (⟨"SaidShallowModel", "triesOrders", "(II)V"⟩, 56), (⟨"SaidShallowModel", "agreeing", "(I)I"⟩, 56), (⟨"SaidShallowModel", "firstWrong", "(I)I"⟩, 56), (⟨"SaidShallowModel", "isRight", "(II)Z"⟩, 56)]
theorem lw_r8 : ∀ q ∈ lw_privs_8, lw_okq q := List.forall_mem_cons.mpr ⟨lw_p112, List.forall_mem_cons.mpr ⟨lw_p113, List.forall_mem_cons.mpr ⟨lw_p114, List.forall_mem_cons.mpr ⟨lw_p115, List.forall_mem_cons.mpr ⟨lw_p116, List.forall_mem_cons.mpr ⟨lw_p117, List.forall_mem_cons.mpr ⟨lw_p118, List.forall_mem_cons.mpr ⟨lw_p119, List.forall_mem_cons.mpr ⟨lw_p120, List.forall_mem_cons.mpr ⟨lw_p121, fun _ h => absurd h List.not_mem_nil⟩⟩⟩⟩⟩⟩⟩⟩⟩⟩
def lw_privs : List (MethodName × Nat) := lw_privs_1 ++ (lw_privs_2 ++ (lw_privs_3 ++ (lw_privs_4 ++ (lw_privs_5 ++ (lw_privs_6 ++ (lw_privs_7 ++ (lw_privs_8)))))))
def lw_tbl : List Cond := k2_sels lw_privs ++ tables_1
theorem lw_privs_ok : ∀ q ∈ lw_privs, lw_okq q := by
  show ∀ q ∈ lw_privs_1 ++ (lw_privs_2 ++ (lw_privs_3 ++ (lw_privs_4 ++ (lw_privs_5 ++ (lw_privs_6 ++ (lw_privs_7 ++ (lw_privs_8))))))), lw_okq q
  exact List.forall_mem_append.mpr ⟨lw_r1, List.forall_mem_append.mpr ⟨lw_r2, List.forall_mem_append.mpr ⟨lw_r3, List.forall_mem_append.mpr ⟨lw_r4, List.forall_mem_append.mpr ⟨lw_r5, List.forall_mem_append.mpr ⟨lw_r6, List.forall_mem_append.mpr ⟨lw_r7, lw_r8⟩⟩⟩⟩⟩⟩⟩
end
section
def RX0 : String := "SaidShallow$BestOrder"
def TX0 : u_T := fun k => match k with
  | 0 => ("SaidShallow$BestOrder", "after", "[I", true)
  | 1 => ("SaidShallow$BestOrder", "agrees", "[I", true)
  | 2 => ("SaidShallow$BestOrder", "inUse", "[I", true)
  | 3 => ("SaidShallow$BestOrder", "ordered", "I", false)
  | 4 => ("SaidShallow$BestOrder", "path", "[I", true)
  | 5 => ("SaidShallow$BestOrder", "stages", "[I", true)
  | 6 => ("SaidShallow$BestOrder", "best", "[I", true)
  | 7 => ("SaidShallow$BestOrder", "bestAgreed", "I", false)
  | 8 => ("SaidShallow$BestOrder", "word", "[I", true)
  | 9 => ("SaidShallow$BestOrder", "knownLength", "I", false)
  | _ => ("SaidShallow$BestOrder", "knownChanges", "I", false)
def tyX0 : Nat → FieldType := fun k => match k with
  | 0 => .array .int
  | 1 => .array .int
  | 2 => .array .int
  | 3 => .int
  | 4 => .array .int
  | 5 => .array .int
  | 6 => .array .int
  | 7 => .int
  | 8 => .array .int
  | 9 => .int
  | _ => .int
abbrev wsX00 : List Cond := u_ws RX0 TX0 11
theorem nmX0 : ∀ a, a < 11 → ∀ b, b < 11 → a ≠ b → (TX0 a).2.1 ≠ (TX0 b).2.1 := by decide +kernel
theorem tyX0_ok : ∀ k, k < 11 → parseFieldDescriptor (TX0 k).2.2.1 = some (tyX0 k) := by decide +kernel
abbrev cX0_init : ByteArray := prog_2_method_1_code
def yX0_init : MethodName := ⟨RX0, "<init>", "()V"⟩
abbrev cX0_wordCount : ByteArray := prog_2_method_2_code
def yX0_wordCount : MethodName := ⟨RX0, "wordCount", "(I)I"⟩
abbrev cX0_refresh : ByteArray := prog_2_method_3_code
def yX0_refresh : MethodName := ⟨RX0, "refresh", "(ILSaidShallow$Rows;LSaidShallow$Standing;I)V"⟩
abbrev cX0_numberOf : ByteArray := prog_2_method_4_code
def yX0_numberOf : MethodName := ⟨RX0, "numberOf", "(II)I"⟩
abbrev cX0_fillAfter : ByteArray := prog_2_method_5_code
def yX0_fillAfter : MethodName := ⟨RX0, "fillAfter", "(LSaidShallow$Tongue;I)V"⟩
abbrev cX0_fillAgrees : ByteArray := prog_2_method_6_code
def yX0_fillAgrees : MethodName := ⟨RX0, "fillAgrees", "(LSaidShallow$Rows;LSaidShallow$Standing;)V"⟩
abbrev cX0_noteSaid : ByteArray := prog_2_method_7_code
def yX0_noteSaid : MethodName := ⟨RX0, "noteSaid", "(LSaidShallow$Rows;I)V"⟩
abbrev cX0_tryOrders : ByteArray := prog_2_method_8_code
def yX0_tryOrders : MethodName := ⟨RX0, "tryOrders", "(II)V"⟩
abbrev cX0_judge : ByteArray := prog_2_method_9_code
def yX0_judge : MethodName := ⟨RX0, "judge", "(I)V"⟩
def RX1 : String := "SaidShallow$DeadEnds"
def TX1 : u_T := fun k => match k with
  | 0 => ("SaidShallow$DeadEnds", "slots", "[I", true)
  | 1 => ("SaidShallow$DeadEnds", "pool", "[J", true)
  | 2 => ("SaidShallow$DeadEnds", "key", "[J", true)
  | 3 => ("SaidShallow$DeadEnds", "keyLength", "I", false)
  | 4 => ("SaidShallow$DeadEnds", "count", "I", false)
  | _ => ("SaidShallow$DeadEnds", "used", "I", false)
def tyX1 : Nat → FieldType := fun k => match k with
  | 0 => .array .int
  | 1 => .array .long
  | 2 => .array .long
  | 3 => .int
  | 4 => .int
  | _ => .int
abbrev wsX10 : List Cond := u_ws RX1 TX1 6
theorem nmX1 : ∀ a, a < 6 → ∀ b, b < 6 → a ≠ b → (TX1 a).2.1 ≠ (TX1 b).2.1 := by decide +kernel
theorem tyX1_ok : ∀ k, k < 6 → parseFieldDescriptor (TX1 k).2.2.1 = some (tyX1 k) := by decide +kernel
abbrev cX1_init : ByteArray := prog_3_method_1_code
def yX1_init : MethodName := ⟨RX1, "<init>", "()V"⟩
abbrev cX1_clear : ByteArray := prog_3_method_2_code
def yX1_clear : MethodName := ⟨RX1, "clear", "()V"⟩
abbrev cX1_makeKey : ByteArray := prog_3_method_3_code
def yX1_makeKey : MethodName := ⟨RX1, "makeKey", "(LSaidShallow$Track;III)V"⟩
abbrev cX1_hasKey : ByteArray := prog_3_method_4_code
def yX1_hasKey : MethodName := ⟨RX1, "hasKey", "()Z"⟩
abbrev cX1_addKey : ByteArray := prog_3_method_5_code
def yX1_addKey : MethodName := ⟨RX1, "addKey", "()V"⟩
abbrev cX1_slotOfKey : ByteArray := prog_3_method_6_code
def yX1_slotOfKey : MethodName := ⟨RX1, "slotOfKey", "()I"⟩
abbrev cX1_isKeyAt : ByteArray := prog_3_method_7_code
def yX1_isKeyAt : MethodName := ⟨RX1, "isKeyAt", "(I)Z"⟩
def RX2 : String := "SaidShallow$Reader"
def TX2 : u_T := fun k => match k with
  | 0 => ("SaidShallow$Reader", "draft", "LSaidShallow$Tongue;", true)
  | 1 => ("SaidShallow$Reader", "faultKind", "I", false)
  | 2 => ("SaidShallow$Reader", "faultPlace", "I", false)
  | 3 => ("SaidShallow$Reader", "signs", "[I", true)
  | 4 => ("SaidShallow$Reader", "length", "I", false)
  | 5 => ("SaidShallow$Reader", "at", "I", false)
  | 6 => ("SaidShallow$Reader", "readSign", "I", false)
  | 7 => ("SaidShallow$Reader", "readDeep", "I", false)
  | 8 => ("SaidShallow$Reader", "readSaid", "I", false)
  | _ => ("SaidShallow$Reader", "readSet", "I", false)
def tyX2 : Nat → FieldType := fun k => match k with
  | 0 => .object "SaidShallow$Tongue"
  | 1 => .int
  | 2 => .int
  | 3 => .array .int
  | 4 => .int
  | 5 => .int
  | 6 => .int
  | 7 => .int
  | 8 => .int
  | _ => .int
abbrev wsX20 : List Cond := u_ws RX2 TX2 10
theorem nmX2 : ∀ a, a < 10 → ∀ b, b < 10 → a ≠ b → (TX2 a).2.1 ≠ (TX2 b).2.1 := by decide +kernel
theorem tyX2_ok : ∀ k, k < 10 → parseFieldDescriptor (TX2 k).2.2.1 = some (tyX2 k) := by decide +kernel
abbrev cX2_init : ByteArray := prog_4_method_1_code
def yX2_init : MethodName := ⟨RX2, "<init>", "()V"⟩
abbrev cX2_read : ByteArray := prog_4_method_2_code
def yX2_read : MethodName := ⟨RX2, "read", "([II)Z"⟩
abbrev cX2_fail : ByteArray := prog_4_method_3_code
def yX2_fail : MethodName := ⟨RX2, "fail", "(II)Z"⟩
abbrev cX2_peek : ByteArray := prog_4_method_4_code
def yX2_peek : MethodName := ⟨RX2, "peek", "()I"⟩
abbrev cX2_isNext : ByteArray := prog_4_method_5_code
def yX2_isNext : MethodName := ⟨RX2, "isNext", "(I)Z"⟩
abbrev cX2_skipIf : ByteArray := prog_4_method_6_code
def yX2_skipIf : MethodName := ⟨RX2, "skipIf", "(I)Z"⟩
abbrev cX2_expect : ByteArray := prog_4_method_7_code
def yX2_expect : MethodName := ⟨RX2, "expect", "(I)Z"⟩
abbrev cX2_isSmall : ByteArray := prog_4_method_8_code
def yX2_isSmall : MethodName := ⟨RX2, "isSmall", "(I)Z"⟩
abbrev cX2_isClass : ByteArray := prog_4_method_9_code
def yX2_isClass : MethodName := ⟨RX2, "isClass", "(I)Z"⟩
abbrev cX2_startsItem : ByteArray := prog_4_method_10_code
def yX2_startsItem : MethodName := ⟨RX2, "startsItem", "(I)Z"⟩
abbrev cX2_readStatement : ByteArray := prog_4_method_11_code
def yX2_readStatement : MethodName := ⟨RX2, "readStatement", "()Z"⟩
abbrev cX2_isKeyword : ByteArray := prog_4_method_12_code
def yX2_isKeyword : MethodName := ⟨RX2, "isKeyword", "(Ljava/lang/String;I)Z"⟩
abbrev cX2_readLetters : ByteArray := prog_4_method_13_code
def yX2_readLetters : MethodName := ⟨RX2, "readLetters", "()Z"⟩
abbrev cX2_readClass : ByteArray := prog_4_method_14_code
def yX2_readClass : MethodName := ⟨RX2, "readClass", "()Z"⟩
abbrev cX2_readS : ByteArray := prog_4_method_15_code
def yX2_readS : MethodName := ⟨RX2, "readS", "()Z"⟩
abbrev cX2_readPair : ByteArray := prog_4_method_16_code
def yX2_readPair : MethodName := ⟨RX2, "readPair", "()Z"⟩
abbrev cX2_readRule : ByteArray := prog_4_method_17_code
def yX2_readRule : MethodName := ⟨RX2, "readRule", "(I)Z"⟩
abbrev cX2_readOp : ByteArray := prog_4_method_18_code
def yX2_readOp : MethodName := ⟨RX2, "readOp", "(LSaidShallow$Rule;)Z"⟩
abbrev cX2_standsHere : ByteArray := prog_4_method_19_code
def yX2_standsHere : MethodName := ⟨RX2, "standsHere", "(Ljava/lang/String;)Z"⟩
abbrev cX2_readContext : ByteArray := prog_4_method_20_code
def yX2_readContext : MethodName := ⟨RX2, "readContext", "(LSaidShallow$Rule;)Z"⟩
abbrev cX2_readItems : ByteArray := prog_4_method_21_code
def yX2_readItems : MethodName := ⟨RX2, "readItems", "(LSaidShallow$Side;I)Z"⟩
abbrev cX2_readX : ByteArray := prog_4_method_22_code
def yX2_readX : MethodName := ⟨RX2, "readX", "()Z"⟩
abbrev cX2_readPart : ByteArray := prog_4_method_23_code
def yX2_readPart : MethodName := ⟨RX2, "readPart", "(LSaidShallow$WordList;II)Z"⟩
def RX3 : String := "SaidShallow$Rows"
def TX3 : u_T := fun k => match k with
  | 0 => ("SaidShallow$Rows", "tongue", "LSaidShallow$Tongue;", true)
  | 1 => ("SaidShallow$Rows", "words", "LSaidShallow$Words;", true)
  | 2 => ("SaidShallow$Rows", "track", "LSaidShallow$Track;", true)
  | 3 => ("SaidShallow$Rows", "deadEnds", "LSaidShallow$DeadEnds;", true)
  | 4 => ("SaidShallow$Rows", "given", "[I", true)
  | 5 => ("SaidShallow$Rows", "length", "I", false)
  | 6 => ("SaidShallow$Rows", "deepGiven", "Z", false)
  | 7 => ("SaidShallow$Rows", "collecting", "Z", false)
  | 8 => ("SaidShallow$Rows", "watched", "I", false)
  | 9 => ("SaidShallow$Rows", "firstSet", "I", false)
  | 10 => ("SaidShallow$Rows", "secondSet", "I", false)
  | 11 => ("SaidShallow$Rows", "wanted", "I", false)
  | 12 => ("SaidShallow$Rows", "row", "[I", true)
  | 13 => ("SaidShallow$Rows", "codes", "[I", true)
  | 14 => ("SaidShallow$Rows", "masks", "[I", true)
  | 15 => ("SaidShallow$Rows", "listed", "I", false)
  | 16 => ("SaidShallow$Rows", "marks", "[I", true)
  | _ => ("SaidShallow$Rows", "needed", "[I", true)
def tyX3 : Nat → FieldType := fun k => match k with
  | 0 => .object "SaidShallow$Tongue"
  | 1 => .object "SaidShallow$Words"
  | 2 => .object "SaidShallow$Track"
  | 3 => .object "SaidShallow$DeadEnds"
  | 4 => .array .int
  | 5 => .int
  | 6 => .boolean
  | 7 => .boolean
  | 8 => .int
  | 9 => .int
  | 10 => .int
  | 11 => .int
  | 12 => .array .int
  | 13 => .array .int
  | 14 => .array .int
  | 15 => .int
  | 16 => .array .int
  | _ => .array .int
abbrev wsX30 : List Cond := u_ws RX3 TX3 18
theorem nmX3 : ∀ a, a < 18 → ∀ b, b < 18 → a ≠ b → (TX3 a).2.1 ≠ (TX3 b).2.1 := by decide +kernel
theorem tyX3_ok : ∀ k, k < 18 → parseFieldDescriptor (TX3 k).2.2.1 = some (tyX3 k) := by decide +kernel
abbrev cX3_init : ByteArray := prog_5_method_1_code
def yX3_init : MethodName := ⟨RX3, "<init>", "()V"⟩
abbrev cX3_takeSigns : ByteArray := prog_5_method_2_code
def yX3_takeSigns : MethodName := ⟨RX3, "takeSigns", "([II)V"⟩
abbrev cX3_takeNumbered : ByteArray := prog_5_method_3_code
def yX3_takeNumbered : MethodName := ⟨RX3, "takeNumbered", "(II)V"⟩
abbrev cX3_collect : ByteArray := prog_5_method_4_code
def yX3_collect : MethodName := ⟨RX3, "collect", "(ZII)V"⟩
abbrev cX3_list : ByteArray := prog_5_method_5_code
def yX3_list : MethodName := ⟨RX3, "list", "(IIII)V"⟩
abbrev cX3_breakable : ByteArray := prog_5_method_6_code
def yX3_breakable : MethodName := ⟨RX3, "breakable", "(I)I"⟩
abbrev cX3_hasSign : ByteArray := prog_5_method_7_code
def yX3_hasSign : MethodName := ⟨RX3, "hasSign", "(I)Z"⟩
abbrev cX3_descend : ByteArray := prog_5_method_8_code
def yX3_descend : MethodName := ⟨RX3, "descend", "(IIIII)Z"⟩
abbrev cX3_choiceOf : ByteArray := prog_5_method_9_code
def yX3_choiceOf : MethodName := ⟨RX3, "choiceOf", "(II)I"⟩
abbrev cX3_isLeft : ByteArray := prog_5_method_10_code
def yX3_isLeft : MethodName := ⟨RX3, "isLeft", "(I)Z"⟩
abbrev cX3_complete : ByteArray := prog_5_method_11_code
def yX3_complete : MethodName := ⟨RX3, "complete", "(II)Z"⟩
abbrev cX3_hasWanted : ByteArray := prog_5_method_12_code
def yX3_hasWanted : MethodName := ⟨RX3, "hasWanted", "(I)Z"⟩
abbrev cX3_hasAllowedRowWith : ByteArray := prog_5_method_13_code
def yX3_hasAllowedRowWith : MethodName := ⟨RX3, "hasAllowedRowWith", "(III)Z"⟩
abbrev cX3_tellsApart : ByteArray := prog_5_method_14_code
def yX3_tellsApart : MethodName := ⟨RX3, "tellsApart", "(III)Z"⟩
abbrev cX3_shortCode : ByteArray := prog_5_method_15_code
def yX3_shortCode : MethodName := ⟨RX3, "shortCode", "(I)I"⟩
abbrev cX3_clearMarks : ByteArray := prog_5_method_16_code
def yX3_clearMarks : MethodName := ⟨RX3, "clearMarks", "()V"⟩
abbrev cX3_clearNeeded : ByteArray := prog_5_method_17_code
def yX3_clearNeeded : MethodName := ⟨RX3, "clearNeeded", "()V"⟩
abbrev cX3_noteNeeded : ByteArray := prog_5_method_18_code
def yX3_noteNeeded : MethodName := ⟨RX3, "noteNeeded", "(II)V"⟩
abbrev cX3_leastThatMeetsNeeds : ByteArray := prog_5_method_19_code
def yX3_leastThatMeetsNeeds : MethodName := ⟨RX3, "leastThatMeetsNeeds", "(I)I"⟩
abbrev cX3_meetsNeeds : ByteArray := prog_5_method_20_code
def yX3_meetsNeeds : MethodName := ⟨RX3, "meetsNeeds", "(I)Z"⟩
abbrev cX3_isSaidAs : ByteArray := prog_5_method_21_code
def yX3_isSaidAs : MethodName := ⟨RX3, "isSaidAs", "([IIII)Z"⟩
abbrev cX3_align : ByteArray := prog_5_method_22_code
def yX3_align : MethodName := ⟨RX3, "align", "([IIII)I"⟩
abbrev cX3_layRow : ByteArray := prog_5_method_23_code
def yX3_layRow : MethodName := ⟨RX3, "layRow", "([IIII)Z"⟩
abbrev cX3_breaksOf : ByteArray := prog_5_method_24_code
def yX3_breaksOf : MethodName := ⟨RX3, "breaksOf", "(II)I"⟩
def RX4 : String := "SaidShallow$Rule"
def TX4 : u_T := fun k => match k with
  | 0 => ("SaidShallow$Rule", "deep", "I", false)
  | 1 => ("SaidShallow$Rule", "said", "I", false)
  | 2 => ("SaidShallow$Rule", "op", "I", false)
  | 3 => ("SaidShallow$Rule", "contexts", "I", false)
  | 4 => ("SaidShallow$Rule", "left", "LSaidShallow$Side;", true)
  | 5 => ("SaidShallow$Rule", "right", "LSaidShallow$Side;", true)
  | 6 => ("SaidShallow$Rule", "roles", "[I", true)
  | 7 => ("SaidShallow$Rule", "opened", "[I", true)
  | 8 => ("SaidShallow$Rule", "atStart", "I", false)
  | 9 => ("SaidShallow$Rule", "anywhere", "I", false)
  | _ => ("SaidShallow$Rule", "free", "I", false)
def tyX4 : Nat → FieldType := fun k => match k with
  | 0 => .int
  | 1 => .int
  | 2 => .int
  | 3 => .int
  | 4 => .object "SaidShallow$Side"
  | 5 => .object "SaidShallow$Side"
  | 6 => .array .int
  | 7 => .array .int
  | 8 => .int
  | 9 => .int
  | _ => .int
abbrev wsX40 : List Cond := u_ws RX4 TX4 11
theorem nmX4 : ∀ a, a < 11 → ∀ b, b < 11 → a ≠ b → (TX4 a).2.1 ≠ (TX4 b).2.1 := by decide +kernel
theorem tyX4_ok : ∀ k, k < 11 → parseFieldDescriptor (TX4 k).2.2.1 = some (tyX4 k) := by decide +kernel
abbrev cX4_init : ByteArray := prog_6_method_1_code
def yX4_init : MethodName := ⟨RX4, "<init>", "()V"⟩
abbrev cX4_clear : ByteArray := prog_6_method_2_code
def yX4_clear : MethodName := ⟨RX4, "clear", "(II)V"⟩
abbrev cX4_copyFrom : ByteArray := prog_6_method_3_code
def yX4_copyFrom : MethodName := ⟨RX4, "copyFrom", "(LSaidShallow$Rule;)V"⟩
abbrev cX4_compile : ByteArray := prog_6_method_4_code
def yX4_compile : MethodName := ⟨RX4, "compile", "(LSaidShallow$Tongue;)V"⟩
abbrev cX4_roleOf : ByteArray := prog_6_method_5_code
def yX4_roleOf : MethodName := ⟨RX4, "roleOf", "(II)I"⟩
abbrev cX4_isAlways : ByteArray := prog_6_method_6_code
def yX4_isAlways : MethodName := ⟨RX4, "isAlways", "()Z"⟩
abbrev cX4_firstBreak : ByteArray := prog_6_method_7_code
def yX4_firstBreak : MethodName := ⟨RX4, "firstBreak", "([II)I"⟩
abbrev cX4_holdsAt : ByteArray := prog_6_method_8_code
def yX4_holdsAt : MethodName := ⟨RX4, "holdsAt", "(I[III)Z"⟩
abbrev cX4_mayClash : ByteArray := prog_6_method_9_code
def yX4_mayClash : MethodName := ⟨RX4, "mayClash", "(LSaidShallow$Rule;)Z"⟩
abbrev cX4_shortestClash : ByteArray := prog_6_method_10_code
def yX4_shortestClash : MethodName := ⟨RX4, "shortestClash", "(LSaidShallow$Rule;I)I"⟩
def RX5 : String := "SaidShallow$Side"
def TX5 : u_T := fun k => match k with
  | 0 => ("SaidShallow$Side", "deepSets", "[I", true)
  | 1 => ("SaidShallow$Side", "saidSets", "[I", true)
  | 2 => ("SaidShallow$Side", "fitting", "[I", true)
  | 3 => ("SaidShallow$Side", "starred", "I", false)
  | 4 => ("SaidShallow$Side", "starts", "I", false)
  | _ => ("SaidShallow$Side", "edges", "I", false)
def tyX5 : Nat → FieldType := fun k => match k with
  | 0 => .array .int
  | 1 => .array .int
  | 2 => .array .int
  | 3 => .int
  | 4 => .int
  | _ => .int
abbrev wsX50 : List Cond := u_ws RX5 TX5 6
theorem nmX5 : ∀ a, a < 6 → ∀ b, b < 6 → a ≠ b → (TX5 a).2.1 ≠ (TX5 b).2.1 := by decide +kernel
theorem tyX5_ok : ∀ k, k < 6 → parseFieldDescriptor (TX5 k).2.2.1 = some (tyX5 k) := by decide +kernel
abbrev cX5_init : ByteArray := prog_7_method_1_code
def yX5_init : MethodName := ⟨RX5, "<init>", "()V"⟩
abbrev cX5_clear : ByteArray := prog_7_method_2_code
def yX5_clear : MethodName := ⟨RX5, "clear", "()V"⟩
abbrev cX5_copyFrom : ByteArray := prog_7_method_3_code
def yX5_copyFrom : MethodName := ⟨RX5, "copyFrom", "(LSaidShallow$Side;)V"⟩
abbrev cX5_openContext : ByteArray := prog_7_method_4_code
def yX5_openContext : MethodName := ⟨RX5, "openContext", "(I)V"⟩
abbrev cX5_putEdge : ByteArray := prog_7_method_5_code
def yX5_putEdge : MethodName := ⟨RX5, "putEdge", "(I)V"⟩
abbrev cX5_addItem : ByteArray := prog_7_method_6_code
def yX5_addItem : MethodName := ⟨RX5, "addItem", "(IIIZ)V"⟩
abbrev cX5_compile : ByteArray := prog_7_method_7_code
def yX5_compile : MethodName := ⟨RX5, "compile", "(LSaidShallow$Tongue;)V"⟩
abbrev cX5_takes : ByteArray := prog_7_method_8_code
def yX5_takes : MethodName := ⟨RX5, "takes", "(III)Z"⟩
abbrev cX5_closure : ByteArray := prog_7_method_9_code
def yX5_closure : MethodName := ⟨RX5, "closure", "(I)I"⟩
abbrev cX5_step : ByteArray := prog_7_method_10_code
def yX5_step : MethodName := ⟨RX5, "step", "(II)I"⟩
abbrev cX5_holding : ByteArray := prog_7_method_11_code
def yX5_holding : MethodName := ⟨RX5, "holding", "(I)I"⟩
abbrev cX5_startsOf : ByteArray := prog_7_method_12_code
def yX5_startsOf : MethodName := ⟨RX5, "startsOf", "(I)I"⟩
abbrev cX5_freeStarts : ByteArray := prog_7_method_13_code
def yX5_freeStarts : MethodName := ⟨RX5, "freeStarts", "()I"⟩
abbrev cX5_freeFinals : ByteArray := prog_7_method_14_code
def yX5_freeFinals : MethodName := ⟨RX5, "freeFinals", "()I"⟩
abbrev cX5_shortestCommon : ByteArray := prog_7_method_15_code
def yX5_shortestCommon : MethodName := ⟨RX5, "shortestCommon", "(ILSaidShallow$Side;IIZ)I"⟩
abbrev cX5_moveCouples : ByteArray := prog_7_method_16_code
def yX5_moveCouples : MethodName := ⟨RX5, "moveCouples", "(JILSaidShallow$Side;IIZ)J"⟩
abbrev cX5_couplesOf : ByteArray := prog_7_method_17_code
def yX5_couplesOf : MethodName := ⟨RX5, "couplesOf", "(II)J"⟩
abbrev cX5_moveAlone : ByteArray := prog_7_method_18_code
def yX5_moveAlone : MethodName := ⟨RX5, "moveAlone", "(IIIZ)I"⟩
def RX6 : String := "SaidShallow$Standing"
def TX6 : u_T := fun k => match k with
  | 0 => ("SaidShallow$Standing", "inUse", "I", false)
  | 1 => ("SaidShallow$Standing", "slack", "I", false)
  | 2 => ("SaidShallow$Standing", "order", "[I", true)
  | 3 => ("SaidShallow$Standing", "deeps", "LSaidShallow$WordList;", true)
  | 4 => ("SaidShallow$Standing", "saids", "LSaidShallow$WordList;", true)
  | 5 => ("SaidShallow$Standing", "rights", "I", false)
  | 6 => ("SaidShallow$Standing", "breaks", "[I", true)
  | 7 => ("SaidShallow$Standing", "ways", "[I", true)
  | _ => ("SaidShallow$Standing", "word", "[I", true)
def tyX6 : Nat → FieldType := fun k => match k with
  | 0 => .int
  | 1 => .int
  | 2 => .array .int
  | 3 => .object "SaidShallow$WordList"
  | 4 => .object "SaidShallow$WordList"
  | 5 => .int
  | 6 => .array .int
  | 7 => .array .int
  | _ => .array .int
abbrev wsX60 : List Cond := u_ws RX6 TX6 9
theorem nmX6 : ∀ a, a < 9 → ∀ b, b < 9 → a ≠ b → (TX6 a).2.1 ≠ (TX6 b).2.1 := by decide +kernel
theorem tyX6_ok : ∀ k, k < 9 → parseFieldDescriptor (TX6 k).2.2.1 = some (tyX6 k) := by decide +kernel
abbrev cX6_init : ByteArray := prog_8_method_1_code
def yX6_init : MethodName := ⟨RX6, "<init>", "()V"⟩
abbrev cX6_restart : ByteArray := prog_8_method_2_code
def yX6_restart : MethodName := ⟨RX6, "restart", "(I)V"⟩
abbrev cX6_copyFrom : ByteArray := prog_8_method_3_code
def yX6_copyFrom : MethodName := ⟨RX6, "copyFrom", "(LSaidShallow$Standing;)V"⟩
abbrev cX6_moveRule : ByteArray := prog_8_method_4_code
def yX6_moveRule : MethodName := ⟨RX6, "moveRule", "(III)V"⟩
abbrev cX6_openExample : ByteArray := prog_8_method_5_code
def yX6_openExample : MethodName := ⟨RX6, "openExample", "(Z)V"⟩
abbrev cX6_study : ByteArray := prog_8_method_6_code
def yX6_study : MethodName := ⟨RX6, "study", "(LSaidShallow$Rows;I)V"⟩
abbrev cX6_firstUntrue : ByteArray := prog_8_method_7_code
def yX6_firstUntrue : MethodName := ⟨RX6, "firstUntrue", "(I)I"⟩
abbrev cX6_leastTrue : ByteArray := prog_8_method_8_code
def yX6_leastTrue : MethodName := ⟨RX6, "leastTrue", "(I)I"⟩
def RX7 : String := "SaidShallow$Tongue"
def TX7 : u_T := fun k => match k with
  | 0 => ("SaidShallow$Tongue", "signAt", "[I", true)
  | 1 => ("SaidShallow$Tongue", "letterCount", "I", false)
  | 2 => ("SaidShallow$Tongue", "classes", "[I", true)
  | 3 => ("SaidShallow$Tongue", "pairAt", "[I", true)
  | 4 => ("SaidShallow$Tongue", "deepOf", "[I", true)
  | 5 => ("SaidShallow$Tongue", "saidOf", "[I", true)
  | 6 => ("SaidShallow$Tongue", "pairCount", "I", false)
  | 7 => ("SaidShallow$Tongue", "extrasOfDeep", "[I", true)
  | 8 => ("SaidShallow$Tongue", "extrasOfSaid", "[I", true)
  | 9 => ("SaidShallow$Tongue", "pairsOfDeep", "[I", true)
  | 10 => ("SaidShallow$Tongue", "pairsOfSaid", "[I", true)
  | 11 => ("SaidShallow$Tongue", "rules", "[LSaidShallow$Rule;", true)
  | 12 => ("SaidShallow$Tongue", "ruleCount", "I", false)
  | 13 => ("SaidShallow$Tongue", "stems", "LSaidShallow$WordList;", true)
  | 14 => ("SaidShallow$Tongue", "ends", "LSaidShallow$WordList;", true)
  | _ => ("SaidShallow$Tongue", "row", "[I", true)
def tyX7 : Nat → FieldType := fun k => match k with
  | 0 => .array .int
  | 1 => .int
  | 2 => .array .int
  | 3 => .array .int
  | 4 => .array .int
  | 5 => .array .int
  | 6 => .int
  | 7 => .array .int
  | 8 => .array .int
  | 9 => .array .int
  | 10 => .array .int
  | 11 => .array (.object "SaidShallow$Rule")
  | 12 => .int
  | 13 => .object "SaidShallow$WordList"
  | 14 => .object "SaidShallow$WordList"
  | _ => .array .int
abbrev wsX70 : List Cond := u_ws RX7 TX7 16
theorem nmX7 : ∀ a, a < 16 → ∀ b, b < 16 → a ≠ b → (TX7 a).2.1 ≠ (TX7 b).2.1 := by decide +kernel
theorem tyX7_ok : ∀ k, k < 16 → parseFieldDescriptor (TX7 k).2.2.1 = some (tyX7 k) := by decide +kernel
abbrev cX7_init : ByteArray := prog_9_method_1_code
def yX7_init : MethodName := ⟨RX7, "<init>", "()V"⟩
abbrev cX7_clear : ByteArray := prog_9_method_2_code
def yX7_clear : MethodName := ⟨RX7, "clear", "()V"⟩
abbrev cX7_copyFrom : ByteArray := prog_9_method_3_code
def yX7_copyFrom : MethodName := ⟨RX7, "copyFrom", "(LSaidShallow$Tongue;)V"⟩
abbrev cX7_signOf : ByteArray := prog_9_method_4_code
def yX7_signOf : MethodName := ⟨RX7, "signOf", "(I)I"⟩
abbrev cX7_pairOf : ByteArray := prog_9_method_5_code
def yX7_pairOf : MethodName := ⟨RX7, "pairOf", "(II)I"⟩
abbrev cX7_addLetter : ByteArray := prog_9_method_6_code
def yX7_addLetter : MethodName := ⟨RX7, "addLetter", "(I)V"⟩
abbrev cX7_addPair : ByteArray := prog_9_method_7_code
def yX7_addPair : MethodName := ⟨RX7, "addPair", "(II)Z"⟩
abbrev cX7_keepPair : ByteArray := prog_9_method_8_code
def yX7_keepPair : MethodName := ⟨RX7, "keepPair", "(IIII)V"⟩
abbrev cX7_compile : ByteArray := prog_9_method_9_code
def yX7_compile : MethodName := ⟨RX7, "compile", "()V"⟩
abbrev cX7_ageBy : ByteArray := prog_9_method_10_code
def yX7_ageBy : MethodName := ⟨RX7, "ageBy", "(I[II)I"⟩
def RX8 : String := "SaidShallow$Track"
def TX8 : u_T := fun k => match k with
  | 0 => ("SaidShallow$Track", "left", "[I", true)
  | 1 => ("SaidShallow$Track", "barred", "[I", true)
  | 2 => ("SaidShallow$Track", "owedCount", "[I", true)
  | 3 => ("SaidShallow$Track", "owed", "[I", true)
  | _ => ("SaidShallow$Track", "broken", "[I", true)
def tyX8 : Nat → FieldType := fun k => match k with
  | 0 => .array .int
  | 1 => .array .int
  | 2 => .array .int
  | 3 => .array .int
  | _ => .array .int
abbrev wsX80 : List Cond := u_ws RX8 TX8 5
theorem nmX8 : ∀ a, a < 5 → ∀ b, b < 5 → a ≠ b → (TX8 a).2.1 ≠ (TX8 b).2.1 := by decide +kernel
theorem tyX8_ok : ∀ k, k < 5 → parseFieldDescriptor (TX8 k).2.2.1 = some (tyX8 k) := by decide +kernel
abbrev cX8_init : ByteArray := prog_10_method_1_code
def yX8_init : MethodName := ⟨RX8, "<init>", "()V"⟩
abbrev cX8_begin : ByteArray := prog_10_method_2_code
def yX8_begin : MethodName := ⟨RX8, "begin", "(LSaidShallow$Tongue;)V"⟩
abbrev cX8_step : ByteArray := prog_10_method_3_code
def yX8_step : MethodName := ⟨RX8, "step", "(LSaidShallow$Tongue;III)I"⟩
abbrev cX8_advance : ByteArray := prog_10_method_4_code
def yX8_advance : MethodName := ⟨RX8, "advance", "(LSaidShallow$Rule;II)Z"⟩
abbrev cX8_owe : ByteArray := prog_10_method_5_code
def yX8_owe : MethodName := ⟨RX8, "owe", "(LSaidShallow$Rule;II)Z"⟩
abbrev cX8_finish : ByteArray := prog_10_method_6_code
def yX8_finish : MethodName := ⟨RX8, "finish", "(II)I"⟩
abbrev cX8_endsWell : ByteArray := prog_10_method_7_code
def yX8_endsWell : MethodName := ⟨RX8, "endsWell", "(I)Z"⟩
abbrev cX8_writeTo : ByteArray := prog_10_method_8_code
def yX8_writeTo : MethodName := ⟨RX8, "writeTo", "([JIII)I"⟩
def RX9 : String := "SaidShallow$WordList"
def TX9 : u_T := fun k => match k with
  | 0 => ("SaidShallow$WordList", "signs", "[I", true)
  | 1 => ("SaidShallow$WordList", "lengths", "[I", true)
  | _ => ("SaidShallow$WordList", "count", "I", false)
def tyX9 : Nat → FieldType := fun k => match k with
  | 0 => .array .int
  | 1 => .array .int
  | _ => .int
abbrev wsX90 : List Cond := u_ws RX9 TX9 3
theorem nmX9 : ∀ a, a < 3 → ∀ b, b < 3 → a ≠ b → (TX9 a).2.1 ≠ (TX9 b).2.1 := by decide +kernel
theorem tyX9_ok : ∀ k, k < 3 → parseFieldDescriptor (TX9 k).2.2.1 = some (tyX9 k) := by decide +kernel
abbrev cX9_init : ByteArray := prog_11_method_1_code
def yX9_init : MethodName := ⟨RX9, "<init>", "(I)V"⟩
abbrev cX9_clear : ByteArray := prog_11_method_2_code
def yX9_clear : MethodName := ⟨RX9, "clear", "()V"⟩
abbrev cX9_copyFrom : ByteArray := prog_11_method_3_code
def yX9_copyFrom : MethodName := ⟨RX9, "copyFrom", "(LSaidShallow$WordList;)V"⟩
abbrev cX9_push : ByteArray := prog_11_method_5_code
def yX9_push : MethodName := ⟨RX9, "push", "(I)V"⟩
abbrev cX9_lengthOf : ByteArray := prog_11_method_6_code
def yX9_lengthOf : MethodName := ⟨RX9, "lengthOf", "(I)I"⟩
abbrev cX9_copyTo : ByteArray := prog_11_method_7_code
def yX9_copyTo : MethodName := ⟨RX9, "copyTo", "(I[II)I"⟩
def RX10 : String := "SaidShallow$Words"
def TX10 : u_T := fun k => match k with
  | 0 => ("SaidShallow$Words", "codes", "[I", true)
  | 1 => ("SaidShallow$Words", "count", "I", false)
  | _ => ("SaidShallow$Words", "tooMany", "Z", false)
def tyX10 : Nat → FieldType := fun k => match k with
  | 0 => .array .int
  | 1 => .int
  | _ => .boolean
abbrev wsX100 : List Cond := u_ws RX10 TX10 3
theorem nmX10 : ∀ a, a < 3 → ∀ b, b < 3 → a ≠ b → (TX10 a).2.1 ≠ (TX10 b).2.1 := by decide +kernel
theorem tyX10_ok : ∀ k, k < 3 → parseFieldDescriptor (TX10 k).2.2.1 = some (tyX10 k) := by decide +kernel
abbrev cX10_init : ByteArray := prog_12_method_1_code
def yX10_init : MethodName := ⟨RX10, "<init>", "()V"⟩
abbrev cX10_clear : ByteArray := prog_12_method_2_code
def yX10_clear : MethodName := ⟨RX10, "clear", "()V"⟩
abbrev cX10_add : ByteArray := prog_12_method_3_code
def yX10_add : MethodName := ⟨RX10, "add", "(I)V"⟩
abbrev cX10_signIn : ByteArray := prog_12_method_4_code
def yX10_signIn : MethodName := ⟨RX10, "signIn", "(II)I"⟩
abbrev cX10_letterOf : ByteArray := prog_12_method_5_code
def yX10_letterOf : MethodName := ⟨RX10, "letterOf", "(II)I"⟩
abbrev cX10_lengthOf : ByteArray := prog_12_method_6_code
def yX10_lengthOf : MethodName := ⟨RX10, "lengthOf", "(I)I"⟩
def RX11 : String := "SaidShallow"
def TX11 : u_T := fun k => match k with
  | 0 => ("SaidShallow", "tape", "[I", true)
  | 1 => ("SaidShallow", "tapeLength", "I", false)
  | 2 => ("SaidShallow", "rows", "LSaidShallow$Rows;", true)
  | 3 => ("SaidShallow", "tongue", "LSaidShallow$Tongue;", true)
  | 4 => ("SaidShallow", "words", "LSaidShallow$Words;", true)
  | 5 => ("SaidShallow", "standing", "LSaidShallow$Standing;", true)
  | 6 => ("SaidShallow", "imageTongue", "LSaidShallow$Tongue;", true)
  | 7 => ("SaidShallow", "imageStanding", "LSaidShallow$Standing;", true)
  | 8 => ("SaidShallow", "imageTaken", "Z", false)
  | 9 => ("SaidShallow", "reader", "LSaidShallow$Reader;", true)
  | 10 => ("SaidShallow", "bestOrder", "LSaidShallow$BestOrder;", true)
  | 11 => ("SaidShallow", "couples", "[I", true)
  | 12 => ("SaidShallow", "coupleCount", "I", false)
  | 13 => ("SaidShallow", "brokenPlace", "I", false)
  | 14 => ("SaidShallow", "agedWord", "[I", true)
  | 15 => ("SaidShallow", "agedLength", "I", false)
  | 16 => ("SaidShallow", "told", "[I", true)
  | 17 => ("SaidShallow", "joined", "[I", true)
  | _ => ("SaidShallow", "changes", "I", false)
def tyX11 : Nat → FieldType := fun k => match k with
  | 0 => .array .int
  | 1 => .int
  | 2 => .object "SaidShallow$Rows"
  | 3 => .object "SaidShallow$Tongue"
  | 4 => .object "SaidShallow$Words"
  | 5 => .object "SaidShallow$Standing"
  | 6 => .object "SaidShallow$Tongue"
  | 7 => .object "SaidShallow$Standing"
  | 8 => .boolean
  | 9 => .object "SaidShallow$Reader"
  | 10 => .object "SaidShallow$BestOrder"
  | 11 => .array .int
  | 12 => .int
  | 13 => .int
  | 14 => .array .int
  | 15 => .int
  | 16 => .array .int
  | 17 => .array .int
  | _ => .int
abbrev wsX110 : List Cond := u_ws RX11 TX11 19
theorem nmX11 : ∀ a, a < 19 → ∀ b, b < 19 → a ≠ b → (TX11 a).2.1 ≠ (TX11 b).2.1 := by decide +kernel
theorem tyX11_ok : ∀ k, k < 19 → parseFieldDescriptor (TX11 k).2.2.1 = some (tyX11 k) := by decide +kernel
abbrev cX11_init : ByteArray := prog_1_method_1_code
def yX11_init : MethodName := ⟨RX11, "<init>", "()V"⟩
abbrev cX11_feed : ByteArray := prog_1_method_2_code
def yX11_feed : MethodName := ⟨RX11, "feed", "(IIIII)I"⟩
abbrev cX11_end : ByteArray := prog_1_method_3_code
def yX11_end : MethodName := ⟨RX11, "end", "(I)Z"⟩
abbrev cX11_text : ByteArray := prog_1_method_4_code
def yX11_text : MethodName := ⟨RX11, "text", "()I"⟩
abbrev cX11_fault : ByteArray := prog_1_method_5_code
def yX11_fault : MethodName := ⟨RX11, "fault", "(I)I"⟩
abbrev cX11_use : ByteArray := prog_1_method_6_code
def yX11_use : MethodName := ⟨RX11, "use", "(I)Z"⟩
abbrev cX11_slack : ByteArray := prog_1_method_7_code
def yX11_slack : MethodName := ⟨RX11, "slack", "(I)Z"⟩
abbrev cX11_say : ByteArray := prog_1_method_8_code
def yX11_say : MethodName := ⟨RX11, "say", "()I"⟩
abbrev cX11_hear : ByteArray := prog_1_method_9_code
def yX11_hear : MethodName := ⟨RX11, "hear", "()I"⟩
abbrev cX11_found : ByteArray := prog_1_method_10_code
def yX11_found : MethodName := ⟨RX11, "found", "(II)I"⟩
abbrev cX11_understand : ByteArray := prog_1_method_11_code
def yX11_understand : MethodName := ⟨RX11, "understand", "()I"⟩
abbrev cX11_meant : ByteArray := prog_1_method_12_code
def yX11_meant : MethodName := ⟨RX11, "meant", "(II)I"⟩
abbrev cX11_walk : ByteArray := prog_1_method_13_code
def yX11_walk : MethodName := ⟨RX11, "walk", "()I"⟩
abbrev cX11_where : ByteArray := prog_1_method_14_code
def yX11_where : MethodName := ⟨RX11, "where", "()I"⟩
abbrev cX11_ages : ByteArray := prog_1_method_15_code
def yX11_ages : MethodName := ⟨RX11, "ages", "()I"⟩
abbrev cX11_aged : ByteArray := prog_1_method_16_code
def yX11_aged : MethodName := ⟨RX11, "aged", "(I)I"⟩
abbrev cX11_order : ByteArray := prog_1_method_17_code
def yX11_order : MethodName := ⟨RX11, "order", "(II)Z"⟩
abbrev cX11_lives : ByteArray := prog_1_method_18_code
def yX11_lives : MethodName := ⟨RX11, "lives", "(III)I"⟩
abbrev cX11_orders : ByteArray := prog_1_method_19_code
def yX11_orders : MethodName := ⟨RX11, "orders", "(II)I"⟩
abbrev cX11_quarrel : ByteArray := prog_1_method_20_code
def yX11_quarrel : MethodName := ⟨RX11, "quarrel", "(II)I"⟩
abbrev cX11_parts : ByteArray := prog_1_method_21_code
def yX11_parts : MethodName := ⟨RX11, "parts", "(III)I"⟩
abbrev cX11_idle : ByteArray := prog_1_method_22_code
def yX11_idle : MethodName := ⟨RX11, "idle", "(II)I"⟩
abbrev cX11_fewest : ByteArray := prog_1_method_23_code
def yX11_fewest : MethodName := ⟨RX11, "fewest", "(I)I"⟩
abbrev cX11_example : ByteArray := prog_1_method_24_code
def yX11_example : MethodName := ⟨RX11, "example", "(Z)I"⟩
abbrev cX11_fits : ByteArray := prog_1_method_25_code
def yX11_fits : MethodName := ⟨RX11, "fits", "(I)I"⟩
abbrev cX11_learn : ByteArray := prog_1_method_26_code
def yX11_learn : MethodName := ⟨RX11, "learn", "()I"⟩
abbrev cX11_forced : ByteArray := prog_1_method_27_code
def yX11_forced : MethodName := ⟨RX11, "forced", "(I)I"⟩
abbrev cX11_rule : ByteArray := prog_1_method_28_code
def yX11_rule : MethodName := ⟨RX11, "rule", "(II)I"⟩
abbrev cX11_image : ByteArray := prog_1_method_29_code
def yX11_image : MethodName := ⟨RX11, "image", "(Z)Z"⟩
abbrev cX11_look : ByteArray := prog_1_method_30_code
def yX11_look : MethodName := ⟨RX11, "look", "(I)I"⟩
abbrev cX11_lookFurther : ByteArray := prog_1_method_31_code
def yX11_lookFurther : MethodName := ⟨RX11, "lookFurther", "(I)I"⟩
abbrev cX11_putNumber : ByteArray := prog_1_method_32_code
def yX11_putNumber : MethodName := ⟨RX11, "putNumber", "(I)V"⟩
abbrev cX11_emptyTape : ByteArray := prog_1_method_33_code
def yX11_emptyTape : MethodName := ⟨RX11, "emptyTape", "()I"⟩
abbrev cX11_isSet : ByteArray := prog_1_method_34_code
def yX11_isSet : MethodName := ⟨RX11, "isSet", "(I)Z"⟩
abbrev cX11_isRule : ByteArray := prog_1_method_35_code
def yX11_isRule : MethodName := ⟨RX11, "isRule", "(I)Z"⟩
abbrev cX11_areLetters : ByteArray := prog_1_method_36_code
def yX11_areLetters : MethodName := ⟨RX11, "areLetters", "(II)Z"⟩
abbrev cX11_placeOfColon : ByteArray := prog_1_method_37_code
def yX11_placeOfColon : MethodName := ⟨RX11, "placeOfColon", "(I)I"⟩
abbrev cX11_takeWord : ByteArray := prog_1_method_38_code
def yX11_takeWord : MethodName := ⟨RX11, "takeWord", "()I"⟩
abbrev cX11_takeRow : ByteArray := prog_1_method_39_code
def yX11_takeRow : MethodName := ⟨RX11, "takeRow", "()I"⟩
abbrev cX11_pairOfSigns : ByteArray := prog_1_method_40_code
def yX11_pairOfSigns : MethodName := ⟨RX11, "pairOfSigns", "(II)I"⟩
abbrev cX11_findWords : ByteArray := prog_1_method_41_code
def yX11_findWords : MethodName := ⟨RX11, "findWords", "(Z)I"⟩
abbrev cX11_keepCouple : ByteArray := prog_1_method_42_code
def yX11_keepCouple : MethodName := ⟨RX11, "keepCouple", "(III)V"⟩
abbrev cX11_firstParted : ByteArray := prog_1_method_43_code
def yX11_firstParted : MethodName := ⟨RX11, "firstParted", "(III)I"⟩
def RX12 : String := "SaidShallowModel"
def TX12 : u_T := fun k => match k with
  | 0 => ("SaidShallowModel", "w", "[I", true)
  | 1 => ("SaidShallowModel", "fresh", "[I", true)
  | 2 => ("SaidShallowModel", "kept", "[I", true)
  | 3 => ("SaidShallowModel", "hasImage", "Z", false)
  | 4 => ("SaidShallowModel", "tape", "[I", true)
  | 5 => ("SaidShallowModel", "taped", "I", false)
  | 6 => ("SaidShallowModel", "at", "I", false)
  | 7 => ("SaidShallowModel", "wrong", "I", false)
  | 8 => ("SaidShallowModel", "wrongAt", "I", false)
  | 9 => ("SaidShallowModel", "faultKind", "I", false)
  | 10 => ("SaidShallowModel", "faultPlace", "I", false)
  | 11 => ("SaidShallowModel", "got", "I", false)
  | 12 => ("SaidShallowModel", "pairDeep", "I", false)
  | 13 => ("SaidShallowModel", "pairSaid", "I", false)
  | 14 => ("SaidShallowModel", "mask", "I", false)
  | 15 => ("SaidShallowModel", "left", "[[I", true)
  | 16 => ("SaidShallowModel", "bans", "[[I", true)
  | 17 => ("SaidShallowModel", "needOf", "[[I", true)
  | 18 => ("SaidShallowModel", "needs", "[[I", true)
  | 19 => ("SaidShallowModel", "needMany", "[I", true)
  | 20 => ("SaidShallowModel", "row", "[I", true)
  | 21 => ("SaidShallowModel", "one", "[I", true)
  | 22 => ("SaidShallowModel", "other", "[I", true)
  | 23 => ("SaidShallowModel", "oneLong", "I", false)
  | 24 => ("SaidShallowModel", "otherLong", "I", false)
  | 25 => ("SaidShallowModel", "doing", "I", false)
  | 26 => ("SaidShallowModel", "looked", "I", false)
  | 27 => ("SaidShallowModel", "isStopped", "Z", false)
  | 28 => ("SaidShallowModel", "foundWords", "[J", true)
  | 29 => ("SaidShallowModel", "foundMany", "I", false)
  | 30 => ("SaidShallowModel", "stamp", "[I", true)
  | 31 => ("SaidShallowModel", "comeTo", "[I", true)
  | 32 => ("SaidShallowModel", "comeMany", "I", false)
  | 33 => ("SaidShallowModel", "stamped", "I", false)
  | 34 => ("SaidShallowModel", "saidWord", "[I", true)
  | 35 => ("SaidShallowModel", "saidLong", "I", false)
  | 36 => ("SaidShallowModel", "coupleStem", "[I", true)
  | 37 => ("SaidShallowModel", "coupleEnd", "[I", true)
  | 38 => ("SaidShallowModel", "coupleMany", "I", false)
  | 39 => ("SaidShallowModel", "walkedAt", "I", false)
  | 40 => ("SaidShallowModel", "aged", "[I", true)
  | 41 => ("SaidShallowModel", "agedRow", "[I", true)
  | 42 => ("SaidShallowModel", "agedNext", "[I", true)
  | 43 => ("SaidShallowModel", "agedLong", "I", false)
  | 44 => ("SaidShallowModel", "states", "[I", true)
  | 45 => ("SaidShallowModel", "level", "[I", true)
  | 46 => ("SaidShallowModel", "firstWords", "[I", true)
  | 47 => ("SaidShallowModel", "unlike", "[Z", true)
  | 48 => ("SaidShallowModel", "agrees", "[[Z", true)
  | 49 => ("SaidShallowModel", "used", "[I", true)
  | 50 => ("SaidShallowModel", "tried", "[I", true)
  | 51 => ("SaidShallowModel", "bestOrder", "[I", true)
  | 52 => ("SaidShallowModel", "isTried", "[Z", true)
  | 53 => ("SaidShallowModel", "usedMany", "I", false)
  | 54 => ("SaidShallowModel", "mostAgree", "I", false)
  | _ => ("SaidShallowModel", "keptAged", "[I", true)
def tyX12 : Nat → FieldType := fun k => match k with
  | 0 => .array .int
  | 1 => .array .int
  | 2 => .array .int
  | 3 => .boolean
  | 4 => .array .int
  | 5 => .int
  | 6 => .int
  | 7 => .int
  | 8 => .int
  | 9 => .int
  | 10 => .int
  | 11 => .int
  | 12 => .int
  | 13 => .int
  | 14 => .int
  | 15 => .array (.array .int)
  | 16 => .array (.array .int)
  | 17 => .array (.array .int)
  | 18 => .array (.array .int)
  | 19 => .array .int
  | 20 => .array .int
  | 21 => .array .int
  | 22 => .array .int
  | 23 => .int
  | 24 => .int
  | 25 => .int
  | 26 => .int
  | 27 => .boolean
  | 28 => .array .long
  | 29 => .int
  | 30 => .array .int
  | 31 => .array .int
  | 32 => .int
  | 33 => .int
  | 34 => .array .int
  | 35 => .int
  | 36 => .array .int
  | 37 => .array .int
  | 38 => .int
  | 39 => .int
  | 40 => .array .int
  | 41 => .array .int
  | 42 => .array .int
  | 43 => .int
  | 44 => .array .int
  | 45 => .array .int
  | 46 => .array .int
  | 47 => .array .boolean
  | 48 => .array (.array .boolean)
  | 49 => .array .int
  | 50 => .array .int
  | 51 => .array .int
  | 52 => .array .boolean
  | 53 => .int
  | 54 => .int
  | _ => .array .int
abbrev wsX120 : List Cond := u_ws RX12 TX12 56
theorem nmX12 : ∀ a, a < 56 → ∀ b, b < 56 → a ≠ b → (TX12 a).2.1 ≠ (TX12 b).2.1 := by decide +kernel
theorem tyX12_ok : ∀ k, k < 56 → parseFieldDescriptor (TX12 k).2.2.1 = some (tyX12 k) := by decide +kernel
abbrev cX12_init : ByteArray := prog_14_method_1_code
def yX12_init : MethodName := ⟨RX12, "<init>", "()V"⟩
abbrev cX12_isIn : ByteArray := prog_14_method_2_code
def yX12_isIn : MethodName := ⟨RX12, "isIn", "(III)Z"⟩
abbrev cX12_count : ByteArray := prog_14_method_3_code
def yX12_count : MethodName := ⟨RX12, "count", "(I)I"⟩
abbrev cX12_feed : ByteArray := prog_14_method_4_code
def yX12_feed : MethodName := ⟨RX12, "feed", "(IIIII)I"⟩
abbrev cX12_end : ByteArray := prog_14_method_5_code
def yX12_end : MethodName := ⟨RX12, "end", "(I)Z"⟩
abbrev cX12_see : ByteArray := prog_14_method_6_code
def yX12_see : MethodName := ⟨RX12, "see", "(I)I"⟩
abbrev cX12_isSmall : ByteArray := prog_14_method_7_code
def yX12_isSmall : MethodName := ⟨RX12, "isSmall", "(I)Z"⟩
abbrev cX12_blanks : ByteArray := prog_14_method_8_code
def yX12_blanks : MethodName := ⟨RX12, "blanks", "()V"⟩
abbrev cX12_sign : ByteArray := prog_14_method_9_code
def yX12_sign : MethodName := ⟨RX12, "sign", "()I"⟩
abbrev cX12_bad : ByteArray := prog_14_method_10_code
def yX12_bad : MethodName := ⟨RX12, "bad", "(II)Z"⟩
abbrev cX12_takes : ByteArray := prog_14_method_11_code
def yX12_takes : MethodName := ⟨RX12, "takes", "(I)Z"⟩
abbrev cX12_is : ByteArray := prog_14_method_12_code
def yX12_is : MethodName := ⟨RX12, "is", "(IILjava/lang/String;)Z"⟩
abbrev cX12_letterIn : ByteArray := prog_14_method_13_code
def yX12_letterIn : MethodName := ⟨RX12, "letterIn", "([II)I"⟩
abbrev cX12_takesS : ByteArray := prog_14_method_14_code
def yX12_takesS : MethodName := ⟨RX12, "takesS", "()Z"⟩
abbrev cX12_hasPair : ByteArray := prog_14_method_15_code
def yX12_hasPair : MethodName := ⟨RX12, "hasPair", "([III)Z"⟩
abbrev cX12_takesPair : ByteArray := prog_14_method_16_code
def yX12_takesPair : MethodName := ⟨RX12, "takesPair", "()Z"⟩
abbrev cX12_letters : ByteArray := prog_14_method_17_code
def yX12_letters : MethodName := ⟨RX12, "letters", "()Z"⟩
abbrev cX12_classOf : ByteArray := prog_14_method_18_code
def yX12_classOf : MethodName := ⟨RX12, "classOf", "()Z"⟩
abbrev cX12_word : ByteArray := prog_14_method_19_code
def yX12_word : MethodName := ⟨RX12, "word", "(IZ)Z"⟩
abbrev cX12_op : ByteArray := prog_14_method_20_code
def yX12_op : MethodName := ⟨RX12, "op", "()I"⟩
abbrev cX12_takesX : ByteArray := prog_14_method_21_code
def yX12_takesX : MethodName := ⟨RX12, "takesX", "()Z"⟩
abbrev cX12_isX : ByteArray := prog_14_method_22_code
def yX12_isX : MethodName := ⟨RX12, "isX", "(I)Z"⟩
abbrev cX12_item : ByteArray := prog_14_method_23_code
def yX12_item : MethodName := ⟨RX12, "item", "(I)Z"⟩
abbrev cX12_side : ByteArray := prog_14_method_24_code
def yX12_side : MethodName := ⟨RX12, "side", "(II)Z"⟩
abbrev cX12_context : ByteArray := prog_14_method_25_code
def yX12_context : MethodName := ⟨RX12, "context", "(I)Z"⟩
abbrev cX12_ruled : ByteArray := prog_14_method_26_code
def yX12_ruled : MethodName := ⟨RX12, "ruled", "()Z"⟩
abbrev cX12_statement : ByteArray := prog_14_method_27_code
def yX12_statement : MethodName := ⟨RX12, "statement", "()Z"⟩
abbrev cX12_text : ByteArray := prog_14_method_28_code
def yX12_text : MethodName := ⟨RX12, "text", "()I"⟩
abbrev cX12_fault : ByteArray := prog_14_method_29_code
def yX12_fault : MethodName := ⟨RX12, "fault", "(I)I"⟩
abbrev cX12_allRules : ByteArray := prog_14_method_30_code
def yX12_allRules : MethodName := ⟨RX12, "allRules", "()I"⟩
abbrev cX12_use : ByteArray := prog_14_method_31_code
def yX12_use : MethodName := ⟨RX12, "use", "(I)Z"⟩
abbrev cX12_slack : ByteArray := prog_14_method_32_code
def yX12_slack : MethodName := ⟨RX12, "slack", "(I)Z"⟩
abbrev cX12_order : ByteArray := prog_14_method_33_code
def yX12_order : MethodName := ⟨RX12, "order", "(II)Z"⟩
abbrev cX12_ofRule : ByteArray := prog_14_method_34_code
def yX12_ofRule : MethodName := ⟨RX12, "ofRule", "(II)I"⟩
abbrev cX12_itemsOf : ByteArray := prog_14_method_35_code
def yX12_itemsOf : MethodName := ⟨RX12, "itemsOf", "(II)I"⟩
abbrev cX12_isAnchored : ByteArray := prog_14_method_36_code
def yX12_isAnchored : MethodName := ⟨RX12, "isAnchored", "(II)Z"⟩
abbrev cX12_closed : ByteArray := prog_14_method_37_code
def yX12_closed : MethodName := ⟨RX12, "closed", "(III)I"⟩
abbrev cX12_goesOn : ByteArray := prog_14_method_38_code
def yX12_goesOn : MethodName := ⟨RX12, "goesOn", "(IIII)I"⟩
abbrev cX12_isDone : ByteArray := prog_14_method_39_code
def yX12_isDone : MethodName := ⟨RX12, "isDone", "(III)Z"⟩
abbrev cX12_holds : ByteArray := prog_14_method_40_code
def yX12_holds : MethodName := ⟨RX12, "holds", "(II[II)Z"⟩
abbrev cX12_someHolds : ByteArray := prog_14_method_41_code
def yX12_someHolds : MethodName := ⟨RX12, "someHolds", "(II[II)Z"⟩
abbrev cX12_isBroken : ByteArray := prog_14_method_42_code
def yX12_isBroken : MethodName := ⟨RX12, "isBroken", "(II[II)Z"⟩
abbrev cX12_begins : ByteArray := prog_14_method_43_code
def yX12_begins : MethodName := ⟨RX12, "begins", "()V"⟩
abbrev cX12_isMet : ByteArray := prog_14_method_44_code
def yX12_isMet : MethodName := ⟨RX12, "isMet", "(II)Z"⟩
abbrev cX12_needsGoOn : ByteArray := prog_14_method_45_code
def yX12_needsGoOn : MethodName := ⟨RX12, "needsGoOn", "(II)Z"⟩
abbrev cX12_asks : ByteArray := prog_14_method_46_code
def yX12_asks : MethodName := ⟨RX12, "asks", "(III)Z"⟩
abbrev cX12_reads : ByteArray := prog_14_method_47_code
def yX12_reads : MethodName := ⟨RX12, "reads", "(III)Z"⟩
abbrev cX12_closes : ByteArray := prog_14_method_48_code
def yX12_closes : MethodName := ⟨RX12, "closes", "(II)Z"⟩
abbrev cX12_takesWord : ByteArray := prog_14_method_49_code
def yX12_takesWord : MethodName := ⟨RX12, "takesWord", "(II)Z"⟩
abbrev cX12_goes : ByteArray := prog_14_method_50_code
def yX12_goes : MethodName := ⟨RX12, "goes", "(IIIII)V"⟩
abbrev cX12_padded : ByteArray := prog_14_method_51_code
def yX12_padded : MethodName := ⟨RX12, "padded", "(I)J"⟩
abbrev cX12_finds : ByteArray := prog_14_method_52_code
def yX12_finds : MethodName := ⟨RX12, "finds", "(I)V"⟩
abbrev cX12_numberOf : ByteArray := prog_14_method_53_code
def yX12_numberOf : MethodName := ⟨RX12, "numberOf", "(I)I"⟩
abbrev cX12_marks : ByteArray := prog_14_method_54_code
def yX12_marks : MethodName := ⟨RX12, "marks", "(I)V"⟩
abbrev cX12_completes : ByteArray := prog_14_method_55_code
def yX12_completes : MethodName := ⟨RX12, "completes", "(II)V"⟩
abbrev cX12_sets : ByteArray := prog_14_method_56_code
def yX12_sets : MethodName := ⟨RX12, "sets", "(I)V"⟩
abbrev cX12_words : ByteArray := prog_14_method_57_code
def yX12_words : MethodName := ⟨RX12, "words", "(I)I"⟩
abbrev cX12_say : ByteArray := prog_14_method_58_code
def yX12_say : MethodName := ⟨RX12, "say", "()I"⟩
abbrev cX12_hear : ByteArray := prog_14_method_59_code
def yX12_hear : MethodName := ⟨RX12, "hear", "()I"⟩
abbrev cX12_found : ByteArray := prog_14_method_60_code
def yX12_found : MethodName := ⟨RX12, "found", "(II)I"⟩
abbrev cX12_aligns : ByteArray := prog_14_method_61_code
def yX12_aligns : MethodName := ⟨RX12, "aligns", "(IIIII)Z"⟩
abbrev cX12_isSaid : ByteArray := prog_14_method_62_code
def yX12_isSaid : MethodName := ⟨RX12, "isSaid", "(I)Z"⟩
abbrev cX12_understand : ByteArray := prog_14_method_63_code
def yX12_understand : MethodName := ⟨RX12, "understand", "()I"⟩
abbrev cX12_meant : ByteArray := prog_14_method_64_code
def yX12_meant : MethodName := ⟨RX12, "meant", "(II)I"⟩
abbrev cX12_takesRow : ByteArray := prog_14_method_65_code
def yX12_takesRow : MethodName := ⟨RX12, "takesRow", "()I"⟩
abbrev cX12_walk : ByteArray := prog_14_method_66_code
def yX12_walk : MethodName := ⟨RX12, "walk", "()I"⟩
abbrev cX12_where : ByteArray := prog_14_method_67_code
def yX12_where : MethodName := ⟨RX12, "where", "()I"⟩
abbrev cX12_age : ByteArray := prog_14_method_68_code
def yX12_age : MethodName := ⟨RX12, "age", "(I)V"⟩
abbrev cX12_ages : ByteArray := prog_14_method_69_code
def yX12_ages : MethodName := ⟨RX12, "ages", "()I"⟩
abbrev cX12_aged : ByteArray := prog_14_method_70_code
def yX12_aged : MethodName := ⟨RX12, "aged", "(I)I"⟩
abbrev cX12_sideGoes : ByteArray := prog_14_method_71_code
def yX12_sideGoes : MethodName := ⟨RX12, "sideGoes", "(IIII)I"⟩
abbrev cX12_fewestPairs : ByteArray := prog_14_method_72_code
def yX12_fewestPairs : MethodName := ⟨RX12, "fewestPairs", "(III)I"⟩
abbrev cX12_isRule : ByteArray := prog_14_method_73_code
def yX12_isRule : MethodName := ⟨RX12, "isRule", "(I)Z"⟩
abbrev cX12_never : ByteArray := prog_14_method_74_code
def yX12_never : MethodName := ⟨RX12, "never", "(I)Z"⟩
abbrev cX12_canQuarrel : ByteArray := prog_14_method_75_code
def yX12_canQuarrel : MethodName := ⟨RX12, "canQuarrel", "(II)Z"⟩
abbrev cX12_quarrel : ByteArray := prog_14_method_76_code
def yX12_quarrel : MethodName := ⟨RX12, "quarrel", "(II)I"⟩
abbrev cX12_wordsUpTo : ByteArray := prog_14_method_77_code
def yX12_wordsUpTo : MethodName := ⟨RX12, "wordsUpTo", "(I)I"⟩
abbrev cX12_laysWord : ByteArray := prog_14_method_78_code
def yX12_laysWord : MethodName := ⟨RX12, "laysWord", "(I)V"⟩
abbrev cX12_marksAll : ByteArray := prog_14_method_79_code
def yX12_marksAll : MethodName := ⟨RX12, "marksAll", "(I)V"⟩
abbrev cX12_isParted : ByteArray := prog_14_method_80_code
def yX12_isParted : MethodName := ⟨RX12, "isParted", "(II)Z"⟩
abbrev cX12_partsOf : ByteArray := prog_14_method_81_code
def yX12_partsOf : MethodName := ⟨RX12, "partsOf", "(III)I"⟩
abbrev cX12_parts : ByteArray := prog_14_method_82_code
def yX12_parts : MethodName := ⟨RX12, "parts", "(III)I"⟩
abbrev cX12_isUsed : ByteArray := prog_14_method_83_code
def yX12_isUsed : MethodName := ⟨RX12, "isUsed", "(I)Z"⟩
abbrev cX12_idle : ByteArray := prog_14_method_84_code
def yX12_idle : MethodName := ⟨RX12, "idle", "(II)I"⟩
abbrev cX12_breaks : ByteArray := prog_14_method_85_code
def yX12_breaks : MethodName := ⟨RX12, "breaks", "(II)V"⟩
abbrev cX12_fewest : ByteArray := prog_14_method_86_code
def yX12_fewest : MethodName := ⟨RX12, "fewest", "(I)I"⟩
abbrev cX12_lives : ByteArray := prog_14_method_87_code
def yX12_lives : MethodName := ⟨RX12, "lives", "(III)I"⟩
abbrev cX12_agreeing : ByteArray := prog_14_method_88_code
def yX12_agreeing : MethodName := ⟨RX12, "agreeing", "(I)I"⟩
abbrev cX12_triesOrders : ByteArray := prog_14_method_89_code
def yX12_triesOrders : MethodName := ⟨RX12, "triesOrders", "(II)V"⟩
abbrev cX12_orders : ByteArray := prog_14_method_90_code
def yX12_orders : MethodName := ⟨RX12, "orders", "(II)I"⟩
abbrev cX12_example : ByteArray := prog_14_method_91_code
def yX12_example : MethodName := ⟨RX12, "example", "(Z)I"⟩
abbrev cX12_isRight : ByteArray := prog_14_method_92_code
def yX12_isRight : MethodName := ⟨RX12, "isRight", "(II)Z"⟩
abbrev cX12_firstWrong : ByteArray := prog_14_method_93_code
def yX12_firstWrong : MethodName := ⟨RX12, "firstWrong", "(I)I"⟩
abbrev cX12_fits : ByteArray := prog_14_method_94_code
def yX12_fits : MethodName := ⟨RX12, "fits", "(I)I"⟩
abbrev cX12_learn : ByteArray := prog_14_method_95_code
def yX12_learn : MethodName := ⟨RX12, "learn", "()I"⟩
abbrev cX12_forced : ByteArray := prog_14_method_96_code
def yX12_forced : MethodName := ⟨RX12, "forced", "(I)I"⟩
abbrev cX12_rule : ByteArray := prog_14_method_97_code
def yX12_rule : MethodName := ⟨RX12, "rule", "(II)I"⟩
abbrev cX12_image : ByteArray := prog_14_method_98_code
def yX12_image : MethodName := ⟨RX12, "image", "(Z)Z"⟩
abbrev cX12_look : ByteArray := prog_14_method_99_code
def yX12_look : MethodName := ⟨RX12, "look", "(I)I"⟩
def RJx145de : String := "java/io/Serializable"
def TJx145de : u_T := fun k => match k with
  | _ => ("", "", "", false)
def tyJx145de : Nat → FieldType := fun k => match k with
  | _ => .int
abbrev wsJx145de0 : List Cond := u_ws RJx145de TJx145de 0
theorem nmJx145de : ∀ a, a < 0 → ∀ b, b < 0 → a ≠ b → (TJx145de a).2.1 ≠ (TJx145de b).2.1 := by decide +kernel
theorem tyJx145de_ok : ∀ k, k < 0 → parseFieldDescriptor (TJx145de k).2.2.1 = some (tyJx145de k) := by decide +kernel
def RJx9f9b0 : String := "java/lang/CharSequence"
def TJx9f9b0 : u_T := fun k => match k with
  | _ => ("", "", "", false)
def tyJx9f9b0 : Nat → FieldType := fun k => match k with
  | _ => .int
abbrev wsJx9f9b00 : List Cond := u_ws RJx9f9b0 TJx9f9b0 0
theorem nmJx9f9b0 : ∀ a, a < 0 → ∀ b, b < 0 → a ≠ b → (TJx9f9b0 a).2.1 ≠ (TJx9f9b0 b).2.1 := by decide +kernel
theorem tyJx9f9b0_ok : ∀ k, k < 0 → parseFieldDescriptor (TJx9f9b0 k).2.2.1 = some (tyJx9f9b0 k) := by decide +kernel
def RJxb160c : String := "java/lang/Comparable"
def TJxb160c : u_T := fun k => match k with
  | _ => ("", "", "", false)
def tyJxb160c : Nat → FieldType := fun k => match k with
  | _ => .int
abbrev wsJxb160c0 : List Cond := u_ws RJxb160c TJxb160c 0
theorem nmJxb160c : ∀ a, a < 0 → ∀ b, b < 0 → a ≠ b → (TJxb160c a).2.1 ≠ (TJxb160c b).2.1 := by decide +kernel
theorem tyJxb160c_ok : ∀ k, k < 0 → parseFieldDescriptor (TJxb160c k).2.2.1 = some (tyJxb160c k) := by decide +kernel
def RJ6 : String := "java/lang/Integer"
def TJ6 : u_T := fun k => match k with
  | _ => ("", "", "", false)
def tyJ6 : Nat → FieldType := fun k => match k with
  | _ => .int
abbrev wsJ60 : List Cond := u_ws RJ6 TJ6 0
theorem nmJ6 : ∀ a, a < 0 → ∀ b, b < 0 → a ≠ b → (TJ6 a).2.1 ≠ (TJ6 b).2.1 := by decide +kernel
theorem tyJ6_ok : ∀ k, k < 0 → parseFieldDescriptor (TJ6 k).2.2.1 = some (tyJ6 k) := by decide +kernel
abbrev cJ6_bitCount_0f7a4 : ByteArray := prog_15_method_49_code
def yJ6_bitCount_0f7a4 : MethodName := ⟨RJ6, "bitCount", "(I)I"⟩
def RJ9 : String := "java/lang/Math"
def TJ9 : u_T := fun k => match k with
  | _ => ("", "", "", false)
def tyJ9 : Nat → FieldType := fun k => match k with
  | _ => .int
abbrev wsJ90 : List Cond := u_ws RJ9 TJ9 0
theorem nmJ9 : ∀ a, a < 0 → ∀ b, b < 0 → a ≠ b → (TJ9 a).2.1 ≠ (TJ9 b).2.1 := by decide +kernel
theorem tyJ9_ok : ∀ k, k < 0 → parseFieldDescriptor (TJ9 k).2.2.1 = some (tyJ9 k) := by decide +kernel
abbrev cJ9_abs_0f7a4 : ByteArray := prog_16_method_59_code
def yJ9_abs_0f7a4 : MethodName := ⟨RJ9, "abs", "(I)I"⟩
abbrev cJ9_max_7cf53 : ByteArray := prog_16_method_65_code
def yJ9_max_7cf53 : MethodName := ⟨RJ9, "max", "(II)I"⟩
abbrev cJ9_min_7cf53 : ByteArray := prog_16_method_69_code
def yJ9_min_7cf53 : MethodName := ⟨RJ9, "min", "(II)I"⟩
def RJ0 : String := "java/lang/String"
def TJ0 : u_T := fun k => match k with
  | _ => ("", "", "", false)
def tyJ0 : Nat → FieldType := fun k => match k with
  | _ => .int
abbrev wsJ00 : List Cond := u_ws RJ0 TJ0 0
theorem nmJ0 : ∀ a, a < 0 → ∀ b, b < 0 → a ≠ b → (TJ0 a).2.1 ≠ (TJ0 b).2.1 := by decide +kernel
theorem tyJ0_ok : ∀ k, k < 0 → parseFieldDescriptor (TJ0 k).2.2.1 = some (tyJ0 k) := by decide +kernel
abbrev cJ0_length_8abf5 : ByteArray := prog_17_method_54_code
def yJ0_length_8abf5 : MethodName := ⟨RJ0, "length", "()I"⟩
abbrev cJ0_charAt_5068e : ByteArray := prog_17_method_56_code
def yJ0_charAt_5068e : MethodName := ⟨RJ0, "charAt", "(I)C"⟩
abbrev cJ0_coder_7d493 : ByteArray := prog_17_method_152_code
def yJ0_coder_7d493 : MethodName := ⟨RJ0, "coder", "()B"⟩
abbrev cJ0_isLatin1_aae02 : ByteArray := prog_17_method_154_code
def yJ0_isLatin1_aae02 : MethodName := ⟨RJ0, "isLatin1", "()Z"⟩
abbrev cJ0_checkIndex_df160 : ByteArray := prog_17_method_155_code
def yJ0_checkIndex_df160 : MethodName := ⟨RJ0, "checkIndex", "(II)V"⟩
def RJ1 : String := "java/lang/StringLatin1"
def TJ1 : u_T := fun k => match k with
  | _ => ("", "", "", false)
def tyJ1 : Nat → FieldType := fun k => match k with
  | _ => .int
abbrev wsJ10 : List Cond := u_ws RJ1 TJ1 0
theorem nmJ1 : ∀ a, a < 0 → ∀ b, b < 0 → a ≠ b → (TJ1 a).2.1 ≠ (TJ1 b).2.1 := by decide +kernel
theorem tyJ1_ok : ∀ k, k < 0 → parseFieldDescriptor (TJ1 k).2.2.1 = some (tyJ1 k) := by decide +kernel
abbrev cJ1_charAt_3b067 : ByteArray := prog_18_method_2_code
def yJ1_charAt_3b067 : MethodName := ⟨RJ1, "charAt", "([BI)C"⟩
def RJ2 : String := "java/lang/StringUTF16"
def TJ2 : u_T := fun k => match k with
  | _ => ("", "", "", false)
def tyJ2 : Nat → FieldType := fun k => match k with
  | _ => .int
abbrev wsJ20 : List Cond := u_ws RJ2 TJ2 0
theorem nmJ2 : ∀ a, a < 0 → ∀ b, b < 0 → a ≠ b → (TJ2 a).2.1 ≠ (TJ2 b).2.1 := by decide +kernel
theorem tyJ2_ok : ∀ k, k < 0 → parseFieldDescriptor (TJ2 k).2.2.1 = some (tyJ2 k) := by decide +kernel
abbrev cJ2_getChar_3b067 : ByteArray := prog_19_method_5_code
def yJ2_getChar_3b067 : MethodName := ⟨RJ2, "getChar", "([BI)C"⟩
abbrev cJ2_length_9d52b : ByteArray := prog_19_method_6_code
def yJ2_length_9d52b : MethodName := ⟨RJ2, "length", "([B)I"⟩
abbrev cJ2_charAt_3b067 : ByteArray := prog_19_method_83_code
def yJ2_charAt_3b067 : MethodName := ⟨RJ2, "charAt", "([BI)C"⟩
abbrev cJ2_checkIndex_2214a : ByteArray := prog_19_method_91_code
def yJ2_checkIndex_2214a : MethodName := ⟨RJ2, "checkIndex", "(I[B)V"⟩
def RJ10 : String := "java/lang/System"
def TJ10 : u_T := fun k => match k with
  | _ => ("", "", "", false)
def tyJ10 : Nat → FieldType := fun k => match k with
  | _ => .int
abbrev wsJ100 : List Cond := u_ws RJ10 TJ10 0
theorem nmJ10 : ∀ a, a < 0 → ∀ b, b < 0 → a ≠ b → (TJ10 a).2.1 ≠ (TJ10 b).2.1 := by decide +kernel
theorem tyJ10_ok : ∀ k, k < 0 → parseFieldDescriptor (TJ10 k).2.2.1 = some (tyJ10 k) := by decide +kernel
def RJxfd54e : String := "java/lang/constant/Constable"
def TJxfd54e : u_T := fun k => match k with
  | _ => ("", "", "", false)
def tyJxfd54e : Nat → FieldType := fun k => match k with
  | _ => .int
abbrev wsJxfd54e0 : List Cond := u_ws RJxfd54e TJxfd54e 0
theorem nmJxfd54e : ∀ a, a < 0 → ∀ b, b < 0 → a ≠ b → (TJxfd54e a).2.1 ≠ (TJxfd54e b).2.1 := by decide +kernel
theorem tyJxfd54e_ok : ∀ k, k < 0 → parseFieldDescriptor (TJxfd54e k).2.2.1 = some (tyJxfd54e k) := by decide +kernel
def RJx3cf43 : String := "java/lang/constant/ConstantDesc"
def TJx3cf43 : u_T := fun k => match k with
  | _ => ("", "", "", false)
def tyJx3cf43 : Nat → FieldType := fun k => match k with
  | _ => .int
abbrev wsJx3cf430 : List Cond := u_ws RJx3cf43 TJx3cf43 0
theorem nmJx3cf43 : ∀ a, a < 0 → ∀ b, b < 0 → a ≠ b → (TJx3cf43 a).2.1 ≠ (TJx3cf43 b).2.1 := by decide +kernel
theorem tyJx3cf43_ok : ∀ k, k < 0 → parseFieldDescriptor (TJx3cf43 k).2.2.1 = some (tyJx3cf43 k) := by decide +kernel
def RJ7 : String := "java/util/Arrays"
def TJ7 : u_T := fun k => match k with
  | _ => ("", "", "", false)
def tyJ7 : Nat → FieldType := fun k => match k with
  | _ => .int
abbrev wsJ70 : List Cond := u_ws RJ7 TJ7 0
theorem nmJ7 : ∀ a, a < 0 → ∀ b, b < 0 → a ≠ b → (TJ7 a).2.1 ≠ (TJ7 b).2.1 := by decide +kernel
theorem tyJ7_ok : ∀ k, k < 0 → parseFieldDescriptor (TJ7 k).2.2.1 = some (tyJ7 k) := by decide +kernel
abbrev cJ7_fill_53178 : ByteArray := prog_21_method_103_code
def yJ7_fill_53178 : MethodName := ⟨RJ7, "fill", "([II)V"⟩
def RJ3 : String := "jdk/internal/util/Preconditions"
def TJ3 : u_T := fun k => match k with
  | _ => ("", "", "", false)
def tyJ3 : Nat → FieldType := fun k => match k with
  | _ => .int
abbrev wsJ30 : List Cond := u_ws RJ3 TJ3 0
theorem nmJ3 : ∀ a, a < 0 → ∀ b, b < 0 → a ≠ b → (TJ3 a).2.1 ≠ (TJ3 b).2.1 := by decide +kernel
theorem tyJ3_ok : ∀ k, k < 0 → parseFieldDescriptor (TJ3 k).2.2.1 = some (tyJ3 k) := by decide +kernel
abbrev cJ3_checkIndex_8e157 : ByteArray := prog_22_method_11_code
def yJ3_checkIndex_8e157 : MethodName := ⟨RJ3, "checkIndex", "(IILjava/util/function/BiFunction;)I"⟩
def RL : String := "SaidShallowLaw"
abbrev cL_law : ByteArray := code
def yL_law : MethodName := ⟨RL, "law", "([I)Z"⟩
abbrev vwCl : List vw_C := [(RX0, TX0, 11), (RX1, TX1, 6), (RX2, TX2, 10), (RX3, TX3, 18), (RX4, TX4, 11), (RX5, TX5, 6), (RX6, TX6, 9), (RX7, TX7, 16), (RX8, TX8, 5), (RX9, TX9, 3), (RX10, TX10, 3), (RX11, TX11, 19), (RX12, TX12, 56)]
end
section
/-! the words that every method here has, the worlds before and behind a call -/
abbrev z0 : Nat → Int32 := fun _ => 0
abbrev TYS (cI cL cZ : ClassId) : List (ClassId × FieldType) := [(cI, .int), (cL, .long), (cZ, .boolean)]
/-- the words that a call takes along: those of the tables that stay as they are -/
def wsU : List Cond := lw_tbl.filter goodWord
abbrev wU (y : MethodName) (c : ByteArray) (n : Nat) (r : Option FieldType) : List Cond := .code y c n r :: wsU
theorem gU_sub {ws : List Cond} (h : ∀ w ∈ ws, w ∈ wsU) : GoodIn wsU ws := fun w hw => ⟨h w hw, good_of_word (List.mem_filter.mp (h w hw)).2⟩
theorem wsU_in : ∀ w ∈ wsU, w ∈ lw_tbl := fun w h => (List.mem_filter.mp h).1
theorem wsU_at {w : Cond} (i : Nat) (h : lw_tbl[i]? = some w) (g : goodWord w = true) : w ∈ wsU := List.mem_filter.mpr ⟨List.mem_of_getElem? h, g⟩
theorem upd_z0 (k : Nat) : upd z0 k 0 = z0 := by funext j; simp [upd, z0]
theorem cpy_z0 (a b n : Nat) : va_cpy z0 z0 a b n = z0 := by funext j; simp [va_cpy, z0]
abbrev w0 : Nat → Int32 := upd z0 41 1
theorem gU_c {y : MethodName} {c : ByteArray} {n : Nat} {r : Option FieldType} (h : Cond.code y c n r ∈ wsU) : GoodIn wsU (wU y c n r) := gU_sub (fun w hw => by
  rcases List.mem_cons.mp hw with e | e
  · rw [e]; exact h
  · exact e)
theorem gU_V {own C : String} {idx : Nat} {y : MethodName} {c : ByteArray} {n : Nat} {r : Option FieldType} (h1 : Cond.methodLink own idx y ∈ wsU) (h2 : Cond.instanceMethod y ∈ wsU) (h3 : Cond.selects C y y ∈ wsU) (h4 : Cond.initialized C ∈ wsU) (h5 : Cond.code y c n r ∈ wsU) : GoodIn wsU (wsV own idx C y (wU y c n r)) := gU_sub (fun w hw => by
  unfold wsV at hw
  rcases List.mem_append.mp hw with q | q
  · simp only [List.mem_cons, List.not_mem_nil, or_false] at q
    rcases q with e | e | e | e <;> (rw [e]; assumption)
  · exact ((gU_c h5) w q).1)
theorem gU_S {own : String} {idx : Nat} {y : MethodName} {c : ByteArray} {n : Nat} {r : Option FieldType} (h1 : Cond.methodLink own idx y ∈ wsU) (h2 : Cond.static y ∈ wsU) (h4 : Cond.initialized own ∈ wsU) (h5 : Cond.code y c n r ∈ wsU) : GoodIn wsU (wsS own idx y (wU y c n r)) := gU_sub (fun w hw => by
  unfold wsS at hw
  rcases List.mem_append.mp hw with q | q
  · simp only [List.mem_cons, List.not_mem_nil, or_false] at q
    rcases q with e | e | e <;> (rw [e]; assumption)
  · exact ((gU_c h5) w q).1)
def va_AOA (ty : FieldType) (U : State) : Prop := (Cond.arrayOver (.array ty)).before #[] U = true
theorem va_AOA.of {ty : FieldType} {A : Array Value} {U : State} (h : (Cond.arrayOver (.array ty)).before A U = true) : va_AOA ty U := h
theorem va_AOA.use {ty : FieldType} {A : Array Value} {U : State} (h : va_AOA ty U) : (Cond.arrayOver (.array ty)).before A U = true := h
theorem va_AOA.moved {ty : FieldType} {u U : State} (hvm : u.vm.Alike U.vm) (h : va_AOA ty u) : va_AOA ty U := by
  unfold va_AOA Cond.before Cond.holds at h ⊢
  simp only [Cond.value, beq_iff_eq] at h ⊢
  cases hc : u.vm.findClass (FieldType.array ty).toString with
  | none => simp [hc] at h
  | some comp =>
    simp only [hc, Option.bind_some, Option.bind_eq_some_iff, Option.map_eq_some_iff] at h
    obtain ⟨c, hi, k, hk, hb⟩ := h
    obtain ⟨k', hk', he⟩ := hvm.2.2 _ _ hk
    have hb0 : ∀ vm : Vm, vm.bare.classes.findIdx? (fun (x : Class) => match x.kind with | .array component _ => component == comp | _ => false) = vm.classes.findIdx? (fun (x : Class) => match x.kind with | .array component _ => component == comp | _ => false) := by
      intro vm
      simp only [Vm.bare, Array.findIdx?_map]
      rfl
    have hi' : U.vm.classes.findIdx? (fun (x : Class) => match x.kind with | .array component _ => component == comp | _ => false) = some c := by
      rw [← hb0]
      first | rw [hvm.bare_eq] | rw [← hvm.bare_eq]
      rw [hb0]
      exact hi
    have f1 : U.vm.findClass (FieldType.array ty).toString = some comp := by rw [hvm.findClass]; exact hc
    rw [f1, Option.bind_some]
    refine Option.bind_eq_some_iff.mpr ⟨c, hi', ?_⟩
    rw [hk', Option.map_some, he, hvm.findClass]
    exact congrArg some hb
/-- the words that a call can't take along: private constructors by nest mates, the classes of arrays of arrays -/
def nsW (U : State) : Prop :=
  va_Nw (.methodLinkNest RX11 15 yX3_init "SaidShallow") U ∧ va_Nw (.methodLinkNest RX7 60 yX4_init "SaidShallow") U ∧ va_Nw (.methodLinkNest RX4 11 yX5_init "SaidShallow") U ∧ va_Nw (.methodLinkNest RX3 20 yX10_init "SaidShallow") U ∧ va_Nw (.methodLinkNest RX3 27 yX8_init "SaidShallow") U ∧ va_Nw (.methodLinkNest RX3 34 yX1_init "SaidShallow") U ∧ va_Nw (.methodLinkNest RX11 32 yX6_init "SaidShallow") U ∧ va_Nw (.methodLinkNest RX11 48 yX2_init "SaidShallow") U ∧ va_Nw (.methodLinkNest RX11 55 yX0_init "SaidShallow") U ∧ va_Nw (.methodLinkNest RX2 197 yX4_isAlways "SaidShallow") U ∧ va_AO "SaidShallow$Rule" U ∧ va_AOA .int U ∧ va_AOA .boolean U
theorem nsW.warm {s U : State} (hW : s.WarmedH U.vm) (h : nsW s) : nsW U := by
  obtain ⟨a1, a2, a3, a4, a5, a6, a7, a8, a9, a10, a11, a12, a13⟩ := h
  exact ⟨a1.warmM hW, a2.warmM hW, a3.warmM hW, a4.warmM hW, a5.warmM hW, a6.warmM hW, a7.warmM hW, a8.warmM hW, a9.warmM hW, a10.warmM hW, a11.moved hW.alike, a12.moved hW.alike, a13.moved hW.alike⟩
theorem nsW.same {s U : State} (hW : s.vm = U.vm) (h : nsW s) : nsW U := by
  obtain ⟨a1, a2, a3, a4, a5, a6, a7, a8, a9, a10, a11, a12, a13⟩ := h
  have hvm : s.vm.Alike U.vm := by rw [hW]; exact Vm.Alike.refl _
  exact ⟨a1.same rfl hW, a2.same rfl hW, a3.same rfl hW, a4.same rfl hW, a5.same rfl hW, a6.same rfl hW, a7.same rfl hW, a8.same rfl hW, a9.same rfl hW, a10.same rfl hW, a11.moved hvm, a12.moved hvm, a13.moved hvm⟩
def pB (D : va_G) (cI cL cZ : ClassId) (sz : Nat) (ws : va_W) : State → Prop := fun U => U.heap.size = sz ∧ va_P D vwCl ws U.heap ∧ va_K D vwCl (TYS cI cL cZ) U ∧ va_D (fun _ => True) ws ∧ nsW U
def qB (D : va_G) (cI cL cZ : ClassId) (A : Nat → Prop) (w1 : va_W) : State → Prop := fun t => va_P D vwCl w1 t.heap ∧ va_K D vwCl (TYS cI cL cZ) t ∧ va_D A w1
theorem pB_blind {av : List Value} {D : va_G} {cI cL cZ : ClassId} {sz : Nat} {ws : va_W} : FrameBlind (va_Pc av (pB D cI cL cZ sz ws)) := fun a U g mk q => by
  obtain ⟨q0, q1, qP, qK, qD, qN⟩ := q
  exact ⟨q0, q1, qP, va_K.moved (u := U) (U := U.calling g mk a) (Vm.Alike.refl U.vm) qK, qD, nsW.same (s := U) (U := U.calling g mk a) rfl qN⟩
abbrev mI (l : Launch) (D : va_G) (cI cL cZ : ClassId) (y : MethodName) (c : ByteArray) (n : Nat) (r : Option FieldType) (fr lo mc ms : Nat) (av : List Value) (sz : Nat) (ws : va_W) (P : Int32 → va_W → Prop) : Prop := Met l y (wU y c n r) { frames := fr, cells := mc, slots := ms, locals := lo } (va_Pc av (pB D cI cL cZ sz ws)) (va_Qi P (qB D cI cL cZ (va_A ws sz)) (va_A ws sz)) mc ms (va_A ws sz)
abbrev mV (l : Launch) (D : va_G) (cI cL cZ : ClassId) (y : MethodName) (c : ByteArray) (n : Nat) (r : Option FieldType) (fr lo mc ms : Nat) (av : List Value) (sz : Nat) (ws : va_W) (P : va_W → Prop) : Prop := Met l y (wU y c n r) { frames := fr, cells := mc, slots := ms, locals := lo } (va_Pc av (pB D cI cL cZ sz ws)) (va_Qv P (qB D cI cL cZ (va_A ws sz)) (va_A ws sz)) mc ms (va_A ws sz)
theorem tk_fm {ws wc : va_W} {is : List Nat} (h : is.map (fun i => ws[i]?) = wc.map some) : is.filterMap (fun i => ws[i]?) = wc := by
  have e : is.filterMap (fun i => ws[i]?) = (is.map (fun i => ws[i]?)).filterMap id := by rw [List.filterMap_map]; rfl
  rw [e, h, List.filterMap_map]
  simp
section TKC
variable {p : Program} {l : Launch} {e : Env} {R : Room} {s : State} {m : MethodId} {args : Array Value} {below : List Frame} {meth : Method} {c : Code} {H : Heap} {locs : List Loc} {cells slots : Nat} {Q : State → Prop}
variable {cc : ByteArray} {pc : Nat} {ls : Array Slot} {rest : List Value} {D : va_G} {A : Nat → Prop} {a : Nat} {ws : va_W} {H0 : Heap} {cI cL cZ : ClassId}
theorem tk_topi {x y : Int32} (h : x = y) (k : W p l e R s m args below meth c H locs cells slots Q (F0 m pc ls (.int y :: rest))) : W p l e R s m args below meth c H locs cells slots Q (F0 m pc ls (.int x :: rest)) := by rw [h]; exact k
/-- a virtual call by contract -/
theorem tk_V {own C : String} {idx maxL nL fr lo mc ms n : Nat} {y : MethodName} {bytes : ByteArray} {ret : Option FieldType} {Qc : Array Value → State → Outcome → State → Prop} {free : Addr → Prop} {As rest st0 : List Value} {b : Nat} {wc : va_W}
    (hx : p.tables.exec = Jvm.exec) (hb : c.code = cc) (hml : c.maxLocals = nL) (hown : s.vm.findClass own = some m.cls) (hU : ∀ w ∈ wsU, w.before args s = true) (hN : nsW s)
    (hM : Met l y (wU y bytes maxL ret) { frames := fr, cells := mc, slots := ms, locals := lo } (va_Pc (.ref b :: As) (pB D cI cL cZ H.size wc)) Qc mc ms free)
    (h1 : Cond.methodLink own idx y ∈ wsU) (h2 : Cond.instanceMethod y ∈ wsU) (h3 : Cond.selects C y y ∈ wsU) (h4 : Cond.initialized C ∈ wsU) (h5 : Cond.code y bytes maxL ret ∈ wsU)
    (hd : y.cls = C ∧ y.cls ≠ "java/lang/invoke/MethodHandle" ∧ y.cls ≠ "java/lang/invoke/VarHandle" ∧ (parseMethodDescriptor y.desc).map (fun d => d.parameters.length) = some n) (hR : fr + 1 ≤ R.frames ∧ 8 + (maxL + 11) + lo ≤ R.locals)
    (hK : va_K D vwCl (TYS cI cL cZ) s) (hP : va_P D vwCl ws H) (hD : va_D A ws) (isC : List Nat) (hn : va_nd isC = true) (hC : isC.map (fun i => ws[i]?) = wc.map some) (q0 ci : Nat) {q : vw_C} {fs : List Value} (hc : vwCl[ci]? = some q) (he : wc[q0]? = some (b, .inr (ci, fs))) (hq : q.1 = C)
    (hl : As.length = n) (hsz : ls.size = nL) (hst : st0 = As.reverse ++ .ref b :: rest) (hW : (rest.map fun v => v.category).sum ≤ 8) (hdg : decode cc pc = .ok (.invokevirtual idx, 3)) (hf : cells + mc ≤ R.cells ∧ slots + ms ≤ R.slots) :
    va_Run p l e R s m args below meth c H locs cells slots mc ms (F0 m pc ls st0) rest (Qc (Value.ref b :: As).toArray) free := by
  subst hq
  have hPc : va_P D vwCl wc H := hP.sub isC (tk_fm hC)
  have hDc : va_D A wc := hD.sub isC hn hC
  exact va_runV (Ts := wsU) ⟨hx, hb, hml, hown, hU⟩ hM (cwV n hU (gU_V h1 h2 h3 h4 h5) rfl rfl rfl hd hR) ⟨pB_blind, va_recv hK hPc hc he, fun U hU' hW' => ⟨rfl, by rw [hU'], by rw [hU']; exact hPc, va_K.moved hW'.alike hK, hDc.weaken (fun _ _ _ _ => trivial), hN.warm hW'⟩⟩ rfl hl hsz hst (lv_room hW) hdg hf
/-- a static call by contract -/
theorem tk_S {own : String} {idx maxL nL fr lo mc ms n : Nat} {y : MethodName} {bytes : ByteArray} {ret : Option FieldType} {Qc : Array Value → State → Outcome → State → Prop} {free : Addr → Prop} {As rest st0 : List Value} {wc : va_W}
    (hx : p.tables.exec = Jvm.exec) (hb : c.code = cc) (hml : c.maxLocals = nL) (hown : s.vm.findClass own = some m.cls) (hU : ∀ w ∈ wsU, w.before args s = true) (hN : nsW s)
    (hM : Met l y (wU y bytes maxL ret) { frames := fr, cells := mc, slots := ms, locals := lo } (va_Pc As (pB D cI cL cZ H.size wc)) Qc mc ms free)
    (h1 : Cond.methodLink own idx y ∈ wsU) (h2 : Cond.static y ∈ wsU) (h4 : Cond.initialized y.cls ∈ wsU) (h5 : Cond.code y bytes maxL ret ∈ wsU)
    (hd : y.cls ≠ "java/lang/invoke/MethodHandle" ∧ y.cls ≠ "java/lang/invoke/VarHandle" ∧ (parseMethodDescriptor y.desc).map (fun d => d.parameters.length) = some n) (hR : fr + 1 ≤ R.frames ∧ 8 + (maxL + 11) + lo ≤ R.locals)
    (hK : va_K D vwCl (TYS cI cL cZ) s) (hP : va_P D vwCl ws H) (hD : va_D A ws) (isC : List Nat) (hn : va_nd isC = true) (hC : isC.map (fun i => ws[i]?) = wc.map some)
    (hl : As.length = n) (hsz : ls.size = nL) (hst : st0 = As.reverse ++ rest) (hW : (rest.map fun v => v.category).sum ≤ 8) (hdg : decode cc pc = .ok (.invokestatic idx, 3)) (hf : cells + mc ≤ R.cells ∧ slots + ms ≤ R.slots) :
    va_Run p l e R s m args below meth c H locs cells slots mc ms (F0 m pc ls st0) rest (Qc As.toArray) free := by
  have hPc : va_P D vwCl wc H := hP.sub isC (tk_fm hC)
  have hDc : va_D A wc := hD.sub isC hn hC
  exact va_runS (Ts := wsU) ⟨hx, hb, hml, hown, hU⟩ hM ⟨callB_of n hU (gU_c h5) rfl rfl rfl (hU _ h4) (hU _ h1) hd hR, hU _ h2⟩ ⟨pB_blind, fun U hU' hW' => ⟨rfl, by rw [hU'], by rw [hU']; exact hPc, va_K.moved hW'.alike hK, hDc.weaken (fun _ _ _ _ => trivial), hN.warm hW'⟩⟩ rfl hl hsz hst (lv_room hW) hdg hf
/-- a constructor's call by contract -/
theorem tk_I {own : String} {idx maxL nL fr lo mc ms n : Nat} {y : MethodName} {bytes : ByteArray} {Qc : Array Value → State → Outcome → State → Prop} {free : Addr → Prop} {As rest st0 : List Value} {b : Nat} {wc : va_W}
    (hx : p.tables.exec = Jvm.exec) (hb : c.code = cc) (hml : c.maxLocals = nL) (hown : s.vm.findClass own = some m.cls) (hU : ∀ w ∈ wsU, w.before args s = true) (hN : nsW s)
    (hM : Met l y (wU y bytes maxL none) { frames := fr, cells := mc, slots := ms, locals := lo } (va_Pc (.ref b :: As) (pB D cI cL cZ H.size wc)) Qc mc ms free)
    (h1 : Cond.methodLink own idx y ∈ wsU) (h2 : Cond.instanceMethod y ∈ wsU) (h4 : Cond.initialized y.cls ∈ wsU) (h5 : Cond.code y bytes maxL none ∈ wsU) (hy : y.name = "<init>")
    (hd : y.cls ≠ "java/lang/invoke/MethodHandle" ∧ y.cls ≠ "java/lang/invoke/VarHandle" ∧ (parseMethodDescriptor y.desc).map (fun d => d.parameters.length) = some n) (hR : fr + 1 ≤ R.frames ∧ 8 + (maxL + 11) + lo ≤ R.locals)
    (hK : va_K D vwCl (TYS cI cL cZ) s) (hP : va_P D vwCl ws H) (hD : va_D A ws) (isC : List Nat) (hn : va_nd isC = true) (hC : isC.map (fun i => ws[i]?) = wc.map some)
    (hl : As.length = n) (hsz : ls.size = nL) (hst : st0 = As.reverse ++ .ref b :: rest) (hW : (rest.map fun v => v.category).sum ≤ 8) (hdg : decode cc pc = .ok (.invokespecial idx, 3)) (hf : cells + mc ≤ R.cells ∧ slots + ms ≤ R.slots) :
    va_Run p l e R s m args below meth c H locs cells slots mc ms (F0 m pc ls st0) rest (Qc (Value.ref b :: As).toArray) free := by
  have hPc : va_P D vwCl wc H := hP.sub isC (tk_fm hC)
  have hDc : va_D A wc := hD.sub isC hn hC
  exact va_runI (Ts := wsU) ⟨hx, hb, hml, hown, hU⟩ hM (cwI n hU (gU_c h5) rfl rfl rfl (hU _ h4) (hU _ h1) (hU _ h2) hy hd hR) ⟨pB_blind, fun U hU' hW' => ⟨rfl, by rw [hU'], by rw [hU']; exact hPc, va_K.moved hW'.alike hK, hDc.weaken (fun _ _ _ _ => trivial), hN.warm hW'⟩⟩ rfl hl hsz hst (lv_room hW) hdg hf
/-- a private constructor's call, of a nest mate -/
theorem tk_IN {own : String} {idx maxL nL fr lo mc ms n : Nat} {y : MethodName} {bytes : ByteArray} {Qc : Array Value → State → Outcome → State → Prop} {free : Addr → Prop} {As rest st0 : List Value} {b : Nat} {wc : va_W}
    (hx : p.tables.exec = Jvm.exec) (hb : c.code = cc) (hml : c.maxLocals = nL) (hown : s.vm.findClass own = some m.cls) (hU : ∀ w ∈ wsU, w.before args s = true) (hN : nsW s)
    (hM : Met l y (wU y bytes maxL none) { frames := fr, cells := mc, slots := ms, locals := lo } (va_Pc (.ref b :: As) (pB D cI cL cZ H.size wc)) Qc mc ms free)
    (h1 : va_Nw (.methodLinkNest own idx y "SaidShallow") s) (h2 : Cond.instanceMethod y ∈ wsU) (h4 : Cond.initialized y.cls ∈ wsU) (h5 : Cond.code y bytes maxL none ∈ wsU) (hy : y.name = "<init>")
    (hd : y.cls ≠ "java/lang/invoke/MethodHandle" ∧ y.cls ≠ "java/lang/invoke/VarHandle" ∧ (parseMethodDescriptor y.desc).map (fun d => d.parameters.length) = some n) (hR : fr + 1 ≤ R.frames ∧ 8 + (maxL + 11) + lo ≤ R.locals)
    (hK : va_K D vwCl (TYS cI cL cZ) s) (hP : va_P D vwCl ws H) (hD : va_D A ws) (isC : List Nat) (hn : va_nd isC = true) (hC : isC.map (fun i => ws[i]?) = wc.map some)
    (hl : As.length = n) (hsz : ls.size = nL) (hst : st0 = As.reverse ++ .ref b :: rest) (hW : (rest.map fun v => v.category).sum ≤ 8) (hdg : decode cc pc = .ok (.invokespecial idx, 3)) (hf : cells + mc ≤ R.cells ∧ slots + ms ≤ R.slots) :
    va_Run p l e R s m args below meth c H locs cells slots mc ms (F0 m pc ls st0) rest (Qc (Value.ref b :: As).toArray) free := by
  have hPc : va_P D vwCl wc H := hP.sub isC (tk_fm hC)
  have hDc : va_D A wc := hD.sub isC hn hC
  exact va_runIN (Ts := wsU) ⟨hx, hb, hml, hown, hU⟩ hM ⟨va_cnB n hU (gU_c h5) rfl rfl rfl h1 (hU _ h4) hd hR, hy, hU _ h2⟩ ⟨pB_blind, fun U hU' hW' => ⟨rfl, by rw [hU'], by rw [hU']; exact hPc, va_K.moved hW'.alike hK, hDc.weaken (fun _ _ _ _ => trivial), hN.warm hW'⟩⟩ rfl hl hsz hst (lv_room hW) hdg hf
/-- behind a call that answers an int -/
theorem tk_ri {mc ms : Nat} {st0 rest : List Value} {wc wr : va_W} {P : Int32 → va_W → Prop} {av : Array Value} (hr : va_Run p l e R s m args below meth c H locs cells slots mc ms (F0 m pc ls st0) rest (va_Qi P (qB D cI cL cZ (va_A wc H.size)) (va_A wc H.size) av) (va_A wc H.size))
    (hP : va_P D vwCl ws H) (hD : va_D A ws) (hS : va_S A H0 H locs) (hA : ∀ q, H0.size ≤ q → A q) (isC isR : List Nat) (hC : isC.map (fun i => ws[i]?) = wc.map some) (hR : isR.map (fun i => ws[i]?) = wr.map some) (hn : va_nd isR = true) (hdis : ∀ i ∈ isR, i ∉ isC)
    (kk : ∀ (r : Int32) (w1 : va_W) (H1 : Heap) (locs1 : List Loc), P r w1 → va_P D vwCl (wr ++ w1) H1 → va_D A (wr ++ w1) → va_S A H0 H1 locs1 → W p l e R s m args below meth c H1 locs1 (cells + mc) (slots + ms) Q (F0 m (pc + 3) ls (.int r :: rest))) : W p l e R s m args below meth c H locs cells slots Q (F0 m pc ls st0) := by
  have hF := va_free hD hS hA isC hC
  refine va_calli hr hS (fun q _ h => hF q h) hF (fun r w1 t H1 locs1 ht hvm hw hB hz1 hk1 hS1 => ?_)
  obtain ⟨hP1, hK1, hD1⟩ := hB
  rw [ht] at hP1
  obtain ⟨hP2, hD2⟩ := va_join (wr := wr) hP hD isC isR hC hR hn hdis hk1 hF hP1 hD1
  exact kk r w1 H1 locs1 hw hP2 hD2 hS1
/-- behind a call without an answer -/
theorem tk_rv {mc ms : Nat} {st0 rest : List Value} {wc wr : va_W} {P : va_W → Prop} {av : Array Value} (hr : va_Run p l e R s m args below meth c H locs cells slots mc ms (F0 m pc ls st0) rest (va_Qv P (qB D cI cL cZ (va_A wc H.size)) (va_A wc H.size) av) (va_A wc H.size))
    (hP : va_P D vwCl ws H) (hD : va_D A ws) (hS : va_S A H0 H locs) (hA : ∀ q, H0.size ≤ q → A q) (isC isR : List Nat) (hC : isC.map (fun i => ws[i]?) = wc.map some) (hR : isR.map (fun i => ws[i]?) = wr.map some) (hn : va_nd isR = true) (hdis : ∀ i ∈ isR, i ∉ isC)
    (kk : ∀ (w1 : va_W) (H1 : Heap) (locs1 : List Loc), P w1 → va_P D vwCl (wr ++ w1) H1 → va_D A (wr ++ w1) → va_S A H0 H1 locs1 → W p l e R s m args below meth c H1 locs1 (cells + mc) (slots + ms) Q (F0 m (pc + 3) ls rest)) : W p l e R s m args below meth c H locs cells slots Q (F0 m pc ls st0) := by
  have hF := va_free hD hS hA isC hC
  refine va_callv hr hS (fun q _ h => hF q h) hF (fun w1 t H1 locs1 ht hvm hw hB hz1 hk1 hS1 => ?_)
  obtain ⟨hP1, hK1, hD1⟩ := hB
  rw [ht] at hP1
  obtain ⟨hP2, hD2⟩ := va_join (wr := wr) hP hD isC isR hC hR hn hdis hk1 hF hP1 hD1
  exact kk w1 H1 locs1 hw hP2 hD2 hS1
/-- a new array of a known class -/
theorem tk_newa (hx : p.tables.exec = Jvm.exec) (hb : c.code = cc) {atype : ArrayType} {ty : FieldType} (t0 : Nat) {cA : ClassId} (harr : (Cond.arrayClass (newarray.typeOf atype)).before args s = true) (hty : newarray.typeOf atype = ty) (hra : ∀ c1 : ClassId, va_RA s c1 ty ↔ s.vm.findClass ("[" ++ ty.toString) = some c1) (hK : va_K D vwCl (TYS cI cL cZ) s) (ht : (TYS cI cL cZ)[t0]? = some (cA, ty)) (hP : va_P D vwCl ws H) (hD : va_D A ws) (hS : va_S A H0 H locs) (hA : ∀ q, H0.size ≤ q → A q)
    {n : Int32} {N' : Nat} {a0 : vp_A} (ha : ∀ cA : ClassId, vp_cell cA a0 = arrV cA N' (fun _ => defaultValue ty)) (hn : ¬ n < 0) (hN : n.toNatClampNeg = N') (hbytes : N' * componentBytes ty ≤ 536870912) (hcells : cells + 1 ≤ R.cells) (hslots : slots + N' ≤ R.slots) (hdg : decode cc pc = .ok (.newarray atype, 2))
    (kk : ∀ (q : Nat) (H1 : Heap), va_P D vwCl (ws ++ [(q, .inl (cA, a0))]) H1 → va_D A (ws ++ [(q, .inl (cA, a0))]) → va_S A H0 H1 locs →
      W p l e R s m args below meth c H1 locs (cells + 1) (slots + N') Q (F0 m (pc + 2) ls (.ref q :: rest))) : W p l e R s m args below meth c H locs cells slots Q (F0 m pc ls (.int n :: rest)) := by
  refine va_newa hx hb harr hty hK hP hD hS hA ha hn hN hbytes hcells hslots hdg (fun q cB H1 hK1 hP1 hD1 hS1 => ?_)
  have e1 := (hra _).mp (hK1.2 3 (cB, ty) rfl).2
  have e2 := (hra _).mp (hK.2 t0 (cA, ty) ht).2
  have e3 : cB = cA := Option.some.inj (e1.symm.trans e2)
  subst e3
  exact kk q H1 hP1 hD1 hS1
end TKC
end
section
section TKM
variable {p : Program} {l : Launch} {e : Env} {R : Room} {s : State} {m : MethodId} {args : Array Value} {below : List Frame} {meth : Method} {c : Code} {H : Heap} {locs : List Loc} {cells slots : Nat} {Q : State → Prop}
variable {cc : ByteArray} {pc : Nat} {ls : Array Slot} {rest : List Value} {D : va_G} {A : Nat → Prop} {a : Nat} {ws : va_W} {H0 : Heap} {cI cL cZ : ClassId}
/-- new T[n][m], of which nothing is kept but that it is a reference -/
theorem tk_mna {own : String} {index : Nat} {ty : FieldType} (hx : p.tables.exec = Jvm.exec) (hb : c.code = cc) (hown : s.vm.findClass own = some m.cls) (hclink : (Cond.classLink own index ("[" ++ (FieldType.array ty).toString)).before args s = true) (hover : va_AOA ty s) (harr : (Cond.arrayClass ty).before args s = true)
    (hP : va_P D vwCl ws H) (hD : va_D A ws) (hS : va_S A H0 H locs) {n k : Int32} {N' K' : Nat} (hn : ¬ n < 0) (hk : ¬ k < 0) (hN : n.toNatClampNeg = N') (hM : k.toNatClampNeg = K')
    (hb1 : N' * 4 ≤ 536870912) (hb2 : K' * componentBytes ty ≤ 536870912) (hb3 : K' ≤ 536870912) (hdf : fits ty (defaultValue ty) = true) (hdd : (defaultValue ty).isDefault = true) (hcells : cells + (1 + N') ≤ R.cells) (hslots : slots + (N' + N' * K') ≤ R.slots) (hdg : decode cc pc = .ok (.multianewarray index 2, 4))
    (kk : ∀ (q : Nat) (H1 : Heap), va_P D vwCl ws H1 → va_D A ws → va_S A H0 H1 locs → W p l e R s m args below meth c H1 locs (cells + 1 + N') (slots + N' + N' * K') Q (F0 m (pc + 4) ls (.ref q :: rest))) : W p l e R s m args below meth c H locs cells slots Q (F0 m pc ls (.int k :: .int n :: rest)) := by
  sorry
end TKM
end
section
set_option maxRecDepth 100000 in
theorem wd_9 : Cond.methodLink RX11 3 objectInit ∈ wsU := wsU_at 149 rfl rfl
set_option maxRecDepth 100000 in
theorem wd_10 : Cond.instanceMethod objectInit ∈ wsU := wsU_at 150 rfl rfl
set_option maxRecDepth 100000 in
theorem wd_11 : Cond.code objectInit ⟨#[0xb1]⟩ 1 none ∈ wsU := wsU_at 151 rfl rfl
set_option maxRecDepth 100000 in
theorem wd_12 : Cond.arrayClass .int ∈ wsU := wsU_at 186 rfl rfl
set_option maxRecDepth 100000 in
theorem wd_13 : Cond.fieldLink RX11 9 "SaidShallow" "tape" "[I" ∈ wsU := wsU_at 612 rfl rfl
set_option maxRecDepth 100000 in
theorem wd_14 : Cond.classLink RX11 13 RX3 ∈ wsU := wsU_at 152 rfl rfl
set_option maxRecDepth 100000 in
theorem wd_15 : Cond.instantiable RX3 18 ∈ wsU := wsU_at 153 rfl rfl
set_option maxRecDepth 100000 in
theorem wd_16 : Cond.initialized RX3 ∈ wsU := wsU_at 124 rfl rfl
set_option maxRecDepth 100000 in
theorem wd_17 : Cond.fieldLink RX11 16 "SaidShallow" "rows" "LSaidShallow$Rows;" ∈ wsU := wsU_at 614 rfl rfl
set_option maxRecDepth 100000 in
theorem wd_18 : Cond.fieldLink RX11 20 "SaidShallow$Rows" "tongue" "LSaidShallow$Tongue;" ∈ wsU := wsU_at 423 rfl rfl
set_option maxRecDepth 100000 in
theorem wd_19 : Cond.fieldLink RX11 24 "SaidShallow" "tongue" "LSaidShallow$Tongue;" ∈ wsU := wsU_at 615 rfl rfl
set_option maxRecDepth 100000 in
theorem wd_20 : Cond.fieldLink RX11 25 "SaidShallow$Rows" "words" "LSaidShallow$Words;" ∈ wsU := wsU_at 426 rfl rfl
set_option maxRecDepth 100000 in
theorem wd_21 : Cond.fieldLink RX11 29 "SaidShallow" "words" "LSaidShallow$Words;" ∈ wsU := wsU_at 616 rfl rfl
set_option maxRecDepth 100000 in
theorem wd_22 : Cond.classLink RX11 30 RX6 ∈ wsU := wsU_at 483 rfl rfl
set_option maxRecDepth 100000 in
theorem wd_23 : Cond.instantiable RX6 9 ∈ wsU := wsU_at 484 rfl rfl
set_option maxRecDepth 100000 in
theorem wd_24 : Cond.initialized RX6 ∈ wsU := wsU_at 132 rfl rfl
set_option maxRecDepth 100000 in
theorem wd_25 : Cond.fieldLink RX11 33 "SaidShallow" "standing" "LSaidShallow$Standing;" ∈ wsU := wsU_at 617 rfl rfl
set_option maxRecDepth 100000 in
theorem wd_26 : Cond.classLink RX11 37 RX7 ∈ wsU := wsU_at 526 rfl rfl
set_option maxRecDepth 100000 in
theorem wd_27 : Cond.instantiable RX7 16 ∈ wsU := wsU_at 159 rfl rfl
set_option maxRecDepth 100000 in
theorem wd_28 : Cond.initialized RX7 ∈ wsU := wsU_at 125 rfl rfl
set_option maxRecDepth 100000 in
theorem wd_29 : Cond.fieldLink RX11 40 "SaidShallow" "imageTongue" "LSaidShallow$Tongue;" ∈ wsU := wsU_at 618 rfl rfl
set_option maxRecDepth 100000 in
theorem wd_30 : Cond.fieldLink RX11 43 "SaidShallow" "imageStanding" "LSaidShallow$Standing;" ∈ wsU := wsU_at 619 rfl rfl
set_option maxRecDepth 100000 in
theorem wd_31 : Cond.classLink RX11 46 RX2 ∈ wsU := wsU_at 528 rfl rfl
set_option maxRecDepth 100000 in
theorem wd_32 : Cond.instantiable RX2 10 ∈ wsU := wsU_at 529 rfl rfl
set_option maxRecDepth 100000 in
theorem wd_33 : Cond.initialized RX2 ∈ wsU := wsU_at 133 rfl rfl
set_option maxRecDepth 100000 in
theorem wd_34 : Cond.fieldLink RX11 49 "SaidShallow" "reader" "LSaidShallow$Reader;" ∈ wsU := wsU_at 621 rfl rfl
set_option maxRecDepth 100000 in
theorem wd_35 : Cond.classLink RX11 53 RX0 ∈ wsU := wsU_at 570 rfl rfl
set_option maxRecDepth 100000 in
theorem wd_36 : Cond.instantiable RX0 11 ∈ wsU := wsU_at 571 rfl rfl
set_option maxRecDepth 100000 in
theorem wd_37 : Cond.initialized RX0 ∈ wsU := wsU_at 134 rfl rfl
set_option maxRecDepth 100000 in
theorem wd_38 : Cond.fieldLink RX11 56 "SaidShallow" "bestOrder" "LSaidShallow$BestOrder;" ∈ wsU := wsU_at 622 rfl rfl
set_option maxRecDepth 100000 in
theorem wd_39 : Cond.fieldLink RX11 60 "SaidShallow" "couples" "[I" ∈ wsU := wsU_at 623 rfl rfl
set_option maxRecDepth 100000 in
theorem wd_40 : Cond.fieldLink RX11 63 "SaidShallow" "brokenPlace" "I" ∈ wsU := wsU_at 625 rfl rfl
set_option maxRecDepth 100000 in
theorem wd_41 : Cond.fieldLink RX11 67 "SaidShallow" "agedWord" "[I" ∈ wsU := wsU_at 626 rfl rfl
set_option maxRecDepth 100000 in
theorem wd_42 : Cond.fieldLink RX11 70 "SaidShallow" "told" "[I" ∈ wsU := wsU_at 628 rfl rfl
set_option maxRecDepth 100000 in
theorem wd_43 : Cond.fieldLink RX11 73 "SaidShallow" "joined" "[I" ∈ wsU := wsU_at 629 rfl rfl
set_option maxRecDepth 100000 in
theorem wd_44 : Cond.instanceMethod yX3_init ∈ wsU := wsU_at 155 rfl rfl
set_option maxRecDepth 100000 in
theorem wd_45 : Cond.code yX3_init cX3_init 1 none ∈ wsU := wsU_at 156 rfl rfl
set_option maxRecDepth 100000 in
theorem wd_46 : Cond.methodLink RX3 7 objectInit ∈ wsU := wsU_at 157 rfl rfl
set_option maxRecDepth 100000 in
theorem wd_47 : Cond.classLink RX3 1 RX7 ∈ wsU := wsU_at 158 rfl rfl
set_option maxRecDepth 100000 in
theorem wd_48 : Cond.fieldLink RX3 14 "SaidShallow$Rows" "tongue" "LSaidShallow$Tongue;" ∈ wsU := wsU_at 422 rfl rfl
set_option maxRecDepth 100000 in
theorem wd_49 : Cond.classLink RX3 18 RX10 ∈ wsU := wsU_at 354 rfl rfl
set_option maxRecDepth 100000 in
theorem wd_50 : Cond.instantiable RX10 3 ∈ wsU := wsU_at 355 rfl rfl
set_option maxRecDepth 100000 in
theorem wd_51 : Cond.initialized RX10 ∈ wsU := wsU_at 129 rfl rfl
set_option maxRecDepth 100000 in
theorem wd_52 : Cond.fieldLink RX3 21 "SaidShallow$Rows" "words" "LSaidShallow$Words;" ∈ wsU := wsU_at 425 rfl rfl
set_option maxRecDepth 100000 in
theorem wd_53 : Cond.classLink RX3 25 RX8 ∈ wsU := wsU_at 373 rfl rfl
set_option maxRecDepth 100000 in
theorem wd_54 : Cond.instantiable RX8 5 ∈ wsU := wsU_at 374 rfl rfl
set_option maxRecDepth 100000 in
theorem wd_55 : Cond.initialized RX8 ∈ wsU := wsU_at 130 rfl rfl
set_option maxRecDepth 100000 in
theorem wd_56 : Cond.fieldLink RX3 28 "SaidShallow$Rows" "track" "LSaidShallow$Track;" ∈ wsU := wsU_at 427 rfl rfl
set_option maxRecDepth 100000 in
theorem wd_57 : Cond.classLink RX3 32 RX1 ∈ wsU := wsU_at 395 rfl rfl
set_option maxRecDepth 100000 in
theorem wd_58 : Cond.instantiable RX1 6 ∈ wsU := wsU_at 396 rfl rfl
set_option maxRecDepth 100000 in
theorem wd_59 : Cond.initialized RX1 ∈ wsU := wsU_at 131 rfl rfl
set_option maxRecDepth 100000 in
theorem wd_60 : Cond.fieldLink RX3 35 "SaidShallow$Rows" "deadEnds" "LSaidShallow$DeadEnds;" ∈ wsU := wsU_at 428 rfl rfl
set_option maxRecDepth 100000 in
theorem wd_61 : Cond.fieldLink RX3 39 "SaidShallow$Rows" "given" "[I" ∈ wsU := wsU_at 429 rfl rfl
set_option maxRecDepth 100000 in
theorem wd_62 : Cond.fieldLink RX3 43 "SaidShallow$Rows" "wanted" "I" ∈ wsU := wsU_at 436 rfl rfl
set_option maxRecDepth 100000 in
theorem wd_63 : Cond.fieldLink RX3 47 "SaidShallow$Rows" "row" "[I" ∈ wsU := wsU_at 437 rfl rfl
set_option maxRecDepth 100000 in
theorem wd_64 : Cond.fieldLink RX3 50 "SaidShallow$Rows" "codes" "[I" ∈ wsU := wsU_at 438 rfl rfl
set_option maxRecDepth 100000 in
theorem wd_65 : Cond.fieldLink RX3 53 "SaidShallow$Rows" "masks" "[I" ∈ wsU := wsU_at 440 rfl rfl
set_option maxRecDepth 100000 in
theorem wd_66 : Cond.fieldLink RX3 56 "SaidShallow$Rows" "marks" "[I" ∈ wsU := wsU_at 444 rfl rfl
set_option maxRecDepth 100000 in
theorem wd_67 : Cond.fieldLink RX3 59 "SaidShallow$Rows" "needed" "[I" ∈ wsU := wsU_at 445 rfl rfl
set_option maxRecDepth 100000 in
theorem wd_68 : Cond.methodLink RX3 13 yX7_init ∈ wsU := wsU_at 160 rfl rfl
set_option maxRecDepth 100000 in
theorem wd_69 : Cond.instanceMethod yX7_init ∈ wsU := wsU_at 161 rfl rfl
set_option maxRecDepth 100000 in
theorem wd_70 : Cond.code yX7_init cX7_init 2 none ∈ wsU := wsU_at 162 rfl rfl
set_option maxRecDepth 100000 in
theorem wd_71 : Cond.methodLink RX7 3 objectInit ∈ wsU := wsU_at 163 rfl rfl
set_option maxRecDepth 100000 in
theorem wd_72 : Cond.fieldLink RX7 9 "SaidShallow$Tongue" "signAt" "[I" ∈ wsU := wsU_at 275 rfl rfl
set_option maxRecDepth 100000 in
theorem wd_73 : Cond.fieldLink RX7 15 "SaidShallow$Tongue" "classes" "[I" ∈ wsU := wsU_at 281 rfl rfl
set_option maxRecDepth 100000 in
theorem wd_74 : Cond.fieldLink RX7 18 "SaidShallow$Tongue" "pairAt" "[I" ∈ wsU := wsU_at 284 rfl rfl
set_option maxRecDepth 100000 in
theorem wd_75 : Cond.fieldLink RX7 21 "SaidShallow$Tongue" "deepOf" "[I" ∈ wsU := wsU_at 285 rfl rfl
set_option maxRecDepth 100000 in
theorem wd_76 : Cond.fieldLink RX7 24 "SaidShallow$Tongue" "saidOf" "[I" ∈ wsU := wsU_at 289 rfl rfl
set_option maxRecDepth 100000 in
theorem wd_77 : Cond.fieldLink RX7 27 "SaidShallow$Tongue" "extrasOfDeep" "[I" ∈ wsU := wsU_at 297 rfl rfl
set_option maxRecDepth 100000 in
theorem wd_78 : Cond.fieldLink RX7 30 "SaidShallow$Tongue" "extrasOfSaid" "[I" ∈ wsU := wsU_at 298 rfl rfl
set_option maxRecDepth 100000 in
theorem wd_79 : Cond.fieldLink RX7 33 "SaidShallow$Tongue" "pairsOfDeep" "[I" ∈ wsU := wsU_at 299 rfl rfl
set_option maxRecDepth 100000 in
theorem wd_80 : Cond.fieldLink RX7 36 "SaidShallow$Tongue" "pairsOfSaid" "[I" ∈ wsU := wsU_at 301 rfl rfl
set_option maxRecDepth 100000 in
theorem wd_81 : Cond.classLink RX7 39 RX4 ∈ wsU := wsU_at 164 rfl rfl
set_option maxRecDepth 100000 in
theorem wd_82 : Cond.fieldLink RX7 41 "SaidShallow$Tongue" "rules" "[LSaidShallow$Rule;" ∈ wsU := wsU_at 303 rfl rfl
set_option maxRecDepth 100000 in
theorem wd_83 : Cond.classLink RX7 45 RX9 ∈ wsU := wsU_at 166 rfl rfl
set_option maxRecDepth 100000 in
theorem wd_84 : Cond.instantiable RX9 3 ∈ wsU := wsU_at 167 rfl rfl
set_option maxRecDepth 100000 in
theorem wd_85 : Cond.initialized RX9 ∈ wsU := wsU_at 126 rfl rfl
set_option maxRecDepth 100000 in
theorem wd_86 : Cond.fieldLink RX7 50 "SaidShallow$Tongue" "stems" "LSaidShallow$WordList;" ∈ wsU := wsU_at 314 rfl rfl
set_option maxRecDepth 100000 in
theorem wd_87 : Cond.fieldLink RX7 54 "SaidShallow$Tongue" "ends" "LSaidShallow$WordList;" ∈ wsU := wsU_at 317 rfl rfl
set_option maxRecDepth 100000 in
theorem wd_88 : Cond.fieldLink RX7 57 "SaidShallow$Tongue" "row" "[I" ∈ wsU := wsU_at 320 rfl rfl
set_option maxRecDepth 100000 in
theorem wd_89 : Cond.instantiable RX4 11 ∈ wsU := wsU_at 187 rfl rfl
set_option maxRecDepth 100000 in
theorem wd_90 : Cond.initialized RX4 ∈ wsU := wsU_at 127 rfl rfl
set_option maxRecDepth 100000 in
theorem wd_91 : Cond.methodLink RX7 47 yX9_init ∈ wsU := wsU_at 168 rfl rfl
set_option maxRecDepth 100000 in
theorem wd_92 : Cond.instanceMethod yX9_init ∈ wsU := wsU_at 169 rfl rfl
set_option maxRecDepth 100000 in
theorem wd_93 : Cond.code yX9_init cX9_init 2 none ∈ wsU := wsU_at 170 rfl rfl
set_option maxRecDepth 100000 in
theorem wd_94 : Cond.methodLink RX9 3 objectInit ∈ wsU := wsU_at 171 rfl rfl
set_option maxRecDepth 100000 in
theorem wd_95 : Cond.fieldLink RX9 9 "SaidShallow$WordList" "signs" "[I" ∈ wsU := wsU_at 172 rfl rfl
set_option maxRecDepth 100000 in
theorem wd_96 : Cond.fieldLink RX9 15 "SaidShallow$WordList" "lengths" "[I" ∈ wsU := wsU_at 173 rfl rfl
set_option maxRecDepth 100000 in
theorem wd_97 : Cond.instanceMethod yX4_init ∈ wsU := wsU_at 189 rfl rfl
set_option maxRecDepth 100000 in
theorem wd_98 : Cond.code yX4_init cX4_init 1 none ∈ wsU := wsU_at 190 rfl rfl
set_option maxRecDepth 100000 in
theorem wd_99 : Cond.methodLink RX4 3 objectInit ∈ wsU := wsU_at 191 rfl rfl
set_option maxRecDepth 100000 in
theorem wd_100 : Cond.classLink RX4 9 RX5 ∈ wsU := wsU_at 192 rfl rfl
set_option maxRecDepth 100000 in
theorem wd_101 : Cond.instantiable RX5 6 ∈ wsU := wsU_at 193 rfl rfl
set_option maxRecDepth 100000 in
theorem wd_102 : Cond.initialized RX5 ∈ wsU := wsU_at 128 rfl rfl
set_option maxRecDepth 100000 in
theorem wd_103 : Cond.fieldLink RX4 12 "SaidShallow$Rule" "left" "LSaidShallow$Side;" ∈ wsU := wsU_at 233 rfl rfl
set_option maxRecDepth 100000 in
theorem wd_104 : Cond.fieldLink RX4 18 "SaidShallow$Rule" "right" "LSaidShallow$Side;" ∈ wsU := wsU_at 237 rfl rfl
set_option maxRecDepth 100000 in
theorem wd_105 : Cond.fieldLink RX4 21 "SaidShallow$Rule" "roles" "[I" ∈ wsU := wsU_at 240 rfl rfl
set_option maxRecDepth 100000 in
theorem wd_106 : Cond.fieldLink RX4 25 "SaidShallow$Rule" "opened" "[I" ∈ wsU := wsU_at 242 rfl rfl
set_option maxRecDepth 100000 in
theorem wd_107 : Cond.instanceMethod yX5_init ∈ wsU := wsU_at 195 rfl rfl
set_option maxRecDepth 100000 in
theorem wd_108 : Cond.code yX5_init cX5_init 1 none ∈ wsU := wsU_at 196 rfl rfl
set_option maxRecDepth 100000 in
theorem wd_109 : Cond.methodLink RX5 5 objectInit ∈ wsU := wsU_at 197 rfl rfl
set_option maxRecDepth 100000 in
theorem wd_110 : Cond.fieldLink RX5 11 "SaidShallow$Side" "deepSets" "[I" ∈ wsU := wsU_at 198 rfl rfl
set_option maxRecDepth 100000 in
theorem wd_111 : Cond.fieldLink RX5 15 "SaidShallow$Side" "saidSets" "[I" ∈ wsU := wsU_at 199 rfl rfl
set_option maxRecDepth 100000 in
theorem wd_112 : Cond.fieldLink RX5 18 "SaidShallow$Side" "fitting" "[I" ∈ wsU := wsU_at 200 rfl rfl
set_option maxRecDepth 100000 in
theorem wd_113 : Cond.instanceMethod yX10_init ∈ wsU := wsU_at 357 rfl rfl
set_option maxRecDepth 100000 in
theorem wd_114 : Cond.code yX10_init cX10_init 1 none ∈ wsU := wsU_at 358 rfl rfl
set_option maxRecDepth 100000 in
theorem wd_115 : Cond.methodLink RX10 3 objectInit ∈ wsU := wsU_at 359 rfl rfl
set_option maxRecDepth 100000 in
theorem wd_116 : Cond.fieldLink RX10 11 "SaidShallow$Words" "codes" "[I" ∈ wsU := wsU_at 360 rfl rfl
set_option maxRecDepth 100000 in
theorem wd_117 : Cond.instanceMethod yX8_init ∈ wsU := wsU_at 376 rfl rfl
set_option maxRecDepth 100000 in
theorem wd_118 : Cond.code yX8_init cX8_init 1 none ∈ wsU := wsU_at 377 rfl rfl
set_option maxRecDepth 100000 in
theorem wd_119 : Cond.methodLink RX8 7 objectInit ∈ wsU := wsU_at 378 rfl rfl
set_option maxRecDepth 100000 in
theorem wd_120 : Cond.fieldLink RX8 13 "SaidShallow$Track" "left" "[I" ∈ wsU := wsU_at 379 rfl rfl
set_option maxRecDepth 100000 in
theorem wd_121 : Cond.fieldLink RX8 17 "SaidShallow$Track" "barred" "[I" ∈ wsU := wsU_at 380 rfl rfl
set_option maxRecDepth 100000 in
theorem wd_122 : Cond.fieldLink RX8 20 "SaidShallow$Track" "owedCount" "[I" ∈ wsU := wsU_at 381 rfl rfl
set_option maxRecDepth 100000 in
theorem wd_123 : Cond.fieldLink RX8 23 "SaidShallow$Track" "owed" "[I" ∈ wsU := wsU_at 382 rfl rfl
set_option maxRecDepth 100000 in
theorem wd_124 : Cond.fieldLink RX8 26 "SaidShallow$Track" "broken" "[I" ∈ wsU := wsU_at 383 rfl rfl
set_option maxRecDepth 100000 in
theorem wd_125 : Cond.instanceMethod yX1_init ∈ wsU := wsU_at 398 rfl rfl
set_option maxRecDepth 100000 in
theorem wd_126 : Cond.code yX1_init cX1_init 1 none ∈ wsU := wsU_at 399 rfl rfl
set_option maxRecDepth 100000 in
theorem wd_127 : Cond.methodLink RX1 3 objectInit ∈ wsU := wsU_at 400 rfl rfl
set_option maxRecDepth 100000 in
theorem wd_128 : Cond.fieldLink RX1 11 "SaidShallow$DeadEnds" "slots" "[I" ∈ wsU := wsU_at 402 rfl rfl
set_option maxRecDepth 100000 in
theorem wd_129 : Cond.constant RX1 15 (32768) ∈ wsU := wsU_at 401 rfl rfl
set_option maxRecDepth 100000 in
theorem wd_130 : Cond.arrayClass .long ∈ wsU := wsU_at 421 rfl rfl
set_option maxRecDepth 100000 in
theorem wd_131 : Cond.fieldLink RX1 16 "SaidShallow$DeadEnds" "pool" "[J" ∈ wsU := wsU_at 403 rfl rfl
set_option maxRecDepth 100000 in
theorem wd_132 : Cond.fieldLink RX1 22 "SaidShallow$DeadEnds" "key" "[J" ∈ wsU := wsU_at 404 rfl rfl
set_option maxRecDepth 100000 in
theorem wd_133 : Cond.instanceMethod yX6_init ∈ wsU := wsU_at 486 rfl rfl
set_option maxRecDepth 100000 in
theorem wd_134 : Cond.code yX6_init cX6_init 1 none ∈ wsU := wsU_at 487 rfl rfl
set_option maxRecDepth 100000 in
theorem wd_135 : Cond.methodLink RX6 3 objectInit ∈ wsU := wsU_at 488 rfl rfl
set_option maxRecDepth 100000 in
theorem wd_136 : Cond.fieldLink RX6 9 "SaidShallow$Standing" "slack" "I" ∈ wsU := wsU_at 494 rfl rfl
set_option maxRecDepth 100000 in
theorem wd_137 : Cond.fieldLink RX6 15 "SaidShallow$Standing" "order" "[I" ∈ wsU := wsU_at 497 rfl rfl
set_option maxRecDepth 100000 in
theorem wd_138 : Cond.classLink RX6 19 RX9 ∈ wsU := wsU_at 489 rfl rfl
set_option maxRecDepth 100000 in
theorem wd_139 : Cond.fieldLink RX6 24 "SaidShallow$Standing" "deeps" "LSaidShallow$WordList;" ∈ wsU := wsU_at 499 rfl rfl
set_option maxRecDepth 100000 in
theorem wd_140 : Cond.fieldLink RX6 28 "SaidShallow$Standing" "saids" "LSaidShallow$WordList;" ∈ wsU := wsU_at 501 rfl rfl
set_option maxRecDepth 100000 in
theorem wd_141 : Cond.fieldLink RX6 31 "SaidShallow$Standing" "breaks" "[I" ∈ wsU := wsU_at 504 rfl rfl
set_option maxRecDepth 100000 in
theorem wd_142 : Cond.fieldLink RX6 34 "SaidShallow$Standing" "ways" "[I" ∈ wsU := wsU_at 505 rfl rfl
set_option maxRecDepth 100000 in
theorem wd_143 : Cond.fieldLink RX6 37 "SaidShallow$Standing" "word" "[I" ∈ wsU := wsU_at 506 rfl rfl
set_option maxRecDepth 100000 in
theorem wd_144 : Cond.methodLink RX6 21 yX9_init ∈ wsU := wsU_at 490 rfl rfl
set_option maxRecDepth 100000 in
theorem wd_145 : Cond.methodLink RX11 39 yX7_init ∈ wsU := wsU_at 527 rfl rfl
set_option maxRecDepth 100000 in
theorem wd_146 : Cond.instanceMethod yX2_init ∈ wsU := wsU_at 531 rfl rfl
set_option maxRecDepth 100000 in
theorem wd_147 : Cond.code yX2_init cX2_init 1 none ∈ wsU := wsU_at 532 rfl rfl
set_option maxRecDepth 100000 in
theorem wd_148 : Cond.methodLink RX2 3 objectInit ∈ wsU := wsU_at 533 rfl rfl
set_option maxRecDepth 100000 in
theorem wd_149 : Cond.classLink RX2 9 RX7 ∈ wsU := wsU_at 534 rfl rfl
set_option maxRecDepth 100000 in
theorem wd_150 : Cond.fieldLink RX2 12 "SaidShallow$Reader" "draft" "LSaidShallow$Tongue;" ∈ wsU := wsU_at 536 rfl rfl
set_option maxRecDepth 100000 in
theorem wd_151 : Cond.fieldLink RX2 18 "SaidShallow$Reader" "faultPlace" "I" ∈ wsU := wsU_at 540 rfl rfl
set_option maxRecDepth 100000 in
theorem wd_152 : Cond.fieldLink RX2 22 "SaidShallow$Reader" "signs" "[I" ∈ wsU := wsU_at 542 rfl rfl
set_option maxRecDepth 100000 in
theorem wd_153 : Cond.methodLink RX2 11 yX7_init ∈ wsU := wsU_at 535 rfl rfl
set_option maxRecDepth 100000 in
theorem wd_154 : Cond.instanceMethod yX0_init ∈ wsU := wsU_at 573 rfl rfl
set_option maxRecDepth 100000 in
theorem wd_155 : Cond.code yX0_init cX0_init 1 none ∈ wsU := wsU_at 574 rfl rfl
set_option maxRecDepth 100000 in
theorem wd_156 : Cond.methodLink RX0 3 objectInit ∈ wsU := wsU_at 575 rfl rfl
set_option maxRecDepth 100000 in
theorem wd_157 : Cond.fieldLink RX0 11 "SaidShallow$BestOrder" "after" "[I" ∈ wsU := wsU_at 576 rfl rfl
set_option maxRecDepth 100000 in
theorem wd_158 : Cond.fieldLink RX0 15 "SaidShallow$BestOrder" "agrees" "[I" ∈ wsU := wsU_at 577 rfl rfl
set_option maxRecDepth 100000 in
theorem wd_159 : Cond.fieldLink RX0 18 "SaidShallow$BestOrder" "inUse" "[I" ∈ wsU := wsU_at 578 rfl rfl
set_option maxRecDepth 100000 in
theorem wd_160 : Cond.fieldLink RX0 21 "SaidShallow$BestOrder" "path" "[I" ∈ wsU := wsU_at 580 rfl rfl
set_option maxRecDepth 100000 in
theorem wd_161 : Cond.fieldLink RX0 24 "SaidShallow$BestOrder" "stages" "[I" ∈ wsU := wsU_at 581 rfl rfl
set_option maxRecDepth 100000 in
theorem wd_162 : Cond.fieldLink RX0 27 "SaidShallow$BestOrder" "best" "[I" ∈ wsU := wsU_at 582 rfl rfl
set_option maxRecDepth 100000 in
theorem wd_163 : Cond.fieldLink RX0 30 "SaidShallow$BestOrder" "word" "[I" ∈ wsU := wsU_at 586 rfl rfl
set_option maxRecDepth 100000 in
theorem wd_164 : Cond.fieldLink RX0 33 "SaidShallow$BestOrder" "knownChanges" "I" ∈ wsU := wsU_at 588 rfl rfl
set_option maxRecDepth 100000 in
theorem inlX0 : ∀ w ∈ wsX00, w ∈ wsU := by
  show ∀ w ∈ [u_lay RX0 TX0 0, u_lay RX0 TX0 1, u_lay RX0 TX0 2, u_lay RX0 TX0 3, u_lay RX0 TX0 4, u_lay RX0 TX0 5, u_lay RX0 TX0 6, u_lay RX0 TX0 7, u_lay RX0 TX0 8, u_lay RX0 TX0 9, u_lay RX0 TX0 10], w ∈ wsU
  exact List.forall_mem_cons.mpr ⟨wsU_at (w := u_lay RX0 TX0 0) 589 rfl rfl, List.forall_mem_cons.mpr ⟨wsU_at (w := u_lay RX0 TX0 1) 591 rfl rfl, List.forall_mem_cons.mpr ⟨wsU_at (w := u_lay RX0 TX0 2) 593 rfl rfl, List.forall_mem_cons.mpr ⟨wsU_at (w := u_lay RX0 TX0 3) 595 rfl rfl, List.forall_mem_cons.mpr ⟨wsU_at (w := u_lay RX0 TX0 4) 597 rfl rfl, List.forall_mem_cons.mpr ⟨wsU_at (w := u_lay RX0 TX0 5) 599 rfl rfl, List.forall_mem_cons.mpr ⟨wsU_at (w := u_lay RX0 TX0 6) 601 rfl rfl, List.forall_mem_cons.mpr ⟨wsU_at (w := u_lay RX0 TX0 7) 603 rfl rfl, List.forall_mem_cons.mpr ⟨wsU_at (w := u_lay RX0 TX0 8) 605 rfl rfl, List.forall_mem_cons.mpr ⟨wsU_at (w := u_lay RX0 TX0 9) 607 rfl rfl, List.forall_mem_cons.mpr ⟨wsU_at (w := u_lay RX0 TX0 10) 609 rfl rfl, fun _ h => absurd h List.not_mem_nil⟩⟩⟩⟩⟩⟩⟩⟩⟩⟩⟩
set_option maxRecDepth 100000 in
theorem inlX1 : ∀ w ∈ wsX10, w ∈ wsU := by
  show ∀ w ∈ [u_lay RX1 TX1 0, u_lay RX1 TX1 1, u_lay RX1 TX1 2, u_lay RX1 TX1 3, u_lay RX1 TX1 4, u_lay RX1 TX1 5], w ∈ wsU
  exact List.forall_mem_cons.mpr ⟨wsU_at (w := u_lay RX1 TX1 0) 408 rfl rfl, List.forall_mem_cons.mpr ⟨wsU_at (w := u_lay RX1 TX1 1) 410 rfl rfl, List.forall_mem_cons.mpr ⟨wsU_at (w := u_lay RX1 TX1 2) 412 rfl rfl, List.forall_mem_cons.mpr ⟨wsU_at (w := u_lay RX1 TX1 3) 414 rfl rfl, List.forall_mem_cons.mpr ⟨wsU_at (w := u_lay RX1 TX1 4) 416 rfl rfl, List.forall_mem_cons.mpr ⟨wsU_at (w := u_lay RX1 TX1 5) 418 rfl rfl, fun _ h => absurd h List.not_mem_nil⟩⟩⟩⟩⟩⟩
set_option maxRecDepth 100000 in
theorem inlX2 : ∀ w ∈ wsX20, w ∈ wsU := by
  show ∀ w ∈ [u_lay RX2 TX2 0, u_lay RX2 TX2 1, u_lay RX2 TX2 2, u_lay RX2 TX2 3, u_lay RX2 TX2 4, u_lay RX2 TX2 5, u_lay RX2 TX2 6, u_lay RX2 TX2 7, u_lay RX2 TX2 8, u_lay RX2 TX2 9], w ∈ wsU
  exact List.forall_mem_cons.mpr ⟨wsU_at (w := u_lay RX2 TX2 0) 549 rfl rfl, List.forall_mem_cons.mpr ⟨wsU_at (w := u_lay RX2 TX2 1) 551 rfl rfl, List.forall_mem_cons.mpr ⟨wsU_at (w := u_lay RX2 TX2 2) 553 rfl rfl, List.forall_mem_cons.mpr ⟨wsU_at (w := u_lay RX2 TX2 3) 555 rfl rfl, List.forall_mem_cons.mpr ⟨wsU_at (w := u_lay RX2 TX2 4) 557 rfl rfl, List.forall_mem_cons.mpr ⟨wsU_at (w := u_lay RX2 TX2 5) 559 rfl rfl, List.forall_mem_cons.mpr ⟨wsU_at (w := u_lay RX2 TX2 6) 561 rfl rfl, List.forall_mem_cons.mpr ⟨wsU_at (w := u_lay RX2 TX2 7) 563 rfl rfl, List.forall_mem_cons.mpr ⟨wsU_at (w := u_lay RX2 TX2 8) 565 rfl rfl, List.forall_mem_cons.mpr ⟨wsU_at (w := u_lay RX2 TX2 9) 567 rfl rfl, fun _ h => absurd h List.not_mem_nil⟩⟩⟩⟩⟩⟩⟩⟩⟩⟩
set_option maxRecDepth 100000 in
theorem inlX3 : ∀ w ∈ wsX30, w ∈ wsU := by
  show ∀ w ∈ [u_lay RX3 TX3 0, u_lay RX3 TX3 1, u_lay RX3 TX3 2, u_lay RX3 TX3 3, u_lay RX3 TX3 4, u_lay RX3 TX3 5, u_lay RX3 TX3 6, u_lay RX3 TX3 7, u_lay RX3 TX3 8, u_lay RX3 TX3 9, u_lay RX3 TX3 10, u_lay RX3 TX3 11, u_lay RX3 TX3 12, u_lay RX3 TX3 13, u_lay RX3 TX3 14, u_lay RX3 TX3 15, u_lay RX3 TX3 16, u_lay RX3 TX3 17], w ∈ wsU
  exact List.forall_mem_cons.mpr ⟨wsU_at (w := u_lay RX3 TX3 0) 446 rfl rfl, List.forall_mem_cons.mpr ⟨wsU_at (w := u_lay RX3 TX3 1) 448 rfl rfl, List.forall_mem_cons.mpr ⟨wsU_at (w := u_lay RX3 TX3 2) 450 rfl rfl, List.forall_mem_cons.mpr ⟨wsU_at (w := u_lay RX3 TX3 3) 452 rfl rfl, List.forall_mem_cons.mpr ⟨wsU_at (w := u_lay RX3 TX3 4) 454 rfl rfl, List.forall_mem_cons.mpr ⟨wsU_at (w := u_lay RX3 TX3 5) 456 rfl rfl, List.forall_mem_cons.mpr ⟨wsU_at (w := u_lay RX3 TX3 6) 458 rfl rfl, List.forall_mem_cons.mpr ⟨wsU_at (w := u_lay RX3 TX3 7) 460 rfl rfl, List.forall_mem_cons.mpr ⟨wsU_at (w := u_lay RX3 TX3 8) 462 rfl rfl, List.forall_mem_cons.mpr ⟨wsU_at (w := u_lay RX3 TX3 9) 464 rfl rfl, List.forall_mem_cons.mpr ⟨wsU_at (w := u_lay RX3 TX3 10) 466 rfl rfl, List.forall_mem_cons.mpr ⟨wsU_at (w := u_lay RX3 TX3 11) 468 rfl rfl, List.forall_mem_cons.mpr ⟨wsU_at (w := u_lay RX3 TX3 12) 470 rfl rfl, List.forall_mem_cons.mpr ⟨wsU_at (w := u_lay RX3 TX3 13) 472 rfl rfl, List.forall_mem_cons.mpr ⟨wsU_at (w := u_lay RX3 TX3 14) 474 rfl rfl, List.forall_mem_cons.mpr ⟨wsU_at (w := u_lay RX3 TX3 15) 476 rfl rfl, List.forall_mem_cons.mpr ⟨wsU_at (w := u_lay RX3 TX3 16) 478 rfl rfl, List.forall_mem_cons.mpr ⟨wsU_at (w := u_lay RX3 TX3 17) 480 rfl rfl, fun _ h => absurd h List.not_mem_nil⟩⟩⟩⟩⟩⟩⟩⟩⟩⟩⟩⟩⟩⟩⟩⟩⟩⟩
set_option maxRecDepth 100000 in
theorem inlX4 : ∀ w ∈ wsX40, w ∈ wsU := by
  show ∀ w ∈ [u_lay RX4 TX4 0, u_lay RX4 TX4 1, u_lay RX4 TX4 2, u_lay RX4 TX4 3, u_lay RX4 TX4 4, u_lay RX4 TX4 5, u_lay RX4 TX4 6, u_lay RX4 TX4 7, u_lay RX4 TX4 8, u_lay RX4 TX4 9, u_lay RX4 TX4 10], w ∈ wsU
  exact List.forall_mem_cons.mpr ⟨wsU_at (w := u_lay RX4 TX4 0) 252 rfl rfl, List.forall_mem_cons.mpr ⟨wsU_at (w := u_lay RX4 TX4 1) 254 rfl rfl, List.forall_mem_cons.mpr ⟨wsU_at (w := u_lay RX4 TX4 2) 256 rfl rfl, List.forall_mem_cons.mpr ⟨wsU_at (w := u_lay RX4 TX4 3) 258 rfl rfl, List.forall_mem_cons.mpr ⟨wsU_at (w := u_lay RX4 TX4 4) 260 rfl rfl, List.forall_mem_cons.mpr ⟨wsU_at (w := u_lay RX4 TX4 5) 262 rfl rfl, List.forall_mem_cons.mpr ⟨wsU_at (w := u_lay RX4 TX4 6) 264 rfl rfl, List.forall_mem_cons.mpr ⟨wsU_at (w := u_lay RX4 TX4 7) 266 rfl rfl, List.forall_mem_cons.mpr ⟨wsU_at (w := u_lay RX4 TX4 8) 268 rfl rfl, List.forall_mem_cons.mpr ⟨wsU_at (w := u_lay RX4 TX4 9) 270 rfl rfl, List.forall_mem_cons.mpr ⟨wsU_at (w := u_lay RX4 TX4 10) 272 rfl rfl, fun _ h => absurd h List.not_mem_nil⟩⟩⟩⟩⟩⟩⟩⟩⟩⟩⟩
set_option maxRecDepth 100000 in
theorem inlX5 : ∀ w ∈ wsX50, w ∈ wsU := by
  show ∀ w ∈ [u_lay RX5 TX5 0, u_lay RX5 TX5 1, u_lay RX5 TX5 2, u_lay RX5 TX5 3, u_lay RX5 TX5 4, u_lay RX5 TX5 5], w ∈ wsU
  exact List.forall_mem_cons.mpr ⟨wsU_at (w := u_lay RX5 TX5 0) 205 rfl rfl, List.forall_mem_cons.mpr ⟨wsU_at (w := u_lay RX5 TX5 1) 207 rfl rfl, List.forall_mem_cons.mpr ⟨wsU_at (w := u_lay RX5 TX5 2) 209 rfl rfl, List.forall_mem_cons.mpr ⟨wsU_at (w := u_lay RX5 TX5 3) 211 rfl rfl, List.forall_mem_cons.mpr ⟨wsU_at (w := u_lay RX5 TX5 4) 213 rfl rfl, List.forall_mem_cons.mpr ⟨wsU_at (w := u_lay RX5 TX5 5) 215 rfl rfl, fun _ h => absurd h List.not_mem_nil⟩⟩⟩⟩⟩⟩
set_option maxRecDepth 100000 in
theorem inlX6 : ∀ w ∈ wsX60, w ∈ wsU := by
  show ∀ w ∈ [u_lay RX6 TX6 0, u_lay RX6 TX6 1, u_lay RX6 TX6 2, u_lay RX6 TX6 3, u_lay RX6 TX6 4, u_lay RX6 TX6 5, u_lay RX6 TX6 6, u_lay RX6 TX6 7, u_lay RX6 TX6 8], w ∈ wsU
  exact List.forall_mem_cons.mpr ⟨wsU_at (w := u_lay RX6 TX6 0) 507 rfl rfl, List.forall_mem_cons.mpr ⟨wsU_at (w := u_lay RX6 TX6 1) 509 rfl rfl, List.forall_mem_cons.mpr ⟨wsU_at (w := u_lay RX6 TX6 2) 511 rfl rfl, List.forall_mem_cons.mpr ⟨wsU_at (w := u_lay RX6 TX6 3) 513 rfl rfl, List.forall_mem_cons.mpr ⟨wsU_at (w := u_lay RX6 TX6 4) 515 rfl rfl, List.forall_mem_cons.mpr ⟨wsU_at (w := u_lay RX6 TX6 5) 517 rfl rfl, List.forall_mem_cons.mpr ⟨wsU_at (w := u_lay RX6 TX6 6) 519 rfl rfl, List.forall_mem_cons.mpr ⟨wsU_at (w := u_lay RX6 TX6 7) 521 rfl rfl, List.forall_mem_cons.mpr ⟨wsU_at (w := u_lay RX6 TX6 8) 523 rfl rfl, fun _ h => absurd h List.not_mem_nil⟩⟩⟩⟩⟩⟩⟩⟩⟩
set_option maxRecDepth 100000 in
theorem inlX7 : ∀ w ∈ wsX70, w ∈ wsU := by
  show ∀ w ∈ [u_lay RX7 TX7 0, u_lay RX7 TX7 1, u_lay RX7 TX7 2, u_lay RX7 TX7 3, u_lay RX7 TX7 4, u_lay RX7 TX7 5, u_lay RX7 TX7 6, u_lay RX7 TX7 7, u_lay RX7 TX7 8, u_lay RX7 TX7 9, u_lay RX7 TX7 10, u_lay RX7 TX7 11, u_lay RX7 TX7 12, u_lay RX7 TX7 13, u_lay RX7 TX7 14, u_lay RX7 TX7 15], w ∈ wsU
  exact List.forall_mem_cons.mpr ⟨wsU_at (w := u_lay RX7 TX7 0) 321 rfl rfl, List.forall_mem_cons.mpr ⟨wsU_at (w := u_lay RX7 TX7 1) 323 rfl rfl, List.forall_mem_cons.mpr ⟨wsU_at (w := u_lay RX7 TX7 2) 325 rfl rfl, List.forall_mem_cons.mpr ⟨wsU_at (w := u_lay RX7 TX7 3) 327 rfl rfl, List.forall_mem_cons.mpr ⟨wsU_at (w := u_lay RX7 TX7 4) 329 rfl rfl, List.forall_mem_cons.mpr ⟨wsU_at (w := u_lay RX7 TX7 5) 331 rfl rfl, List.forall_mem_cons.mpr ⟨wsU_at (w := u_lay RX7 TX7 6) 333 rfl rfl, List.forall_mem_cons.mpr ⟨wsU_at (w := u_lay RX7 TX7 7) 335 rfl rfl, List.forall_mem_cons.mpr ⟨wsU_at (w := u_lay RX7 TX7 8) 337 rfl rfl, List.forall_mem_cons.mpr ⟨wsU_at (w := u_lay RX7 TX7 9) 339 rfl rfl, List.forall_mem_cons.mpr ⟨wsU_at (w := u_lay RX7 TX7 10) 341 rfl rfl, List.forall_mem_cons.mpr ⟨wsU_at (w := u_lay RX7 TX7 11) 343 rfl rfl, List.forall_mem_cons.mpr ⟨wsU_at (w := u_lay RX7 TX7 12) 345 rfl rfl, List.forall_mem_cons.mpr ⟨wsU_at (w := u_lay RX7 TX7 13) 347 rfl rfl, List.forall_mem_cons.mpr ⟨wsU_at (w := u_lay RX7 TX7 14) 349 rfl rfl, List.forall_mem_cons.mpr ⟨wsU_at (w := u_lay RX7 TX7 15) 351 rfl rfl, fun _ h => absurd h List.not_mem_nil⟩⟩⟩⟩⟩⟩⟩⟩⟩⟩⟩⟩⟩⟩⟩⟩
set_option maxRecDepth 100000 in
theorem inlX8 : ∀ w ∈ wsX80, w ∈ wsU := by
  show ∀ w ∈ [u_lay RX8 TX8 0, u_lay RX8 TX8 1, u_lay RX8 TX8 2, u_lay RX8 TX8 3, u_lay RX8 TX8 4], w ∈ wsU
  exact List.forall_mem_cons.mpr ⟨wsU_at (w := u_lay RX8 TX8 0) 384 rfl rfl, List.forall_mem_cons.mpr ⟨wsU_at (w := u_lay RX8 TX8 1) 386 rfl rfl, List.forall_mem_cons.mpr ⟨wsU_at (w := u_lay RX8 TX8 2) 388 rfl rfl, List.forall_mem_cons.mpr ⟨wsU_at (w := u_lay RX8 TX8 3) 390 rfl rfl, List.forall_mem_cons.mpr ⟨wsU_at (w := u_lay RX8 TX8 4) 392 rfl rfl, fun _ h => absurd h List.not_mem_nil⟩⟩⟩⟩⟩
set_option maxRecDepth 100000 in
theorem inlX9 : ∀ w ∈ wsX90, w ∈ wsU := by
  show ∀ w ∈ [u_lay RX9 TX9 0, u_lay RX9 TX9 1, u_lay RX9 TX9 2], w ∈ wsU
  exact List.forall_mem_cons.mpr ⟨wsU_at (w := u_lay RX9 TX9 0) 179 rfl rfl, List.forall_mem_cons.mpr ⟨wsU_at (w := u_lay RX9 TX9 1) 181 rfl rfl, List.forall_mem_cons.mpr ⟨wsU_at (w := u_lay RX9 TX9 2) 183 rfl rfl, fun _ h => absurd h List.not_mem_nil⟩⟩⟩
set_option maxRecDepth 100000 in
theorem inlX10 : ∀ w ∈ wsX100, w ∈ wsU := by
  show ∀ w ∈ [u_lay RX10 TX10 0, u_lay RX10 TX10 1, u_lay RX10 TX10 2], w ∈ wsU
  exact List.forall_mem_cons.mpr ⟨wsU_at (w := u_lay RX10 TX10 0) 366 rfl rfl, List.forall_mem_cons.mpr ⟨wsU_at (w := u_lay RX10 TX10 1) 368 rfl rfl, List.forall_mem_cons.mpr ⟨wsU_at (w := u_lay RX10 TX10 2) 370 rfl rfl, fun _ h => absurd h List.not_mem_nil⟩⟩⟩
set_option maxRecDepth 100000 in
theorem inlX11 : ∀ w ∈ wsX110, w ∈ wsU := by
  show ∀ w ∈ [u_lay RX11 TX11 0, u_lay RX11 TX11 1, u_lay RX11 TX11 2, u_lay RX11 TX11 3, u_lay RX11 TX11 4, u_lay RX11 TX11 5, u_lay RX11 TX11 6, u_lay RX11 TX11 7, u_lay RX11 TX11 8, u_lay RX11 TX11 9, u_lay RX11 TX11 10, u_lay RX11 TX11 11, u_lay RX11 TX11 12, u_lay RX11 TX11 13, u_lay RX11 TX11 14, u_lay RX11 TX11 15, u_lay RX11 TX11 16, u_lay RX11 TX11 17, u_lay RX11 TX11 18], w ∈ wsU
  exact List.forall_mem_cons.mpr ⟨wsU_at (w := u_lay RX11 TX11 0) 631 rfl rfl, List.forall_mem_cons.mpr ⟨wsU_at (w := u_lay RX11 TX11 1) 633 rfl rfl, List.forall_mem_cons.mpr ⟨wsU_at (w := u_lay RX11 TX11 2) 635 rfl rfl, List.forall_mem_cons.mpr ⟨wsU_at (w := u_lay RX11 TX11 3) 637 rfl rfl, List.forall_mem_cons.mpr ⟨wsU_at (w := u_lay RX11 TX11 4) 639 rfl rfl, List.forall_mem_cons.mpr ⟨wsU_at (w := u_lay RX11 TX11 5) 641 rfl rfl, List.forall_mem_cons.mpr ⟨wsU_at (w := u_lay RX11 TX11 6) 643 rfl rfl, List.forall_mem_cons.mpr ⟨wsU_at (w := u_lay RX11 TX11 7) 645 rfl rfl, List.forall_mem_cons.mpr ⟨wsU_at (w := u_lay RX11 TX11 8) 647 rfl rfl, List.forall_mem_cons.mpr ⟨wsU_at (w := u_lay RX11 TX11 9) 649 rfl rfl, List.forall_mem_cons.mpr ⟨wsU_at (w := u_lay RX11 TX11 10) 651 rfl rfl, List.forall_mem_cons.mpr ⟨wsU_at (w := u_lay RX11 TX11 11) 653 rfl rfl, List.forall_mem_cons.mpr ⟨wsU_at (w := u_lay RX11 TX11 12) 655 rfl rfl, List.forall_mem_cons.mpr ⟨wsU_at (w := u_lay RX11 TX11 13) 657 rfl rfl, List.forall_mem_cons.mpr ⟨wsU_at (w := u_lay RX11 TX11 14) 659 rfl rfl, List.forall_mem_cons.mpr ⟨wsU_at (w := u_lay RX11 TX11 15) 661 rfl rfl, List.forall_mem_cons.mpr ⟨wsU_at (w := u_lay RX11 TX11 16) 663 rfl rfl, List.forall_mem_cons.mpr ⟨wsU_at (w := u_lay RX11 TX11 17) 665 rfl rfl, List.forall_mem_cons.mpr ⟨wsU_at (w := u_lay RX11 TX11 18) 667 rfl rfl, fun _ h => absurd h List.not_mem_nil⟩⟩⟩⟩⟩⟩⟩⟩⟩⟩⟩⟩⟩⟩⟩⟩⟩⟩⟩
set_option maxRecDepth 100000 in
theorem inlX12 : ∀ w ∈ wsX120, w ∈ wsU := by
  show ∀ w ∈ [u_lay RX12 TX12 0, u_lay RX12 TX12 1, u_lay RX12 TX12 2, u_lay RX12 TX12 3, u_lay RX12 TX12 4, u_lay RX12 TX12 5, u_lay RX12 TX12 6, u_lay RX12 TX12 7, u_lay RX12 TX12 8, u_lay RX12 TX12 9, u_lay RX12 TX12 10, u_lay RX12 TX12 11, u_lay RX12 TX12 12, u_lay RX12 TX12 13, u_lay RX12 TX12 14, u_lay RX12 TX12 15, u_lay RX12 TX12 16, u_lay RX12 TX12 17, u_lay RX12 TX12 18, u_lay RX12 TX12 19, u_lay RX12 TX12 20, u_lay RX12 TX12 21, u_lay RX12 TX12 22, u_lay RX12 TX12 23, u_lay RX12 TX12 24, u_lay RX12 TX12 25, u_lay RX12 TX12 26, u_lay RX12 TX12 27, u_lay RX12 TX12 28, u_lay RX12 TX12 29, u_lay RX12 TX12 30, u_lay RX12 TX12 31, u_lay RX12 TX12 32, u_lay RX12 TX12 33, u_lay RX12 TX12 34, u_lay RX12 TX12 35, u_lay RX12 TX12 36, u_lay RX12 TX12 37, u_lay RX12 TX12 38, u_lay RX12 TX12 39, u_lay RX12 TX12 40, u_lay RX12 TX12 41, u_lay RX12 TX12 42, u_lay RX12 TX12 43, u_lay RX12 TX12 44, u_lay RX12 TX12 45, u_lay RX12 TX12 46, u_lay RX12 TX12 47, u_lay RX12 TX12 48, u_lay RX12 TX12 49, u_lay RX12 TX12 50, u_lay RX12 TX12 51, u_lay RX12 TX12 52, u_lay RX12 TX12 53, u_lay RX12 TX12 54, u_lay RX12 TX12 55], w ∈ wsU
  exact List.forall_mem_cons.mpr ⟨wsU_at (w := u_lay RX12 TX12 0) 1504 rfl rfl, List.forall_mem_cons.mpr ⟨wsU_at (w := u_lay RX12 TX12 1) 1506 rfl rfl, List.forall_mem_cons.mpr ⟨wsU_at (w := u_lay RX12 TX12 2) 1508 rfl rfl, List.forall_mem_cons.mpr ⟨wsU_at (w := u_lay RX12 TX12 3) 1510 rfl rfl, List.forall_mem_cons.mpr ⟨wsU_at (w := u_lay RX12 TX12 4) 1512 rfl rfl, List.forall_mem_cons.mpr ⟨wsU_at (w := u_lay RX12 TX12 5) 1514 rfl rfl, List.forall_mem_cons.mpr ⟨wsU_at (w := u_lay RX12 TX12 6) 1516 rfl rfl, List.forall_mem_cons.mpr ⟨wsU_at (w := u_lay RX12 TX12 7) 1518 rfl rfl, List.forall_mem_cons.mpr ⟨wsU_at (w := u_lay RX12 TX12 8) 1520 rfl rfl, List.forall_mem_cons.mpr ⟨wsU_at (w := u_lay RX12 TX12 9) 1522 rfl rfl, List.forall_mem_cons.mpr ⟨wsU_at (w := u_lay RX12 TX12 10) 1524 rfl rfl, List.forall_mem_cons.mpr ⟨wsU_at (w := u_lay RX12 TX12 11) 1526 rfl rfl, List.forall_mem_cons.mpr ⟨wsU_at (w := u_lay RX12 TX12 12) 1528 rfl rfl, List.forall_mem_cons.mpr ⟨wsU_at (w := u_lay RX12 TX12 13) 1530 rfl rfl, List.forall_mem_cons.mpr ⟨wsU_at (w := u_lay RX12 TX12 14) 1532 rfl rfl, List.forall_mem_cons.mpr ⟨wsU_at (w := u_lay RX12 TX12 15) 1534 rfl rfl, List.forall_mem_cons.mpr ⟨wsU_at (w := u_lay RX12 TX12 16) 1536 rfl rfl, List.forall_mem_cons.mpr ⟨wsU_at (w := u_lay RX12 TX12 17) 1538 rfl rfl, List.forall_mem_cons.mpr ⟨wsU_at (w := u_lay RX12 TX12 18) 1540 rfl rfl, List.forall_mem_cons.mpr ⟨wsU_at (w := u_lay RX12 TX12 19) 1542 rfl rfl, List.forall_mem_cons.mpr ⟨wsU_at (w := u_lay RX12 TX12 20) 1544 rfl rfl, List.forall_mem_cons.mpr ⟨wsU_at (w := u_lay RX12 TX12 21) 1546 rfl rfl, List.forall_mem_cons.mpr ⟨wsU_at (w := u_lay RX12 TX12 22) 1548 rfl rfl, List.forall_mem_cons.mpr ⟨wsU_at (w := u_lay RX12 TX12 23) 1550 rfl rfl, List.forall_mem_cons.mpr ⟨wsU_at (w := u_lay RX12 TX12 24) 1552 rfl rfl, List.forall_mem_cons.mpr ⟨wsU_at (w := u_lay RX12 TX12 25) 1554 rfl rfl, List.forall_mem_cons.mpr ⟨wsU_at (w := u_lay RX12 TX12 26) 1556 rfl rfl, List.forall_mem_cons.mpr ⟨wsU_at (w := u_lay RX12 TX12 27) 1558 rfl rfl, List.forall_mem_cons.mpr ⟨wsU_at (w := u_lay RX12 TX12 28) 1560 rfl rfl, List.forall_mem_cons.mpr ⟨wsU_at (w := u_lay RX12 TX12 29) 1562 rfl rfl, List.forall_mem_cons.mpr ⟨wsU_at (w := u_lay RX12 TX12 30) 1564 rfl rfl, List.forall_mem_cons.mpr ⟨wsU_at (w := u_lay RX12 TX12 31) 1566 rfl rfl, List.forall_mem_cons.mpr ⟨wsU_at (w := u_lay RX12 TX12 32) 1568 rfl rfl, List.forall_mem_cons.mpr ⟨wsU_at (w := u_lay RX12 TX12 33) 1570 rfl rfl, List.forall_mem_cons.mpr ⟨wsU_at (w := u_lay RX12 TX12 34) 1572 rfl rfl, List.forall_mem_cons.mpr ⟨wsU_at (w := u_lay RX12 TX12 35) 1574 rfl rfl, List.forall_mem_cons.mpr ⟨wsU_at (w := u_lay RX12 TX12 36) 1576 rfl rfl, List.forall_mem_cons.mpr ⟨wsU_at (w := u_lay RX12 TX12 37) 1578 rfl rfl, List.forall_mem_cons.mpr ⟨wsU_at (w := u_lay RX12 TX12 38) 1580 rfl rfl, List.forall_mem_cons.mpr ⟨wsU_at (w := u_lay RX12 TX12 39) 1582 rfl rfl, List.forall_mem_cons.mpr ⟨wsU_at (w := u_lay RX12 TX12 40) 1584 rfl rfl, List.forall_mem_cons.mpr ⟨wsU_at (w := u_lay RX12 TX12 41) 1586 rfl rfl, List.forall_mem_cons.mpr ⟨wsU_at (w := u_lay RX12 TX12 42) 1588 rfl rfl, List.forall_mem_cons.mpr ⟨wsU_at (w := u_lay RX12 TX12 43) 1590 rfl rfl, List.forall_mem_cons.mpr ⟨wsU_at (w := u_lay RX12 TX12 44) 1592 rfl rfl, List.forall_mem_cons.mpr ⟨wsU_at (w := u_lay RX12 TX12 45) 1594 rfl rfl, List.forall_mem_cons.mpr ⟨wsU_at (w := u_lay RX12 TX12 46) 1596 rfl rfl, List.forall_mem_cons.mpr ⟨wsU_at (w := u_lay RX12 TX12 47) 1598 rfl rfl, List.forall_mem_cons.mpr ⟨wsU_at (w := u_lay RX12 TX12 48) 1600 rfl rfl, List.forall_mem_cons.mpr ⟨wsU_at (w := u_lay RX12 TX12 49) 1602 rfl rfl, List.forall_mem_cons.mpr ⟨wsU_at (w := u_lay RX12 TX12 50) 1604 rfl rfl, List.forall_mem_cons.mpr ⟨wsU_at (w := u_lay RX12 TX12 51) 1606 rfl rfl, List.forall_mem_cons.mpr ⟨wsU_at (w := u_lay RX12 TX12 52) 1608 rfl rfl, List.forall_mem_cons.mpr ⟨wsU_at (w := u_lay RX12 TX12 53) 1610 rfl rfl, List.forall_mem_cons.mpr ⟨wsU_at (w := u_lay RX12 TX12 54) 1612 rfl rfl, List.forall_mem_cons.mpr ⟨wsU_at (w := u_lay RX12 TX12 55) 1614 rfl rfl, fun _ h => absurd h List.not_mem_nil⟩⟩⟩⟩⟩⟩⟩⟩⟩⟩⟩⟩⟩⟩⟩⟩⟩⟩⟩⟩⟩⟩⟩⟩⟩⟩⟩⟩⟩⟩⟩⟩⟩⟩⟩⟩⟩⟩⟩⟩⟩⟩⟩⟩⟩⟩⟩⟩⟩⟩⟩⟩⟩⟩⟩⟩
theorem dvX3 : ∀ j, j < 18 → defaultValue (tyX3 j) = vp_V [.null, .null, .null, .null, .null, .int 0, .int 0, .int 0, .int 0, .int 0, .int 0, .int 0, .null, .null, .null, .int 0, .null, .null] j := fun j hj => by
  rcases (show j = 0 ∨ j = 1 ∨ j = 2 ∨ j = 3 ∨ j = 4 ∨ j = 5 ∨ j = 6 ∨ j = 7 ∨ j = 8 ∨ j = 9 ∨ j = 10 ∨ j = 11 ∨ j = 12 ∨ j = 13 ∨ j = 14 ∨ j = 15 ∨ j = 16 ∨ j = 17 by omega) with rfl | rfl | rfl | rfl | rfl | rfl | rfl | rfl | rfl | rfl | rfl | rfl | rfl | rfl | rfl | rfl | rfl | rfl <;> rfl
theorem dvX7 : ∀ j, j < 16 → defaultValue (tyX7 j) = vp_V [.null, .int 0, .null, .null, .null, .null, .int 0, .null, .null, .null, .null, .null, .int 0, .null, .null, .null] j := fun j hj => by
  rcases (show j = 0 ∨ j = 1 ∨ j = 2 ∨ j = 3 ∨ j = 4 ∨ j = 5 ∨ j = 6 ∨ j = 7 ∨ j = 8 ∨ j = 9 ∨ j = 10 ∨ j = 11 ∨ j = 12 ∨ j = 13 ∨ j = 14 ∨ j = 15 by omega) with rfl | rfl | rfl | rfl | rfl | rfl | rfl | rfl | rfl | rfl | rfl | rfl | rfl | rfl | rfl | rfl <;> rfl
theorem dvX9 : ∀ j, j < 3 → defaultValue (tyX9 j) = vp_V [.null, .null, .int 0] j := fun j hj => by
  rcases (show j = 0 ∨ j = 1 ∨ j = 2 by omega) with rfl | rfl | rfl <;> rfl
theorem dvX4 : ∀ j, j < 11 → defaultValue (tyX4 j) = vp_V [.int 0, .int 0, .int 0, .int 0, .null, .null, .null, .null, .int 0, .int 0, .int 0] j := fun j hj => by
  rcases (show j = 0 ∨ j = 1 ∨ j = 2 ∨ j = 3 ∨ j = 4 ∨ j = 5 ∨ j = 6 ∨ j = 7 ∨ j = 8 ∨ j = 9 ∨ j = 10 by omega) with rfl | rfl | rfl | rfl | rfl | rfl | rfl | rfl | rfl | rfl | rfl <;> rfl
theorem dvX5 : ∀ j, j < 6 → defaultValue (tyX5 j) = vp_V [.null, .null, .null, .int 0, .int 0, .int 0] j := fun j hj => by
  rcases (show j = 0 ∨ j = 1 ∨ j = 2 ∨ j = 3 ∨ j = 4 ∨ j = 5 by omega) with rfl | rfl | rfl | rfl | rfl | rfl <;> rfl
theorem dvX10 : ∀ j, j < 3 → defaultValue (tyX10 j) = vp_V [.null, .int 0, .int 0] j := fun j hj => by
  rcases (show j = 0 ∨ j = 1 ∨ j = 2 by omega) with rfl | rfl | rfl <;> rfl
theorem dvX8 : ∀ j, j < 5 → defaultValue (tyX8 j) = vp_V [.null, .null, .null, .null, .null] j := fun j hj => by
  rcases (show j = 0 ∨ j = 1 ∨ j = 2 ∨ j = 3 ∨ j = 4 by omega) with rfl | rfl | rfl | rfl | rfl <;> rfl
theorem dvX1 : ∀ j, j < 6 → defaultValue (tyX1 j) = vp_V [.null, .null, .null, .int 0, .int 0, .int 0] j := fun j hj => by
  rcases (show j = 0 ∨ j = 1 ∨ j = 2 ∨ j = 3 ∨ j = 4 ∨ j = 5 by omega) with rfl | rfl | rfl | rfl | rfl | rfl <;> rfl
theorem dvX6 : ∀ j, j < 9 → defaultValue (tyX6 j) = vp_V [.int 0, .int 0, .null, .null, .null, .int 0, .null, .null, .null] j := fun j hj => by
  rcases (show j = 0 ∨ j = 1 ∨ j = 2 ∨ j = 3 ∨ j = 4 ∨ j = 5 ∨ j = 6 ∨ j = 7 ∨ j = 8 by omega) with rfl | rfl | rfl | rfl | rfl | rfl | rfl | rfl | rfl <;> rfl
theorem dvX2 : ∀ j, j < 10 → defaultValue (tyX2 j) = vp_V [.null, .int 0, .int 0, .null, .int 0, .int 0, .int 0, .int 0, .int 0, .int 0] j := fun j hj => by
  rcases (show j = 0 ∨ j = 1 ∨ j = 2 ∨ j = 3 ∨ j = 4 ∨ j = 5 ∨ j = 6 ∨ j = 7 ∨ j = 8 ∨ j = 9 by omega) with rfl | rfl | rfl | rfl | rfl | rfl | rfl | rfl | rfl | rfl <;> rfl
theorem dvX0 : ∀ j, j < 11 → defaultValue (tyX0 j) = vp_V [.null, .null, .null, .int 0, .null, .null, .null, .int 0, .null, .int 0, .int 0] j := fun j hj => by
  rcases (show j = 0 ∨ j = 1 ∨ j = 2 ∨ j = 3 ∨ j = 4 ∨ j = 5 ∨ j = 6 ∨ j = 7 ∨ j = 8 ∨ j = 9 ∨ j = 10 by omega) with rfl | rfl | rfl | rfl | rfl | rfl | rfl | rfl | rfl | rfl | rfl <;> rfl
end
section
theorem dX11_init_0 : decode cX11_init 0 = .ok (.aload_n 0, 1) := by decide +kernel
theorem dX11_init_1 : decode cX11_init 1 = .ok (.invokespecial 3, 3) := by decide +kernel
theorem dX11_init_4 : decode cX11_init 4 = .ok (.aload_n 0, 1) := by decide +kernel
theorem dX11_init_5 : decode cX11_init 5 = .ok (.sipush 600, 3) := by decide +kernel
theorem dX11_init_8 : decode cX11_init 8 = .ok (.newarray .int, 2) := by decide +kernel
theorem dX11_init_10 : decode cX11_init 10 = .ok (.putfield 9, 3) := by decide +kernel
theorem dX11_init_13 : decode cX11_init 13 = .ok (.aload_n 0, 1) := by decide +kernel
theorem dX11_init_14 : decode cX11_init 14 = .ok (.new 13, 3) := by decide +kernel
theorem dX11_init_17 : decode cX11_init 17 = .ok (.dup, 1) := by decide +kernel
theorem dX11_init_18 : decode cX11_init 18 = .ok (.invokespecial 15, 3) := by decide +kernel
theorem dX11_init_21 : decode cX11_init 21 = .ok (.putfield 16, 3) := by decide +kernel
theorem dX11_init_24 : decode cX11_init 24 = .ok (.aload_n 0, 1) := by decide +kernel
theorem dX11_init_25 : decode cX11_init 25 = .ok (.aload_n 0, 1) := by decide +kernel
theorem dX11_init_26 : decode cX11_init 26 = .ok (.getfield 16, 3) := by decide +kernel
theorem dX11_init_29 : decode cX11_init 29 = .ok (.getfield 20, 3) := by decide +kernel
theorem dX11_init_32 : decode cX11_init 32 = .ok (.putfield 24, 3) := by decide +kernel
theorem dX11_init_35 : decode cX11_init 35 = .ok (.aload_n 0, 1) := by decide +kernel
theorem dX11_init_36 : decode cX11_init 36 = .ok (.aload_n 0, 1) := by decide +kernel
theorem dX11_init_37 : decode cX11_init 37 = .ok (.getfield 16, 3) := by decide +kernel
theorem dX11_init_40 : decode cX11_init 40 = .ok (.getfield 25, 3) := by decide +kernel
theorem dX11_init_43 : decode cX11_init 43 = .ok (.putfield 29, 3) := by decide +kernel
theorem dX11_init_46 : decode cX11_init 46 = .ok (.aload_n 0, 1) := by decide +kernel
theorem dX11_init_47 : decode cX11_init 47 = .ok (.new 30, 3) := by decide +kernel
theorem dX11_init_50 : decode cX11_init 50 = .ok (.dup, 1) := by decide +kernel
theorem dX11_init_51 : decode cX11_init 51 = .ok (.invokespecial 32, 3) := by decide +kernel
theorem dX11_init_54 : decode cX11_init 54 = .ok (.putfield 33, 3) := by decide +kernel
theorem dX11_init_57 : decode cX11_init 57 = .ok (.aload_n 0, 1) := by decide +kernel
theorem dX11_init_58 : decode cX11_init 58 = .ok (.new 37, 3) := by decide +kernel
theorem dX11_init_61 : decode cX11_init 61 = .ok (.dup, 1) := by decide +kernel
theorem dX11_init_62 : decode cX11_init 62 = .ok (.invokespecial 39, 3) := by decide +kernel
theorem dX11_init_65 : decode cX11_init 65 = .ok (.putfield 40, 3) := by decide +kernel
theorem dX11_init_68 : decode cX11_init 68 = .ok (.aload_n 0, 1) := by decide +kernel
theorem dX11_init_69 : decode cX11_init 69 = .ok (.new 30, 3) := by decide +kernel
theorem dX11_init_72 : decode cX11_init 72 = .ok (.dup, 1) := by decide +kernel
theorem dX11_init_73 : decode cX11_init 73 = .ok (.invokespecial 32, 3) := by decide +kernel
theorem dX11_init_76 : decode cX11_init 76 = .ok (.putfield 43, 3) := by decide +kernel
theorem dX11_init_79 : decode cX11_init 79 = .ok (.aload_n 0, 1) := by decide +kernel
theorem dX11_init_80 : decode cX11_init 80 = .ok (.new 46, 3) := by decide +kernel
theorem dX11_init_83 : decode cX11_init 83 = .ok (.dup, 1) := by decide +kernel
theorem dX11_init_84 : decode cX11_init 84 = .ok (.invokespecial 48, 3) := by decide +kernel
theorem dX11_init_87 : decode cX11_init 87 = .ok (.putfield 49, 3) := by decide +kernel
theorem dX11_init_90 : decode cX11_init 90 = .ok (.aload_n 0, 1) := by decide +kernel
theorem dX11_init_91 : decode cX11_init 91 = .ok (.new 53, 3) := by decide +kernel
theorem dX11_init_94 : decode cX11_init 94 = .ok (.dup, 1) := by decide +kernel
theorem dX11_init_95 : decode cX11_init 95 = .ok (.invokespecial 55, 3) := by decide +kernel
theorem dX11_init_98 : decode cX11_init 98 = .ok (.putfield 56, 3) := by decide +kernel
theorem dX11_init_101 : decode cX11_init 101 = .ok (.aload_n 0, 1) := by decide +kernel
theorem dX11_init_102 : decode cX11_init 102 = .ok (.bipush 96, 2) := by decide +kernel
theorem dX11_init_104 : decode cX11_init 104 = .ok (.newarray .int, 2) := by decide +kernel
theorem dX11_init_106 : decode cX11_init 106 = .ok (.putfield 60, 3) := by decide +kernel
theorem dX11_init_109 : decode cX11_init 109 = .ok (.aload_n 0, 1) := by decide +kernel
theorem dX11_init_110 : decode cX11_init 110 = .ok (.iconst (-1), 1) := by decide +kernel
theorem dX11_init_111 : decode cX11_init 111 = .ok (.putfield 63, 3) := by decide +kernel
theorem dX11_init_114 : decode cX11_init 114 = .ok (.aload_n 0, 1) := by decide +kernel
theorem dX11_init_115 : decode cX11_init 115 = .ok (.bipush 8, 2) := by decide +kernel
theorem dX11_init_117 : decode cX11_init 117 = .ok (.newarray .int, 2) := by decide +kernel
theorem dX11_init_119 : decode cX11_init 119 = .ok (.putfield 67, 3) := by decide +kernel
theorem dX11_init_122 : decode cX11_init 122 = .ok (.aload_n 0, 1) := by decide +kernel
theorem dX11_init_123 : decode cX11_init 123 = .ok (.bipush 16, 2) := by decide +kernel
theorem dX11_init_125 : decode cX11_init 125 = .ok (.newarray .int, 2) := by decide +kernel
theorem dX11_init_127 : decode cX11_init 127 = .ok (.putfield 70, 3) := by decide +kernel
theorem dX11_init_130 : decode cX11_init 130 = .ok (.aload_n 0, 1) := by decide +kernel
theorem dX11_init_131 : decode cX11_init 131 = .ok (.bipush 12, 2) := by decide +kernel
theorem dX11_init_133 : decode cX11_init 133 = .ok (.newarray .int, 2) := by decide +kernel
theorem dX11_init_135 : decode cX11_init 135 = .ok (.putfield 73, 3) := by decide +kernel
theorem dX11_init_138 : decode cX11_init 138 = .ok (.return_, 1) := by decide +kernel
theorem dX3_init_0 : decode cX3_init 0 = .ok (.aload_n 0, 1) := by decide +kernel
theorem dX3_init_1 : decode cX3_init 1 = .ok (.invokespecial 7, 3) := by decide +kernel
theorem dX3_init_4 : decode cX3_init 4 = .ok (.aload_n 0, 1) := by decide +kernel
theorem dX3_init_5 : decode cX3_init 5 = .ok (.new 1, 3) := by decide +kernel
theorem dX3_init_8 : decode cX3_init 8 = .ok (.dup, 1) := by decide +kernel
theorem dX3_init_9 : decode cX3_init 9 = .ok (.invokespecial 13, 3) := by decide +kernel
theorem dX3_init_12 : decode cX3_init 12 = .ok (.putfield 14, 3) := by decide +kernel
theorem dX3_init_15 : decode cX3_init 15 = .ok (.aload_n 0, 1) := by decide +kernel
theorem dX3_init_16 : decode cX3_init 16 = .ok (.new 18, 3) := by decide +kernel
theorem dX3_init_19 : decode cX3_init 19 = .ok (.dup, 1) := by decide +kernel
theorem dX3_init_20 : decode cX3_init 20 = .ok (.invokespecial 20, 3) := by decide +kernel
theorem dX3_init_23 : decode cX3_init 23 = .ok (.putfield 21, 3) := by decide +kernel
theorem dX3_init_26 : decode cX3_init 26 = .ok (.aload_n 0, 1) := by decide +kernel
theorem dX3_init_27 : decode cX3_init 27 = .ok (.new 25, 3) := by decide +kernel
theorem dX3_init_30 : decode cX3_init 30 = .ok (.dup, 1) := by decide +kernel
theorem dX3_init_31 : decode cX3_init 31 = .ok (.invokespecial 27, 3) := by decide +kernel
theorem dX3_init_34 : decode cX3_init 34 = .ok (.putfield 28, 3) := by decide +kernel
theorem dX3_init_37 : decode cX3_init 37 = .ok (.aload_n 0, 1) := by decide +kernel
theorem dX3_init_38 : decode cX3_init 38 = .ok (.new 32, 3) := by decide +kernel
theorem dX3_init_41 : decode cX3_init 41 = .ok (.dup, 1) := by decide +kernel
theorem dX3_init_42 : decode cX3_init 42 = .ok (.invokespecial 34, 3) := by decide +kernel
theorem dX3_init_45 : decode cX3_init 45 = .ok (.putfield 35, 3) := by decide +kernel
theorem dX3_init_48 : decode cX3_init 48 = .ok (.aload_n 0, 1) := by decide +kernel
theorem dX3_init_49 : decode cX3_init 49 = .ok (.bipush 8, 2) := by decide +kernel
theorem dX3_init_51 : decode cX3_init 51 = .ok (.newarray .int, 2) := by decide +kernel
theorem dX3_init_53 : decode cX3_init 53 = .ok (.putfield 39, 3) := by decide +kernel
theorem dX3_init_56 : decode cX3_init 56 = .ok (.aload_n 0, 1) := by decide +kernel
theorem dX3_init_57 : decode cX3_init 57 = .ok (.iconst (-1), 1) := by decide +kernel
theorem dX3_init_58 : decode cX3_init 58 = .ok (.putfield 43, 3) := by decide +kernel
theorem dX3_init_61 : decode cX3_init 61 = .ok (.aload_n 0, 1) := by decide +kernel
theorem dX3_init_62 : decode cX3_init 62 = .ok (.bipush 9, 2) := by decide +kernel
theorem dX3_init_64 : decode cX3_init 64 = .ok (.newarray .int, 2) := by decide +kernel
theorem dX3_init_66 : decode cX3_init 66 = .ok (.putfield 47, 3) := by decide +kernel
theorem dX3_init_69 : decode cX3_init 69 = .ok (.aload_n 0, 1) := by decide +kernel
theorem dX3_init_70 : decode cX3_init 70 = .ok (.sipush 1024, 3) := by decide +kernel
theorem dX3_init_73 : decode cX3_init 73 = .ok (.newarray .int, 2) := by decide +kernel
theorem dX3_init_75 : decode cX3_init 75 = .ok (.putfield 50, 3) := by decide +kernel
theorem dX3_init_78 : decode cX3_init 78 = .ok (.aload_n 0, 1) := by decide +kernel
theorem dX3_init_79 : decode cX3_init 79 = .ok (.sipush 1024, 3) := by decide +kernel
theorem dX3_init_82 : decode cX3_init 82 = .ok (.newarray .int, 2) := by decide +kernel
theorem dX3_init_84 : decode cX3_init 84 = .ok (.putfield 53, 3) := by decide +kernel
theorem dX3_init_87 : decode cX3_init 87 = .ok (.aload_n 0, 1) := by decide +kernel
theorem dX3_init_88 : decode cX3_init 88 = .ok (.sipush 6561, 3) := by decide +kernel
theorem dX3_init_91 : decode cX3_init 91 = .ok (.newarray .int, 2) := by decide +kernel
theorem dX3_init_93 : decode cX3_init 93 = .ok (.putfield 56, 3) := by decide +kernel
theorem dX3_init_96 : decode cX3_init 96 = .ok (.aload_n 0, 1) := by decide +kernel
theorem dX3_init_97 : decode cX3_init 97 = .ok (.sipush 256, 3) := by decide +kernel
theorem dX3_init_100 : decode cX3_init 100 = .ok (.newarray .int, 2) := by decide +kernel
theorem dX3_init_102 : decode cX3_init 102 = .ok (.putfield 59, 3) := by decide +kernel
theorem dX3_init_105 : decode cX3_init 105 = .ok (.return_, 1) := by decide +kernel
theorem dX7_init_0 : decode cX7_init 0 = .ok (.aload_n 0, 1) := by decide +kernel
theorem dX7_init_1 : decode cX7_init 1 = .ok (.invokespecial 3, 3) := by decide +kernel
theorem dX7_init_4 : decode cX7_init 4 = .ok (.aload_n 0, 1) := by decide +kernel
theorem dX7_init_5 : decode cX7_init 5 = .ok (.bipush 26, 2) := by decide +kernel
theorem dX7_init_7 : decode cX7_init 7 = .ok (.newarray .int, 2) := by decide +kernel
theorem dX7_init_9 : decode cX7_init 9 = .ok (.putfield 9, 3) := by decide +kernel
theorem dX7_init_12 : decode cX7_init 12 = .ok (.aload_n 0, 1) := by decide +kernel
theorem dX7_init_13 : decode cX7_init 13 = .ok (.bipush 6, 2) := by decide +kernel
theorem dX7_init_15 : decode cX7_init 15 = .ok (.newarray .int, 2) := by decide +kernel
theorem dX7_init_17 : decode cX7_init 17 = .ok (.putfield 15, 3) := by decide +kernel
theorem dX7_init_20 : decode cX7_init 20 = .ok (.aload_n 0, 1) := by decide +kernel
theorem dX7_init_21 : decode cX7_init 21 = .ok (.bipush 81, 2) := by decide +kernel
theorem dX7_init_23 : decode cX7_init 23 = .ok (.newarray .int, 2) := by decide +kernel
theorem dX7_init_25 : decode cX7_init 25 = .ok (.putfield 18, 3) := by decide +kernel
theorem dX7_init_28 : decode cX7_init 28 = .ok (.aload_n 0, 1) := by decide +kernel
theorem dX7_init_29 : decode cX7_init 29 = .ok (.bipush 20, 2) := by decide +kernel
theorem dX7_init_31 : decode cX7_init 31 = .ok (.newarray .int, 2) := by decide +kernel
theorem dX7_init_33 : decode cX7_init 33 = .ok (.putfield 21, 3) := by decide +kernel
theorem dX7_init_36 : decode cX7_init 36 = .ok (.aload_n 0, 1) := by decide +kernel
theorem dX7_init_37 : decode cX7_init 37 = .ok (.bipush 20, 2) := by decide +kernel
theorem dX7_init_39 : decode cX7_init 39 = .ok (.newarray .int, 2) := by decide +kernel
theorem dX7_init_41 : decode cX7_init 41 = .ok (.putfield 24, 3) := by decide +kernel
theorem dX7_init_44 : decode cX7_init 44 = .ok (.aload_n 0, 1) := by decide +kernel
theorem dX7_init_45 : decode cX7_init 45 = .ok (.bipush 9, 2) := by decide +kernel
theorem dX7_init_47 : decode cX7_init 47 = .ok (.newarray .int, 2) := by decide +kernel
theorem dX7_init_49 : decode cX7_init 49 = .ok (.putfield 27, 3) := by decide +kernel
theorem dX7_init_52 : decode cX7_init 52 = .ok (.aload_n 0, 1) := by decide +kernel
theorem dX7_init_53 : decode cX7_init 53 = .ok (.bipush 9, 2) := by decide +kernel
theorem dX7_init_55 : decode cX7_init 55 = .ok (.newarray .int, 2) := by decide +kernel
theorem dX7_init_57 : decode cX7_init 57 = .ok (.putfield 30, 3) := by decide +kernel
theorem dX7_init_60 : decode cX7_init 60 = .ok (.aload_n 0, 1) := by decide +kernel
theorem dX7_init_61 : decode cX7_init 61 = .ok (.bipush 36, 2) := by decide +kernel
theorem dX7_init_63 : decode cX7_init 63 = .ok (.newarray .int, 2) := by decide +kernel
theorem dX7_init_65 : decode cX7_init 65 = .ok (.putfield 33, 3) := by decide +kernel
theorem dX7_init_68 : decode cX7_init 68 = .ok (.aload_n 0, 1) := by decide +kernel
theorem dX7_init_69 : decode cX7_init 69 = .ok (.bipush 36, 2) := by decide +kernel
theorem dX7_init_71 : decode cX7_init 71 = .ok (.newarray .int, 2) := by decide +kernel
theorem dX7_init_73 : decode cX7_init 73 = .ok (.putfield 36, 3) := by decide +kernel
theorem dX7_init_76 : decode cX7_init 76 = .ok (.aload_n 0, 1) := by decide +kernel
theorem dX7_init_77 : decode cX7_init 77 = .ok (.bipush 8, 2) := by decide +kernel
theorem dX7_init_79 : decode cX7_init 79 = .ok (.anewarray 39, 3) := by decide +kernel
theorem dX7_init_82 : decode cX7_init 82 = .ok (.putfield 41, 3) := by decide +kernel
theorem dX7_init_85 : decode cX7_init 85 = .ok (.aload_n 0, 1) := by decide +kernel
theorem dX7_init_86 : decode cX7_init 86 = .ok (.new 45, 3) := by decide +kernel
theorem dX7_init_89 : decode cX7_init 89 = .ok (.dup, 1) := by decide +kernel
theorem dX7_init_90 : decode cX7_init 90 = .ok (.bipush 12, 2) := by decide +kernel
theorem dX7_init_92 : decode cX7_init 92 = .ok (.invokespecial 47, 3) := by decide +kernel
theorem dX7_init_95 : decode cX7_init 95 = .ok (.putfield 50, 3) := by decide +kernel
theorem dX7_init_98 : decode cX7_init 98 = .ok (.aload_n 0, 1) := by decide +kernel
theorem dX7_init_99 : decode cX7_init 99 = .ok (.new 45, 3) := by decide +kernel
theorem dX7_init_102 : decode cX7_init 102 = .ok (.dup, 1) := by decide +kernel
theorem dX7_init_103 : decode cX7_init 103 = .ok (.bipush 8, 2) := by decide +kernel
theorem dX7_init_105 : decode cX7_init 105 = .ok (.invokespecial 47, 3) := by decide +kernel
theorem dX7_init_108 : decode cX7_init 108 = .ok (.putfield 54, 3) := by decide +kernel
theorem dX7_init_111 : decode cX7_init 111 = .ok (.aload_n 0, 1) := by decide +kernel
theorem dX7_init_112 : decode cX7_init 112 = .ok (.bipush 8, 2) := by decide +kernel
theorem dX7_init_114 : decode cX7_init 114 = .ok (.newarray .int, 2) := by decide +kernel
theorem dX7_init_116 : decode cX7_init 116 = .ok (.putfield 57, 3) := by decide +kernel
theorem dX7_init_119 : decode cX7_init 119 = .ok (.iconst 0, 1) := by decide +kernel
theorem dX7_init_120 : decode cX7_init 120 = .ok (.istore_n 1, 1) := by decide +kernel
theorem dX7_init_121 : decode cX7_init 121 = .ok (.iload_n 1, 1) := by decide +kernel
theorem dX7_init_122 : decode cX7_init 122 = .ok (.bipush 8, 2) := by decide +kernel
theorem dX7_init_124 : decode cX7_init 124 = .ok (.if_icmp .ge 22, 3) := by decide +kernel
theorem dX7_init_127 : decode cX7_init 127 = .ok (.aload_n 0, 1) := by decide +kernel
theorem dX7_init_128 : decode cX7_init 128 = .ok (.getfield 41, 3) := by decide +kernel
theorem dX7_init_131 : decode cX7_init 131 = .ok (.iload_n 1, 1) := by decide +kernel
theorem dX7_init_132 : decode cX7_init 132 = .ok (.new 39, 3) := by decide +kernel
theorem dX7_init_135 : decode cX7_init 135 = .ok (.dup, 1) := by decide +kernel
theorem dX7_init_136 : decode cX7_init 136 = .ok (.invokespecial 60, 3) := by decide +kernel
theorem dX7_init_139 : decode cX7_init 139 = .ok (.aastore, 1) := by decide +kernel
theorem dX7_init_140 : decode cX7_init 140 = .ok (.iinc 1 1, 3) := by decide +kernel
theorem dX7_init_143 : decode cX7_init 143 = .ok (.goto (-22), 3) := by decide +kernel
theorem dX7_init_146 : decode cX7_init 146 = .ok (.return_, 1) := by decide +kernel
theorem dX9_init_0 : decode cX9_init 0 = .ok (.aload_n 0, 1) := by decide +kernel
theorem dX9_init_1 : decode cX9_init 1 = .ok (.invokespecial 3, 3) := by decide +kernel
theorem dX9_init_4 : decode cX9_init 4 = .ok (.aload_n 0, 1) := by decide +kernel
theorem dX9_init_5 : decode cX9_init 5 = .ok (.iload_n 1, 1) := by decide +kernel
theorem dX9_init_6 : decode cX9_init 6 = .ok (.bipush 8, 2) := by decide +kernel
theorem dX9_init_8 : decode cX9_init 8 = .ok (.imul, 1) := by decide +kernel
theorem dX9_init_9 : decode cX9_init 9 = .ok (.newarray .int, 2) := by decide +kernel
theorem dX9_init_11 : decode cX9_init 11 = .ok (.putfield 9, 3) := by decide +kernel
theorem dX9_init_14 : decode cX9_init 14 = .ok (.aload_n 0, 1) := by decide +kernel
theorem dX9_init_15 : decode cX9_init 15 = .ok (.iload_n 1, 1) := by decide +kernel
theorem dX9_init_16 : decode cX9_init 16 = .ok (.newarray .int, 2) := by decide +kernel
theorem dX9_init_18 : decode cX9_init 18 = .ok (.putfield 15, 3) := by decide +kernel
theorem dX9_init_21 : decode cX9_init 21 = .ok (.return_, 1) := by decide +kernel
theorem dX4_init_0 : decode cX4_init 0 = .ok (.aload_n 0, 1) := by decide +kernel
theorem dX4_init_1 : decode cX4_init 1 = .ok (.invokespecial 3, 3) := by decide +kernel
theorem dX4_init_4 : decode cX4_init 4 = .ok (.aload_n 0, 1) := by decide +kernel
theorem dX4_init_5 : decode cX4_init 5 = .ok (.new 9, 3) := by decide +kernel
theorem dX4_init_8 : decode cX4_init 8 = .ok (.dup, 1) := by decide +kernel
theorem dX4_init_9 : decode cX4_init 9 = .ok (.invokespecial 11, 3) := by decide +kernel
theorem dX4_init_12 : decode cX4_init 12 = .ok (.putfield 12, 3) := by decide +kernel
theorem dX4_init_15 : decode cX4_init 15 = .ok (.aload_n 0, 1) := by decide +kernel
theorem dX4_init_16 : decode cX4_init 16 = .ok (.new 9, 3) := by decide +kernel
theorem dX4_init_19 : decode cX4_init 19 = .ok (.dup, 1) := by decide +kernel
theorem dX4_init_20 : decode cX4_init 20 = .ok (.invokespecial 11, 3) := by decide +kernel
theorem dX4_init_23 : decode cX4_init 23 = .ok (.putfield 18, 3) := by decide +kernel
theorem dX4_init_26 : decode cX4_init 26 = .ok (.aload_n 0, 1) := by decide +kernel
theorem dX4_init_27 : decode cX4_init 27 = .ok (.bipush 20, 2) := by decide +kernel
theorem dX4_init_29 : decode cX4_init 29 = .ok (.newarray .int, 2) := by decide +kernel
theorem dX4_init_31 : decode cX4_init 31 = .ok (.putfield 21, 3) := by decide +kernel
theorem dX4_init_34 : decode cX4_init 34 = .ok (.aload_n 0, 1) := by decide +kernel
theorem dX4_init_35 : decode cX4_init 35 = .ok (.bipush 8, 2) := by decide +kernel
theorem dX4_init_37 : decode cX4_init 37 = .ok (.newarray .int, 2) := by decide +kernel
theorem dX4_init_39 : decode cX4_init 39 = .ok (.putfield 25, 3) := by decide +kernel
theorem dX4_init_42 : decode cX4_init 42 = .ok (.return_, 1) := by decide +kernel
theorem dX5_init_0 : decode cX5_init 0 = .ok (.aload_n 0, 1) := by decide +kernel
theorem dX5_init_1 : decode cX5_init 1 = .ok (.invokespecial 5, 3) := by decide +kernel
theorem dX5_init_4 : decode cX5_init 4 = .ok (.aload_n 0, 1) := by decide +kernel
theorem dX5_init_5 : decode cX5_init 5 = .ok (.bipush 18, 2) := by decide +kernel
theorem dX5_init_7 : decode cX5_init 7 = .ok (.newarray .int, 2) := by decide +kernel
theorem dX5_init_9 : decode cX5_init 9 = .ok (.putfield 11, 3) := by decide +kernel
theorem dX5_init_12 : decode cX5_init 12 = .ok (.aload_n 0, 1) := by decide +kernel
theorem dX5_init_13 : decode cX5_init 13 = .ok (.bipush 18, 2) := by decide +kernel
theorem dX5_init_15 : decode cX5_init 15 = .ok (.newarray .int, 2) := by decide +kernel
theorem dX5_init_17 : decode cX5_init 17 = .ok (.putfield 15, 3) := by decide +kernel
theorem dX5_init_20 : decode cX5_init 20 = .ok (.aload_n 0, 1) := by decide +kernel
theorem dX5_init_21 : decode cX5_init 21 = .ok (.bipush 20, 2) := by decide +kernel
theorem dX5_init_23 : decode cX5_init 23 = .ok (.newarray .int, 2) := by decide +kernel
theorem dX5_init_25 : decode cX5_init 25 = .ok (.putfield 18, 3) := by decide +kernel
theorem dX5_init_28 : decode cX5_init 28 = .ok (.return_, 1) := by decide +kernel
theorem dX10_init_0 : decode cX10_init 0 = .ok (.aload_n 0, 1) := by decide +kernel
theorem dX10_init_1 : decode cX10_init 1 = .ok (.invokespecial 3, 3) := by decide +kernel
theorem dX10_init_4 : decode cX10_init 4 = .ok (.aload_n 0, 1) := by decide +kernel
theorem dX10_init_5 : decode cX10_init 5 = .ok (.sipush 200, 3) := by decide +kernel
theorem dX10_init_8 : decode cX10_init 8 = .ok (.newarray .int, 2) := by decide +kernel
theorem dX10_init_10 : decode cX10_init 10 = .ok (.putfield 11, 3) := by decide +kernel
theorem dX10_init_13 : decode cX10_init 13 = .ok (.return_, 1) := by decide +kernel
theorem dX8_init_0 : decode cX8_init 0 = .ok (.aload_n 0, 1) := by decide +kernel
theorem dX8_init_1 : decode cX8_init 1 = .ok (.invokespecial 7, 3) := by decide +kernel
theorem dX8_init_4 : decode cX8_init 4 = .ok (.aload_n 0, 1) := by decide +kernel
theorem dX8_init_5 : decode cX8_init 5 = .ok (.bipush 80, 2) := by decide +kernel
theorem dX8_init_7 : decode cX8_init 7 = .ok (.newarray .int, 2) := by decide +kernel
theorem dX8_init_9 : decode cX8_init 9 = .ok (.putfield 13, 3) := by decide +kernel
theorem dX8_init_12 : decode cX8_init 12 = .ok (.aload_n 0, 1) := by decide +kernel
theorem dX8_init_13 : decode cX8_init 13 = .ok (.bipush 80, 2) := by decide +kernel
theorem dX8_init_15 : decode cX8_init 15 = .ok (.newarray .int, 2) := by decide +kernel
theorem dX8_init_17 : decode cX8_init 17 = .ok (.putfield 17, 3) := by decide +kernel
theorem dX8_init_20 : decode cX8_init 20 = .ok (.aload_n 0, 1) := by decide +kernel
theorem dX8_init_21 : decode cX8_init 21 = .ok (.bipush 80, 2) := by decide +kernel
theorem dX8_init_23 : decode cX8_init 23 = .ok (.newarray .int, 2) := by decide +kernel
theorem dX8_init_25 : decode cX8_init 25 = .ok (.putfield 20, 3) := by decide +kernel
theorem dX8_init_28 : decode cX8_init 28 = .ok (.aload_n 0, 1) := by decide +kernel
theorem dX8_init_29 : decode cX8_init 29 = .ok (.sipush 800, 3) := by decide +kernel
theorem dX8_init_32 : decode cX8_init 32 = .ok (.newarray .int, 2) := by decide +kernel
theorem dX8_init_34 : decode cX8_init 34 = .ok (.putfield 23, 3) := by decide +kernel
theorem dX8_init_37 : decode cX8_init 37 = .ok (.aload_n 0, 1) := by decide +kernel
theorem dX8_init_38 : decode cX8_init 38 = .ok (.bipush 10, 2) := by decide +kernel
theorem dX8_init_40 : decode cX8_init 40 = .ok (.newarray .int, 2) := by decide +kernel
theorem dX8_init_42 : decode cX8_init 42 = .ok (.putfield 26, 3) := by decide +kernel
theorem dX8_init_45 : decode cX8_init 45 = .ok (.return_, 1) := by decide +kernel
theorem dX1_init_0 : decode cX1_init 0 = .ok (.aload_n 0, 1) := by decide +kernel
theorem dX1_init_1 : decode cX1_init 1 = .ok (.invokespecial 3, 3) := by decide +kernel
theorem dX1_init_4 : decode cX1_init 4 = .ok (.aload_n 0, 1) := by decide +kernel
theorem dX1_init_5 : decode cX1_init 5 = .ok (.sipush 4096, 3) := by decide +kernel
theorem dX1_init_8 : decode cX1_init 8 = .ok (.newarray .int, 2) := by decide +kernel
theorem dX1_init_10 : decode cX1_init 10 = .ok (.putfield 11, 3) := by decide +kernel
theorem dX1_init_13 : decode cX1_init 13 = .ok (.aload_n 0, 1) := by decide +kernel
theorem dX1_init_14 : decode cX1_init 14 = .ok (.ldc 15, 2) := by decide +kernel
theorem dX1_init_16 : decode cX1_init 16 = .ok (.newarray .long, 2) := by decide +kernel
theorem dX1_init_18 : decode cX1_init 18 = .ok (.putfield 16, 3) := by decide +kernel
theorem dX1_init_21 : decode cX1_init 21 = .ok (.aload_n 0, 1) := by decide +kernel
theorem dX1_init_22 : decode cX1_init 22 = .ok (.bipush 89, 2) := by decide +kernel
theorem dX1_init_24 : decode cX1_init 24 = .ok (.newarray .long, 2) := by decide +kernel
theorem dX1_init_26 : decode cX1_init 26 = .ok (.putfield 22, 3) := by decide +kernel
theorem dX1_init_29 : decode cX1_init 29 = .ok (.return_, 1) := by decide +kernel
theorem dX6_init_0 : decode cX6_init 0 = .ok (.aload_n 0, 1) := by decide +kernel
theorem dX6_init_1 : decode cX6_init 1 = .ok (.invokespecial 3, 3) := by decide +kernel
theorem dX6_init_4 : decode cX6_init 4 = .ok (.aload_n 0, 1) := by decide +kernel
theorem dX6_init_5 : decode cX6_init 5 = .ok (.iconst 1, 1) := by decide +kernel
theorem dX6_init_6 : decode cX6_init 6 = .ok (.putfield 9, 3) := by decide +kernel
theorem dX6_init_9 : decode cX6_init 9 = .ok (.aload_n 0, 1) := by decide +kernel
theorem dX6_init_10 : decode cX6_init 10 = .ok (.bipush 8, 2) := by decide +kernel
theorem dX6_init_12 : decode cX6_init 12 = .ok (.newarray .int, 2) := by decide +kernel
theorem dX6_init_14 : decode cX6_init 14 = .ok (.putfield 15, 3) := by decide +kernel
theorem dX6_init_17 : decode cX6_init 17 = .ok (.aload_n 0, 1) := by decide +kernel
theorem dX6_init_18 : decode cX6_init 18 = .ok (.new 19, 3) := by decide +kernel
theorem dX6_init_21 : decode cX6_init 21 = .ok (.dup, 1) := by decide +kernel
theorem dX6_init_22 : decode cX6_init 22 = .ok (.bipush 12, 2) := by decide +kernel
theorem dX6_init_24 : decode cX6_init 24 = .ok (.invokespecial 21, 3) := by decide +kernel
theorem dX6_init_27 : decode cX6_init 27 = .ok (.putfield 24, 3) := by decide +kernel
theorem dX6_init_30 : decode cX6_init 30 = .ok (.aload_n 0, 1) := by decide +kernel
theorem dX6_init_31 : decode cX6_init 31 = .ok (.new 19, 3) := by decide +kernel
theorem dX6_init_34 : decode cX6_init 34 = .ok (.dup, 1) := by decide +kernel
theorem dX6_init_35 : decode cX6_init 35 = .ok (.bipush 12, 2) := by decide +kernel
theorem dX6_init_37 : decode cX6_init 37 = .ok (.invokespecial 21, 3) := by decide +kernel
theorem dX6_init_40 : decode cX6_init 40 = .ok (.putfield 28, 3) := by decide +kernel
theorem dX6_init_43 : decode cX6_init 43 = .ok (.aload_n 0, 1) := by decide +kernel
theorem dX6_init_44 : decode cX6_init 44 = .ok (.bipush 108, 2) := by decide +kernel
theorem dX6_init_46 : decode cX6_init 46 = .ok (.newarray .int, 2) := by decide +kernel
theorem dX6_init_48 : decode cX6_init 48 = .ok (.putfield 31, 3) := by decide +kernel
theorem dX6_init_51 : decode cX6_init 51 = .ok (.aload_n 0, 1) := by decide +kernel
theorem dX6_init_52 : decode cX6_init 52 = .ok (.bipush 12, 2) := by decide +kernel
theorem dX6_init_54 : decode cX6_init 54 = .ok (.newarray .int, 2) := by decide +kernel
theorem dX6_init_56 : decode cX6_init 56 = .ok (.putfield 34, 3) := by decide +kernel
theorem dX6_init_59 : decode cX6_init 59 = .ok (.aload_n 0, 1) := by decide +kernel
theorem dX6_init_60 : decode cX6_init 60 = .ok (.bipush 8, 2) := by decide +kernel
theorem dX6_init_62 : decode cX6_init 62 = .ok (.newarray .int, 2) := by decide +kernel
theorem dX6_init_64 : decode cX6_init 64 = .ok (.putfield 37, 3) := by decide +kernel
theorem dX6_init_67 : decode cX6_init 67 = .ok (.return_, 1) := by decide +kernel
theorem dX2_init_0 : decode cX2_init 0 = .ok (.aload_n 0, 1) := by decide +kernel
theorem dX2_init_1 : decode cX2_init 1 = .ok (.invokespecial 3, 3) := by decide +kernel
theorem dX2_init_4 : decode cX2_init 4 = .ok (.aload_n 0, 1) := by decide +kernel
theorem dX2_init_5 : decode cX2_init 5 = .ok (.new 9, 3) := by decide +kernel
theorem dX2_init_8 : decode cX2_init 8 = .ok (.dup, 1) := by decide +kernel
theorem dX2_init_9 : decode cX2_init 9 = .ok (.invokespecial 11, 3) := by decide +kernel
theorem dX2_init_12 : decode cX2_init 12 = .ok (.putfield 12, 3) := by decide +kernel
theorem dX2_init_15 : decode cX2_init 15 = .ok (.aload_n 0, 1) := by decide +kernel
theorem dX2_init_16 : decode cX2_init 16 = .ok (.iconst (-1), 1) := by decide +kernel
theorem dX2_init_17 : decode cX2_init 17 = .ok (.putfield 18, 3) := by decide +kernel
theorem dX2_init_20 : decode cX2_init 20 = .ok (.aload_n 0, 1) := by decide +kernel
theorem dX2_init_21 : decode cX2_init 21 = .ok (.sipush 600, 3) := by decide +kernel
theorem dX2_init_24 : decode cX2_init 24 = .ok (.newarray .int, 2) := by decide +kernel
theorem dX2_init_26 : decode cX2_init 26 = .ok (.putfield 22, 3) := by decide +kernel
theorem dX2_init_29 : decode cX2_init 29 = .ok (.return_, 1) := by decide +kernel
theorem dX0_init_0 : decode cX0_init 0 = .ok (.aload_n 0, 1) := by decide +kernel
theorem dX0_init_1 : decode cX0_init 1 = .ok (.invokespecial 3, 3) := by decide +kernel
theorem dX0_init_4 : decode cX0_init 4 = .ok (.aload_n 0, 1) := by decide +kernel
theorem dX0_init_5 : decode cX0_init 5 = .ok (.sipush 584, 3) := by decide +kernel
theorem dX0_init_8 : decode cX0_init 8 = .ok (.newarray .int, 2) := by decide +kernel
theorem dX0_init_10 : decode cX0_init 10 = .ok (.putfield 11, 3) := by decide +kernel
theorem dX0_init_13 : decode cX0_init 13 = .ok (.aload_n 0, 1) := by decide +kernel
theorem dX0_init_14 : decode cX0_init 14 = .ok (.sipush 5329, 3) := by decide +kernel
theorem dX0_init_17 : decode cX0_init 17 = .ok (.newarray .int, 2) := by decide +kernel
theorem dX0_init_19 : decode cX0_init 19 = .ok (.putfield 15, 3) := by decide +kernel
theorem dX0_init_22 : decode cX0_init 22 = .ok (.aload_n 0, 1) := by decide +kernel
theorem dX0_init_23 : decode cX0_init 23 = .ok (.bipush 6, 2) := by decide +kernel
theorem dX0_init_25 : decode cX0_init 25 = .ok (.newarray .int, 2) := by decide +kernel
theorem dX0_init_27 : decode cX0_init 27 = .ok (.putfield 18, 3) := by decide +kernel
theorem dX0_init_30 : decode cX0_init 30 = .ok (.aload_n 0, 1) := by decide +kernel
theorem dX0_init_31 : decode cX0_init 31 = .ok (.bipush 6, 2) := by decide +kernel
theorem dX0_init_33 : decode cX0_init 33 = .ok (.newarray .int, 2) := by decide +kernel
theorem dX0_init_35 : decode cX0_init 35 = .ok (.putfield 21, 3) := by decide +kernel
theorem dX0_init_38 : decode cX0_init 38 = .ok (.aload_n 0, 1) := by decide +kernel
theorem dX0_init_39 : decode cX0_init 39 = .ok (.sipush 511, 3) := by decide +kernel
theorem dX0_init_42 : decode cX0_init 42 = .ok (.newarray .int, 2) := by decide +kernel
theorem dX0_init_44 : decode cX0_init 44 = .ok (.putfield 24, 3) := by decide +kernel
theorem dX0_init_47 : decode cX0_init 47 = .ok (.aload_n 0, 1) := by decide +kernel
theorem dX0_init_48 : decode cX0_init 48 = .ok (.bipush 6, 2) := by decide +kernel
theorem dX0_init_50 : decode cX0_init 50 = .ok (.newarray .int, 2) := by decide +kernel
theorem dX0_init_52 : decode cX0_init 52 = .ok (.putfield 27, 3) := by decide +kernel
theorem dX0_init_55 : decode cX0_init 55 = .ok (.aload_n 0, 1) := by decide +kernel
theorem dX0_init_56 : decode cX0_init 56 = .ok (.iconst 2, 1) := by decide +kernel
theorem dX0_init_57 : decode cX0_init 57 = .ok (.newarray .int, 2) := by decide +kernel
theorem dX0_init_59 : decode cX0_init 59 = .ok (.putfield 30, 3) := by decide +kernel
theorem dX0_init_62 : decode cX0_init 62 = .ok (.aload_n 0, 1) := by decide +kernel
theorem dX0_init_63 : decode cX0_init 63 = .ok (.iconst (-1), 1) := by decide +kernel
theorem dX0_init_64 : decode cX0_init 64 = .ok (.putfield 33, 3) := by decide +kernel
theorem dX0_init_67 : decode cX0_init 67 = .ok (.return_, 1) := by decide +kernel
end
section
set_option maxHeartbeats 8000000 in
set_option maxRecDepth 100000 in
theorem cc_X9_init_0 (l : Launch) (D : va_G) (cI cL cZ : ClassId) (sz : Nat) (a0 : Nat) : mV l D cI cL cZ yX9_init cX9_init 2 none 1 30 2 108 [.ref a0, .int 12] sz [(a0, .inr (9, [.null, .null, .int 0]))] (fun (w1 : va_W) => ∃ (q_1 : Nat) (q_2 : Nat), w1 = ([(a0, .inr (9, [.ref q_1, .ref q_2, .int 0])), (q_1, .inl (cI, 96, .inl z0)), (q_2, .inl (cI, 12, .inl z0))] : va_W)) := by
  obtain ⟨dC, dI⟩ := D
  refine Met.ofW (cc := cX9_init) (maxL := 2) (ret := none) (by decide) rfl ?_
  intro p e s m args below meth c s₁ B hml hv
  obtain ⟨rfl, hsz, hP, hK, hD0, hN⟩ := hv
  have hx := B.exec
  have hb := B.bytes
  have hr := B.returns
  have hU : ∀ w ∈ wsU, w.before _ s = true := fun w h => atoms_spec (ws := wU yX9_init cX9_init 2 none) B.pre w (List.mem_cons_of_mem _ h)
  have hown : s.vm.findClass RX9 = some m.cls := findClass_of_methodNamed B.named
  have hlocks := B.notSynchronized
  have hin : meth.name = "<init>" := (name_of_methodNamed B.named B.method).1
  subst hsz
  have hD := hD0.self (sz := s.heap.size)
  generalize hAe : va_A [(a0, .inr (9, [.null, .null, .int 0]))] s.heap.size = A at hD ⊢
  have hA : ∀ q : Nat, s.heap.size ≤ q → A q := fun q h => by rw [← hAe]; exact Or.inr h
  have hS : va_S A s.heap s.heap [] := va_S.rf
  have hP : va_P (dC, dI) vwCl [(a0, .inr (9, [.null, .null, .int 0]))] s.heap := hP
  have hl := lv_entry ([.ref a0, .int 12]) (n := 2) (Nat.le_of_ble_eq_true rfl)
  rw [lg_entry_eq]
  generalize (lg_sl ([.ref a0, .int 12]) ++ List.replicate (2 - (lg_sl ([.ref a0, .int 12])).length) Slot.unset).toArray = ls at hl ⊢
  have hl : lv_has ls 2 [(0, .ref a0), (1, .int 12)] := hl
  refine lv_aload_n hx hb dX9_init_0 rfl (lv_at hl 0 rfl) ?_
  refine W.objInit hx hb hown (hU _ wd_94) (hU _ wd_10) (hU _ wd_11) rfl (by rw [hml]; exact hl.1) rfl dX9_init_1 (Nat.le_of_ble_eq_true rfl) (Nat.le_of_ble_eq_true rfl) ?_
  refine W.eq (g2 := F0 m 4 ls []) rfl ?_
  refine lv_aload_n hx hb dX9_init_4 rfl (lv_at hl 0 rfl) ?_
  refine lv_iload_n hx hb dX9_init_5 rfl (lv_at hl 1 rfl) ?_
  refine lv_bipush (v := 8) hx hb dX9_init_6 (by decide) ?_
  refine lv_imul hx hb dX9_init_8 ?_
  refine tk_topi (y := 96) (by decide) ?_
  refine tk_newa (atype := .int) (ty := .int) (a0 := (96, .inl z0)) hx hb 0 (hU (.arrayClass .int) wd_12) rfl (fun _ => Iff.rfl) hK rfl hP hD hS hA (fun _ => rfl) (by decide) (by decide) (Nat.le_of_ble_eq_true rfl) (Nat.le_of_ble_eq_true rfl) (Nat.le_of_ble_eq_true rfl) dX9_init_9 (fun q_1 H hP hD hS => ?_)
  have hP : va_P (dC, dI) vwCl [(a0, .inr (9, [.null, .null, .int 0])), (q_1, .inl (cI, 96, .inl z0))] H := hP
  have hD : va_D A [(a0, .inr (9, [.null, .null, .int 0])), (q_1, .inl (cI, 96, .inl z0))] := hD
  refine W.widen (k := 1) (n := 96) (Nat.le_of_ble_eq_true rfl) (Nat.le_of_ble_eq_true rfl) ?_
  refine va_putF (D := (dC, dI)) (ci := 9) (v := .ref q_1) (ty := .array .int) (C := RX9) (T := TX9) (N := 3) hx hb hU inlX9 tyX9 tyX9_ok nmX9 hown hK hP hD hS 0 rfl rfl 0 (by decide) (hU _ wd_95) (fun _ h9 => h9) rfl hin rfl (by decide +kernel) rfl rfl (Nat.le_of_ble_eq_true rfl) dX9_init_11 (fun H locs hP hD hS => ?_)
  have hP : va_P (dC, dI) vwCl [(a0, .inr (9, [.ref q_1, .null, .int 0])), (q_1, .inl (cI, 96, .inl z0))] H := hP
  have hD : va_D A [(a0, .inr (9, [.ref q_1, .null, .int 0])), (q_1, .inl (cI, 96, .inl z0))] := hD
  refine lv_aload_n hx hb dX9_init_14 rfl (lv_at hl 0 rfl) ?_
  refine lv_iload_n hx hb dX9_init_15 rfl (lv_at hl 1 rfl) ?_
  refine tk_newa (atype := .int) (ty := .int) (a0 := (12, .inl z0)) hx hb 0 (hU (.arrayClass .int) wd_12) rfl (fun _ => Iff.rfl) hK rfl hP hD hS hA (fun _ => rfl) (by decide) (by decide) (Nat.le_of_ble_eq_true rfl) (Nat.le_of_ble_eq_true rfl) (Nat.le_of_ble_eq_true rfl) dX9_init_16 (fun q_2 H hP hD hS => ?_)
  have hP : va_P (dC, dI) vwCl [(a0, .inr (9, [.ref q_1, .null, .int 0])), (q_1, .inl (cI, 96, .inl z0)), (q_2, .inl (cI, 12, .inl z0))] H := hP
  have hD : va_D A [(a0, .inr (9, [.ref q_1, .null, .int 0])), (q_1, .inl (cI, 96, .inl z0)), (q_2, .inl (cI, 12, .inl z0))] := hD
  refine W.widen (k := 2) (n := 108) (Nat.le_of_ble_eq_true rfl) (Nat.le_of_ble_eq_true rfl) ?_
  refine va_putF (D := (dC, dI)) (ci := 9) (v := .ref q_2) (ty := .array .int) (C := RX9) (T := TX9) (N := 3) hx hb hU inlX9 tyX9 tyX9_ok nmX9 hown hK hP hD hS 0 rfl rfl 1 (by decide) (hU _ wd_96) (fun _ h9 => h9) rfl hin rfl (by decide +kernel) rfl rfl (Nat.le_of_ble_eq_true rfl) dX9_init_18 (fun H locs hP hD hS => ?_)
  have hP : va_P (dC, dI) vwCl [(a0, .inr (9, [.ref q_1, .ref q_2, .int 0])), (q_1, .inl (cI, 96, .inl z0)), (q_2, .inl (cI, 12, .inl z0))] H := hP
  have hD : va_D A [(a0, .inr (9, [.ref q_1, .ref q_2, .int 0])), (q_1, .inl (cI, 96, .inl z0)), (q_2, .inl (cI, 12, .inl z0))] := hD
  have hP9 := hP.sub (ws' := [(a0, .inr (9, [.ref q_1, .ref q_2, .int 0])), (q_1, .inl (cI, 96, .inl z0)), (q_2, .inl (cI, 12, .inl z0))]) [0, 1, 2] rfl
  have hD9 := hD.sub (ws' := [(a0, .inr (9, [.ref q_1, .ref q_2, .int 0])), (q_1, .inl (cI, 96, .inl z0)), (q_2, .inl (cI, 12, .inl z0))]) [0, 1, 2] (by decide) rfl
  refine W.widen (k := 2) (n := 108) (Nat.le_of_ble_eq_true rfl) (Nat.le_of_ble_eq_true rfl) ?_
  exact W.vret hx hb hr (fun t ht hW => ⟨⟨[(a0, .inr (9, [.ref q_1, .ref q_2, .int 0])), (q_1, .inl (cI, 96, .inl z0)), (q_2, .inl (cI, 12, .inl z0))], rfl, ⟨q_1, q_2, rfl⟩, by rw [ht]; exact hP9, va_K.moved hW.alike hK, hD9⟩, hS.F ht⟩) hS.2.2 dX9_init_21
set_option maxHeartbeats 8000000 in
set_option maxRecDepth 100000 in
theorem cc_X9_init_1 (l : Launch) (D : va_G) (cI cL cZ : ClassId) (sz : Nat) (a0 : Nat) : mV l D cI cL cZ yX9_init cX9_init 2 none 1 30 2 72 [.ref a0, .int 8] sz [(a0, .inr (9, [.null, .null, .int 0]))] (fun (w1 : va_W) => ∃ (q_1 : Nat) (q_2 : Nat), w1 = ([(a0, .inr (9, [.ref q_1, .ref q_2, .int 0])), (q_1, .inl (cI, 64, .inl z0)), (q_2, .inl (cI, 8, .inl z0))] : va_W)) := by
  obtain ⟨dC, dI⟩ := D
  refine Met.ofW (cc := cX9_init) (maxL := 2) (ret := none) (by decide) rfl ?_
  intro p e s m args below meth c s₁ B hml hv
  obtain ⟨rfl, hsz, hP, hK, hD0, hN⟩ := hv
  have hx := B.exec
  have hb := B.bytes
  have hr := B.returns
  have hU : ∀ w ∈ wsU, w.before _ s = true := fun w h => atoms_spec (ws := wU yX9_init cX9_init 2 none) B.pre w (List.mem_cons_of_mem _ h)
  have hown : s.vm.findClass RX9 = some m.cls := findClass_of_methodNamed B.named
  have hlocks := B.notSynchronized
  have hin : meth.name = "<init>" := (name_of_methodNamed B.named B.method).1
  subst hsz
  have hD := hD0.self (sz := s.heap.size)
  generalize hAe : va_A [(a0, .inr (9, [.null, .null, .int 0]))] s.heap.size = A at hD ⊢
  have hA : ∀ q : Nat, s.heap.size ≤ q → A q := fun q h => by rw [← hAe]; exact Or.inr h
  have hS : va_S A s.heap s.heap [] := va_S.rf
  have hP : va_P (dC, dI) vwCl [(a0, .inr (9, [.null, .null, .int 0]))] s.heap := hP
  have hl := lv_entry ([.ref a0, .int 8]) (n := 2) (Nat.le_of_ble_eq_true rfl)
  rw [lg_entry_eq]
  generalize (lg_sl ([.ref a0, .int 8]) ++ List.replicate (2 - (lg_sl ([.ref a0, .int 8])).length) Slot.unset).toArray = ls at hl ⊢
  have hl : lv_has ls 2 [(0, .ref a0), (1, .int 8)] := hl
  refine lv_aload_n hx hb dX9_init_0 rfl (lv_at hl 0 rfl) ?_
  refine W.objInit hx hb hown (hU _ wd_94) (hU _ wd_10) (hU _ wd_11) rfl (by rw [hml]; exact hl.1) rfl dX9_init_1 (Nat.le_of_ble_eq_true rfl) (Nat.le_of_ble_eq_true rfl) ?_
  refine W.eq (g2 := F0 m 4 ls []) rfl ?_
  refine lv_aload_n hx hb dX9_init_4 rfl (lv_at hl 0 rfl) ?_
  refine lv_iload_n hx hb dX9_init_5 rfl (lv_at hl 1 rfl) ?_
  refine lv_bipush (v := 8) hx hb dX9_init_6 (by decide) ?_
  refine lv_imul hx hb dX9_init_8 ?_
  refine tk_topi (y := 64) (by decide) ?_
  refine tk_newa (atype := .int) (ty := .int) (a0 := (64, .inl z0)) hx hb 0 (hU (.arrayClass .int) wd_12) rfl (fun _ => Iff.rfl) hK rfl hP hD hS hA (fun _ => rfl) (by decide) (by decide) (Nat.le_of_ble_eq_true rfl) (Nat.le_of_ble_eq_true rfl) (Nat.le_of_ble_eq_true rfl) dX9_init_9 (fun q_1 H hP hD hS => ?_)
  have hP : va_P (dC, dI) vwCl [(a0, .inr (9, [.null, .null, .int 0])), (q_1, .inl (cI, 64, .inl z0))] H := hP
  have hD : va_D A [(a0, .inr (9, [.null, .null, .int 0])), (q_1, .inl (cI, 64, .inl z0))] := hD
  refine W.widen (k := 1) (n := 64) (Nat.le_of_ble_eq_true rfl) (Nat.le_of_ble_eq_true rfl) ?_
  refine va_putF (D := (dC, dI)) (ci := 9) (v := .ref q_1) (ty := .array .int) (C := RX9) (T := TX9) (N := 3) hx hb hU inlX9 tyX9 tyX9_ok nmX9 hown hK hP hD hS 0 rfl rfl 0 (by decide) (hU _ wd_95) (fun _ h9 => h9) rfl hin rfl (by decide +kernel) rfl rfl (Nat.le_of_ble_eq_true rfl) dX9_init_11 (fun H locs hP hD hS => ?_)
  have hP : va_P (dC, dI) vwCl [(a0, .inr (9, [.ref q_1, .null, .int 0])), (q_1, .inl (cI, 64, .inl z0))] H := hP
  have hD : va_D A [(a0, .inr (9, [.ref q_1, .null, .int 0])), (q_1, .inl (cI, 64, .inl z0))] := hD
  refine lv_aload_n hx hb dX9_init_14 rfl (lv_at hl 0 rfl) ?_
  refine lv_iload_n hx hb dX9_init_15 rfl (lv_at hl 1 rfl) ?_
  refine tk_newa (atype := .int) (ty := .int) (a0 := (8, .inl z0)) hx hb 0 (hU (.arrayClass .int) wd_12) rfl (fun _ => Iff.rfl) hK rfl hP hD hS hA (fun _ => rfl) (by decide) (by decide) (Nat.le_of_ble_eq_true rfl) (Nat.le_of_ble_eq_true rfl) (Nat.le_of_ble_eq_true rfl) dX9_init_16 (fun q_2 H hP hD hS => ?_)
  have hP : va_P (dC, dI) vwCl [(a0, .inr (9, [.ref q_1, .null, .int 0])), (q_1, .inl (cI, 64, .inl z0)), (q_2, .inl (cI, 8, .inl z0))] H := hP
  have hD : va_D A [(a0, .inr (9, [.ref q_1, .null, .int 0])), (q_1, .inl (cI, 64, .inl z0)), (q_2, .inl (cI, 8, .inl z0))] := hD
  refine W.widen (k := 2) (n := 72) (Nat.le_of_ble_eq_true rfl) (Nat.le_of_ble_eq_true rfl) ?_
  refine va_putF (D := (dC, dI)) (ci := 9) (v := .ref q_2) (ty := .array .int) (C := RX9) (T := TX9) (N := 3) hx hb hU inlX9 tyX9 tyX9_ok nmX9 hown hK hP hD hS 0 rfl rfl 1 (by decide) (hU _ wd_96) (fun _ h9 => h9) rfl hin rfl (by decide +kernel) rfl rfl (Nat.le_of_ble_eq_true rfl) dX9_init_18 (fun H locs hP hD hS => ?_)
  have hP : va_P (dC, dI) vwCl [(a0, .inr (9, [.ref q_1, .ref q_2, .int 0])), (q_1, .inl (cI, 64, .inl z0)), (q_2, .inl (cI, 8, .inl z0))] H := hP
  have hD : va_D A [(a0, .inr (9, [.ref q_1, .ref q_2, .int 0])), (q_1, .inl (cI, 64, .inl z0)), (q_2, .inl (cI, 8, .inl z0))] := hD
  have hP9 := hP.sub (ws' := [(a0, .inr (9, [.ref q_1, .ref q_2, .int 0])), (q_1, .inl (cI, 64, .inl z0)), (q_2, .inl (cI, 8, .inl z0))]) [0, 1, 2] rfl
  have hD9 := hD.sub (ws' := [(a0, .inr (9, [.ref q_1, .ref q_2, .int 0])), (q_1, .inl (cI, 64, .inl z0)), (q_2, .inl (cI, 8, .inl z0))]) [0, 1, 2] (by decide) rfl
  refine W.widen (k := 2) (n := 72) (Nat.le_of_ble_eq_true rfl) (Nat.le_of_ble_eq_true rfl) ?_
  exact W.vret hx hb hr (fun t ht hW => ⟨⟨[(a0, .inr (9, [.ref q_1, .ref q_2, .int 0])), (q_1, .inl (cI, 64, .inl z0)), (q_2, .inl (cI, 8, .inl z0))], rfl, ⟨q_1, q_2, rfl⟩, by rw [ht]; exact hP9, va_K.moved hW.alike hK, hD9⟩, hS.F ht⟩) hS.2.2 dX9_init_21
set_option maxHeartbeats 8000000 in
set_option maxRecDepth 100000 in
theorem cc_X5_init_0 (l : Launch) (D : va_G) (cI cL cZ : ClassId) (sz : Nat) (a0 : Nat) : mV l D cI cL cZ yX5_init cX5_init 1 none 1 30 3 56 [.ref a0] sz [(a0, .inr (5, [.null, .null, .null, .int 0, .int 0, .int 0]))] (fun (w1 : va_W) => w1 = ([] : va_W)) := by
  obtain ⟨dC, dI⟩ := D
  refine Met.ofW (cc := cX5_init) (maxL := 1) (ret := none) (by decide) rfl ?_
  intro p e s m args below meth c s₁ B hml hv
  obtain ⟨rfl, hsz, hP, hK, hD0, hN⟩ := hv
  have hx := B.exec
  have hb := B.bytes
  have hr := B.returns
  have hU : ∀ w ∈ wsU, w.before _ s = true := fun w h => atoms_spec (ws := wU yX5_init cX5_init 1 none) B.pre w (List.mem_cons_of_mem _ h)
  have hown : s.vm.findClass RX5 = some m.cls := findClass_of_methodNamed B.named
  have hlocks := B.notSynchronized
  have hin : meth.name = "<init>" := (name_of_methodNamed B.named B.method).1
  subst hsz
  have hD := hD0.self (sz := s.heap.size)
  generalize hAe : va_A [(a0, .inr (5, [.null, .null, .null, .int 0, .int 0, .int 0]))] s.heap.size = A at hD ⊢
  have hA : ∀ q : Nat, s.heap.size ≤ q → A q := fun q h => by rw [← hAe]; exact Or.inr h
  have hS : va_S A s.heap s.heap [] := va_S.rf
  have hP : va_P (dC, dI) vwCl [(a0, .inr (5, [.null, .null, .null, .int 0, .int 0, .int 0]))] s.heap := hP
  have hl := lv_entry ([.ref a0]) (n := 1) (Nat.le_of_ble_eq_true rfl)
  rw [lg_entry_eq]
  generalize (lg_sl ([.ref a0]) ++ List.replicate (1 - (lg_sl ([.ref a0])).length) Slot.unset).toArray = ls at hl ⊢
  have hl : lv_has ls 1 [(0, .ref a0)] := hl
  refine lv_aload_n hx hb dX5_init_0 rfl (lv_at hl 0 rfl) ?_
  refine W.objInit hx hb hown (hU _ wd_109) (hU _ wd_10) (hU _ wd_11) rfl (by rw [hml]; exact hl.1) rfl dX5_init_1 (Nat.le_of_ble_eq_true rfl) (Nat.le_of_ble_eq_true rfl) ?_
  refine W.eq (g2 := F0 m 4 ls []) rfl ?_
  refine lv_aload_n hx hb dX5_init_4 rfl (lv_at hl 0 rfl) ?_
  refine lv_bipush (v := 18) hx hb dX5_init_5 (by decide) ?_
  refine tk_newa (atype := .int) (ty := .int) (a0 := (18, .inl z0)) hx hb 0 (hU (.arrayClass .int) wd_12) rfl (fun _ => Iff.rfl) hK rfl hP hD hS hA (fun _ => rfl) (by decide) (by decide) (Nat.le_of_ble_eq_true rfl) (Nat.le_of_ble_eq_true rfl) (Nat.le_of_ble_eq_true rfl) dX5_init_7 (fun q_1 H hP hD hS => ?_)
  have hP : va_P (dC, dI) vwCl [(a0, .inr (5, [.null, .null, .null, .int 0, .int 0, .int 0])), (q_1, .inl (cI, 18, .inl z0))] H := hP
  have hD : va_D A [(a0, .inr (5, [.null, .null, .null, .int 0, .int 0, .int 0])), (q_1, .inl (cI, 18, .inl z0))] := hD
  refine W.widen (k := 1) (n := 18) (Nat.le_of_ble_eq_true rfl) (Nat.le_of_ble_eq_true rfl) ?_
  refine va_putF (D := (dC, dI)) (ci := 5) (v := .ref q_1) (ty := .array .int) (C := RX5) (T := TX5) (N := 6) hx hb hU inlX5 tyX5 tyX5_ok nmX5 hown hK hP hD hS 0 rfl rfl 0 (by decide) (hU _ wd_110) (fun _ h9 => h9) rfl hin rfl (by decide +kernel) rfl rfl (Nat.le_of_ble_eq_true rfl) dX5_init_9 (fun H locs hP hD hS => ?_)
  have hP : va_P (dC, dI) vwCl [(a0, .inr (5, [.ref q_1, .null, .null, .int 0, .int 0, .int 0])), (q_1, .inl (cI, 18, .inl z0))] H := hP
  have hD : va_D A [(a0, .inr (5, [.ref q_1, .null, .null, .int 0, .int 0, .int 0])), (q_1, .inl (cI, 18, .inl z0))] := hD
  refine lv_aload_n hx hb dX5_init_12 rfl (lv_at hl 0 rfl) ?_
  refine lv_bipush (v := 18) hx hb dX5_init_13 (by decide) ?_
  refine tk_newa (atype := .int) (ty := .int) (a0 := (18, .inl z0)) hx hb 0 (hU (.arrayClass .int) wd_12) rfl (fun _ => Iff.rfl) hK rfl hP hD hS hA (fun _ => rfl) (by decide) (by decide) (Nat.le_of_ble_eq_true rfl) (Nat.le_of_ble_eq_true rfl) (Nat.le_of_ble_eq_true rfl) dX5_init_15 (fun q_2 H hP hD hS => ?_)
  have hP : va_P (dC, dI) vwCl [(a0, .inr (5, [.ref q_1, .null, .null, .int 0, .int 0, .int 0])), (q_1, .inl (cI, 18, .inl z0)), (q_2, .inl (cI, 18, .inl z0))] H := hP
  have hD : va_D A [(a0, .inr (5, [.ref q_1, .null, .null, .int 0, .int 0, .int 0])), (q_1, .inl (cI, 18, .inl z0)), (q_2, .inl (cI, 18, .inl z0))] := hD
  refine W.widen (k := 2) (n := 36) (Nat.le_of_ble_eq_true rfl) (Nat.le_of_ble_eq_true rfl) ?_
  refine va_putF (D := (dC, dI)) (ci := 5) (v := .ref q_2) (ty := .array .int) (C := RX5) (T := TX5) (N := 6) hx hb hU inlX5 tyX5 tyX5_ok nmX5 hown hK hP hD hS 0 rfl rfl 1 (by decide) (hU _ wd_111) (fun _ h9 => h9) rfl hin rfl (by decide +kernel) rfl rfl (Nat.le_of_ble_eq_true rfl) dX5_init_17 (fun H locs hP hD hS => ?_)
  have hP : va_P (dC, dI) vwCl [(a0, .inr (5, [.ref q_1, .ref q_2, .null, .int 0, .int 0, .int 0])), (q_1, .inl (cI, 18, .inl z0)), (q_2, .inl (cI, 18, .inl z0))] H := hP
  have hD : va_D A [(a0, .inr (5, [.ref q_1, .ref q_2, .null, .int 0, .int 0, .int 0])), (q_1, .inl (cI, 18, .inl z0)), (q_2, .inl (cI, 18, .inl z0))] := hD
  refine lv_aload_n hx hb dX5_init_20 rfl (lv_at hl 0 rfl) ?_
  refine lv_bipush (v := 20) hx hb dX5_init_21 (by decide) ?_
  refine tk_newa (atype := .int) (ty := .int) (a0 := (20, .inl z0)) hx hb 0 (hU (.arrayClass .int) wd_12) rfl (fun _ => Iff.rfl) hK rfl hP hD hS hA (fun _ => rfl) (by decide) (by decide) (Nat.le_of_ble_eq_true rfl) (Nat.le_of_ble_eq_true rfl) (Nat.le_of_ble_eq_true rfl) dX5_init_23 (fun q_3 H hP hD hS => ?_)
  have hP : va_P (dC, dI) vwCl [(a0, .inr (5, [.ref q_1, .ref q_2, .null, .int 0, .int 0, .int 0])), (q_1, .inl (cI, 18, .inl z0)), (q_2, .inl (cI, 18, .inl z0)), (q_3, .inl (cI, 20, .inl z0))] H := hP
  have hD : va_D A [(a0, .inr (5, [.ref q_1, .ref q_2, .null, .int 0, .int 0, .int 0])), (q_1, .inl (cI, 18, .inl z0)), (q_2, .inl (cI, 18, .inl z0)), (q_3, .inl (cI, 20, .inl z0))] := hD
  refine W.widen (k := 3) (n := 56) (Nat.le_of_ble_eq_true rfl) (Nat.le_of_ble_eq_true rfl) ?_
  refine va_putF (D := (dC, dI)) (ci := 5) (v := .ref q_3) (ty := .array .int) (C := RX5) (T := TX5) (N := 6) hx hb hU inlX5 tyX5 tyX5_ok nmX5 hown hK hP hD hS 0 rfl rfl 2 (by decide) (hU _ wd_112) (fun _ h9 => h9) rfl hin rfl (by decide +kernel) rfl rfl (Nat.le_of_ble_eq_true rfl) dX5_init_25 (fun H locs hP hD hS => ?_)
  have hP : va_P (dC, dI) vwCl [(a0, .inr (5, [.ref q_1, .ref q_2, .ref q_3, .int 0, .int 0, .int 0])), (q_1, .inl (cI, 18, .inl z0)), (q_2, .inl (cI, 18, .inl z0)), (q_3, .inl (cI, 20, .inl z0))] H := hP
  have hD : va_D A [(a0, .inr (5, [.ref q_1, .ref q_2, .ref q_3, .int 0, .int 0, .int 0])), (q_1, .inl (cI, 18, .inl z0)), (q_2, .inl (cI, 18, .inl z0)), (q_3, .inl (cI, 20, .inl z0))] := hD
  have hP9 := hP.sub (ws' := []) [] rfl
  have hD9 := hD.sub (ws' := []) [] (by decide) rfl
  refine W.widen (k := 3) (n := 56) (Nat.le_of_ble_eq_true rfl) (Nat.le_of_ble_eq_true rfl) ?_
  exact W.vret hx hb hr (fun t ht hW => ⟨⟨[], rfl, rfl, by rw [ht]; exact hP9, va_K.moved hW.alike hK, hD9⟩, hS.F ht⟩) hS.2.2 dX5_init_28
set_option maxHeartbeats 8000000 in
set_option maxRecDepth 100000 in
theorem cc_X4_init_0 (l : Launch) (D : va_G) (cI cL cZ : ClassId) (sz : Nat) (a0 : Nat) : mV l D cI cL cZ yX4_init cX4_init 1 none 2 50 10 152 [.ref a0] sz [(a0, .inr (4, [.int 0, .int 0, .int 0, .int 0, .null, .null, .null, .null, .int 0, .int 0, .int 0]))] (fun (w1 : va_W) => ∃ (q_1 : Nat) (q_4 : Nat) (q_7 : Nat) (q_8 : Nat), w1 = ([(a0, .inr (4, [.int 0, .int 0, .int 0, .int 0, .ref q_1, .ref q_4, .ref q_7, .ref q_8, .int 0, .int 0, .int 0]))] : va_W)) := by
  obtain ⟨dC, dI⟩ := D
  refine Met.ofW (cc := cX4_init) (maxL := 1) (ret := none) (by decide) rfl ?_
  intro p e s m args below meth c s₁ B hml hv
  obtain ⟨rfl, hsz, hP, hK, hD0, hN⟩ := hv
  have hx := B.exec
  have hb := B.bytes
  have hr := B.returns
  have hU : ∀ w ∈ wsU, w.before _ s = true := fun w h => atoms_spec (ws := wU yX4_init cX4_init 1 none) B.pre w (List.mem_cons_of_mem _ h)
  have hown : s.vm.findClass RX4 = some m.cls := findClass_of_methodNamed B.named
  have hlocks := B.notSynchronized
  have hin : meth.name = "<init>" := (name_of_methodNamed B.named B.method).1
  subst hsz
  have hD := hD0.self (sz := s.heap.size)
  generalize hAe : va_A [(a0, .inr (4, [.int 0, .int 0, .int 0, .int 0, .null, .null, .null, .null, .int 0, .int 0, .int 0]))] s.heap.size = A at hD ⊢
  have hA : ∀ q : Nat, s.heap.size ≤ q → A q := fun q h => by rw [← hAe]; exact Or.inr h
  have hS : va_S A s.heap s.heap [] := va_S.rf
  have hP : va_P (dC, dI) vwCl [(a0, .inr (4, [.int 0, .int 0, .int 0, .int 0, .null, .null, .null, .null, .int 0, .int 0, .int 0]))] s.heap := hP
  have hl := lv_entry ([.ref a0]) (n := 1) (Nat.le_of_ble_eq_true rfl)
  rw [lg_entry_eq]
  generalize (lg_sl ([.ref a0]) ++ List.replicate (1 - (lg_sl ([.ref a0])).length) Slot.unset).toArray = ls at hl ⊢
  have hl : lv_has ls 1 [(0, .ref a0)] := hl
  refine lv_aload_n hx hb dX4_init_0 rfl (lv_at hl 0 rfl) ?_
  refine W.objInit hx hb hown (hU _ wd_99) (hU _ wd_10) (hU _ wd_11) rfl (by rw [hml]; exact hl.1) rfl dX4_init_1 (Nat.le_of_ble_eq_true rfl) (Nat.le_of_ble_eq_true rfl) ?_
  refine W.eq (g2 := F0 m 4 ls []) rfl ?_
  refine lv_aload_n hx hb dX4_init_4 rfl (lv_at hl 0 rfl) ?_
  refine va_new (ci := 5) (fs := [.null, .null, .null, .int 0, .int 0, .int 0]) (C := RX5) (T := TX5) (N := 6) hx hb hU inlX5 tyX5 tyX5_ok hown (hU _ wd_100) (hU _ wd_101) (hU _ wd_102) hK hP hD hS hA rfl dvX5 (Nat.le_of_ble_eq_true rfl) (Nat.le_of_ble_eq_true rfl) dX4_init_5 (fun q_1 H hP hD hS => ?_)
  have hP : va_P (dC, dI) vwCl [(a0, .inr (4, [.int 0, .int 0, .int 0, .int 0, .null, .null, .null, .null, .int 0, .int 0, .int 0])), (q_1, .inr (5, [.null, .null, .null, .int 0, .int 0, .int 0]))] H := hP
  have hD : va_D A [(a0, .inr (4, [.int 0, .int 0, .int 0, .int 0, .null, .null, .null, .null, .int 0, .int 0, .int 0])), (q_1, .inr (5, [.null, .null, .null, .int 0, .int 0, .int 0]))] := hD
  refine W.widen (k := 1) (n := 6) (Nat.le_of_ble_eq_true rfl) (Nat.le_of_ble_eq_true rfl) ?_
  refine lv_dup hx hb dX4_init_8 rfl ?_
  refine tk_rv (wr := [(a0, .inr (4, [.int 0, .int 0, .int 0, .int 0, .null, .null, .null, .null, .int 0, .int 0, .int 0]))]) (tk_IN (As := []) (rest := [.ref q_1, .ref a0]) (n := 0) hx hb hml hown hU hN (cc_X5_init_0 l (dC, dI) cI cL cZ H.size q_1) hN.2.2.1 wd_107 wd_102 wd_108 rfl (by decide +kernel) ⟨Nat.le_of_ble_eq_true rfl, Nat.le_of_ble_eq_true rfl⟩ hK hP hD [1] (by decide) rfl rfl hl.1 rfl (Nat.le_of_ble_eq_true rfl) dX4_init_9 ⟨Nat.le_of_ble_eq_true rfl, Nat.le_of_ble_eq_true rfl⟩) hP hD hS hA [1] [0] rfl rfl (by decide) (by decide) (fun w_3 H locs hw hP hD hS => ?_)
  subst hw
  have hP : va_P (dC, dI) vwCl [(a0, .inr (4, [.int 0, .int 0, .int 0, .int 0, .null, .null, .null, .null, .int 0, .int 0, .int 0]))] H := hP
  have hD : va_D A [(a0, .inr (4, [.int 0, .int 0, .int 0, .int 0, .null, .null, .null, .null, .int 0, .int 0, .int 0]))] := hD
  refine W.widen (k := 4) (n := 62) (Nat.le_of_ble_eq_true rfl) (Nat.le_of_ble_eq_true rfl) ?_
  refine va_putF (D := (dC, dI)) (ci := 4) (v := .ref q_1) (ty := .object "SaidShallow$Side") (C := RX4) (T := TX4) (N := 11) hx hb hU inlX4 tyX4 tyX4_ok nmX4 hown hK hP hD hS 0 rfl rfl 4 (by decide) (hU _ wd_103) (fun _ h9 => h9) rfl hin rfl (by decide +kernel) rfl rfl (Nat.le_of_ble_eq_true rfl) dX4_init_12 (fun H locs hP hD hS => ?_)
  have hP : va_P (dC, dI) vwCl [(a0, .inr (4, [.int 0, .int 0, .int 0, .int 0, .ref q_1, .null, .null, .null, .int 0, .int 0, .int 0]))] H := hP
  have hD : va_D A [(a0, .inr (4, [.int 0, .int 0, .int 0, .int 0, .ref q_1, .null, .null, .null, .int 0, .int 0, .int 0]))] := hD
  refine lv_aload_n hx hb dX4_init_15 rfl (lv_at hl 0 rfl) ?_
  refine va_new (ci := 5) (fs := [.null, .null, .null, .int 0, .int 0, .int 0]) (C := RX5) (T := TX5) (N := 6) hx hb hU inlX5 tyX5 tyX5_ok hown (hU _ wd_100) (hU _ wd_101) (hU _ wd_102) hK hP hD hS hA rfl dvX5 (Nat.le_of_ble_eq_true rfl) (Nat.le_of_ble_eq_true rfl) dX4_init_16 (fun q_4 H hP hD hS => ?_)
  have hP : va_P (dC, dI) vwCl [(a0, .inr (4, [.int 0, .int 0, .int 0, .int 0, .ref q_1, .null, .null, .null, .int 0, .int 0, .int 0])), (q_4, .inr (5, [.null, .null, .null, .int 0, .int 0, .int 0]))] H := hP
  have hD : va_D A [(a0, .inr (4, [.int 0, .int 0, .int 0, .int 0, .ref q_1, .null, .null, .null, .int 0, .int 0, .int 0])), (q_4, .inr (5, [.null, .null, .null, .int 0, .int 0, .int 0]))] := hD
  refine W.widen (k := 5) (n := 68) (Nat.le_of_ble_eq_true rfl) (Nat.le_of_ble_eq_true rfl) ?_
  refine lv_dup hx hb dX4_init_19 rfl ?_
  refine tk_rv (wr := [(a0, .inr (4, [.int 0, .int 0, .int 0, .int 0, .ref q_1, .null, .null, .null, .int 0, .int 0, .int 0]))]) (tk_IN (As := []) (rest := [.ref q_4, .ref a0]) (n := 0) hx hb hml hown hU hN (cc_X5_init_0 l (dC, dI) cI cL cZ H.size q_4) hN.2.2.1 wd_107 wd_102 wd_108 rfl (by decide +kernel) ⟨Nat.le_of_ble_eq_true rfl, Nat.le_of_ble_eq_true rfl⟩ hK hP hD [1] (by decide) rfl rfl hl.1 rfl (Nat.le_of_ble_eq_true rfl) dX4_init_20 ⟨Nat.le_of_ble_eq_true rfl, Nat.le_of_ble_eq_true rfl⟩) hP hD hS hA [1] [0] rfl rfl (by decide) (by decide) (fun w_6 H locs hw hP hD hS => ?_)
  subst hw
  have hP : va_P (dC, dI) vwCl [(a0, .inr (4, [.int 0, .int 0, .int 0, .int 0, .ref q_1, .null, .null, .null, .int 0, .int 0, .int 0]))] H := hP
  have hD : va_D A [(a0, .inr (4, [.int 0, .int 0, .int 0, .int 0, .ref q_1, .null, .null, .null, .int 0, .int 0, .int 0]))] := hD
  refine W.widen (k := 8) (n := 124) (Nat.le_of_ble_eq_true rfl) (Nat.le_of_ble_eq_true rfl) ?_
  refine va_putF (D := (dC, dI)) (ci := 4) (v := .ref q_4) (ty := .object "SaidShallow$Side") (C := RX4) (T := TX4) (N := 11) hx hb hU inlX4 tyX4 tyX4_ok nmX4 hown hK hP hD hS 0 rfl rfl 5 (by decide) (hU _ wd_104) (fun _ h9 => h9) rfl hin rfl (by decide +kernel) rfl rfl (Nat.le_of_ble_eq_true rfl) dX4_init_23 (fun H locs hP hD hS => ?_)
  have hP : va_P (dC, dI) vwCl [(a0, .inr (4, [.int 0, .int 0, .int 0, .int 0, .ref q_1, .ref q_4, .null, .null, .int 0, .int 0, .int 0]))] H := hP
  have hD : va_D A [(a0, .inr (4, [.int 0, .int 0, .int 0, .int 0, .ref q_1, .ref q_4, .null, .null, .int 0, .int 0, .int 0]))] := hD
  refine lv_aload_n hx hb dX4_init_26 rfl (lv_at hl 0 rfl) ?_
  refine lv_bipush (v := 20) hx hb dX4_init_27 (by decide) ?_
  refine tk_newa (atype := .int) (ty := .int) (a0 := (20, .inl z0)) hx hb 0 (hU (.arrayClass .int) wd_12) rfl (fun _ => Iff.rfl) hK rfl hP hD hS hA (fun _ => rfl) (by decide) (by decide) (Nat.le_of_ble_eq_true rfl) (Nat.le_of_ble_eq_true rfl) (Nat.le_of_ble_eq_true rfl) dX4_init_29 (fun q_7 H hP hD hS => ?_)
  have hP : va_P (dC, dI) vwCl [(a0, .inr (4, [.int 0, .int 0, .int 0, .int 0, .ref q_1, .ref q_4, .null, .null, .int 0, .int 0, .int 0])), (q_7, .inl (cI, 20, .inl z0))] H := hP
  have hD : va_D A [(a0, .inr (4, [.int 0, .int 0, .int 0, .int 0, .ref q_1, .ref q_4, .null, .null, .int 0, .int 0, .int 0])), (q_7, .inl (cI, 20, .inl z0))] := hD
  refine W.widen (k := 9) (n := 144) (Nat.le_of_ble_eq_true rfl) (Nat.le_of_ble_eq_true rfl) ?_
  refine va_putF (D := (dC, dI)) (ci := 4) (v := .ref q_7) (ty := .array .int) (C := RX4) (T := TX4) (N := 11) hx hb hU inlX4 tyX4 tyX4_ok nmX4 hown hK hP hD hS 0 rfl rfl 6 (by decide) (hU _ wd_105) (fun _ h9 => h9) rfl hin rfl (by decide +kernel) rfl rfl (Nat.le_of_ble_eq_true rfl) dX4_init_31 (fun H locs hP hD hS => ?_)
  have hP : va_P (dC, dI) vwCl [(a0, .inr (4, [.int 0, .int 0, .int 0, .int 0, .ref q_1, .ref q_4, .ref q_7, .null, .int 0, .int 0, .int 0])), (q_7, .inl (cI, 20, .inl z0))] H := hP
  have hD : va_D A [(a0, .inr (4, [.int 0, .int 0, .int 0, .int 0, .ref q_1, .ref q_4, .ref q_7, .null, .int 0, .int 0, .int 0])), (q_7, .inl (cI, 20, .inl z0))] := hD
  refine lv_aload_n hx hb dX4_init_34 rfl (lv_at hl 0 rfl) ?_
  refine lv_bipush (v := 8) hx hb dX4_init_35 (by decide) ?_
  refine tk_newa (atype := .int) (ty := .int) (a0 := (8, .inl z0)) hx hb 0 (hU (.arrayClass .int) wd_12) rfl (fun _ => Iff.rfl) hK rfl hP hD hS hA (fun _ => rfl) (by decide) (by decide) (Nat.le_of_ble_eq_true rfl) (Nat.le_of_ble_eq_true rfl) (Nat.le_of_ble_eq_true rfl) dX4_init_37 (fun q_8 H hP hD hS => ?_)
  have hP : va_P (dC, dI) vwCl [(a0, .inr (4, [.int 0, .int 0, .int 0, .int 0, .ref q_1, .ref q_4, .ref q_7, .null, .int 0, .int 0, .int 0])), (q_7, .inl (cI, 20, .inl z0)), (q_8, .inl (cI, 8, .inl z0))] H := hP
  have hD : va_D A [(a0, .inr (4, [.int 0, .int 0, .int 0, .int 0, .ref q_1, .ref q_4, .ref q_7, .null, .int 0, .int 0, .int 0])), (q_7, .inl (cI, 20, .inl z0)), (q_8, .inl (cI, 8, .inl z0))] := hD
  refine W.widen (k := 10) (n := 152) (Nat.le_of_ble_eq_true rfl) (Nat.le_of_ble_eq_true rfl) ?_
  refine va_putF (D := (dC, dI)) (ci := 4) (v := .ref q_8) (ty := .array .int) (C := RX4) (T := TX4) (N := 11) hx hb hU inlX4 tyX4 tyX4_ok nmX4 hown hK hP hD hS 0 rfl rfl 7 (by decide) (hU _ wd_106) (fun _ h9 => h9) rfl hin rfl (by decide +kernel) rfl rfl (Nat.le_of_ble_eq_true rfl) dX4_init_39 (fun H locs hP hD hS => ?_)
  have hP : va_P (dC, dI) vwCl [(a0, .inr (4, [.int 0, .int 0, .int 0, .int 0, .ref q_1, .ref q_4, .ref q_7, .ref q_8, .int 0, .int 0, .int 0])), (q_7, .inl (cI, 20, .inl z0)), (q_8, .inl (cI, 8, .inl z0))] H := hP
  have hD : va_D A [(a0, .inr (4, [.int 0, .int 0, .int 0, .int 0, .ref q_1, .ref q_4, .ref q_7, .ref q_8, .int 0, .int 0, .int 0])), (q_7, .inl (cI, 20, .inl z0)), (q_8, .inl (cI, 8, .inl z0))] := hD
  have hP9 := hP.sub (ws' := [(a0, .inr (4, [.int 0, .int 0, .int 0, .int 0, .ref q_1, .ref q_4, .ref q_7, .ref q_8, .int 0, .int 0, .int 0]))]) [0] rfl
  have hD9 := hD.sub (ws' := [(a0, .inr (4, [.int 0, .int 0, .int 0, .int 0, .ref q_1, .ref q_4, .ref q_7, .ref q_8, .int 0, .int 0, .int 0]))]) [0] (by decide) rfl
  refine W.widen (k := 10) (n := 152) (Nat.le_of_ble_eq_true rfl) (Nat.le_of_ble_eq_true rfl) ?_
  exact W.vret hx hb hr (fun t ht hW => ⟨⟨[(a0, .inr (4, [.int 0, .int 0, .int 0, .int 0, .ref q_1, .ref q_4, .ref q_7, .ref q_8, .int 0, .int 0, .int 0]))], rfl, ⟨q_1, q_4, q_7, q_8, rfl⟩, by rw [ht]; exact hP9, va_K.moved hW.alike hK, hD9⟩, hS.F ht⟩) hS.2.2 dX4_init_42
set_option maxHeartbeats 8000000 in
set_option maxRecDepth 100000 in
theorem cc_X7_init_0 (l : Launch) (D : va_G) (cI cL cZ : ClassId) (sz : Nat) (a0 : Nat) : mV l D cI cL cZ yX7_init cX7_init 2 none 3 70 105 1749 [.ref a0] sz [(a0, .inr (7, [.null, .int 0, .null, .null, .null, .null, .int 0, .null, .null, .null, .null, .null, .int 0, .null, .null, .null]))] (fun (w1 : va_W) => ∃ (q_1 : Nat) (q_2 : Nat) (q_3 : Nat) (q_4 : Nat) (q_5 : Nat) (q_6 : Nat) (q_7 : Nat) (q_8 : Nat) (q_9 : Nat) (q_10 : Nat) (q_11 : Nat) (q_16 : Nat) (q_21 : Nat) (q_14 : Nat) (q_15 : Nat) (q_19 : Nat) (q_20 : Nat), w1 = ([(a0, .inr (7, [.ref q_1, .int 0, .ref q_2, .ref q_3, .ref q_4, .ref q_5, .int 0, .ref q_6, .ref q_7, .ref q_8, .ref q_9, .ref q_10, .int 0, .ref q_11, .ref q_16, .ref q_21])), (q_1, .inl (cI, 26, .inl z0)), (q_2, .inl (cI, 6, .inl z0)), (q_3, .inl (cI, 81, .inl z0)), (q_4, .inl (cI, 20, .inl z0)), (q_5, .inl (cI, 20, .inl z0)), (q_6, .inl (cI, 9, .inl z0)), (q_7, .inl (cI, 9, .inl z0)), (q_8, .inl (cI, 36, .inl z0)), (q_9, .inl (cI, 36, .inl z0)), (q_11, .inr (9, [.ref q_14, .ref q_15, .int 0])), (q_14, .inl (cI, 96, .inl z0)), (q_15, .inl (cI, 12, .inl z0)), (q_16, .inr (9, [.ref q_19, .ref q_20, .int 0])), (q_19, .inl (cI, 64, .inl z0)), (q_20, .inl (cI, 8, .inl z0))] : va_W)) := by
  obtain ⟨dC, dI⟩ := D
  refine Met.ofW (cc := cX7_init) (maxL := 2) (ret := none) (by decide) rfl ?_
  intro p e s m args below meth c s₁ B hml hv
  obtain ⟨rfl, hsz, hP, hK, hD0, hN⟩ := hv
  have hx := B.exec
  have hb := B.bytes
  have hr := B.returns
  have hU : ∀ w ∈ wsU, w.before _ s = true := fun w h => atoms_spec (ws := wU yX7_init cX7_init 2 none) B.pre w (List.mem_cons_of_mem _ h)
  have hown : s.vm.findClass RX7 = some m.cls := findClass_of_methodNamed B.named
  have hlocks := B.notSynchronized
  have hin : meth.name = "<init>" := (name_of_methodNamed B.named B.method).1
  subst hsz
  have hD := hD0.self (sz := s.heap.size)
  generalize hAe : va_A [(a0, .inr (7, [.null, .int 0, .null, .null, .null, .null, .int 0, .null, .null, .null, .null, .null, .int 0, .null, .null, .null]))] s.heap.size = A at hD ⊢
  have hA : ∀ q : Nat, s.heap.size ≤ q → A q := fun q h => by rw [← hAe]; exact Or.inr h
  have hS : va_S A s.heap s.heap [] := va_S.rf
  have hP : va_P (dC, dI) vwCl [(a0, .inr (7, [.null, .int 0, .null, .null, .null, .null, .int 0, .null, .null, .null, .null, .null, .int 0, .null, .null, .null]))] s.heap := hP
  have hl := lv_entry ([.ref a0]) (n := 2) (Nat.le_of_ble_eq_true rfl)
  rw [lg_entry_eq]
  generalize (lg_sl ([.ref a0]) ++ List.replicate (2 - (lg_sl ([.ref a0])).length) Slot.unset).toArray = ls at hl ⊢
  have hl : lv_has ls 2 [(0, .ref a0)] := hl
  refine lv_aload_n hx hb dX7_init_0 rfl (lv_at hl 0 rfl) ?_
  refine W.objInit hx hb hown (hU _ wd_71) (hU _ wd_10) (hU _ wd_11) rfl (by rw [hml]; exact hl.1) rfl dX7_init_1 (Nat.le_of_ble_eq_true rfl) (Nat.le_of_ble_eq_true rfl) ?_
  refine W.eq (g2 := F0 m 4 ls []) rfl ?_
  refine lv_aload_n hx hb dX7_init_4 rfl (lv_at hl 0 rfl) ?_
  refine lv_bipush (v := 26) hx hb dX7_init_5 (by decide) ?_
  refine tk_newa (atype := .int) (ty := .int) (a0 := (26, .inl z0)) hx hb 0 (hU (.arrayClass .int) wd_12) rfl (fun _ => Iff.rfl) hK rfl hP hD hS hA (fun _ => rfl) (by decide) (by decide) (Nat.le_of_ble_eq_true rfl) (Nat.le_of_ble_eq_true rfl) (Nat.le_of_ble_eq_true rfl) dX7_init_7 (fun q_1 H hP hD hS => ?_)
  have hP : va_P (dC, dI) vwCl [(a0, .inr (7, [.null, .int 0, .null, .null, .null, .null, .int 0, .null, .null, .null, .null, .null, .int 0, .null, .null, .null])), (q_1, .inl (cI, 26, .inl z0))] H := hP
  have hD : va_D A [(a0, .inr (7, [.null, .int 0, .null, .null, .null, .null, .int 0, .null, .null, .null, .null, .null, .int 0, .null, .null, .null])), (q_1, .inl (cI, 26, .inl z0))] := hD
  refine W.widen (k := 1) (n := 26) (Nat.le_of_ble_eq_true rfl) (Nat.le_of_ble_eq_true rfl) ?_
  refine va_putF (D := (dC, dI)) (ci := 7) (v := .ref q_1) (ty := .array .int) (C := RX7) (T := TX7) (N := 16) hx hb hU inlX7 tyX7 tyX7_ok nmX7 hown hK hP hD hS 0 rfl rfl 0 (by decide) (hU _ wd_72) (fun _ h9 => h9) rfl hin rfl (by decide +kernel) rfl rfl (Nat.le_of_ble_eq_true rfl) dX7_init_9 (fun H locs hP hD hS => ?_)
  have hP : va_P (dC, dI) vwCl [(a0, .inr (7, [.ref q_1, .int 0, .null, .null, .null, .null, .int 0, .null, .null, .null, .null, .null, .int 0, .null, .null, .null])), (q_1, .inl (cI, 26, .inl z0))] H := hP
  have hD : va_D A [(a0, .inr (7, [.ref q_1, .int 0, .null, .null, .null, .null, .int 0, .null, .null, .null, .null, .null, .int 0, .null, .null, .null])), (q_1, .inl (cI, 26, .inl z0))] := hD
  refine lv_aload_n hx hb dX7_init_12 rfl (lv_at hl 0 rfl) ?_
  refine lv_bipush (v := 6) hx hb dX7_init_13 (by decide) ?_
  refine tk_newa (atype := .int) (ty := .int) (a0 := (6, .inl z0)) hx hb 0 (hU (.arrayClass .int) wd_12) rfl (fun _ => Iff.rfl) hK rfl hP hD hS hA (fun _ => rfl) (by decide) (by decide) (Nat.le_of_ble_eq_true rfl) (Nat.le_of_ble_eq_true rfl) (Nat.le_of_ble_eq_true rfl) dX7_init_15 (fun q_2 H hP hD hS => ?_)
  have hP : va_P (dC, dI) vwCl [(a0, .inr (7, [.ref q_1, .int 0, .null, .null, .null, .null, .int 0, .null, .null, .null, .null, .null, .int 0, .null, .null, .null])), (q_1, .inl (cI, 26, .inl z0)), (q_2, .inl (cI, 6, .inl z0))] H := hP
  have hD : va_D A [(a0, .inr (7, [.ref q_1, .int 0, .null, .null, .null, .null, .int 0, .null, .null, .null, .null, .null, .int 0, .null, .null, .null])), (q_1, .inl (cI, 26, .inl z0)), (q_2, .inl (cI, 6, .inl z0))] := hD
  refine W.widen (k := 2) (n := 32) (Nat.le_of_ble_eq_true rfl) (Nat.le_of_ble_eq_true rfl) ?_
  refine va_putF (D := (dC, dI)) (ci := 7) (v := .ref q_2) (ty := .array .int) (C := RX7) (T := TX7) (N := 16) hx hb hU inlX7 tyX7 tyX7_ok nmX7 hown hK hP hD hS 0 rfl rfl 2 (by decide) (hU _ wd_73) (fun _ h9 => h9) rfl hin rfl (by decide +kernel) rfl rfl (Nat.le_of_ble_eq_true rfl) dX7_init_17 (fun H locs hP hD hS => ?_)
  have hP : va_P (dC, dI) vwCl [(a0, .inr (7, [.ref q_1, .int 0, .ref q_2, .null, .null, .null, .int 0, .null, .null, .null, .null, .null, .int 0, .null, .null, .null])), (q_1, .inl (cI, 26, .inl z0)), (q_2, .inl (cI, 6, .inl z0))] H := hP
  have hD : va_D A [(a0, .inr (7, [.ref q_1, .int 0, .ref q_2, .null, .null, .null, .int 0, .null, .null, .null, .null, .null, .int 0, .null, .null, .null])), (q_1, .inl (cI, 26, .inl z0)), (q_2, .inl (cI, 6, .inl z0))] := hD
  refine lv_aload_n hx hb dX7_init_20 rfl (lv_at hl 0 rfl) ?_
  refine lv_bipush (v := 81) hx hb dX7_init_21 (by decide) ?_
  refine tk_newa (atype := .int) (ty := .int) (a0 := (81, .inl z0)) hx hb 0 (hU (.arrayClass .int) wd_12) rfl (fun _ => Iff.rfl) hK rfl hP hD hS hA (fun _ => rfl) (by decide) (by decide) (Nat.le_of_ble_eq_true rfl) (Nat.le_of_ble_eq_true rfl) (Nat.le_of_ble_eq_true rfl) dX7_init_23 (fun q_3 H hP hD hS => ?_)
  have hP : va_P (dC, dI) vwCl [(a0, .inr (7, [.ref q_1, .int 0, .ref q_2, .null, .null, .null, .int 0, .null, .null, .null, .null, .null, .int 0, .null, .null, .null])), (q_1, .inl (cI, 26, .inl z0)), (q_2, .inl (cI, 6, .inl z0)), (q_3, .inl (cI, 81, .inl z0))] H := hP
  have hD : va_D A [(a0, .inr (7, [.ref q_1, .int 0, .ref q_2, .null, .null, .null, .int 0, .null, .null, .null, .null, .null, .int 0, .null, .null, .null])), (q_1, .inl (cI, 26, .inl z0)), (q_2, .inl (cI, 6, .inl z0)), (q_3, .inl (cI, 81, .inl z0))] := hD
  refine W.widen (k := 3) (n := 113) (Nat.le_of_ble_eq_true rfl) (Nat.le_of_ble_eq_true rfl) ?_
  refine va_putF (D := (dC, dI)) (ci := 7) (v := .ref q_3) (ty := .array .int) (C := RX7) (T := TX7) (N := 16) hx hb hU inlX7 tyX7 tyX7_ok nmX7 hown hK hP hD hS 0 rfl rfl 3 (by decide) (hU _ wd_74) (fun _ h9 => h9) rfl hin rfl (by decide +kernel) rfl rfl (Nat.le_of_ble_eq_true rfl) dX7_init_25 (fun H locs hP hD hS => ?_)
  have hP : va_P (dC, dI) vwCl [(a0, .inr (7, [.ref q_1, .int 0, .ref q_2, .ref q_3, .null, .null, .int 0, .null, .null, .null, .null, .null, .int 0, .null, .null, .null])), (q_1, .inl (cI, 26, .inl z0)), (q_2, .inl (cI, 6, .inl z0)), (q_3, .inl (cI, 81, .inl z0))] H := hP
  have hD : va_D A [(a0, .inr (7, [.ref q_1, .int 0, .ref q_2, .ref q_3, .null, .null, .int 0, .null, .null, .null, .null, .null, .int 0, .null, .null, .null])), (q_1, .inl (cI, 26, .inl z0)), (q_2, .inl (cI, 6, .inl z0)), (q_3, .inl (cI, 81, .inl z0))] := hD
  refine lv_aload_n hx hb dX7_init_28 rfl (lv_at hl 0 rfl) ?_
  refine lv_bipush (v := 20) hx hb dX7_init_29 (by decide) ?_
  refine tk_newa (atype := .int) (ty := .int) (a0 := (20, .inl z0)) hx hb 0 (hU (.arrayClass .int) wd_12) rfl (fun _ => Iff.rfl) hK rfl hP hD hS hA (fun _ => rfl) (by decide) (by decide) (Nat.le_of_ble_eq_true rfl) (Nat.le_of_ble_eq_true rfl) (Nat.le_of_ble_eq_true rfl) dX7_init_31 (fun q_4 H hP hD hS => ?_)
  have hP : va_P (dC, dI) vwCl [(a0, .inr (7, [.ref q_1, .int 0, .ref q_2, .ref q_3, .null, .null, .int 0, .null, .null, .null, .null, .null, .int 0, .null, .null, .null])), (q_1, .inl (cI, 26, .inl z0)), (q_2, .inl (cI, 6, .inl z0)), (q_3, .inl (cI, 81, .inl z0)), (q_4, .inl (cI, 20, .inl z0))] H := hP
  have hD : va_D A [(a0, .inr (7, [.ref q_1, .int 0, .ref q_2, .ref q_3, .null, .null, .int 0, .null, .null, .null, .null, .null, .int 0, .null, .null, .null])), (q_1, .inl (cI, 26, .inl z0)), (q_2, .inl (cI, 6, .inl z0)), (q_3, .inl (cI, 81, .inl z0)), (q_4, .inl (cI, 20, .inl z0))] := hD
  refine W.widen (k := 4) (n := 133) (Nat.le_of_ble_eq_true rfl) (Nat.le_of_ble_eq_true rfl) ?_
  refine va_putF (D := (dC, dI)) (ci := 7) (v := .ref q_4) (ty := .array .int) (C := RX7) (T := TX7) (N := 16) hx hb hU inlX7 tyX7 tyX7_ok nmX7 hown hK hP hD hS 0 rfl rfl 4 (by decide) (hU _ wd_75) (fun _ h9 => h9) rfl hin rfl (by decide +kernel) rfl rfl (Nat.le_of_ble_eq_true rfl) dX7_init_33 (fun H locs hP hD hS => ?_)
  have hP : va_P (dC, dI) vwCl [(a0, .inr (7, [.ref q_1, .int 0, .ref q_2, .ref q_3, .ref q_4, .null, .int 0, .null, .null, .null, .null, .null, .int 0, .null, .null, .null])), (q_1, .inl (cI, 26, .inl z0)), (q_2, .inl (cI, 6, .inl z0)), (q_3, .inl (cI, 81, .inl z0)), (q_4, .inl (cI, 20, .inl z0))] H := hP
  have hD : va_D A [(a0, .inr (7, [.ref q_1, .int 0, .ref q_2, .ref q_3, .ref q_4, .null, .int 0, .null, .null, .null, .null, .null, .int 0, .null, .null, .null])), (q_1, .inl (cI, 26, .inl z0)), (q_2, .inl (cI, 6, .inl z0)), (q_3, .inl (cI, 81, .inl z0)), (q_4, .inl (cI, 20, .inl z0))] := hD
  refine lv_aload_n hx hb dX7_init_36 rfl (lv_at hl 0 rfl) ?_
  refine lv_bipush (v := 20) hx hb dX7_init_37 (by decide) ?_
  refine tk_newa (atype := .int) (ty := .int) (a0 := (20, .inl z0)) hx hb 0 (hU (.arrayClass .int) wd_12) rfl (fun _ => Iff.rfl) hK rfl hP hD hS hA (fun _ => rfl) (by decide) (by decide) (Nat.le_of_ble_eq_true rfl) (Nat.le_of_ble_eq_true rfl) (Nat.le_of_ble_eq_true rfl) dX7_init_39 (fun q_5 H hP hD hS => ?_)
  have hP : va_P (dC, dI) vwCl [(a0, .inr (7, [.ref q_1, .int 0, .ref q_2, .ref q_3, .ref q_4, .null, .int 0, .null, .null, .null, .null, .null, .int 0, .null, .null, .null])), (q_1, .inl (cI, 26, .inl z0)), (q_2, .inl (cI, 6, .inl z0)), (q_3, .inl (cI, 81, .inl z0)), (q_4, .inl (cI, 20, .inl z0)), (q_5, .inl (cI, 20, .inl z0))] H := hP
  have hD : va_D A [(a0, .inr (7, [.ref q_1, .int 0, .ref q_2, .ref q_3, .ref q_4, .null, .int 0, .null, .null, .null, .null, .null, .int 0, .null, .null, .null])), (q_1, .inl (cI, 26, .inl z0)), (q_2, .inl (cI, 6, .inl z0)), (q_3, .inl (cI, 81, .inl z0)), (q_4, .inl (cI, 20, .inl z0)), (q_5, .inl (cI, 20, .inl z0))] := hD
  refine W.widen (k := 5) (n := 153) (Nat.le_of_ble_eq_true rfl) (Nat.le_of_ble_eq_true rfl) ?_
  refine va_putF (D := (dC, dI)) (ci := 7) (v := .ref q_5) (ty := .array .int) (C := RX7) (T := TX7) (N := 16) hx hb hU inlX7 tyX7 tyX7_ok nmX7 hown hK hP hD hS 0 rfl rfl 5 (by decide) (hU _ wd_76) (fun _ h9 => h9) rfl hin rfl (by decide +kernel) rfl rfl (Nat.le_of_ble_eq_true rfl) dX7_init_41 (fun H locs hP hD hS => ?_)
  have hP : va_P (dC, dI) vwCl [(a0, .inr (7, [.ref q_1, .int 0, .ref q_2, .ref q_3, .ref q_4, .ref q_5, .int 0, .null, .null, .null, .null, .null, .int 0, .null, .null, .null])), (q_1, .inl (cI, 26, .inl z0)), (q_2, .inl (cI, 6, .inl z0)), (q_3, .inl (cI, 81, .inl z0)), (q_4, .inl (cI, 20, .inl z0)), (q_5, .inl (cI, 20, .inl z0))] H := hP
  have hD : va_D A [(a0, .inr (7, [.ref q_1, .int 0, .ref q_2, .ref q_3, .ref q_4, .ref q_5, .int 0, .null, .null, .null, .null, .null, .int 0, .null, .null, .null])), (q_1, .inl (cI, 26, .inl z0)), (q_2, .inl (cI, 6, .inl z0)), (q_3, .inl (cI, 81, .inl z0)), (q_4, .inl (cI, 20, .inl z0)), (q_5, .inl (cI, 20, .inl z0))] := hD
  refine lv_aload_n hx hb dX7_init_44 rfl (lv_at hl 0 rfl) ?_
  refine lv_bipush (v := 9) hx hb dX7_init_45 (by decide) ?_
  refine tk_newa (atype := .int) (ty := .int) (a0 := (9, .inl z0)) hx hb 0 (hU (.arrayClass .int) wd_12) rfl (fun _ => Iff.rfl) hK rfl hP hD hS hA (fun _ => rfl) (by decide) (by decide) (Nat.le_of_ble_eq_true rfl) (Nat.le_of_ble_eq_true rfl) (Nat.le_of_ble_eq_true rfl) dX7_init_47 (fun q_6 H hP hD hS => ?_)
  have hP : va_P (dC, dI) vwCl [(a0, .inr (7, [.ref q_1, .int 0, .ref q_2, .ref q_3, .ref q_4, .ref q_5, .int 0, .null, .null, .null, .null, .null, .int 0, .null, .null, .null])), (q_1, .inl (cI, 26, .inl z0)), (q_2, .inl (cI, 6, .inl z0)), (q_3, .inl (cI, 81, .inl z0)), (q_4, .inl (cI, 20, .inl z0)), (q_5, .inl (cI, 20, .inl z0)), (q_6, .inl (cI, 9, .inl z0))] H := hP
  have hD : va_D A [(a0, .inr (7, [.ref q_1, .int 0, .ref q_2, .ref q_3, .ref q_4, .ref q_5, .int 0, .null, .null, .null, .null, .null, .int 0, .null, .null, .null])), (q_1, .inl (cI, 26, .inl z0)), (q_2, .inl (cI, 6, .inl z0)), (q_3, .inl (cI, 81, .inl z0)), (q_4, .inl (cI, 20, .inl z0)), (q_5, .inl (cI, 20, .inl z0)), (q_6, .inl (cI, 9, .inl z0))] := hD
  refine W.widen (k := 6) (n := 162) (Nat.le_of_ble_eq_true rfl) (Nat.le_of_ble_eq_true rfl) ?_
  refine va_putF (D := (dC, dI)) (ci := 7) (v := .ref q_6) (ty := .array .int) (C := RX7) (T := TX7) (N := 16) hx hb hU inlX7 tyX7 tyX7_ok nmX7 hown hK hP hD hS 0 rfl rfl 7 (by decide) (hU _ wd_77) (fun _ h9 => h9) rfl hin rfl (by decide +kernel) rfl rfl (Nat.le_of_ble_eq_true rfl) dX7_init_49 (fun H locs hP hD hS => ?_)
  have hP : va_P (dC, dI) vwCl [(a0, .inr (7, [.ref q_1, .int 0, .ref q_2, .ref q_3, .ref q_4, .ref q_5, .int 0, .ref q_6, .null, .null, .null, .null, .int 0, .null, .null, .null])), (q_1, .inl (cI, 26, .inl z0)), (q_2, .inl (cI, 6, .inl z0)), (q_3, .inl (cI, 81, .inl z0)), (q_4, .inl (cI, 20, .inl z0)), (q_5, .inl (cI, 20, .inl z0)), (q_6, .inl (cI, 9, .inl z0))] H := hP
  have hD : va_D A [(a0, .inr (7, [.ref q_1, .int 0, .ref q_2, .ref q_3, .ref q_4, .ref q_5, .int 0, .ref q_6, .null, .null, .null, .null, .int 0, .null, .null, .null])), (q_1, .inl (cI, 26, .inl z0)), (q_2, .inl (cI, 6, .inl z0)), (q_3, .inl (cI, 81, .inl z0)), (q_4, .inl (cI, 20, .inl z0)), (q_5, .inl (cI, 20, .inl z0)), (q_6, .inl (cI, 9, .inl z0))] := hD
  refine lv_aload_n hx hb dX7_init_52 rfl (lv_at hl 0 rfl) ?_
  refine lv_bipush (v := 9) hx hb dX7_init_53 (by decide) ?_
  refine tk_newa (atype := .int) (ty := .int) (a0 := (9, .inl z0)) hx hb 0 (hU (.arrayClass .int) wd_12) rfl (fun _ => Iff.rfl) hK rfl hP hD hS hA (fun _ => rfl) (by decide) (by decide) (Nat.le_of_ble_eq_true rfl) (Nat.le_of_ble_eq_true rfl) (Nat.le_of_ble_eq_true rfl) dX7_init_55 (fun q_7 H hP hD hS => ?_)
  have hP : va_P (dC, dI) vwCl [(a0, .inr (7, [.ref q_1, .int 0, .ref q_2, .ref q_3, .ref q_4, .ref q_5, .int 0, .ref q_6, .null, .null, .null, .null, .int 0, .null, .null, .null])), (q_1, .inl (cI, 26, .inl z0)), (q_2, .inl (cI, 6, .inl z0)), (q_3, .inl (cI, 81, .inl z0)), (q_4, .inl (cI, 20, .inl z0)), (q_5, .inl (cI, 20, .inl z0)), (q_6, .inl (cI, 9, .inl z0)), (q_7, .inl (cI, 9, .inl z0))] H := hP
  have hD : va_D A [(a0, .inr (7, [.ref q_1, .int 0, .ref q_2, .ref q_3, .ref q_4, .ref q_5, .int 0, .ref q_6, .null, .null, .null, .null, .int 0, .null, .null, .null])), (q_1, .inl (cI, 26, .inl z0)), (q_2, .inl (cI, 6, .inl z0)), (q_3, .inl (cI, 81, .inl z0)), (q_4, .inl (cI, 20, .inl z0)), (q_5, .inl (cI, 20, .inl z0)), (q_6, .inl (cI, 9, .inl z0)), (q_7, .inl (cI, 9, .inl z0))] := hD
  refine W.widen (k := 7) (n := 171) (Nat.le_of_ble_eq_true rfl) (Nat.le_of_ble_eq_true rfl) ?_
  refine va_putF (D := (dC, dI)) (ci := 7) (v := .ref q_7) (ty := .array .int) (C := RX7) (T := TX7) (N := 16) hx hb hU inlX7 tyX7 tyX7_ok nmX7 hown hK hP hD hS 0 rfl rfl 8 (by decide) (hU _ wd_78) (fun _ h9 => h9) rfl hin rfl (by decide +kernel) rfl rfl (Nat.le_of_ble_eq_true rfl) dX7_init_57 (fun H locs hP hD hS => ?_)
  have hP : va_P (dC, dI) vwCl [(a0, .inr (7, [.ref q_1, .int 0, .ref q_2, .ref q_3, .ref q_4, .ref q_5, .int 0, .ref q_6, .ref q_7, .null, .null, .null, .int 0, .null, .null, .null])), (q_1, .inl (cI, 26, .inl z0)), (q_2, .inl (cI, 6, .inl z0)), (q_3, .inl (cI, 81, .inl z0)), (q_4, .inl (cI, 20, .inl z0)), (q_5, .inl (cI, 20, .inl z0)), (q_6, .inl (cI, 9, .inl z0)), (q_7, .inl (cI, 9, .inl z0))] H := hP
  have hD : va_D A [(a0, .inr (7, [.ref q_1, .int 0, .ref q_2, .ref q_3, .ref q_4, .ref q_5, .int 0, .ref q_6, .ref q_7, .null, .null, .null, .int 0, .null, .null, .null])), (q_1, .inl (cI, 26, .inl z0)), (q_2, .inl (cI, 6, .inl z0)), (q_3, .inl (cI, 81, .inl z0)), (q_4, .inl (cI, 20, .inl z0)), (q_5, .inl (cI, 20, .inl z0)), (q_6, .inl (cI, 9, .inl z0)), (q_7, .inl (cI, 9, .inl z0))] := hD
  refine lv_aload_n hx hb dX7_init_60 rfl (lv_at hl 0 rfl) ?_
  refine lv_bipush (v := 36) hx hb dX7_init_61 (by decide) ?_
  refine tk_newa (atype := .int) (ty := .int) (a0 := (36, .inl z0)) hx hb 0 (hU (.arrayClass .int) wd_12) rfl (fun _ => Iff.rfl) hK rfl hP hD hS hA (fun _ => rfl) (by decide) (by decide) (Nat.le_of_ble_eq_true rfl) (Nat.le_of_ble_eq_true rfl) (Nat.le_of_ble_eq_true rfl) dX7_init_63 (fun q_8 H hP hD hS => ?_)
  have hP : va_P (dC, dI) vwCl [(a0, .inr (7, [.ref q_1, .int 0, .ref q_2, .ref q_3, .ref q_4, .ref q_5, .int 0, .ref q_6, .ref q_7, .null, .null, .null, .int 0, .null, .null, .null])), (q_1, .inl (cI, 26, .inl z0)), (q_2, .inl (cI, 6, .inl z0)), (q_3, .inl (cI, 81, .inl z0)), (q_4, .inl (cI, 20, .inl z0)), (q_5, .inl (cI, 20, .inl z0)), (q_6, .inl (cI, 9, .inl z0)), (q_7, .inl (cI, 9, .inl z0)), (q_8, .inl (cI, 36, .inl z0))] H := hP
  have hD : va_D A [(a0, .inr (7, [.ref q_1, .int 0, .ref q_2, .ref q_3, .ref q_4, .ref q_5, .int 0, .ref q_6, .ref q_7, .null, .null, .null, .int 0, .null, .null, .null])), (q_1, .inl (cI, 26, .inl z0)), (q_2, .inl (cI, 6, .inl z0)), (q_3, .inl (cI, 81, .inl z0)), (q_4, .inl (cI, 20, .inl z0)), (q_5, .inl (cI, 20, .inl z0)), (q_6, .inl (cI, 9, .inl z0)), (q_7, .inl (cI, 9, .inl z0)), (q_8, .inl (cI, 36, .inl z0))] := hD
  refine W.widen (k := 8) (n := 207) (Nat.le_of_ble_eq_true rfl) (Nat.le_of_ble_eq_true rfl) ?_
  refine va_putF (D := (dC, dI)) (ci := 7) (v := .ref q_8) (ty := .array .int) (C := RX7) (T := TX7) (N := 16) hx hb hU inlX7 tyX7 tyX7_ok nmX7 hown hK hP hD hS 0 rfl rfl 9 (by decide) (hU _ wd_79) (fun _ h9 => h9) rfl hin rfl (by decide +kernel) rfl rfl (Nat.le_of_ble_eq_true rfl) dX7_init_65 (fun H locs hP hD hS => ?_)
  have hP : va_P (dC, dI) vwCl [(a0, .inr (7, [.ref q_1, .int 0, .ref q_2, .ref q_3, .ref q_4, .ref q_5, .int 0, .ref q_6, .ref q_7, .ref q_8, .null, .null, .int 0, .null, .null, .null])), (q_1, .inl (cI, 26, .inl z0)), (q_2, .inl (cI, 6, .inl z0)), (q_3, .inl (cI, 81, .inl z0)), (q_4, .inl (cI, 20, .inl z0)), (q_5, .inl (cI, 20, .inl z0)), (q_6, .inl (cI, 9, .inl z0)), (q_7, .inl (cI, 9, .inl z0)), (q_8, .inl (cI, 36, .inl z0))] H := hP
  have hD : va_D A [(a0, .inr (7, [.ref q_1, .int 0, .ref q_2, .ref q_3, .ref q_4, .ref q_5, .int 0, .ref q_6, .ref q_7, .ref q_8, .null, .null, .int 0, .null, .null, .null])), (q_1, .inl (cI, 26, .inl z0)), (q_2, .inl (cI, 6, .inl z0)), (q_3, .inl (cI, 81, .inl z0)), (q_4, .inl (cI, 20, .inl z0)), (q_5, .inl (cI, 20, .inl z0)), (q_6, .inl (cI, 9, .inl z0)), (q_7, .inl (cI, 9, .inl z0)), (q_8, .inl (cI, 36, .inl z0))] := hD
  refine lv_aload_n hx hb dX7_init_68 rfl (lv_at hl 0 rfl) ?_
  refine lv_bipush (v := 36) hx hb dX7_init_69 (by decide) ?_
  refine tk_newa (atype := .int) (ty := .int) (a0 := (36, .inl z0)) hx hb 0 (hU (.arrayClass .int) wd_12) rfl (fun _ => Iff.rfl) hK rfl hP hD hS hA (fun _ => rfl) (by decide) (by decide) (Nat.le_of_ble_eq_true rfl) (Nat.le_of_ble_eq_true rfl) (Nat.le_of_ble_eq_true rfl) dX7_init_71 (fun q_9 H hP hD hS => ?_)
  have hP : va_P (dC, dI) vwCl [(a0, .inr (7, [.ref q_1, .int 0, .ref q_2, .ref q_3, .ref q_4, .ref q_5, .int 0, .ref q_6, .ref q_7, .ref q_8, .null, .null, .int 0, .null, .null, .null])), (q_1, .inl (cI, 26, .inl z0)), (q_2, .inl (cI, 6, .inl z0)), (q_3, .inl (cI, 81, .inl z0)), (q_4, .inl (cI, 20, .inl z0)), (q_5, .inl (cI, 20, .inl z0)), (q_6, .inl (cI, 9, .inl z0)), (q_7, .inl (cI, 9, .inl z0)), (q_8, .inl (cI, 36, .inl z0)), (q_9, .inl (cI, 36, .inl z0))] H := hP
  have hD : va_D A [(a0, .inr (7, [.ref q_1, .int 0, .ref q_2, .ref q_3, .ref q_4, .ref q_5, .int 0, .ref q_6, .ref q_7, .ref q_8, .null, .null, .int 0, .null, .null, .null])), (q_1, .inl (cI, 26, .inl z0)), (q_2, .inl (cI, 6, .inl z0)), (q_3, .inl (cI, 81, .inl z0)), (q_4, .inl (cI, 20, .inl z0)), (q_5, .inl (cI, 20, .inl z0)), (q_6, .inl (cI, 9, .inl z0)), (q_7, .inl (cI, 9, .inl z0)), (q_8, .inl (cI, 36, .inl z0)), (q_9, .inl (cI, 36, .inl z0))] := hD
  refine W.widen (k := 9) (n := 243) (Nat.le_of_ble_eq_true rfl) (Nat.le_of_ble_eq_true rfl) ?_
  refine va_putF (D := (dC, dI)) (ci := 7) (v := .ref q_9) (ty := .array .int) (C := RX7) (T := TX7) (N := 16) hx hb hU inlX7 tyX7 tyX7_ok nmX7 hown hK hP hD hS 0 rfl rfl 10 (by decide) (hU _ wd_80) (fun _ h9 => h9) rfl hin rfl (by decide +kernel) rfl rfl (Nat.le_of_ble_eq_true rfl) dX7_init_73 (fun H locs hP hD hS => ?_)
  have hP : va_P (dC, dI) vwCl [(a0, .inr (7, [.ref q_1, .int 0, .ref q_2, .ref q_3, .ref q_4, .ref q_5, .int 0, .ref q_6, .ref q_7, .ref q_8, .ref q_9, .null, .int 0, .null, .null, .null])), (q_1, .inl (cI, 26, .inl z0)), (q_2, .inl (cI, 6, .inl z0)), (q_3, .inl (cI, 81, .inl z0)), (q_4, .inl (cI, 20, .inl z0)), (q_5, .inl (cI, 20, .inl z0)), (q_6, .inl (cI, 9, .inl z0)), (q_7, .inl (cI, 9, .inl z0)), (q_8, .inl (cI, 36, .inl z0)), (q_9, .inl (cI, 36, .inl z0))] H := hP
  have hD : va_D A [(a0, .inr (7, [.ref q_1, .int 0, .ref q_2, .ref q_3, .ref q_4, .ref q_5, .int 0, .ref q_6, .ref q_7, .ref q_8, .ref q_9, .null, .int 0, .null, .null, .null])), (q_1, .inl (cI, 26, .inl z0)), (q_2, .inl (cI, 6, .inl z0)), (q_3, .inl (cI, 81, .inl z0)), (q_4, .inl (cI, 20, .inl z0)), (q_5, .inl (cI, 20, .inl z0)), (q_6, .inl (cI, 9, .inl z0)), (q_7, .inl (cI, 9, .inl z0)), (q_8, .inl (cI, 36, .inl z0)), (q_9, .inl (cI, 36, .inl z0))] := hD
  refine lv_aload_n hx hb dX7_init_76 rfl (lv_at hl 0 rfl) ?_
  refine lv_bipush (v := 8) hx hb dX7_init_77 (by decide) ?_
  refine va_newq hx hb hown (hU _ wd_81) hN.2.2.2.2.2.2.2.2.2.2.1 hK hP hD hS hA (by decide) (N' := 8) (by decide) (by decide) (Nat.le_of_ble_eq_true rfl) (Nat.le_of_ble_eq_true rfl) dX7_init_79 (fun q_10 cR H hKR hP hD hS => ?_)
  have hP : va_P (dC, dI) vwCl [(a0, .inr (7, [.ref q_1, .int 0, .ref q_2, .ref q_3, .ref q_4, .ref q_5, .int 0, .ref q_6, .ref q_7, .ref q_8, .ref q_9, .null, .int 0, .null, .null, .null])), (q_1, .inl (cI, 26, .inl z0)), (q_2, .inl (cI, 6, .inl z0)), (q_3, .inl (cI, 81, .inl z0)), (q_4, .inl (cI, 20, .inl z0)), (q_5, .inl (cI, 20, .inl z0)), (q_6, .inl (cI, 9, .inl z0)), (q_7, .inl (cI, 9, .inl z0)), (q_8, .inl (cI, 36, .inl z0)), (q_9, .inl (cI, 36, .inl z0)), (q_10, .inl (cR, 8, .inr (.inr (.inr (.inr (fun _ => none))))))] H := hP
  have hD : va_D A [(a0, .inr (7, [.ref q_1, .int 0, .ref q_2, .ref q_3, .ref q_4, .ref q_5, .int 0, .ref q_6, .ref q_7, .ref q_8, .ref q_9, .null, .int 0, .null, .null, .null])), (q_1, .inl (cI, 26, .inl z0)), (q_2, .inl (cI, 6, .inl z0)), (q_3, .inl (cI, 81, .inl z0)), (q_4, .inl (cI, 20, .inl z0)), (q_5, .inl (cI, 20, .inl z0)), (q_6, .inl (cI, 9, .inl z0)), (q_7, .inl (cI, 9, .inl z0)), (q_8, .inl (cI, 36, .inl z0)), (q_9, .inl (cI, 36, .inl z0)), (q_10, .inl (cR, 8, .inr (.inr (.inr (.inr (fun _ => none))))))] := hD
  refine W.widen (k := 10) (n := 251) (Nat.le_of_ble_eq_true rfl) (Nat.le_of_ble_eq_true rfl) ?_
  refine va_putF (D := (dC, dI)) (ci := 7) (v := .ref q_10) (ty := .array (.object "SaidShallow$Rule")) (C := RX7) (T := TX7) (N := 16) hx hb hU inlX7 tyX7 tyX7_ok nmX7 hown hK hP hD hS 0 rfl rfl 11 (by decide) (hU _ wd_82) (fun _ h9 => h9) rfl hin rfl (by decide +kernel) rfl rfl (Nat.le_of_ble_eq_true rfl) dX7_init_82 (fun H locs hP hD hS => ?_)
  have hP : va_P (dC, dI) vwCl [(a0, .inr (7, [.ref q_1, .int 0, .ref q_2, .ref q_3, .ref q_4, .ref q_5, .int 0, .ref q_6, .ref q_7, .ref q_8, .ref q_9, .ref q_10, .int 0, .null, .null, .null])), (q_1, .inl (cI, 26, .inl z0)), (q_2, .inl (cI, 6, .inl z0)), (q_3, .inl (cI, 81, .inl z0)), (q_4, .inl (cI, 20, .inl z0)), (q_5, .inl (cI, 20, .inl z0)), (q_6, .inl (cI, 9, .inl z0)), (q_7, .inl (cI, 9, .inl z0)), (q_8, .inl (cI, 36, .inl z0)), (q_9, .inl (cI, 36, .inl z0)), (q_10, .inl (cR, 8, .inr (.inr (.inr (.inr (fun _ => none))))))] H := hP
  have hD : va_D A [(a0, .inr (7, [.ref q_1, .int 0, .ref q_2, .ref q_3, .ref q_4, .ref q_5, .int 0, .ref q_6, .ref q_7, .ref q_8, .ref q_9, .ref q_10, .int 0, .null, .null, .null])), (q_1, .inl (cI, 26, .inl z0)), (q_2, .inl (cI, 6, .inl z0)), (q_3, .inl (cI, 81, .inl z0)), (q_4, .inl (cI, 20, .inl z0)), (q_5, .inl (cI, 20, .inl z0)), (q_6, .inl (cI, 9, .inl z0)), (q_7, .inl (cI, 9, .inl z0)), (q_8, .inl (cI, 36, .inl z0)), (q_9, .inl (cI, 36, .inl z0)), (q_10, .inl (cR, 8, .inr (.inr (.inr (.inr (fun _ => none))))))] := hD
  refine lv_aload_n hx hb dX7_init_85 rfl (lv_at hl 0 rfl) ?_
  refine va_new (ci := 9) (fs := [.null, .null, .int 0]) (C := RX9) (T := TX9) (N := 3) hx hb hU inlX9 tyX9 tyX9_ok hown (hU _ wd_83) (hU _ wd_84) (hU _ wd_85) hK hP hD hS hA rfl dvX9 (Nat.le_of_ble_eq_true rfl) (Nat.le_of_ble_eq_true rfl) dX7_init_86 (fun q_11 H hP hD hS => ?_)
  have hP : va_P (dC, dI) vwCl [(a0, .inr (7, [.ref q_1, .int 0, .ref q_2, .ref q_3, .ref q_4, .ref q_5, .int 0, .ref q_6, .ref q_7, .ref q_8, .ref q_9, .ref q_10, .int 0, .null, .null, .null])), (q_1, .inl (cI, 26, .inl z0)), (q_2, .inl (cI, 6, .inl z0)), (q_3, .inl (cI, 81, .inl z0)), (q_4, .inl (cI, 20, .inl z0)), (q_5, .inl (cI, 20, .inl z0)), (q_6, .inl (cI, 9, .inl z0)), (q_7, .inl (cI, 9, .inl z0)), (q_8, .inl (cI, 36, .inl z0)), (q_9, .inl (cI, 36, .inl z0)), (q_10, .inl (cR, 8, .inr (.inr (.inr (.inr (fun _ => none)))))), (q_11, .inr (9, [.null, .null, .int 0]))] H := hP
  have hD : va_D A [(a0, .inr (7, [.ref q_1, .int 0, .ref q_2, .ref q_3, .ref q_4, .ref q_5, .int 0, .ref q_6, .ref q_7, .ref q_8, .ref q_9, .ref q_10, .int 0, .null, .null, .null])), (q_1, .inl (cI, 26, .inl z0)), (q_2, .inl (cI, 6, .inl z0)), (q_3, .inl (cI, 81, .inl z0)), (q_4, .inl (cI, 20, .inl z0)), (q_5, .inl (cI, 20, .inl z0)), (q_6, .inl (cI, 9, .inl z0)), (q_7, .inl (cI, 9, .inl z0)), (q_8, .inl (cI, 36, .inl z0)), (q_9, .inl (cI, 36, .inl z0)), (q_10, .inl (cR, 8, .inr (.inr (.inr (.inr (fun _ => none)))))), (q_11, .inr (9, [.null, .null, .int 0]))] := hD
  refine W.widen (k := 11) (n := 254) (Nat.le_of_ble_eq_true rfl) (Nat.le_of_ble_eq_true rfl) ?_
  refine lv_dup hx hb dX7_init_89 rfl ?_
  refine lv_bipush (v := 12) hx hb dX7_init_90 (by decide) ?_
  refine tk_rv (wr := [(a0, .inr (7, [.ref q_1, .int 0, .ref q_2, .ref q_3, .ref q_4, .ref q_5, .int 0, .ref q_6, .ref q_7, .ref q_8, .ref q_9, .ref q_10, .int 0, .null, .null, .null])), (q_1, .inl (cI, 26, .inl z0)), (q_2, .inl (cI, 6, .inl z0)), (q_3, .inl (cI, 81, .inl z0)), (q_4, .inl (cI, 20, .inl z0)), (q_5, .inl (cI, 20, .inl z0)), (q_6, .inl (cI, 9, .inl z0)), (q_7, .inl (cI, 9, .inl z0)), (q_8, .inl (cI, 36, .inl z0)), (q_9, .inl (cI, 36, .inl z0)), (q_10, .inl (cR, 8, .inr (.inr (.inr (.inr (fun _ => none))))))]) (tk_I (As := [.int 12]) (rest := [.ref q_11, .ref a0]) (n := 1) hx hb hml hown hU hN (cc_X9_init_0 l (dC, dI) cI cL cZ H.size q_11) wd_91 wd_92 wd_85 wd_93 rfl (by decide +kernel) ⟨Nat.le_of_ble_eq_true rfl, Nat.le_of_ble_eq_true rfl⟩ hK hP hD [11] (by decide) rfl rfl hl.1 rfl (Nat.le_of_ble_eq_true rfl) dX7_init_92 ⟨Nat.le_of_ble_eq_true rfl, Nat.le_of_ble_eq_true rfl⟩) hP hD hS hA [11] [0, 1, 2, 3, 4, 5, 6, 7, 8, 9, 10] rfl rfl (by decide) (by decide) (fun w_13 H locs hw hP hD hS => ?_)
  obtain ⟨q_14, q_15, rfl⟩ := hw
  have hP : va_P (dC, dI) vwCl [(a0, .inr (7, [.ref q_1, .int 0, .ref q_2, .ref q_3, .ref q_4, .ref q_5, .int 0, .ref q_6, .ref q_7, .ref q_8, .ref q_9, .ref q_10, .int 0, .null, .null, .null])), (q_1, .inl (cI, 26, .inl z0)), (q_2, .inl (cI, 6, .inl z0)), (q_3, .inl (cI, 81, .inl z0)), (q_4, .inl (cI, 20, .inl z0)), (q_5, .inl (cI, 20, .inl z0)), (q_6, .inl (cI, 9, .inl z0)), (q_7, .inl (cI, 9, .inl z0)), (q_8, .inl (cI, 36, .inl z0)), (q_9, .inl (cI, 36, .inl z0)), (q_10, .inl (cR, 8, .inr (.inr (.inr (.inr (fun _ => none)))))), (q_11, .inr (9, [.ref q_14, .ref q_15, .int 0])), (q_14, .inl (cI, 96, .inl z0)), (q_15, .inl (cI, 12, .inl z0))] H := hP
  have hD : va_D A [(a0, .inr (7, [.ref q_1, .int 0, .ref q_2, .ref q_3, .ref q_4, .ref q_5, .int 0, .ref q_6, .ref q_7, .ref q_8, .ref q_9, .ref q_10, .int 0, .null, .null, .null])), (q_1, .inl (cI, 26, .inl z0)), (q_2, .inl (cI, 6, .inl z0)), (q_3, .inl (cI, 81, .inl z0)), (q_4, .inl (cI, 20, .inl z0)), (q_5, .inl (cI, 20, .inl z0)), (q_6, .inl (cI, 9, .inl z0)), (q_7, .inl (cI, 9, .inl z0)), (q_8, .inl (cI, 36, .inl z0)), (q_9, .inl (cI, 36, .inl z0)), (q_10, .inl (cR, 8, .inr (.inr (.inr (.inr (fun _ => none)))))), (q_11, .inr (9, [.ref q_14, .ref q_15, .int 0])), (q_14, .inl (cI, 96, .inl z0)), (q_15, .inl (cI, 12, .inl z0))] := hD
  refine W.widen (k := 13) (n := 362) (Nat.le_of_ble_eq_true rfl) (Nat.le_of_ble_eq_true rfl) ?_
  refine va_putF (D := (dC, dI)) (ci := 7) (v := .ref q_11) (ty := .object "SaidShallow$WordList") (C := RX7) (T := TX7) (N := 16) hx hb hU inlX7 tyX7 tyX7_ok nmX7 hown hK hP hD hS 0 rfl rfl 13 (by decide) (hU _ wd_86) (fun _ h9 => h9) rfl hin rfl (by decide +kernel) rfl rfl (Nat.le_of_ble_eq_true rfl) dX7_init_95 (fun H locs hP hD hS => ?_)
  have hP : va_P (dC, dI) vwCl [(a0, .inr (7, [.ref q_1, .int 0, .ref q_2, .ref q_3, .ref q_4, .ref q_5, .int 0, .ref q_6, .ref q_7, .ref q_8, .ref q_9, .ref q_10, .int 0, .ref q_11, .null, .null])), (q_1, .inl (cI, 26, .inl z0)), (q_2, .inl (cI, 6, .inl z0)), (q_3, .inl (cI, 81, .inl z0)), (q_4, .inl (cI, 20, .inl z0)), (q_5, .inl (cI, 20, .inl z0)), (q_6, .inl (cI, 9, .inl z0)), (q_7, .inl (cI, 9, .inl z0)), (q_8, .inl (cI, 36, .inl z0)), (q_9, .inl (cI, 36, .inl z0)), (q_10, .inl (cR, 8, .inr (.inr (.inr (.inr (fun _ => none)))))), (q_11, .inr (9, [.ref q_14, .ref q_15, .int 0])), (q_14, .inl (cI, 96, .inl z0)), (q_15, .inl (cI, 12, .inl z0))] H := hP
  have hD : va_D A [(a0, .inr (7, [.ref q_1, .int 0, .ref q_2, .ref q_3, .ref q_4, .ref q_5, .int 0, .ref q_6, .ref q_7, .ref q_8, .ref q_9, .ref q_10, .int 0, .ref q_11, .null, .null])), (q_1, .inl (cI, 26, .inl z0)), (q_2, .inl (cI, 6, .inl z0)), (q_3, .inl (cI, 81, .inl z0)), (q_4, .inl (cI, 20, .inl z0)), (q_5, .inl (cI, 20, .inl z0)), (q_6, .inl (cI, 9, .inl z0)), (q_7, .inl (cI, 9, .inl z0)), (q_8, .inl (cI, 36, .inl z0)), (q_9, .inl (cI, 36, .inl z0)), (q_10, .inl (cR, 8, .inr (.inr (.inr (.inr (fun _ => none)))))), (q_11, .inr (9, [.ref q_14, .ref q_15, .int 0])), (q_14, .inl (cI, 96, .inl z0)), (q_15, .inl (cI, 12, .inl z0))] := hD
  refine lv_aload_n hx hb dX7_init_98 rfl (lv_at hl 0 rfl) ?_
  refine va_new (ci := 9) (fs := [.null, .null, .int 0]) (C := RX9) (T := TX9) (N := 3) hx hb hU inlX9 tyX9 tyX9_ok hown (hU _ wd_83) (hU _ wd_84) (hU _ wd_85) hK hP hD hS hA rfl dvX9 (Nat.le_of_ble_eq_true rfl) (Nat.le_of_ble_eq_true rfl) dX7_init_99 (fun q_16 H hP hD hS => ?_)
  have hP : va_P (dC, dI) vwCl [(a0, .inr (7, [.ref q_1, .int 0, .ref q_2, .ref q_3, .ref q_4, .ref q_5, .int 0, .ref q_6, .ref q_7, .ref q_8, .ref q_9, .ref q_10, .int 0, .ref q_11, .null, .null])), (q_1, .inl (cI, 26, .inl z0)), (q_2, .inl (cI, 6, .inl z0)), (q_3, .inl (cI, 81, .inl z0)), (q_4, .inl (cI, 20, .inl z0)), (q_5, .inl (cI, 20, .inl z0)), (q_6, .inl (cI, 9, .inl z0)), (q_7, .inl (cI, 9, .inl z0)), (q_8, .inl (cI, 36, .inl z0)), (q_9, .inl (cI, 36, .inl z0)), (q_10, .inl (cR, 8, .inr (.inr (.inr (.inr (fun _ => none)))))), (q_11, .inr (9, [.ref q_14, .ref q_15, .int 0])), (q_14, .inl (cI, 96, .inl z0)), (q_15, .inl (cI, 12, .inl z0)), (q_16, .inr (9, [.null, .null, .int 0]))] H := hP
  have hD : va_D A [(a0, .inr (7, [.ref q_1, .int 0, .ref q_2, .ref q_3, .ref q_4, .ref q_5, .int 0, .ref q_6, .ref q_7, .ref q_8, .ref q_9, .ref q_10, .int 0, .ref q_11, .null, .null])), (q_1, .inl (cI, 26, .inl z0)), (q_2, .inl (cI, 6, .inl z0)), (q_3, .inl (cI, 81, .inl z0)), (q_4, .inl (cI, 20, .inl z0)), (q_5, .inl (cI, 20, .inl z0)), (q_6, .inl (cI, 9, .inl z0)), (q_7, .inl (cI, 9, .inl z0)), (q_8, .inl (cI, 36, .inl z0)), (q_9, .inl (cI, 36, .inl z0)), (q_10, .inl (cR, 8, .inr (.inr (.inr (.inr (fun _ => none)))))), (q_11, .inr (9, [.ref q_14, .ref q_15, .int 0])), (q_14, .inl (cI, 96, .inl z0)), (q_15, .inl (cI, 12, .inl z0)), (q_16, .inr (9, [.null, .null, .int 0]))] := hD
  refine W.widen (k := 14) (n := 365) (Nat.le_of_ble_eq_true rfl) (Nat.le_of_ble_eq_true rfl) ?_
  refine lv_dup hx hb dX7_init_102 rfl ?_
  refine lv_bipush (v := 8) hx hb dX7_init_103 (by decide) ?_
  refine tk_rv (wr := [(a0, .inr (7, [.ref q_1, .int 0, .ref q_2, .ref q_3, .ref q_4, .ref q_5, .int 0, .ref q_6, .ref q_7, .ref q_8, .ref q_9, .ref q_10, .int 0, .ref q_11, .null, .null])), (q_1, .inl (cI, 26, .inl z0)), (q_2, .inl (cI, 6, .inl z0)), (q_3, .inl (cI, 81, .inl z0)), (q_4, .inl (cI, 20, .inl z0)), (q_5, .inl (cI, 20, .inl z0)), (q_6, .inl (cI, 9, .inl z0)), (q_7, .inl (cI, 9, .inl z0)), (q_8, .inl (cI, 36, .inl z0)), (q_9, .inl (cI, 36, .inl z0)), (q_10, .inl (cR, 8, .inr (.inr (.inr (.inr (fun _ => none)))))), (q_11, .inr (9, [.ref q_14, .ref q_15, .int 0])), (q_14, .inl (cI, 96, .inl z0)), (q_15, .inl (cI, 12, .inl z0))]) (tk_I (As := [.int 8]) (rest := [.ref q_16, .ref a0]) (n := 1) hx hb hml hown hU hN (cc_X9_init_1 l (dC, dI) cI cL cZ H.size q_16) wd_91 wd_92 wd_85 wd_93 rfl (by decide +kernel) ⟨Nat.le_of_ble_eq_true rfl, Nat.le_of_ble_eq_true rfl⟩ hK hP hD [14] (by decide) rfl rfl hl.1 rfl (Nat.le_of_ble_eq_true rfl) dX7_init_105 ⟨Nat.le_of_ble_eq_true rfl, Nat.le_of_ble_eq_true rfl⟩) hP hD hS hA [14] [0, 1, 2, 3, 4, 5, 6, 7, 8, 9, 10, 11, 12, 13] rfl rfl (by decide) (by decide) (fun w_18 H locs hw hP hD hS => ?_)
  obtain ⟨q_19, q_20, rfl⟩ := hw
  have hP : va_P (dC, dI) vwCl [(a0, .inr (7, [.ref q_1, .int 0, .ref q_2, .ref q_3, .ref q_4, .ref q_5, .int 0, .ref q_6, .ref q_7, .ref q_8, .ref q_9, .ref q_10, .int 0, .ref q_11, .null, .null])), (q_1, .inl (cI, 26, .inl z0)), (q_2, .inl (cI, 6, .inl z0)), (q_3, .inl (cI, 81, .inl z0)), (q_4, .inl (cI, 20, .inl z0)), (q_5, .inl (cI, 20, .inl z0)), (q_6, .inl (cI, 9, .inl z0)), (q_7, .inl (cI, 9, .inl z0)), (q_8, .inl (cI, 36, .inl z0)), (q_9, .inl (cI, 36, .inl z0)), (q_10, .inl (cR, 8, .inr (.inr (.inr (.inr (fun _ => none)))))), (q_11, .inr (9, [.ref q_14, .ref q_15, .int 0])), (q_14, .inl (cI, 96, .inl z0)), (q_15, .inl (cI, 12, .inl z0)), (q_16, .inr (9, [.ref q_19, .ref q_20, .int 0])), (q_19, .inl (cI, 64, .inl z0)), (q_20, .inl (cI, 8, .inl z0))] H := hP
  have hD : va_D A [(a0, .inr (7, [.ref q_1, .int 0, .ref q_2, .ref q_3, .ref q_4, .ref q_5, .int 0, .ref q_6, .ref q_7, .ref q_8, .ref q_9, .ref q_10, .int 0, .ref q_11, .null, .null])), (q_1, .inl (cI, 26, .inl z0)), (q_2, .inl (cI, 6, .inl z0)), (q_3, .inl (cI, 81, .inl z0)), (q_4, .inl (cI, 20, .inl z0)), (q_5, .inl (cI, 20, .inl z0)), (q_6, .inl (cI, 9, .inl z0)), (q_7, .inl (cI, 9, .inl z0)), (q_8, .inl (cI, 36, .inl z0)), (q_9, .inl (cI, 36, .inl z0)), (q_10, .inl (cR, 8, .inr (.inr (.inr (.inr (fun _ => none)))))), (q_11, .inr (9, [.ref q_14, .ref q_15, .int 0])), (q_14, .inl (cI, 96, .inl z0)), (q_15, .inl (cI, 12, .inl z0)), (q_16, .inr (9, [.ref q_19, .ref q_20, .int 0])), (q_19, .inl (cI, 64, .inl z0)), (q_20, .inl (cI, 8, .inl z0))] := hD
  refine W.widen (k := 16) (n := 437) (Nat.le_of_ble_eq_true rfl) (Nat.le_of_ble_eq_true rfl) ?_
  refine va_putF (D := (dC, dI)) (ci := 7) (v := .ref q_16) (ty := .object "SaidShallow$WordList") (C := RX7) (T := TX7) (N := 16) hx hb hU inlX7 tyX7 tyX7_ok nmX7 hown hK hP hD hS 0 rfl rfl 14 (by decide) (hU _ wd_87) (fun _ h9 => h9) rfl hin rfl (by decide +kernel) rfl rfl (Nat.le_of_ble_eq_true rfl) dX7_init_108 (fun H locs hP hD hS => ?_)
  have hP : va_P (dC, dI) vwCl [(a0, .inr (7, [.ref q_1, .int 0, .ref q_2, .ref q_3, .ref q_4, .ref q_5, .int 0, .ref q_6, .ref q_7, .ref q_8, .ref q_9, .ref q_10, .int 0, .ref q_11, .ref q_16, .null])), (q_1, .inl (cI, 26, .inl z0)), (q_2, .inl (cI, 6, .inl z0)), (q_3, .inl (cI, 81, .inl z0)), (q_4, .inl (cI, 20, .inl z0)), (q_5, .inl (cI, 20, .inl z0)), (q_6, .inl (cI, 9, .inl z0)), (q_7, .inl (cI, 9, .inl z0)), (q_8, .inl (cI, 36, .inl z0)), (q_9, .inl (cI, 36, .inl z0)), (q_10, .inl (cR, 8, .inr (.inr (.inr (.inr (fun _ => none)))))), (q_11, .inr (9, [.ref q_14, .ref q_15, .int 0])), (q_14, .inl (cI, 96, .inl z0)), (q_15, .inl (cI, 12, .inl z0)), (q_16, .inr (9, [.ref q_19, .ref q_20, .int 0])), (q_19, .inl (cI, 64, .inl z0)), (q_20, .inl (cI, 8, .inl z0))] H := hP
  have hD : va_D A [(a0, .inr (7, [.ref q_1, .int 0, .ref q_2, .ref q_3, .ref q_4, .ref q_5, .int 0, .ref q_6, .ref q_7, .ref q_8, .ref q_9, .ref q_10, .int 0, .ref q_11, .ref q_16, .null])), (q_1, .inl (cI, 26, .inl z0)), (q_2, .inl (cI, 6, .inl z0)), (q_3, .inl (cI, 81, .inl z0)), (q_4, .inl (cI, 20, .inl z0)), (q_5, .inl (cI, 20, .inl z0)), (q_6, .inl (cI, 9, .inl z0)), (q_7, .inl (cI, 9, .inl z0)), (q_8, .inl (cI, 36, .inl z0)), (q_9, .inl (cI, 36, .inl z0)), (q_10, .inl (cR, 8, .inr (.inr (.inr (.inr (fun _ => none)))))), (q_11, .inr (9, [.ref q_14, .ref q_15, .int 0])), (q_14, .inl (cI, 96, .inl z0)), (q_15, .inl (cI, 12, .inl z0)), (q_16, .inr (9, [.ref q_19, .ref q_20, .int 0])), (q_19, .inl (cI, 64, .inl z0)), (q_20, .inl (cI, 8, .inl z0))] := hD
  refine lv_aload_n hx hb dX7_init_111 rfl (lv_at hl 0 rfl) ?_
  refine lv_bipush (v := 8) hx hb dX7_init_112 (by decide) ?_
  refine tk_newa (atype := .int) (ty := .int) (a0 := (8, .inl z0)) hx hb 0 (hU (.arrayClass .int) wd_12) rfl (fun _ => Iff.rfl) hK rfl hP hD hS hA (fun _ => rfl) (by decide) (by decide) (Nat.le_of_ble_eq_true rfl) (Nat.le_of_ble_eq_true rfl) (Nat.le_of_ble_eq_true rfl) dX7_init_114 (fun q_21 H hP hD hS => ?_)
  have hP : va_P (dC, dI) vwCl [(a0, .inr (7, [.ref q_1, .int 0, .ref q_2, .ref q_3, .ref q_4, .ref q_5, .int 0, .ref q_6, .ref q_7, .ref q_8, .ref q_9, .ref q_10, .int 0, .ref q_11, .ref q_16, .null])), (q_1, .inl (cI, 26, .inl z0)), (q_2, .inl (cI, 6, .inl z0)), (q_3, .inl (cI, 81, .inl z0)), (q_4, .inl (cI, 20, .inl z0)), (q_5, .inl (cI, 20, .inl z0)), (q_6, .inl (cI, 9, .inl z0)), (q_7, .inl (cI, 9, .inl z0)), (q_8, .inl (cI, 36, .inl z0)), (q_9, .inl (cI, 36, .inl z0)), (q_10, .inl (cR, 8, .inr (.inr (.inr (.inr (fun _ => none)))))), (q_11, .inr (9, [.ref q_14, .ref q_15, .int 0])), (q_14, .inl (cI, 96, .inl z0)), (q_15, .inl (cI, 12, .inl z0)), (q_16, .inr (9, [.ref q_19, .ref q_20, .int 0])), (q_19, .inl (cI, 64, .inl z0)), (q_20, .inl (cI, 8, .inl z0)), (q_21, .inl (cI, 8, .inl z0))] H := hP
  have hD : va_D A [(a0, .inr (7, [.ref q_1, .int 0, .ref q_2, .ref q_3, .ref q_4, .ref q_5, .int 0, .ref q_6, .ref q_7, .ref q_8, .ref q_9, .ref q_10, .int 0, .ref q_11, .ref q_16, .null])), (q_1, .inl (cI, 26, .inl z0)), (q_2, .inl (cI, 6, .inl z0)), (q_3, .inl (cI, 81, .inl z0)), (q_4, .inl (cI, 20, .inl z0)), (q_5, .inl (cI, 20, .inl z0)), (q_6, .inl (cI, 9, .inl z0)), (q_7, .inl (cI, 9, .inl z0)), (q_8, .inl (cI, 36, .inl z0)), (q_9, .inl (cI, 36, .inl z0)), (q_10, .inl (cR, 8, .inr (.inr (.inr (.inr (fun _ => none)))))), (q_11, .inr (9, [.ref q_14, .ref q_15, .int 0])), (q_14, .inl (cI, 96, .inl z0)), (q_15, .inl (cI, 12, .inl z0)), (q_16, .inr (9, [.ref q_19, .ref q_20, .int 0])), (q_19, .inl (cI, 64, .inl z0)), (q_20, .inl (cI, 8, .inl z0)), (q_21, .inl (cI, 8, .inl z0))] := hD
  refine W.widen (k := 17) (n := 445) (Nat.le_of_ble_eq_true rfl) (Nat.le_of_ble_eq_true rfl) ?_
  refine va_putF (D := (dC, dI)) (ci := 7) (v := .ref q_21) (ty := .array .int) (C := RX7) (T := TX7) (N := 16) hx hb hU inlX7 tyX7 tyX7_ok nmX7 hown hK hP hD hS 0 rfl rfl 15 (by decide) (hU _ wd_88) (fun _ h9 => h9) rfl hin rfl (by decide +kernel) rfl rfl (Nat.le_of_ble_eq_true rfl) dX7_init_116 (fun H locs hP hD hS => ?_)
  have hP : va_P (dC, dI) vwCl [(a0, .inr (7, [.ref q_1, .int 0, .ref q_2, .ref q_3, .ref q_4, .ref q_5, .int 0, .ref q_6, .ref q_7, .ref q_8, .ref q_9, .ref q_10, .int 0, .ref q_11, .ref q_16, .ref q_21])), (q_1, .inl (cI, 26, .inl z0)), (q_2, .inl (cI, 6, .inl z0)), (q_3, .inl (cI, 81, .inl z0)), (q_4, .inl (cI, 20, .inl z0)), (q_5, .inl (cI, 20, .inl z0)), (q_6, .inl (cI, 9, .inl z0)), (q_7, .inl (cI, 9, .inl z0)), (q_8, .inl (cI, 36, .inl z0)), (q_9, .inl (cI, 36, .inl z0)), (q_10, .inl (cR, 8, .inr (.inr (.inr (.inr (fun _ => none)))))), (q_11, .inr (9, [.ref q_14, .ref q_15, .int 0])), (q_14, .inl (cI, 96, .inl z0)), (q_15, .inl (cI, 12, .inl z0)), (q_16, .inr (9, [.ref q_19, .ref q_20, .int 0])), (q_19, .inl (cI, 64, .inl z0)), (q_20, .inl (cI, 8, .inl z0)), (q_21, .inl (cI, 8, .inl z0))] H := hP
  have hD : va_D A [(a0, .inr (7, [.ref q_1, .int 0, .ref q_2, .ref q_3, .ref q_4, .ref q_5, .int 0, .ref q_6, .ref q_7, .ref q_8, .ref q_9, .ref q_10, .int 0, .ref q_11, .ref q_16, .ref q_21])), (q_1, .inl (cI, 26, .inl z0)), (q_2, .inl (cI, 6, .inl z0)), (q_3, .inl (cI, 81, .inl z0)), (q_4, .inl (cI, 20, .inl z0)), (q_5, .inl (cI, 20, .inl z0)), (q_6, .inl (cI, 9, .inl z0)), (q_7, .inl (cI, 9, .inl z0)), (q_8, .inl (cI, 36, .inl z0)), (q_9, .inl (cI, 36, .inl z0)), (q_10, .inl (cR, 8, .inr (.inr (.inr (.inr (fun _ => none)))))), (q_11, .inr (9, [.ref q_14, .ref q_15, .int 0])), (q_14, .inl (cI, 96, .inl z0)), (q_15, .inl (cI, 12, .inl z0)), (q_16, .inr (9, [.ref q_19, .ref q_20, .int 0])), (q_19, .inl (cI, 64, .inl z0)), (q_20, .inl (cI, 8, .inl z0)), (q_21, .inl (cI, 8, .inl z0))] := hD
  refine lv_iconst (v := 0) hx hb dX7_init_119 (by decide) ?_
  refine lv_istore_n (lv' := [(1, .int 0), (0, .ref a0)]) hx hb dX7_init_120 rfl hl (by decide) rfl (fun ls hl => ?_)
  refine lv_iload_n hx hb dX7_init_121 rfl (lv_at hl 0 rfl) ?_
  refine lv_bipush (v := 8) hx hb dX7_init_122 (by decide) ?_
  refine lv_icmp_ge (tgt := 146) hx hb dX7_init_124 (by decide) (fun c9 => absurd c9 (by decide)) (fun _ => ?_)
  refine lv_aload_n hx hb dX7_init_127 rfl (lv_at hl 1 rfl) ?_
  refine va_get (D := (dC, dI)) (ci := 7) (v := .ref q_10) (C := RX7) (T := TX7) (N := 16) hx hb hU inlX7 hown hK hP 0 rfl rfl 11 (by decide) (hU _ wd_82) (fun _ h9 => h9) rfl dX7_init_128 ?_
  refine lv_iload_n hx hb dX7_init_131 rfl (lv_at hl 0 rfl) ?_
  refine va_new (ci := 4) (fs := [.int 0, .int 0, .int 0, .int 0, .null, .null, .null, .null, .int 0, .int 0, .int 0]) (C := RX4) (T := TX4) (N := 11) hx hb hU inlX4 tyX4 tyX4_ok hown (hU _ wd_81) (hU _ wd_89) (hU _ wd_90) hK hP hD hS hA rfl dvX4 (Nat.le_of_ble_eq_true rfl) (Nat.le_of_ble_eq_true rfl) dX7_init_132 (fun q_22 H hP hD hS => ?_)
  have hP : va_P (dC, dI) vwCl [(a0, .inr (7, [.ref q_1, .int 0, .ref q_2, .ref q_3, .ref q_4, .ref q_5, .int 0, .ref q_6, .ref q_7, .ref q_8, .ref q_9, .ref q_10, .int 0, .ref q_11, .ref q_16, .ref q_21])), (q_1, .inl (cI, 26, .inl z0)), (q_2, .inl (cI, 6, .inl z0)), (q_3, .inl (cI, 81, .inl z0)), (q_4, .inl (cI, 20, .inl z0)), (q_5, .inl (cI, 20, .inl z0)), (q_6, .inl (cI, 9, .inl z0)), (q_7, .inl (cI, 9, .inl z0)), (q_8, .inl (cI, 36, .inl z0)), (q_9, .inl (cI, 36, .inl z0)), (q_10, .inl (cR, 8, .inr (.inr (.inr (.inr (fun _ => none)))))), (q_11, .inr (9, [.ref q_14, .ref q_15, .int 0])), (q_14, .inl (cI, 96, .inl z0)), (q_15, .inl (cI, 12, .inl z0)), (q_16, .inr (9, [.ref q_19, .ref q_20, .int 0])), (q_19, .inl (cI, 64, .inl z0)), (q_20, .inl (cI, 8, .inl z0)), (q_21, .inl (cI, 8, .inl z0)), (q_22, .inr (4, [.int 0, .int 0, .int 0, .int 0, .null, .null, .null, .null, .int 0, .int 0, .int 0]))] H := hP
  have hD : va_D A [(a0, .inr (7, [.ref q_1, .int 0, .ref q_2, .ref q_3, .ref q_4, .ref q_5, .int 0, .ref q_6, .ref q_7, .ref q_8, .ref q_9, .ref q_10, .int 0, .ref q_11, .ref q_16, .ref q_21])), (q_1, .inl (cI, 26, .inl z0)), (q_2, .inl (cI, 6, .inl z0)), (q_3, .inl (cI, 81, .inl z0)), (q_4, .inl (cI, 20, .inl z0)), (q_5, .inl (cI, 20, .inl z0)), (q_6, .inl (cI, 9, .inl z0)), (q_7, .inl (cI, 9, .inl z0)), (q_8, .inl (cI, 36, .inl z0)), (q_9, .inl (cI, 36, .inl z0)), (q_10, .inl (cR, 8, .inr (.inr (.inr (.inr (fun _ => none)))))), (q_11, .inr (9, [.ref q_14, .ref q_15, .int 0])), (q_14, .inl (cI, 96, .inl z0)), (q_15, .inl (cI, 12, .inl z0)), (q_16, .inr (9, [.ref q_19, .ref q_20, .int 0])), (q_19, .inl (cI, 64, .inl z0)), (q_20, .inl (cI, 8, .inl z0)), (q_21, .inl (cI, 8, .inl z0)), (q_22, .inr (4, [.int 0, .int 0, .int 0, .int 0, .null, .null, .null, .null, .int 0, .int 0, .int 0]))] := hD
  refine W.widen (k := 18) (n := 456) (Nat.le_of_ble_eq_true rfl) (Nat.le_of_ble_eq_true rfl) ?_
  refine lv_dup hx hb dX7_init_135 rfl ?_
  refine tk_rv (wr := [(a0, .inr (7, [.ref q_1, .int 0, .ref q_2, .ref q_3, .ref q_4, .ref q_5, .int 0, .ref q_6, .ref q_7, .ref q_8, .ref q_9, .ref q_10, .int 0, .ref q_11, .ref q_16, .ref q_21])), (q_1, .inl (cI, 26, .inl z0)), (q_2, .inl (cI, 6, .inl z0)), (q_3, .inl (cI, 81, .inl z0)), (q_4, .inl (cI, 20, .inl z0)), (q_5, .inl (cI, 20, .inl z0)), (q_6, .inl (cI, 9, .inl z0)), (q_7, .inl (cI, 9, .inl z0)), (q_8, .inl (cI, 36, .inl z0)), (q_9, .inl (cI, 36, .inl z0)), (q_10, .inl (cR, 8, .inr (.inr (.inr (.inr (fun _ => none)))))), (q_11, .inr (9, [.ref q_14, .ref q_15, .int 0])), (q_14, .inl (cI, 96, .inl z0)), (q_15, .inl (cI, 12, .inl z0)), (q_16, .inr (9, [.ref q_19, .ref q_20, .int 0])), (q_19, .inl (cI, 64, .inl z0)), (q_20, .inl (cI, 8, .inl z0)), (q_21, .inl (cI, 8, .inl z0))]) (tk_IN (As := []) (rest := [.ref q_22, .int 0, .ref q_10]) (n := 0) hx hb hml hown hU hN (cc_X4_init_0 l (dC, dI) cI cL cZ H.size q_22) hN.2.1 wd_97 wd_90 wd_98 rfl (by decide +kernel) ⟨Nat.le_of_ble_eq_true rfl, Nat.le_of_ble_eq_true rfl⟩ hK hP hD [18] (by decide) rfl rfl hl.1 rfl (Nat.le_of_ble_eq_true rfl) dX7_init_136 ⟨Nat.le_of_ble_eq_true rfl, Nat.le_of_ble_eq_true rfl⟩) hP hD hS hA [18] [0, 1, 2, 3, 4, 5, 6, 7, 8, 9, 10, 11, 12, 13, 14, 15, 16, 17] rfl rfl (by decide) (by decide) (fun w_24 H locs hw hP hD hS => ?_)
  obtain ⟨q_25, q_26, q_27, q_28, rfl⟩ := hw
  have hP : va_P (dC, dI) vwCl [(a0, .inr (7, [.ref q_1, .int 0, .ref q_2, .ref q_3, .ref q_4, .ref q_5, .int 0, .ref q_6, .ref q_7, .ref q_8, .ref q_9, .ref q_10, .int 0, .ref q_11, .ref q_16, .ref q_21])), (q_1, .inl (cI, 26, .inl z0)), (q_2, .inl (cI, 6, .inl z0)), (q_3, .inl (cI, 81, .inl z0)), (q_4, .inl (cI, 20, .inl z0)), (q_5, .inl (cI, 20, .inl z0)), (q_6, .inl (cI, 9, .inl z0)), (q_7, .inl (cI, 9, .inl z0)), (q_8, .inl (cI, 36, .inl z0)), (q_9, .inl (cI, 36, .inl z0)), (q_10, .inl (cR, 8, .inr (.inr (.inr (.inr (fun _ => none)))))), (q_11, .inr (9, [.ref q_14, .ref q_15, .int 0])), (q_14, .inl (cI, 96, .inl z0)), (q_15, .inl (cI, 12, .inl z0)), (q_16, .inr (9, [.ref q_19, .ref q_20, .int 0])), (q_19, .inl (cI, 64, .inl z0)), (q_20, .inl (cI, 8, .inl z0)), (q_21, .inl (cI, 8, .inl z0)), (q_22, .inr (4, [.int 0, .int 0, .int 0, .int 0, .ref q_25, .ref q_26, .ref q_27, .ref q_28, .int 0, .int 0, .int 0]))] H := hP
  have hD : va_D A [(a0, .inr (7, [.ref q_1, .int 0, .ref q_2, .ref q_3, .ref q_4, .ref q_5, .int 0, .ref q_6, .ref q_7, .ref q_8, .ref q_9, .ref q_10, .int 0, .ref q_11, .ref q_16, .ref q_21])), (q_1, .inl (cI, 26, .inl z0)), (q_2, .inl (cI, 6, .inl z0)), (q_3, .inl (cI, 81, .inl z0)), (q_4, .inl (cI, 20, .inl z0)), (q_5, .inl (cI, 20, .inl z0)), (q_6, .inl (cI, 9, .inl z0)), (q_7, .inl (cI, 9, .inl z0)), (q_8, .inl (cI, 36, .inl z0)), (q_9, .inl (cI, 36, .inl z0)), (q_10, .inl (cR, 8, .inr (.inr (.inr (.inr (fun _ => none)))))), (q_11, .inr (9, [.ref q_14, .ref q_15, .int 0])), (q_14, .inl (cI, 96, .inl z0)), (q_15, .inl (cI, 12, .inl z0)), (q_16, .inr (9, [.ref q_19, .ref q_20, .int 0])), (q_19, .inl (cI, 64, .inl z0)), (q_20, .inl (cI, 8, .inl z0)), (q_21, .inl (cI, 8, .inl z0)), (q_22, .inr (4, [.int 0, .int 0, .int 0, .int 0, .ref q_25, .ref q_26, .ref q_27, .ref q_28, .int 0, .int 0, .int 0]))] := hD
  refine W.widen (k := 28) (n := 608) (Nat.le_of_ble_eq_true rfl) (Nat.le_of_ble_eq_true rfl) ?_
  refine va_astq (r := (RX4, TX4, 11)) hx hb hKR hP hD hS 10 3 18 4 rfl rfl rfl rfl (vp_in_nI (n := 0) (by decide) (by decide)) dX7_init_139 (fun H locs hP hD hS => ?_)
  obtain ⟨g_29, eg_29⟩ : ∃ y : Nat → Option Nat, va_up (fun _ => none) (Int32.toNatClampNeg 0) (some q_22) = y := ⟨_, rfl⟩
  have hP : va_P (dC, dI) vwCl [(a0, .inr (7, [.ref q_1, .int 0, .ref q_2, .ref q_3, .ref q_4, .ref q_5, .int 0, .ref q_6, .ref q_7, .ref q_8, .ref q_9, .ref q_10, .int 0, .ref q_11, .ref q_16, .ref q_21])), (q_1, .inl (cI, 26, .inl z0)), (q_2, .inl (cI, 6, .inl z0)), (q_3, .inl (cI, 81, .inl z0)), (q_4, .inl (cI, 20, .inl z0)), (q_5, .inl (cI, 20, .inl z0)), (q_6, .inl (cI, 9, .inl z0)), (q_7, .inl (cI, 9, .inl z0)), (q_8, .inl (cI, 36, .inl z0)), (q_9, .inl (cI, 36, .inl z0)), (q_10, .inl (cR, 8, .inr (.inr (.inr (.inr g_29))))), (q_11, .inr (9, [.ref q_14, .ref q_15, .int 0])), (q_14, .inl (cI, 96, .inl z0)), (q_15, .inl (cI, 12, .inl z0)), (q_16, .inr (9, [.ref q_19, .ref q_20, .int 0])), (q_19, .inl (cI, 64, .inl z0)), (q_20, .inl (cI, 8, .inl z0)), (q_21, .inl (cI, 8, .inl z0)), (q_22, .inr (4, [.int 0, .int 0, .int 0, .int 0, .ref q_25, .ref q_26, .ref q_27, .ref q_28, .int 0, .int 0, .int 0]))] H := by rw [← eg_29]; exact hP
  have hD : va_D A [(a0, .inr (7, [.ref q_1, .int 0, .ref q_2, .ref q_3, .ref q_4, .ref q_5, .int 0, .ref q_6, .ref q_7, .ref q_8, .ref q_9, .ref q_10, .int 0, .ref q_11, .ref q_16, .ref q_21])), (q_1, .inl (cI, 26, .inl z0)), (q_2, .inl (cI, 6, .inl z0)), (q_3, .inl (cI, 81, .inl z0)), (q_4, .inl (cI, 20, .inl z0)), (q_5, .inl (cI, 20, .inl z0)), (q_6, .inl (cI, 9, .inl z0)), (q_7, .inl (cI, 9, .inl z0)), (q_8, .inl (cI, 36, .inl z0)), (q_9, .inl (cI, 36, .inl z0)), (q_10, .inl (cR, 8, .inr (.inr (.inr (.inr g_29))))), (q_11, .inr (9, [.ref q_14, .ref q_15, .int 0])), (q_14, .inl (cI, 96, .inl z0)), (q_15, .inl (cI, 12, .inl z0)), (q_16, .inr (9, [.ref q_19, .ref q_20, .int 0])), (q_19, .inl (cI, 64, .inl z0)), (q_20, .inl (cI, 8, .inl z0)), (q_21, .inl (cI, 8, .inl z0)), (q_22, .inr (4, [.int 0, .int 0, .int 0, .int 0, .ref q_25, .ref q_26, .ref q_27, .ref q_28, .int 0, .int 0, .int 0]))] := by rw [← eg_29]; exact hD
  have hP : va_P (dC, dI) vwCl [(a0, .inr (7, [.ref q_1, .int 0, .ref q_2, .ref q_3, .ref q_4, .ref q_5, .int 0, .ref q_6, .ref q_7, .ref q_8, .ref q_9, .ref q_10, .int 0, .ref q_11, .ref q_16, .ref q_21])), (q_1, .inl (cI, 26, .inl z0)), (q_2, .inl (cI, 6, .inl z0)), (q_3, .inl (cI, 81, .inl z0)), (q_4, .inl (cI, 20, .inl z0)), (q_5, .inl (cI, 20, .inl z0)), (q_6, .inl (cI, 9, .inl z0)), (q_7, .inl (cI, 9, .inl z0)), (q_8, .inl (cI, 36, .inl z0)), (q_9, .inl (cI, 36, .inl z0)), (q_10, .inl (cR, 8, .inr (.inr (.inr (.inr g_29))))), (q_11, .inr (9, [.ref q_14, .ref q_15, .int 0])), (q_14, .inl (cI, 96, .inl z0)), (q_15, .inl (cI, 12, .inl z0)), (q_16, .inr (9, [.ref q_19, .ref q_20, .int 0])), (q_19, .inl (cI, 64, .inl z0)), (q_20, .inl (cI, 8, .inl z0)), (q_21, .inl (cI, 8, .inl z0))] H := hP.sub [0, 1, 2, 3, 4, 5, 6, 7, 8, 9, 10, 11, 12, 13, 14, 15, 16, 17] rfl
  have hD : va_D A [(a0, .inr (7, [.ref q_1, .int 0, .ref q_2, .ref q_3, .ref q_4, .ref q_5, .int 0, .ref q_6, .ref q_7, .ref q_8, .ref q_9, .ref q_10, .int 0, .ref q_11, .ref q_16, .ref q_21])), (q_1, .inl (cI, 26, .inl z0)), (q_2, .inl (cI, 6, .inl z0)), (q_3, .inl (cI, 81, .inl z0)), (q_4, .inl (cI, 20, .inl z0)), (q_5, .inl (cI, 20, .inl z0)), (q_6, .inl (cI, 9, .inl z0)), (q_7, .inl (cI, 9, .inl z0)), (q_8, .inl (cI, 36, .inl z0)), (q_9, .inl (cI, 36, .inl z0)), (q_10, .inl (cR, 8, .inr (.inr (.inr (.inr g_29))))), (q_11, .inr (9, [.ref q_14, .ref q_15, .int 0])), (q_14, .inl (cI, 96, .inl z0)), (q_15, .inl (cI, 12, .inl z0)), (q_16, .inr (9, [.ref q_19, .ref q_20, .int 0])), (q_19, .inl (cI, 64, .inl z0)), (q_20, .inl (cI, 8, .inl z0)), (q_21, .inl (cI, 8, .inl z0))] := hD.sub [0, 1, 2, 3, 4, 5, 6, 7, 8, 9, 10, 11, 12, 13, 14, 15, 16, 17] (by decide) rfl
  refine lv_iinc (v := 1) (lv' := [(1, .int 1), (0, .ref a0)]) hx hb dX7_init_140 hl (k := 0) rfl (by decide) (by decide) rfl (fun ls hl => ?_)
  refine lv_goto (tgt := 121) hx hb dX7_init_143 (by decide) ?_
  refine lv_iload_n hx hb dX7_init_121 rfl (lv_at hl 0 rfl) ?_
  refine lv_bipush (v := 8) hx hb dX7_init_122 (by decide) ?_
  refine lv_icmp_ge (tgt := 146) hx hb dX7_init_124 (by decide) (fun c9 => absurd c9 (by decide)) (fun _ => ?_)
  refine lv_aload_n hx hb dX7_init_127 rfl (lv_at hl 1 rfl) ?_
  refine va_get (D := (dC, dI)) (ci := 7) (v := .ref q_10) (C := RX7) (T := TX7) (N := 16) hx hb hU inlX7 hown hK hP 0 rfl rfl 11 (by decide) (hU _ wd_82) (fun _ h9 => h9) rfl dX7_init_128 ?_
  refine lv_iload_n hx hb dX7_init_131 rfl (lv_at hl 0 rfl) ?_
  refine va_new (ci := 4) (fs := [.int 0, .int 0, .int 0, .int 0, .null, .null, .null, .null, .int 0, .int 0, .int 0]) (C := RX4) (T := TX4) (N := 11) hx hb hU inlX4 tyX4 tyX4_ok hown (hU _ wd_81) (hU _ wd_89) (hU _ wd_90) hK hP hD hS hA rfl dvX4 (Nat.le_of_ble_eq_true rfl) (Nat.le_of_ble_eq_true rfl) dX7_init_132 (fun q_30 H hP hD hS => ?_)
  have hP : va_P (dC, dI) vwCl [(a0, .inr (7, [.ref q_1, .int 0, .ref q_2, .ref q_3, .ref q_4, .ref q_5, .int 0, .ref q_6, .ref q_7, .ref q_8, .ref q_9, .ref q_10, .int 0, .ref q_11, .ref q_16, .ref q_21])), (q_1, .inl (cI, 26, .inl z0)), (q_2, .inl (cI, 6, .inl z0)), (q_3, .inl (cI, 81, .inl z0)), (q_4, .inl (cI, 20, .inl z0)), (q_5, .inl (cI, 20, .inl z0)), (q_6, .inl (cI, 9, .inl z0)), (q_7, .inl (cI, 9, .inl z0)), (q_8, .inl (cI, 36, .inl z0)), (q_9, .inl (cI, 36, .inl z0)), (q_10, .inl (cR, 8, .inr (.inr (.inr (.inr g_29))))), (q_11, .inr (9, [.ref q_14, .ref q_15, .int 0])), (q_14, .inl (cI, 96, .inl z0)), (q_15, .inl (cI, 12, .inl z0)), (q_16, .inr (9, [.ref q_19, .ref q_20, .int 0])), (q_19, .inl (cI, 64, .inl z0)), (q_20, .inl (cI, 8, .inl z0)), (q_21, .inl (cI, 8, .inl z0)), (q_30, .inr (4, [.int 0, .int 0, .int 0, .int 0, .null, .null, .null, .null, .int 0, .int 0, .int 0]))] H := hP
  have hD : va_D A [(a0, .inr (7, [.ref q_1, .int 0, .ref q_2, .ref q_3, .ref q_4, .ref q_5, .int 0, .ref q_6, .ref q_7, .ref q_8, .ref q_9, .ref q_10, .int 0, .ref q_11, .ref q_16, .ref q_21])), (q_1, .inl (cI, 26, .inl z0)), (q_2, .inl (cI, 6, .inl z0)), (q_3, .inl (cI, 81, .inl z0)), (q_4, .inl (cI, 20, .inl z0)), (q_5, .inl (cI, 20, .inl z0)), (q_6, .inl (cI, 9, .inl z0)), (q_7, .inl (cI, 9, .inl z0)), (q_8, .inl (cI, 36, .inl z0)), (q_9, .inl (cI, 36, .inl z0)), (q_10, .inl (cR, 8, .inr (.inr (.inr (.inr g_29))))), (q_11, .inr (9, [.ref q_14, .ref q_15, .int 0])), (q_14, .inl (cI, 96, .inl z0)), (q_15, .inl (cI, 12, .inl z0)), (q_16, .inr (9, [.ref q_19, .ref q_20, .int 0])), (q_19, .inl (cI, 64, .inl z0)), (q_20, .inl (cI, 8, .inl z0)), (q_21, .inl (cI, 8, .inl z0)), (q_30, .inr (4, [.int 0, .int 0, .int 0, .int 0, .null, .null, .null, .null, .int 0, .int 0, .int 0]))] := hD
  refine W.widen (k := 29) (n := 619) (Nat.le_of_ble_eq_true rfl) (Nat.le_of_ble_eq_true rfl) ?_
  refine lv_dup hx hb dX7_init_135 rfl ?_
  refine tk_rv (wr := [(a0, .inr (7, [.ref q_1, .int 0, .ref q_2, .ref q_3, .ref q_4, .ref q_5, .int 0, .ref q_6, .ref q_7, .ref q_8, .ref q_9, .ref q_10, .int 0, .ref q_11, .ref q_16, .ref q_21])), (q_1, .inl (cI, 26, .inl z0)), (q_2, .inl (cI, 6, .inl z0)), (q_3, .inl (cI, 81, .inl z0)), (q_4, .inl (cI, 20, .inl z0)), (q_5, .inl (cI, 20, .inl z0)), (q_6, .inl (cI, 9, .inl z0)), (q_7, .inl (cI, 9, .inl z0)), (q_8, .inl (cI, 36, .inl z0)), (q_9, .inl (cI, 36, .inl z0)), (q_10, .inl (cR, 8, .inr (.inr (.inr (.inr g_29))))), (q_11, .inr (9, [.ref q_14, .ref q_15, .int 0])), (q_14, .inl (cI, 96, .inl z0)), (q_15, .inl (cI, 12, .inl z0)), (q_16, .inr (9, [.ref q_19, .ref q_20, .int 0])), (q_19, .inl (cI, 64, .inl z0)), (q_20, .inl (cI, 8, .inl z0)), (q_21, .inl (cI, 8, .inl z0))]) (tk_IN (As := []) (rest := [.ref q_30, .int 1, .ref q_10]) (n := 0) hx hb hml hown hU hN (cc_X4_init_0 l (dC, dI) cI cL cZ H.size q_30) hN.2.1 wd_97 wd_90 wd_98 rfl (by decide +kernel) ⟨Nat.le_of_ble_eq_true rfl, Nat.le_of_ble_eq_true rfl⟩ hK hP hD [18] (by decide) rfl rfl hl.1 rfl (Nat.le_of_ble_eq_true rfl) dX7_init_136 ⟨Nat.le_of_ble_eq_true rfl, Nat.le_of_ble_eq_true rfl⟩) hP hD hS hA [18] [0, 1, 2, 3, 4, 5, 6, 7, 8, 9, 10, 11, 12, 13, 14, 15, 16, 17] rfl rfl (by decide) (by decide) (fun w_32 H locs hw hP hD hS => ?_)
  obtain ⟨q_33, q_34, q_35, q_36, rfl⟩ := hw
  have hP : va_P (dC, dI) vwCl [(a0, .inr (7, [.ref q_1, .int 0, .ref q_2, .ref q_3, .ref q_4, .ref q_5, .int 0, .ref q_6, .ref q_7, .ref q_8, .ref q_9, .ref q_10, .int 0, .ref q_11, .ref q_16, .ref q_21])), (q_1, .inl (cI, 26, .inl z0)), (q_2, .inl (cI, 6, .inl z0)), (q_3, .inl (cI, 81, .inl z0)), (q_4, .inl (cI, 20, .inl z0)), (q_5, .inl (cI, 20, .inl z0)), (q_6, .inl (cI, 9, .inl z0)), (q_7, .inl (cI, 9, .inl z0)), (q_8, .inl (cI, 36, .inl z0)), (q_9, .inl (cI, 36, .inl z0)), (q_10, .inl (cR, 8, .inr (.inr (.inr (.inr g_29))))), (q_11, .inr (9, [.ref q_14, .ref q_15, .int 0])), (q_14, .inl (cI, 96, .inl z0)), (q_15, .inl (cI, 12, .inl z0)), (q_16, .inr (9, [.ref q_19, .ref q_20, .int 0])), (q_19, .inl (cI, 64, .inl z0)), (q_20, .inl (cI, 8, .inl z0)), (q_21, .inl (cI, 8, .inl z0)), (q_30, .inr (4, [.int 0, .int 0, .int 0, .int 0, .ref q_33, .ref q_34, .ref q_35, .ref q_36, .int 0, .int 0, .int 0]))] H := hP
  have hD : va_D A [(a0, .inr (7, [.ref q_1, .int 0, .ref q_2, .ref q_3, .ref q_4, .ref q_5, .int 0, .ref q_6, .ref q_7, .ref q_8, .ref q_9, .ref q_10, .int 0, .ref q_11, .ref q_16, .ref q_21])), (q_1, .inl (cI, 26, .inl z0)), (q_2, .inl (cI, 6, .inl z0)), (q_3, .inl (cI, 81, .inl z0)), (q_4, .inl (cI, 20, .inl z0)), (q_5, .inl (cI, 20, .inl z0)), (q_6, .inl (cI, 9, .inl z0)), (q_7, .inl (cI, 9, .inl z0)), (q_8, .inl (cI, 36, .inl z0)), (q_9, .inl (cI, 36, .inl z0)), (q_10, .inl (cR, 8, .inr (.inr (.inr (.inr g_29))))), (q_11, .inr (9, [.ref q_14, .ref q_15, .int 0])), (q_14, .inl (cI, 96, .inl z0)), (q_15, .inl (cI, 12, .inl z0)), (q_16, .inr (9, [.ref q_19, .ref q_20, .int 0])), (q_19, .inl (cI, 64, .inl z0)), (q_20, .inl (cI, 8, .inl z0)), (q_21, .inl (cI, 8, .inl z0)), (q_30, .inr (4, [.int 0, .int 0, .int 0, .int 0, .ref q_33, .ref q_34, .ref q_35, .ref q_36, .int 0, .int 0, .int 0]))] := hD
  refine W.widen (k := 39) (n := 771) (Nat.le_of_ble_eq_true rfl) (Nat.le_of_ble_eq_true rfl) ?_
  refine va_astq (r := (RX4, TX4, 11)) hx hb hKR hP hD hS 10 3 18 4 rfl rfl rfl rfl (vp_in_nI (n := 1) (by decide) (by decide)) dX7_init_139 (fun H locs hP hD hS => ?_)
  obtain ⟨g_37, eg_37⟩ : ∃ y : Nat → Option Nat, va_up g_29 (Int32.toNatClampNeg 1) (some q_30) = y := ⟨_, rfl⟩
  have hP : va_P (dC, dI) vwCl [(a0, .inr (7, [.ref q_1, .int 0, .ref q_2, .ref q_3, .ref q_4, .ref q_5, .int 0, .ref q_6, .ref q_7, .ref q_8, .ref q_9, .ref q_10, .int 0, .ref q_11, .ref q_16, .ref q_21])), (q_1, .inl (cI, 26, .inl z0)), (q_2, .inl (cI, 6, .inl z0)), (q_3, .inl (cI, 81, .inl z0)), (q_4, .inl (cI, 20, .inl z0)), (q_5, .inl (cI, 20, .inl z0)), (q_6, .inl (cI, 9, .inl z0)), (q_7, .inl (cI, 9, .inl z0)), (q_8, .inl (cI, 36, .inl z0)), (q_9, .inl (cI, 36, .inl z0)), (q_10, .inl (cR, 8, .inr (.inr (.inr (.inr g_37))))), (q_11, .inr (9, [.ref q_14, .ref q_15, .int 0])), (q_14, .inl (cI, 96, .inl z0)), (q_15, .inl (cI, 12, .inl z0)), (q_16, .inr (9, [.ref q_19, .ref q_20, .int 0])), (q_19, .inl (cI, 64, .inl z0)), (q_20, .inl (cI, 8, .inl z0)), (q_21, .inl (cI, 8, .inl z0)), (q_30, .inr (4, [.int 0, .int 0, .int 0, .int 0, .ref q_33, .ref q_34, .ref q_35, .ref q_36, .int 0, .int 0, .int 0]))] H := by rw [← eg_37]; exact hP
  have hD : va_D A [(a0, .inr (7, [.ref q_1, .int 0, .ref q_2, .ref q_3, .ref q_4, .ref q_5, .int 0, .ref q_6, .ref q_7, .ref q_8, .ref q_9, .ref q_10, .int 0, .ref q_11, .ref q_16, .ref q_21])), (q_1, .inl (cI, 26, .inl z0)), (q_2, .inl (cI, 6, .inl z0)), (q_3, .inl (cI, 81, .inl z0)), (q_4, .inl (cI, 20, .inl z0)), (q_5, .inl (cI, 20, .inl z0)), (q_6, .inl (cI, 9, .inl z0)), (q_7, .inl (cI, 9, .inl z0)), (q_8, .inl (cI, 36, .inl z0)), (q_9, .inl (cI, 36, .inl z0)), (q_10, .inl (cR, 8, .inr (.inr (.inr (.inr g_37))))), (q_11, .inr (9, [.ref q_14, .ref q_15, .int 0])), (q_14, .inl (cI, 96, .inl z0)), (q_15, .inl (cI, 12, .inl z0)), (q_16, .inr (9, [.ref q_19, .ref q_20, .int 0])), (q_19, .inl (cI, 64, .inl z0)), (q_20, .inl (cI, 8, .inl z0)), (q_21, .inl (cI, 8, .inl z0)), (q_30, .inr (4, [.int 0, .int 0, .int 0, .int 0, .ref q_33, .ref q_34, .ref q_35, .ref q_36, .int 0, .int 0, .int 0]))] := by rw [← eg_37]; exact hD
  have hP : va_P (dC, dI) vwCl [(a0, .inr (7, [.ref q_1, .int 0, .ref q_2, .ref q_3, .ref q_4, .ref q_5, .int 0, .ref q_6, .ref q_7, .ref q_8, .ref q_9, .ref q_10, .int 0, .ref q_11, .ref q_16, .ref q_21])), (q_1, .inl (cI, 26, .inl z0)), (q_2, .inl (cI, 6, .inl z0)), (q_3, .inl (cI, 81, .inl z0)), (q_4, .inl (cI, 20, .inl z0)), (q_5, .inl (cI, 20, .inl z0)), (q_6, .inl (cI, 9, .inl z0)), (q_7, .inl (cI, 9, .inl z0)), (q_8, .inl (cI, 36, .inl z0)), (q_9, .inl (cI, 36, .inl z0)), (q_10, .inl (cR, 8, .inr (.inr (.inr (.inr g_37))))), (q_11, .inr (9, [.ref q_14, .ref q_15, .int 0])), (q_14, .inl (cI, 96, .inl z0)), (q_15, .inl (cI, 12, .inl z0)), (q_16, .inr (9, [.ref q_19, .ref q_20, .int 0])), (q_19, .inl (cI, 64, .inl z0)), (q_20, .inl (cI, 8, .inl z0)), (q_21, .inl (cI, 8, .inl z0))] H := hP.sub [0, 1, 2, 3, 4, 5, 6, 7, 8, 9, 10, 11, 12, 13, 14, 15, 16, 17] rfl
  have hD : va_D A [(a0, .inr (7, [.ref q_1, .int 0, .ref q_2, .ref q_3, .ref q_4, .ref q_5, .int 0, .ref q_6, .ref q_7, .ref q_8, .ref q_9, .ref q_10, .int 0, .ref q_11, .ref q_16, .ref q_21])), (q_1, .inl (cI, 26, .inl z0)), (q_2, .inl (cI, 6, .inl z0)), (q_3, .inl (cI, 81, .inl z0)), (q_4, .inl (cI, 20, .inl z0)), (q_5, .inl (cI, 20, .inl z0)), (q_6, .inl (cI, 9, .inl z0)), (q_7, .inl (cI, 9, .inl z0)), (q_8, .inl (cI, 36, .inl z0)), (q_9, .inl (cI, 36, .inl z0)), (q_10, .inl (cR, 8, .inr (.inr (.inr (.inr g_37))))), (q_11, .inr (9, [.ref q_14, .ref q_15, .int 0])), (q_14, .inl (cI, 96, .inl z0)), (q_15, .inl (cI, 12, .inl z0)), (q_16, .inr (9, [.ref q_19, .ref q_20, .int 0])), (q_19, .inl (cI, 64, .inl z0)), (q_20, .inl (cI, 8, .inl z0)), (q_21, .inl (cI, 8, .inl z0))] := hD.sub [0, 1, 2, 3, 4, 5, 6, 7, 8, 9, 10, 11, 12, 13, 14, 15, 16, 17] (by decide) rfl
  refine lv_iinc (v := 2) (lv' := [(1, .int 2), (0, .ref a0)]) hx hb dX7_init_140 hl (k := 0) rfl (by decide) (by decide) rfl (fun ls hl => ?_)
  refine lv_goto (tgt := 121) hx hb dX7_init_143 (by decide) ?_
  refine lv_iload_n hx hb dX7_init_121 rfl (lv_at hl 0 rfl) ?_
  refine lv_bipush (v := 8) hx hb dX7_init_122 (by decide) ?_
  refine lv_icmp_ge (tgt := 146) hx hb dX7_init_124 (by decide) (fun c9 => absurd c9 (by decide)) (fun _ => ?_)
  refine lv_aload_n hx hb dX7_init_127 rfl (lv_at hl 1 rfl) ?_
  refine va_get (D := (dC, dI)) (ci := 7) (v := .ref q_10) (C := RX7) (T := TX7) (N := 16) hx hb hU inlX7 hown hK hP 0 rfl rfl 11 (by decide) (hU _ wd_82) (fun _ h9 => h9) rfl dX7_init_128 ?_
  refine lv_iload_n hx hb dX7_init_131 rfl (lv_at hl 0 rfl) ?_
  refine va_new (ci := 4) (fs := [.int 0, .int 0, .int 0, .int 0, .null, .null, .null, .null, .int 0, .int 0, .int 0]) (C := RX4) (T := TX4) (N := 11) hx hb hU inlX4 tyX4 tyX4_ok hown (hU _ wd_81) (hU _ wd_89) (hU _ wd_90) hK hP hD hS hA rfl dvX4 (Nat.le_of_ble_eq_true rfl) (Nat.le_of_ble_eq_true rfl) dX7_init_132 (fun q_38 H hP hD hS => ?_)
  have hP : va_P (dC, dI) vwCl [(a0, .inr (7, [.ref q_1, .int 0, .ref q_2, .ref q_3, .ref q_4, .ref q_5, .int 0, .ref q_6, .ref q_7, .ref q_8, .ref q_9, .ref q_10, .int 0, .ref q_11, .ref q_16, .ref q_21])), (q_1, .inl (cI, 26, .inl z0)), (q_2, .inl (cI, 6, .inl z0)), (q_3, .inl (cI, 81, .inl z0)), (q_4, .inl (cI, 20, .inl z0)), (q_5, .inl (cI, 20, .inl z0)), (q_6, .inl (cI, 9, .inl z0)), (q_7, .inl (cI, 9, .inl z0)), (q_8, .inl (cI, 36, .inl z0)), (q_9, .inl (cI, 36, .inl z0)), (q_10, .inl (cR, 8, .inr (.inr (.inr (.inr g_37))))), (q_11, .inr (9, [.ref q_14, .ref q_15, .int 0])), (q_14, .inl (cI, 96, .inl z0)), (q_15, .inl (cI, 12, .inl z0)), (q_16, .inr (9, [.ref q_19, .ref q_20, .int 0])), (q_19, .inl (cI, 64, .inl z0)), (q_20, .inl (cI, 8, .inl z0)), (q_21, .inl (cI, 8, .inl z0)), (q_38, .inr (4, [.int 0, .int 0, .int 0, .int 0, .null, .null, .null, .null, .int 0, .int 0, .int 0]))] H := hP
  have hD : va_D A [(a0, .inr (7, [.ref q_1, .int 0, .ref q_2, .ref q_3, .ref q_4, .ref q_5, .int 0, .ref q_6, .ref q_7, .ref q_8, .ref q_9, .ref q_10, .int 0, .ref q_11, .ref q_16, .ref q_21])), (q_1, .inl (cI, 26, .inl z0)), (q_2, .inl (cI, 6, .inl z0)), (q_3, .inl (cI, 81, .inl z0)), (q_4, .inl (cI, 20, .inl z0)), (q_5, .inl (cI, 20, .inl z0)), (q_6, .inl (cI, 9, .inl z0)), (q_7, .inl (cI, 9, .inl z0)), (q_8, .inl (cI, 36, .inl z0)), (q_9, .inl (cI, 36, .inl z0)), (q_10, .inl (cR, 8, .inr (.inr (.inr (.inr g_37))))), (q_11, .inr (9, [.ref q_14, .ref q_15, .int 0])), (q_14, .inl (cI, 96, .inl z0)), (q_15, .inl (cI, 12, .inl z0)), (q_16, .inr (9, [.ref q_19, .ref q_20, .int 0])), (q_19, .inl (cI, 64, .inl z0)), (q_20, .inl (cI, 8, .inl z0)), (q_21, .inl (cI, 8, .inl z0)), (q_38, .inr (4, [.int 0, .int 0, .int 0, .int 0, .null, .null, .null, .null, .int 0, .int 0, .int 0]))] := hD
  refine W.widen (k := 40) (n := 782) (Nat.le_of_ble_eq_true rfl) (Nat.le_of_ble_eq_true rfl) ?_
  refine lv_dup hx hb dX7_init_135 rfl ?_
  refine tk_rv (wr := [(a0, .inr (7, [.ref q_1, .int 0, .ref q_2, .ref q_3, .ref q_4, .ref q_5, .int 0, .ref q_6, .ref q_7, .ref q_8, .ref q_9, .ref q_10, .int 0, .ref q_11, .ref q_16, .ref q_21])), (q_1, .inl (cI, 26, .inl z0)), (q_2, .inl (cI, 6, .inl z0)), (q_3, .inl (cI, 81, .inl z0)), (q_4, .inl (cI, 20, .inl z0)), (q_5, .inl (cI, 20, .inl z0)), (q_6, .inl (cI, 9, .inl z0)), (q_7, .inl (cI, 9, .inl z0)), (q_8, .inl (cI, 36, .inl z0)), (q_9, .inl (cI, 36, .inl z0)), (q_10, .inl (cR, 8, .inr (.inr (.inr (.inr g_37))))), (q_11, .inr (9, [.ref q_14, .ref q_15, .int 0])), (q_14, .inl (cI, 96, .inl z0)), (q_15, .inl (cI, 12, .inl z0)), (q_16, .inr (9, [.ref q_19, .ref q_20, .int 0])), (q_19, .inl (cI, 64, .inl z0)), (q_20, .inl (cI, 8, .inl z0)), (q_21, .inl (cI, 8, .inl z0))]) (tk_IN (As := []) (rest := [.ref q_38, .int 2, .ref q_10]) (n := 0) hx hb hml hown hU hN (cc_X4_init_0 l (dC, dI) cI cL cZ H.size q_38) hN.2.1 wd_97 wd_90 wd_98 rfl (by decide +kernel) ⟨Nat.le_of_ble_eq_true rfl, Nat.le_of_ble_eq_true rfl⟩ hK hP hD [18] (by decide) rfl rfl hl.1 rfl (Nat.le_of_ble_eq_true rfl) dX7_init_136 ⟨Nat.le_of_ble_eq_true rfl, Nat.le_of_ble_eq_true rfl⟩) hP hD hS hA [18] [0, 1, 2, 3, 4, 5, 6, 7, 8, 9, 10, 11, 12, 13, 14, 15, 16, 17] rfl rfl (by decide) (by decide) (fun w_40 H locs hw hP hD hS => ?_)
  obtain ⟨q_41, q_42, q_43, q_44, rfl⟩ := hw
  have hP : va_P (dC, dI) vwCl [(a0, .inr (7, [.ref q_1, .int 0, .ref q_2, .ref q_3, .ref q_4, .ref q_5, .int 0, .ref q_6, .ref q_7, .ref q_8, .ref q_9, .ref q_10, .int 0, .ref q_11, .ref q_16, .ref q_21])), (q_1, .inl (cI, 26, .inl z0)), (q_2, .inl (cI, 6, .inl z0)), (q_3, .inl (cI, 81, .inl z0)), (q_4, .inl (cI, 20, .inl z0)), (q_5, .inl (cI, 20, .inl z0)), (q_6, .inl (cI, 9, .inl z0)), (q_7, .inl (cI, 9, .inl z0)), (q_8, .inl (cI, 36, .inl z0)), (q_9, .inl (cI, 36, .inl z0)), (q_10, .inl (cR, 8, .inr (.inr (.inr (.inr g_37))))), (q_11, .inr (9, [.ref q_14, .ref q_15, .int 0])), (q_14, .inl (cI, 96, .inl z0)), (q_15, .inl (cI, 12, .inl z0)), (q_16, .inr (9, [.ref q_19, .ref q_20, .int 0])), (q_19, .inl (cI, 64, .inl z0)), (q_20, .inl (cI, 8, .inl z0)), (q_21, .inl (cI, 8, .inl z0)), (q_38, .inr (4, [.int 0, .int 0, .int 0, .int 0, .ref q_41, .ref q_42, .ref q_43, .ref q_44, .int 0, .int 0, .int 0]))] H := hP
  have hD : va_D A [(a0, .inr (7, [.ref q_1, .int 0, .ref q_2, .ref q_3, .ref q_4, .ref q_5, .int 0, .ref q_6, .ref q_7, .ref q_8, .ref q_9, .ref q_10, .int 0, .ref q_11, .ref q_16, .ref q_21])), (q_1, .inl (cI, 26, .inl z0)), (q_2, .inl (cI, 6, .inl z0)), (q_3, .inl (cI, 81, .inl z0)), (q_4, .inl (cI, 20, .inl z0)), (q_5, .inl (cI, 20, .inl z0)), (q_6, .inl (cI, 9, .inl z0)), (q_7, .inl (cI, 9, .inl z0)), (q_8, .inl (cI, 36, .inl z0)), (q_9, .inl (cI, 36, .inl z0)), (q_10, .inl (cR, 8, .inr (.inr (.inr (.inr g_37))))), (q_11, .inr (9, [.ref q_14, .ref q_15, .int 0])), (q_14, .inl (cI, 96, .inl z0)), (q_15, .inl (cI, 12, .inl z0)), (q_16, .inr (9, [.ref q_19, .ref q_20, .int 0])), (q_19, .inl (cI, 64, .inl z0)), (q_20, .inl (cI, 8, .inl z0)), (q_21, .inl (cI, 8, .inl z0)), (q_38, .inr (4, [.int 0, .int 0, .int 0, .int 0, .ref q_41, .ref q_42, .ref q_43, .ref q_44, .int 0, .int 0, .int 0]))] := hD
  refine W.widen (k := 50) (n := 934) (Nat.le_of_ble_eq_true rfl) (Nat.le_of_ble_eq_true rfl) ?_
  refine va_astq (r := (RX4, TX4, 11)) hx hb hKR hP hD hS 10 3 18 4 rfl rfl rfl rfl (vp_in_nI (n := 2) (by decide) (by decide)) dX7_init_139 (fun H locs hP hD hS => ?_)
  obtain ⟨g_45, eg_45⟩ : ∃ y : Nat → Option Nat, va_up g_37 (Int32.toNatClampNeg 2) (some q_38) = y := ⟨_, rfl⟩
  have hP : va_P (dC, dI) vwCl [(a0, .inr (7, [.ref q_1, .int 0, .ref q_2, .ref q_3, .ref q_4, .ref q_5, .int 0, .ref q_6, .ref q_7, .ref q_8, .ref q_9, .ref q_10, .int 0, .ref q_11, .ref q_16, .ref q_21])), (q_1, .inl (cI, 26, .inl z0)), (q_2, .inl (cI, 6, .inl z0)), (q_3, .inl (cI, 81, .inl z0)), (q_4, .inl (cI, 20, .inl z0)), (q_5, .inl (cI, 20, .inl z0)), (q_6, .inl (cI, 9, .inl z0)), (q_7, .inl (cI, 9, .inl z0)), (q_8, .inl (cI, 36, .inl z0)), (q_9, .inl (cI, 36, .inl z0)), (q_10, .inl (cR, 8, .inr (.inr (.inr (.inr g_45))))), (q_11, .inr (9, [.ref q_14, .ref q_15, .int 0])), (q_14, .inl (cI, 96, .inl z0)), (q_15, .inl (cI, 12, .inl z0)), (q_16, .inr (9, [.ref q_19, .ref q_20, .int 0])), (q_19, .inl (cI, 64, .inl z0)), (q_20, .inl (cI, 8, .inl z0)), (q_21, .inl (cI, 8, .inl z0)), (q_38, .inr (4, [.int 0, .int 0, .int 0, .int 0, .ref q_41, .ref q_42, .ref q_43, .ref q_44, .int 0, .int 0, .int 0]))] H := by rw [← eg_45]; exact hP
  have hD : va_D A [(a0, .inr (7, [.ref q_1, .int 0, .ref q_2, .ref q_3, .ref q_4, .ref q_5, .int 0, .ref q_6, .ref q_7, .ref q_8, .ref q_9, .ref q_10, .int 0, .ref q_11, .ref q_16, .ref q_21])), (q_1, .inl (cI, 26, .inl z0)), (q_2, .inl (cI, 6, .inl z0)), (q_3, .inl (cI, 81, .inl z0)), (q_4, .inl (cI, 20, .inl z0)), (q_5, .inl (cI, 20, .inl z0)), (q_6, .inl (cI, 9, .inl z0)), (q_7, .inl (cI, 9, .inl z0)), (q_8, .inl (cI, 36, .inl z0)), (q_9, .inl (cI, 36, .inl z0)), (q_10, .inl (cR, 8, .inr (.inr (.inr (.inr g_45))))), (q_11, .inr (9, [.ref q_14, .ref q_15, .int 0])), (q_14, .inl (cI, 96, .inl z0)), (q_15, .inl (cI, 12, .inl z0)), (q_16, .inr (9, [.ref q_19, .ref q_20, .int 0])), (q_19, .inl (cI, 64, .inl z0)), (q_20, .inl (cI, 8, .inl z0)), (q_21, .inl (cI, 8, .inl z0)), (q_38, .inr (4, [.int 0, .int 0, .int 0, .int 0, .ref q_41, .ref q_42, .ref q_43, .ref q_44, .int 0, .int 0, .int 0]))] := by rw [← eg_45]; exact hD
  have hP : va_P (dC, dI) vwCl [(a0, .inr (7, [.ref q_1, .int 0, .ref q_2, .ref q_3, .ref q_4, .ref q_5, .int 0, .ref q_6, .ref q_7, .ref q_8, .ref q_9, .ref q_10, .int 0, .ref q_11, .ref q_16, .ref q_21])), (q_1, .inl (cI, 26, .inl z0)), (q_2, .inl (cI, 6, .inl z0)), (q_3, .inl (cI, 81, .inl z0)), (q_4, .inl (cI, 20, .inl z0)), (q_5, .inl (cI, 20, .inl z0)), (q_6, .inl (cI, 9, .inl z0)), (q_7, .inl (cI, 9, .inl z0)), (q_8, .inl (cI, 36, .inl z0)), (q_9, .inl (cI, 36, .inl z0)), (q_10, .inl (cR, 8, .inr (.inr (.inr (.inr g_45))))), (q_11, .inr (9, [.ref q_14, .ref q_15, .int 0])), (q_14, .inl (cI, 96, .inl z0)), (q_15, .inl (cI, 12, .inl z0)), (q_16, .inr (9, [.ref q_19, .ref q_20, .int 0])), (q_19, .inl (cI, 64, .inl z0)), (q_20, .inl (cI, 8, .inl z0)), (q_21, .inl (cI, 8, .inl z0))] H := hP.sub [0, 1, 2, 3, 4, 5, 6, 7, 8, 9, 10, 11, 12, 13, 14, 15, 16, 17] rfl
  have hD : va_D A [(a0, .inr (7, [.ref q_1, .int 0, .ref q_2, .ref q_3, .ref q_4, .ref q_5, .int 0, .ref q_6, .ref q_7, .ref q_8, .ref q_9, .ref q_10, .int 0, .ref q_11, .ref q_16, .ref q_21])), (q_1, .inl (cI, 26, .inl z0)), (q_2, .inl (cI, 6, .inl z0)), (q_3, .inl (cI, 81, .inl z0)), (q_4, .inl (cI, 20, .inl z0)), (q_5, .inl (cI, 20, .inl z0)), (q_6, .inl (cI, 9, .inl z0)), (q_7, .inl (cI, 9, .inl z0)), (q_8, .inl (cI, 36, .inl z0)), (q_9, .inl (cI, 36, .inl z0)), (q_10, .inl (cR, 8, .inr (.inr (.inr (.inr g_45))))), (q_11, .inr (9, [.ref q_14, .ref q_15, .int 0])), (q_14, .inl (cI, 96, .inl z0)), (q_15, .inl (cI, 12, .inl z0)), (q_16, .inr (9, [.ref q_19, .ref q_20, .int 0])), (q_19, .inl (cI, 64, .inl z0)), (q_20, .inl (cI, 8, .inl z0)), (q_21, .inl (cI, 8, .inl z0))] := hD.sub [0, 1, 2, 3, 4, 5, 6, 7, 8, 9, 10, 11, 12, 13, 14, 15, 16, 17] (by decide) rfl
  refine lv_iinc (v := 3) (lv' := [(1, .int 3), (0, .ref a0)]) hx hb dX7_init_140 hl (k := 0) rfl (by decide) (by decide) rfl (fun ls hl => ?_)
  refine lv_goto (tgt := 121) hx hb dX7_init_143 (by decide) ?_
  refine lv_iload_n hx hb dX7_init_121 rfl (lv_at hl 0 rfl) ?_
  refine lv_bipush (v := 8) hx hb dX7_init_122 (by decide) ?_
  refine lv_icmp_ge (tgt := 146) hx hb dX7_init_124 (by decide) (fun c9 => absurd c9 (by decide)) (fun _ => ?_)
  refine lv_aload_n hx hb dX7_init_127 rfl (lv_at hl 1 rfl) ?_
  refine va_get (D := (dC, dI)) (ci := 7) (v := .ref q_10) (C := RX7) (T := TX7) (N := 16) hx hb hU inlX7 hown hK hP 0 rfl rfl 11 (by decide) (hU _ wd_82) (fun _ h9 => h9) rfl dX7_init_128 ?_
  refine lv_iload_n hx hb dX7_init_131 rfl (lv_at hl 0 rfl) ?_
  refine va_new (ci := 4) (fs := [.int 0, .int 0, .int 0, .int 0, .null, .null, .null, .null, .int 0, .int 0, .int 0]) (C := RX4) (T := TX4) (N := 11) hx hb hU inlX4 tyX4 tyX4_ok hown (hU _ wd_81) (hU _ wd_89) (hU _ wd_90) hK hP hD hS hA rfl dvX4 (Nat.le_of_ble_eq_true rfl) (Nat.le_of_ble_eq_true rfl) dX7_init_132 (fun q_46 H hP hD hS => ?_)
  have hP : va_P (dC, dI) vwCl [(a0, .inr (7, [.ref q_1, .int 0, .ref q_2, .ref q_3, .ref q_4, .ref q_5, .int 0, .ref q_6, .ref q_7, .ref q_8, .ref q_9, .ref q_10, .int 0, .ref q_11, .ref q_16, .ref q_21])), (q_1, .inl (cI, 26, .inl z0)), (q_2, .inl (cI, 6, .inl z0)), (q_3, .inl (cI, 81, .inl z0)), (q_4, .inl (cI, 20, .inl z0)), (q_5, .inl (cI, 20, .inl z0)), (q_6, .inl (cI, 9, .inl z0)), (q_7, .inl (cI, 9, .inl z0)), (q_8, .inl (cI, 36, .inl z0)), (q_9, .inl (cI, 36, .inl z0)), (q_10, .inl (cR, 8, .inr (.inr (.inr (.inr g_45))))), (q_11, .inr (9, [.ref q_14, .ref q_15, .int 0])), (q_14, .inl (cI, 96, .inl z0)), (q_15, .inl (cI, 12, .inl z0)), (q_16, .inr (9, [.ref q_19, .ref q_20, .int 0])), (q_19, .inl (cI, 64, .inl z0)), (q_20, .inl (cI, 8, .inl z0)), (q_21, .inl (cI, 8, .inl z0)), (q_46, .inr (4, [.int 0, .int 0, .int 0, .int 0, .null, .null, .null, .null, .int 0, .int 0, .int 0]))] H := hP
  have hD : va_D A [(a0, .inr (7, [.ref q_1, .int 0, .ref q_2, .ref q_3, .ref q_4, .ref q_5, .int 0, .ref q_6, .ref q_7, .ref q_8, .ref q_9, .ref q_10, .int 0, .ref q_11, .ref q_16, .ref q_21])), (q_1, .inl (cI, 26, .inl z0)), (q_2, .inl (cI, 6, .inl z0)), (q_3, .inl (cI, 81, .inl z0)), (q_4, .inl (cI, 20, .inl z0)), (q_5, .inl (cI, 20, .inl z0)), (q_6, .inl (cI, 9, .inl z0)), (q_7, .inl (cI, 9, .inl z0)), (q_8, .inl (cI, 36, .inl z0)), (q_9, .inl (cI, 36, .inl z0)), (q_10, .inl (cR, 8, .inr (.inr (.inr (.inr g_45))))), (q_11, .inr (9, [.ref q_14, .ref q_15, .int 0])), (q_14, .inl (cI, 96, .inl z0)), (q_15, .inl (cI, 12, .inl z0)), (q_16, .inr (9, [.ref q_19, .ref q_20, .int 0])), (q_19, .inl (cI, 64, .inl z0)), (q_20, .inl (cI, 8, .inl z0)), (q_21, .inl (cI, 8, .inl z0)), (q_46, .inr (4, [.int 0, .int 0, .int 0, .int 0, .null, .null, .null, .null, .int 0, .int 0, .int 0]))] := hD
  refine W.widen (k := 51) (n := 945) (Nat.le_of_ble_eq_true rfl) (Nat.le_of_ble_eq_true rfl) ?_
  refine lv_dup hx hb dX7_init_135 rfl ?_
  refine tk_rv (wr := [(a0, .inr (7, [.ref q_1, .int 0, .ref q_2, .ref q_3, .ref q_4, .ref q_5, .int 0, .ref q_6, .ref q_7, .ref q_8, .ref q_9, .ref q_10, .int 0, .ref q_11, .ref q_16, .ref q_21])), (q_1, .inl (cI, 26, .inl z0)), (q_2, .inl (cI, 6, .inl z0)), (q_3, .inl (cI, 81, .inl z0)), (q_4, .inl (cI, 20, .inl z0)), (q_5, .inl (cI, 20, .inl z0)), (q_6, .inl (cI, 9, .inl z0)), (q_7, .inl (cI, 9, .inl z0)), (q_8, .inl (cI, 36, .inl z0)), (q_9, .inl (cI, 36, .inl z0)), (q_10, .inl (cR, 8, .inr (.inr (.inr (.inr g_45))))), (q_11, .inr (9, [.ref q_14, .ref q_15, .int 0])), (q_14, .inl (cI, 96, .inl z0)), (q_15, .inl (cI, 12, .inl z0)), (q_16, .inr (9, [.ref q_19, .ref q_20, .int 0])), (q_19, .inl (cI, 64, .inl z0)), (q_20, .inl (cI, 8, .inl z0)), (q_21, .inl (cI, 8, .inl z0))]) (tk_IN (As := []) (rest := [.ref q_46, .int 3, .ref q_10]) (n := 0) hx hb hml hown hU hN (cc_X4_init_0 l (dC, dI) cI cL cZ H.size q_46) hN.2.1 wd_97 wd_90 wd_98 rfl (by decide +kernel) ⟨Nat.le_of_ble_eq_true rfl, Nat.le_of_ble_eq_true rfl⟩ hK hP hD [18] (by decide) rfl rfl hl.1 rfl (Nat.le_of_ble_eq_true rfl) dX7_init_136 ⟨Nat.le_of_ble_eq_true rfl, Nat.le_of_ble_eq_true rfl⟩) hP hD hS hA [18] [0, 1, 2, 3, 4, 5, 6, 7, 8, 9, 10, 11, 12, 13, 14, 15, 16, 17] rfl rfl (by decide) (by decide) (fun w_48 H locs hw hP hD hS => ?_)
  obtain ⟨q_49, q_50, q_51, q_52, rfl⟩ := hw
  have hP : va_P (dC, dI) vwCl [(a0, .inr (7, [.ref q_1, .int 0, .ref q_2, .ref q_3, .ref q_4, .ref q_5, .int 0, .ref q_6, .ref q_7, .ref q_8, .ref q_9, .ref q_10, .int 0, .ref q_11, .ref q_16, .ref q_21])), (q_1, .inl (cI, 26, .inl z0)), (q_2, .inl (cI, 6, .inl z0)), (q_3, .inl (cI, 81, .inl z0)), (q_4, .inl (cI, 20, .inl z0)), (q_5, .inl (cI, 20, .inl z0)), (q_6, .inl (cI, 9, .inl z0)), (q_7, .inl (cI, 9, .inl z0)), (q_8, .inl (cI, 36, .inl z0)), (q_9, .inl (cI, 36, .inl z0)), (q_10, .inl (cR, 8, .inr (.inr (.inr (.inr g_45))))), (q_11, .inr (9, [.ref q_14, .ref q_15, .int 0])), (q_14, .inl (cI, 96, .inl z0)), (q_15, .inl (cI, 12, .inl z0)), (q_16, .inr (9, [.ref q_19, .ref q_20, .int 0])), (q_19, .inl (cI, 64, .inl z0)), (q_20, .inl (cI, 8, .inl z0)), (q_21, .inl (cI, 8, .inl z0)), (q_46, .inr (4, [.int 0, .int 0, .int 0, .int 0, .ref q_49, .ref q_50, .ref q_51, .ref q_52, .int 0, .int 0, .int 0]))] H := hP
  have hD : va_D A [(a0, .inr (7, [.ref q_1, .int 0, .ref q_2, .ref q_3, .ref q_4, .ref q_5, .int 0, .ref q_6, .ref q_7, .ref q_8, .ref q_9, .ref q_10, .int 0, .ref q_11, .ref q_16, .ref q_21])), (q_1, .inl (cI, 26, .inl z0)), (q_2, .inl (cI, 6, .inl z0)), (q_3, .inl (cI, 81, .inl z0)), (q_4, .inl (cI, 20, .inl z0)), (q_5, .inl (cI, 20, .inl z0)), (q_6, .inl (cI, 9, .inl z0)), (q_7, .inl (cI, 9, .inl z0)), (q_8, .inl (cI, 36, .inl z0)), (q_9, .inl (cI, 36, .inl z0)), (q_10, .inl (cR, 8, .inr (.inr (.inr (.inr g_45))))), (q_11, .inr (9, [.ref q_14, .ref q_15, .int 0])), (q_14, .inl (cI, 96, .inl z0)), (q_15, .inl (cI, 12, .inl z0)), (q_16, .inr (9, [.ref q_19, .ref q_20, .int 0])), (q_19, .inl (cI, 64, .inl z0)), (q_20, .inl (cI, 8, .inl z0)), (q_21, .inl (cI, 8, .inl z0)), (q_46, .inr (4, [.int 0, .int 0, .int 0, .int 0, .ref q_49, .ref q_50, .ref q_51, .ref q_52, .int 0, .int 0, .int 0]))] := hD
  refine W.widen (k := 61) (n := 1097) (Nat.le_of_ble_eq_true rfl) (Nat.le_of_ble_eq_true rfl) ?_
  refine va_astq (r := (RX4, TX4, 11)) hx hb hKR hP hD hS 10 3 18 4 rfl rfl rfl rfl (vp_in_nI (n := 3) (by decide) (by decide)) dX7_init_139 (fun H locs hP hD hS => ?_)
  obtain ⟨g_53, eg_53⟩ : ∃ y : Nat → Option Nat, va_up g_45 (Int32.toNatClampNeg 3) (some q_46) = y := ⟨_, rfl⟩
  have hP : va_P (dC, dI) vwCl [(a0, .inr (7, [.ref q_1, .int 0, .ref q_2, .ref q_3, .ref q_4, .ref q_5, .int 0, .ref q_6, .ref q_7, .ref q_8, .ref q_9, .ref q_10, .int 0, .ref q_11, .ref q_16, .ref q_21])), (q_1, .inl (cI, 26, .inl z0)), (q_2, .inl (cI, 6, .inl z0)), (q_3, .inl (cI, 81, .inl z0)), (q_4, .inl (cI, 20, .inl z0)), (q_5, .inl (cI, 20, .inl z0)), (q_6, .inl (cI, 9, .inl z0)), (q_7, .inl (cI, 9, .inl z0)), (q_8, .inl (cI, 36, .inl z0)), (q_9, .inl (cI, 36, .inl z0)), (q_10, .inl (cR, 8, .inr (.inr (.inr (.inr g_53))))), (q_11, .inr (9, [.ref q_14, .ref q_15, .int 0])), (q_14, .inl (cI, 96, .inl z0)), (q_15, .inl (cI, 12, .inl z0)), (q_16, .inr (9, [.ref q_19, .ref q_20, .int 0])), (q_19, .inl (cI, 64, .inl z0)), (q_20, .inl (cI, 8, .inl z0)), (q_21, .inl (cI, 8, .inl z0)), (q_46, .inr (4, [.int 0, .int 0, .int 0, .int 0, .ref q_49, .ref q_50, .ref q_51, .ref q_52, .int 0, .int 0, .int 0]))] H := by rw [← eg_53]; exact hP
  have hD : va_D A [(a0, .inr (7, [.ref q_1, .int 0, .ref q_2, .ref q_3, .ref q_4, .ref q_5, .int 0, .ref q_6, .ref q_7, .ref q_8, .ref q_9, .ref q_10, .int 0, .ref q_11, .ref q_16, .ref q_21])), (q_1, .inl (cI, 26, .inl z0)), (q_2, .inl (cI, 6, .inl z0)), (q_3, .inl (cI, 81, .inl z0)), (q_4, .inl (cI, 20, .inl z0)), (q_5, .inl (cI, 20, .inl z0)), (q_6, .inl (cI, 9, .inl z0)), (q_7, .inl (cI, 9, .inl z0)), (q_8, .inl (cI, 36, .inl z0)), (q_9, .inl (cI, 36, .inl z0)), (q_10, .inl (cR, 8, .inr (.inr (.inr (.inr g_53))))), (q_11, .inr (9, [.ref q_14, .ref q_15, .int 0])), (q_14, .inl (cI, 96, .inl z0)), (q_15, .inl (cI, 12, .inl z0)), (q_16, .inr (9, [.ref q_19, .ref q_20, .int 0])), (q_19, .inl (cI, 64, .inl z0)), (q_20, .inl (cI, 8, .inl z0)), (q_21, .inl (cI, 8, .inl z0)), (q_46, .inr (4, [.int 0, .int 0, .int 0, .int 0, .ref q_49, .ref q_50, .ref q_51, .ref q_52, .int 0, .int 0, .int 0]))] := by rw [← eg_53]; exact hD
  have hP : va_P (dC, dI) vwCl [(a0, .inr (7, [.ref q_1, .int 0, .ref q_2, .ref q_3, .ref q_4, .ref q_5, .int 0, .ref q_6, .ref q_7, .ref q_8, .ref q_9, .ref q_10, .int 0, .ref q_11, .ref q_16, .ref q_21])), (q_1, .inl (cI, 26, .inl z0)), (q_2, .inl (cI, 6, .inl z0)), (q_3, .inl (cI, 81, .inl z0)), (q_4, .inl (cI, 20, .inl z0)), (q_5, .inl (cI, 20, .inl z0)), (q_6, .inl (cI, 9, .inl z0)), (q_7, .inl (cI, 9, .inl z0)), (q_8, .inl (cI, 36, .inl z0)), (q_9, .inl (cI, 36, .inl z0)), (q_10, .inl (cR, 8, .inr (.inr (.inr (.inr g_53))))), (q_11, .inr (9, [.ref q_14, .ref q_15, .int 0])), (q_14, .inl (cI, 96, .inl z0)), (q_15, .inl (cI, 12, .inl z0)), (q_16, .inr (9, [.ref q_19, .ref q_20, .int 0])), (q_19, .inl (cI, 64, .inl z0)), (q_20, .inl (cI, 8, .inl z0)), (q_21, .inl (cI, 8, .inl z0))] H := hP.sub [0, 1, 2, 3, 4, 5, 6, 7, 8, 9, 10, 11, 12, 13, 14, 15, 16, 17] rfl
  have hD : va_D A [(a0, .inr (7, [.ref q_1, .int 0, .ref q_2, .ref q_3, .ref q_4, .ref q_5, .int 0, .ref q_6, .ref q_7, .ref q_8, .ref q_9, .ref q_10, .int 0, .ref q_11, .ref q_16, .ref q_21])), (q_1, .inl (cI, 26, .inl z0)), (q_2, .inl (cI, 6, .inl z0)), (q_3, .inl (cI, 81, .inl z0)), (q_4, .inl (cI, 20, .inl z0)), (q_5, .inl (cI, 20, .inl z0)), (q_6, .inl (cI, 9, .inl z0)), (q_7, .inl (cI, 9, .inl z0)), (q_8, .inl (cI, 36, .inl z0)), (q_9, .inl (cI, 36, .inl z0)), (q_10, .inl (cR, 8, .inr (.inr (.inr (.inr g_53))))), (q_11, .inr (9, [.ref q_14, .ref q_15, .int 0])), (q_14, .inl (cI, 96, .inl z0)), (q_15, .inl (cI, 12, .inl z0)), (q_16, .inr (9, [.ref q_19, .ref q_20, .int 0])), (q_19, .inl (cI, 64, .inl z0)), (q_20, .inl (cI, 8, .inl z0)), (q_21, .inl (cI, 8, .inl z0))] := hD.sub [0, 1, 2, 3, 4, 5, 6, 7, 8, 9, 10, 11, 12, 13, 14, 15, 16, 17] (by decide) rfl
  refine lv_iinc (v := 4) (lv' := [(1, .int 4), (0, .ref a0)]) hx hb dX7_init_140 hl (k := 0) rfl (by decide) (by decide) rfl (fun ls hl => ?_)
  refine lv_goto (tgt := 121) hx hb dX7_init_143 (by decide) ?_
  refine lv_iload_n hx hb dX7_init_121 rfl (lv_at hl 0 rfl) ?_
  refine lv_bipush (v := 8) hx hb dX7_init_122 (by decide) ?_
  refine lv_icmp_ge (tgt := 146) hx hb dX7_init_124 (by decide) (fun c9 => absurd c9 (by decide)) (fun _ => ?_)
  refine lv_aload_n hx hb dX7_init_127 rfl (lv_at hl 1 rfl) ?_
  refine va_get (D := (dC, dI)) (ci := 7) (v := .ref q_10) (C := RX7) (T := TX7) (N := 16) hx hb hU inlX7 hown hK hP 0 rfl rfl 11 (by decide) (hU _ wd_82) (fun _ h9 => h9) rfl dX7_init_128 ?_
  refine lv_iload_n hx hb dX7_init_131 rfl (lv_at hl 0 rfl) ?_
  refine va_new (ci := 4) (fs := [.int 0, .int 0, .int 0, .int 0, .null, .null, .null, .null, .int 0, .int 0, .int 0]) (C := RX4) (T := TX4) (N := 11) hx hb hU inlX4 tyX4 tyX4_ok hown (hU _ wd_81) (hU _ wd_89) (hU _ wd_90) hK hP hD hS hA rfl dvX4 (Nat.le_of_ble_eq_true rfl) (Nat.le_of_ble_eq_true rfl) dX7_init_132 (fun q_54 H hP hD hS => ?_)
  have hP : va_P (dC, dI) vwCl [(a0, .inr (7, [.ref q_1, .int 0, .ref q_2, .ref q_3, .ref q_4, .ref q_5, .int 0, .ref q_6, .ref q_7, .ref q_8, .ref q_9, .ref q_10, .int 0, .ref q_11, .ref q_16, .ref q_21])), (q_1, .inl (cI, 26, .inl z0)), (q_2, .inl (cI, 6, .inl z0)), (q_3, .inl (cI, 81, .inl z0)), (q_4, .inl (cI, 20, .inl z0)), (q_5, .inl (cI, 20, .inl z0)), (q_6, .inl (cI, 9, .inl z0)), (q_7, .inl (cI, 9, .inl z0)), (q_8, .inl (cI, 36, .inl z0)), (q_9, .inl (cI, 36, .inl z0)), (q_10, .inl (cR, 8, .inr (.inr (.inr (.inr g_53))))), (q_11, .inr (9, [.ref q_14, .ref q_15, .int 0])), (q_14, .inl (cI, 96, .inl z0)), (q_15, .inl (cI, 12, .inl z0)), (q_16, .inr (9, [.ref q_19, .ref q_20, .int 0])), (q_19, .inl (cI, 64, .inl z0)), (q_20, .inl (cI, 8, .inl z0)), (q_21, .inl (cI, 8, .inl z0)), (q_54, .inr (4, [.int 0, .int 0, .int 0, .int 0, .null, .null, .null, .null, .int 0, .int 0, .int 0]))] H := hP
  have hD : va_D A [(a0, .inr (7, [.ref q_1, .int 0, .ref q_2, .ref q_3, .ref q_4, .ref q_5, .int 0, .ref q_6, .ref q_7, .ref q_8, .ref q_9, .ref q_10, .int 0, .ref q_11, .ref q_16, .ref q_21])), (q_1, .inl (cI, 26, .inl z0)), (q_2, .inl (cI, 6, .inl z0)), (q_3, .inl (cI, 81, .inl z0)), (q_4, .inl (cI, 20, .inl z0)), (q_5, .inl (cI, 20, .inl z0)), (q_6, .inl (cI, 9, .inl z0)), (q_7, .inl (cI, 9, .inl z0)), (q_8, .inl (cI, 36, .inl z0)), (q_9, .inl (cI, 36, .inl z0)), (q_10, .inl (cR, 8, .inr (.inr (.inr (.inr g_53))))), (q_11, .inr (9, [.ref q_14, .ref q_15, .int 0])), (q_14, .inl (cI, 96, .inl z0)), (q_15, .inl (cI, 12, .inl z0)), (q_16, .inr (9, [.ref q_19, .ref q_20, .int 0])), (q_19, .inl (cI, 64, .inl z0)), (q_20, .inl (cI, 8, .inl z0)), (q_21, .inl (cI, 8, .inl z0)), (q_54, .inr (4, [.int 0, .int 0, .int 0, .int 0, .null, .null, .null, .null, .int 0, .int 0, .int 0]))] := hD
  refine W.widen (k := 62) (n := 1108) (Nat.le_of_ble_eq_true rfl) (Nat.le_of_ble_eq_true rfl) ?_
  refine lv_dup hx hb dX7_init_135 rfl ?_
  refine tk_rv (wr := [(a0, .inr (7, [.ref q_1, .int 0, .ref q_2, .ref q_3, .ref q_4, .ref q_5, .int 0, .ref q_6, .ref q_7, .ref q_8, .ref q_9, .ref q_10, .int 0, .ref q_11, .ref q_16, .ref q_21])), (q_1, .inl (cI, 26, .inl z0)), (q_2, .inl (cI, 6, .inl z0)), (q_3, .inl (cI, 81, .inl z0)), (q_4, .inl (cI, 20, .inl z0)), (q_5, .inl (cI, 20, .inl z0)), (q_6, .inl (cI, 9, .inl z0)), (q_7, .inl (cI, 9, .inl z0)), (q_8, .inl (cI, 36, .inl z0)), (q_9, .inl (cI, 36, .inl z0)), (q_10, .inl (cR, 8, .inr (.inr (.inr (.inr g_53))))), (q_11, .inr (9, [.ref q_14, .ref q_15, .int 0])), (q_14, .inl (cI, 96, .inl z0)), (q_15, .inl (cI, 12, .inl z0)), (q_16, .inr (9, [.ref q_19, .ref q_20, .int 0])), (q_19, .inl (cI, 64, .inl z0)), (q_20, .inl (cI, 8, .inl z0)), (q_21, .inl (cI, 8, .inl z0))]) (tk_IN (As := []) (rest := [.ref q_54, .int 4, .ref q_10]) (n := 0) hx hb hml hown hU hN (cc_X4_init_0 l (dC, dI) cI cL cZ H.size q_54) hN.2.1 wd_97 wd_90 wd_98 rfl (by decide +kernel) ⟨Nat.le_of_ble_eq_true rfl, Nat.le_of_ble_eq_true rfl⟩ hK hP hD [18] (by decide) rfl rfl hl.1 rfl (Nat.le_of_ble_eq_true rfl) dX7_init_136 ⟨Nat.le_of_ble_eq_true rfl, Nat.le_of_ble_eq_true rfl⟩) hP hD hS hA [18] [0, 1, 2, 3, 4, 5, 6, 7, 8, 9, 10, 11, 12, 13, 14, 15, 16, 17] rfl rfl (by decide) (by decide) (fun w_56 H locs hw hP hD hS => ?_)
  obtain ⟨q_57, q_58, q_59, q_60, rfl⟩ := hw
  have hP : va_P (dC, dI) vwCl [(a0, .inr (7, [.ref q_1, .int 0, .ref q_2, .ref q_3, .ref q_4, .ref q_5, .int 0, .ref q_6, .ref q_7, .ref q_8, .ref q_9, .ref q_10, .int 0, .ref q_11, .ref q_16, .ref q_21])), (q_1, .inl (cI, 26, .inl z0)), (q_2, .inl (cI, 6, .inl z0)), (q_3, .inl (cI, 81, .inl z0)), (q_4, .inl (cI, 20, .inl z0)), (q_5, .inl (cI, 20, .inl z0)), (q_6, .inl (cI, 9, .inl z0)), (q_7, .inl (cI, 9, .inl z0)), (q_8, .inl (cI, 36, .inl z0)), (q_9, .inl (cI, 36, .inl z0)), (q_10, .inl (cR, 8, .inr (.inr (.inr (.inr g_53))))), (q_11, .inr (9, [.ref q_14, .ref q_15, .int 0])), (q_14, .inl (cI, 96, .inl z0)), (q_15, .inl (cI, 12, .inl z0)), (q_16, .inr (9, [.ref q_19, .ref q_20, .int 0])), (q_19, .inl (cI, 64, .inl z0)), (q_20, .inl (cI, 8, .inl z0)), (q_21, .inl (cI, 8, .inl z0)), (q_54, .inr (4, [.int 0, .int 0, .int 0, .int 0, .ref q_57, .ref q_58, .ref q_59, .ref q_60, .int 0, .int 0, .int 0]))] H := hP
  have hD : va_D A [(a0, .inr (7, [.ref q_1, .int 0, .ref q_2, .ref q_3, .ref q_4, .ref q_5, .int 0, .ref q_6, .ref q_7, .ref q_8, .ref q_9, .ref q_10, .int 0, .ref q_11, .ref q_16, .ref q_21])), (q_1, .inl (cI, 26, .inl z0)), (q_2, .inl (cI, 6, .inl z0)), (q_3, .inl (cI, 81, .inl z0)), (q_4, .inl (cI, 20, .inl z0)), (q_5, .inl (cI, 20, .inl z0)), (q_6, .inl (cI, 9, .inl z0)), (q_7, .inl (cI, 9, .inl z0)), (q_8, .inl (cI, 36, .inl z0)), (q_9, .inl (cI, 36, .inl z0)), (q_10, .inl (cR, 8, .inr (.inr (.inr (.inr g_53))))), (q_11, .inr (9, [.ref q_14, .ref q_15, .int 0])), (q_14, .inl (cI, 96, .inl z0)), (q_15, .inl (cI, 12, .inl z0)), (q_16, .inr (9, [.ref q_19, .ref q_20, .int 0])), (q_19, .inl (cI, 64, .inl z0)), (q_20, .inl (cI, 8, .inl z0)), (q_21, .inl (cI, 8, .inl z0)), (q_54, .inr (4, [.int 0, .int 0, .int 0, .int 0, .ref q_57, .ref q_58, .ref q_59, .ref q_60, .int 0, .int 0, .int 0]))] := hD
  refine W.widen (k := 72) (n := 1260) (Nat.le_of_ble_eq_true rfl) (Nat.le_of_ble_eq_true rfl) ?_
  refine va_astq (r := (RX4, TX4, 11)) hx hb hKR hP hD hS 10 3 18 4 rfl rfl rfl rfl (vp_in_nI (n := 4) (by decide) (by decide)) dX7_init_139 (fun H locs hP hD hS => ?_)
  obtain ⟨g_61, eg_61⟩ : ∃ y : Nat → Option Nat, va_up g_53 (Int32.toNatClampNeg 4) (some q_54) = y := ⟨_, rfl⟩
  have hP : va_P (dC, dI) vwCl [(a0, .inr (7, [.ref q_1, .int 0, .ref q_2, .ref q_3, .ref q_4, .ref q_5, .int 0, .ref q_6, .ref q_7, .ref q_8, .ref q_9, .ref q_10, .int 0, .ref q_11, .ref q_16, .ref q_21])), (q_1, .inl (cI, 26, .inl z0)), (q_2, .inl (cI, 6, .inl z0)), (q_3, .inl (cI, 81, .inl z0)), (q_4, .inl (cI, 20, .inl z0)), (q_5, .inl (cI, 20, .inl z0)), (q_6, .inl (cI, 9, .inl z0)), (q_7, .inl (cI, 9, .inl z0)), (q_8, .inl (cI, 36, .inl z0)), (q_9, .inl (cI, 36, .inl z0)), (q_10, .inl (cR, 8, .inr (.inr (.inr (.inr g_61))))), (q_11, .inr (9, [.ref q_14, .ref q_15, .int 0])), (q_14, .inl (cI, 96, .inl z0)), (q_15, .inl (cI, 12, .inl z0)), (q_16, .inr (9, [.ref q_19, .ref q_20, .int 0])), (q_19, .inl (cI, 64, .inl z0)), (q_20, .inl (cI, 8, .inl z0)), (q_21, .inl (cI, 8, .inl z0)), (q_54, .inr (4, [.int 0, .int 0, .int 0, .int 0, .ref q_57, .ref q_58, .ref q_59, .ref q_60, .int 0, .int 0, .int 0]))] H := by rw [← eg_61]; exact hP
  have hD : va_D A [(a0, .inr (7, [.ref q_1, .int 0, .ref q_2, .ref q_3, .ref q_4, .ref q_5, .int 0, .ref q_6, .ref q_7, .ref q_8, .ref q_9, .ref q_10, .int 0, .ref q_11, .ref q_16, .ref q_21])), (q_1, .inl (cI, 26, .inl z0)), (q_2, .inl (cI, 6, .inl z0)), (q_3, .inl (cI, 81, .inl z0)), (q_4, .inl (cI, 20, .inl z0)), (q_5, .inl (cI, 20, .inl z0)), (q_6, .inl (cI, 9, .inl z0)), (q_7, .inl (cI, 9, .inl z0)), (q_8, .inl (cI, 36, .inl z0)), (q_9, .inl (cI, 36, .inl z0)), (q_10, .inl (cR, 8, .inr (.inr (.inr (.inr g_61))))), (q_11, .inr (9, [.ref q_14, .ref q_15, .int 0])), (q_14, .inl (cI, 96, .inl z0)), (q_15, .inl (cI, 12, .inl z0)), (q_16, .inr (9, [.ref q_19, .ref q_20, .int 0])), (q_19, .inl (cI, 64, .inl z0)), (q_20, .inl (cI, 8, .inl z0)), (q_21, .inl (cI, 8, .inl z0)), (q_54, .inr (4, [.int 0, .int 0, .int 0, .int 0, .ref q_57, .ref q_58, .ref q_59, .ref q_60, .int 0, .int 0, .int 0]))] := by rw [← eg_61]; exact hD
  have hP : va_P (dC, dI) vwCl [(a0, .inr (7, [.ref q_1, .int 0, .ref q_2, .ref q_3, .ref q_4, .ref q_5, .int 0, .ref q_6, .ref q_7, .ref q_8, .ref q_9, .ref q_10, .int 0, .ref q_11, .ref q_16, .ref q_21])), (q_1, .inl (cI, 26, .inl z0)), (q_2, .inl (cI, 6, .inl z0)), (q_3, .inl (cI, 81, .inl z0)), (q_4, .inl (cI, 20, .inl z0)), (q_5, .inl (cI, 20, .inl z0)), (q_6, .inl (cI, 9, .inl z0)), (q_7, .inl (cI, 9, .inl z0)), (q_8, .inl (cI, 36, .inl z0)), (q_9, .inl (cI, 36, .inl z0)), (q_10, .inl (cR, 8, .inr (.inr (.inr (.inr g_61))))), (q_11, .inr (9, [.ref q_14, .ref q_15, .int 0])), (q_14, .inl (cI, 96, .inl z0)), (q_15, .inl (cI, 12, .inl z0)), (q_16, .inr (9, [.ref q_19, .ref q_20, .int 0])), (q_19, .inl (cI, 64, .inl z0)), (q_20, .inl (cI, 8, .inl z0)), (q_21, .inl (cI, 8, .inl z0))] H := hP.sub [0, 1, 2, 3, 4, 5, 6, 7, 8, 9, 10, 11, 12, 13, 14, 15, 16, 17] rfl
  have hD : va_D A [(a0, .inr (7, [.ref q_1, .int 0, .ref q_2, .ref q_3, .ref q_4, .ref q_5, .int 0, .ref q_6, .ref q_7, .ref q_8, .ref q_9, .ref q_10, .int 0, .ref q_11, .ref q_16, .ref q_21])), (q_1, .inl (cI, 26, .inl z0)), (q_2, .inl (cI, 6, .inl z0)), (q_3, .inl (cI, 81, .inl z0)), (q_4, .inl (cI, 20, .inl z0)), (q_5, .inl (cI, 20, .inl z0)), (q_6, .inl (cI, 9, .inl z0)), (q_7, .inl (cI, 9, .inl z0)), (q_8, .inl (cI, 36, .inl z0)), (q_9, .inl (cI, 36, .inl z0)), (q_10, .inl (cR, 8, .inr (.inr (.inr (.inr g_61))))), (q_11, .inr (9, [.ref q_14, .ref q_15, .int 0])), (q_14, .inl (cI, 96, .inl z0)), (q_15, .inl (cI, 12, .inl z0)), (q_16, .inr (9, [.ref q_19, .ref q_20, .int 0])), (q_19, .inl (cI, 64, .inl z0)), (q_20, .inl (cI, 8, .inl z0)), (q_21, .inl (cI, 8, .inl z0))] := hD.sub [0, 1, 2, 3, 4, 5, 6, 7, 8, 9, 10, 11, 12, 13, 14, 15, 16, 17] (by decide) rfl
  refine lv_iinc (v := 5) (lv' := [(1, .int 5), (0, .ref a0)]) hx hb dX7_init_140 hl (k := 0) rfl (by decide) (by decide) rfl (fun ls hl => ?_)
  refine lv_goto (tgt := 121) hx hb dX7_init_143 (by decide) ?_
  refine lv_iload_n hx hb dX7_init_121 rfl (lv_at hl 0 rfl) ?_
  refine lv_bipush (v := 8) hx hb dX7_init_122 (by decide) ?_
  refine lv_icmp_ge (tgt := 146) hx hb dX7_init_124 (by decide) (fun c9 => absurd c9 (by decide)) (fun _ => ?_)
  refine lv_aload_n hx hb dX7_init_127 rfl (lv_at hl 1 rfl) ?_
  refine va_get (D := (dC, dI)) (ci := 7) (v := .ref q_10) (C := RX7) (T := TX7) (N := 16) hx hb hU inlX7 hown hK hP 0 rfl rfl 11 (by decide) (hU _ wd_82) (fun _ h9 => h9) rfl dX7_init_128 ?_
  refine lv_iload_n hx hb dX7_init_131 rfl (lv_at hl 0 rfl) ?_
  refine va_new (ci := 4) (fs := [.int 0, .int 0, .int 0, .int 0, .null, .null, .null, .null, .int 0, .int 0, .int 0]) (C := RX4) (T := TX4) (N := 11) hx hb hU inlX4 tyX4 tyX4_ok hown (hU _ wd_81) (hU _ wd_89) (hU _ wd_90) hK hP hD hS hA rfl dvX4 (Nat.le_of_ble_eq_true rfl) (Nat.le_of_ble_eq_true rfl) dX7_init_132 (fun q_62 H hP hD hS => ?_)
  have hP : va_P (dC, dI) vwCl [(a0, .inr (7, [.ref q_1, .int 0, .ref q_2, .ref q_3, .ref q_4, .ref q_5, .int 0, .ref q_6, .ref q_7, .ref q_8, .ref q_9, .ref q_10, .int 0, .ref q_11, .ref q_16, .ref q_21])), (q_1, .inl (cI, 26, .inl z0)), (q_2, .inl (cI, 6, .inl z0)), (q_3, .inl (cI, 81, .inl z0)), (q_4, .inl (cI, 20, .inl z0)), (q_5, .inl (cI, 20, .inl z0)), (q_6, .inl (cI, 9, .inl z0)), (q_7, .inl (cI, 9, .inl z0)), (q_8, .inl (cI, 36, .inl z0)), (q_9, .inl (cI, 36, .inl z0)), (q_10, .inl (cR, 8, .inr (.inr (.inr (.inr g_61))))), (q_11, .inr (9, [.ref q_14, .ref q_15, .int 0])), (q_14, .inl (cI, 96, .inl z0)), (q_15, .inl (cI, 12, .inl z0)), (q_16, .inr (9, [.ref q_19, .ref q_20, .int 0])), (q_19, .inl (cI, 64, .inl z0)), (q_20, .inl (cI, 8, .inl z0)), (q_21, .inl (cI, 8, .inl z0)), (q_62, .inr (4, [.int 0, .int 0, .int 0, .int 0, .null, .null, .null, .null, .int 0, .int 0, .int 0]))] H := hP
  have hD : va_D A [(a0, .inr (7, [.ref q_1, .int 0, .ref q_2, .ref q_3, .ref q_4, .ref q_5, .int 0, .ref q_6, .ref q_7, .ref q_8, .ref q_9, .ref q_10, .int 0, .ref q_11, .ref q_16, .ref q_21])), (q_1, .inl (cI, 26, .inl z0)), (q_2, .inl (cI, 6, .inl z0)), (q_3, .inl (cI, 81, .inl z0)), (q_4, .inl (cI, 20, .inl z0)), (q_5, .inl (cI, 20, .inl z0)), (q_6, .inl (cI, 9, .inl z0)), (q_7, .inl (cI, 9, .inl z0)), (q_8, .inl (cI, 36, .inl z0)), (q_9, .inl (cI, 36, .inl z0)), (q_10, .inl (cR, 8, .inr (.inr (.inr (.inr g_61))))), (q_11, .inr (9, [.ref q_14, .ref q_15, .int 0])), (q_14, .inl (cI, 96, .inl z0)), (q_15, .inl (cI, 12, .inl z0)), (q_16, .inr (9, [.ref q_19, .ref q_20, .int 0])), (q_19, .inl (cI, 64, .inl z0)), (q_20, .inl (cI, 8, .inl z0)), (q_21, .inl (cI, 8, .inl z0)), (q_62, .inr (4, [.int 0, .int 0, .int 0, .int 0, .null, .null, .null, .null, .int 0, .int 0, .int 0]))] := hD
  refine W.widen (k := 73) (n := 1271) (Nat.le_of_ble_eq_true rfl) (Nat.le_of_ble_eq_true rfl) ?_
  refine lv_dup hx hb dX7_init_135 rfl ?_
  refine tk_rv (wr := [(a0, .inr (7, [.ref q_1, .int 0, .ref q_2, .ref q_3, .ref q_4, .ref q_5, .int 0, .ref q_6, .ref q_7, .ref q_8, .ref q_9, .ref q_10, .int 0, .ref q_11, .ref q_16, .ref q_21])), (q_1, .inl (cI, 26, .inl z0)), (q_2, .inl (cI, 6, .inl z0)), (q_3, .inl (cI, 81, .inl z0)), (q_4, .inl (cI, 20, .inl z0)), (q_5, .inl (cI, 20, .inl z0)), (q_6, .inl (cI, 9, .inl z0)), (q_7, .inl (cI, 9, .inl z0)), (q_8, .inl (cI, 36, .inl z0)), (q_9, .inl (cI, 36, .inl z0)), (q_10, .inl (cR, 8, .inr (.inr (.inr (.inr g_61))))), (q_11, .inr (9, [.ref q_14, .ref q_15, .int 0])), (q_14, .inl (cI, 96, .inl z0)), (q_15, .inl (cI, 12, .inl z0)), (q_16, .inr (9, [.ref q_19, .ref q_20, .int 0])), (q_19, .inl (cI, 64, .inl z0)), (q_20, .inl (cI, 8, .inl z0)), (q_21, .inl (cI, 8, .inl z0))]) (tk_IN (As := []) (rest := [.ref q_62, .int 5, .ref q_10]) (n := 0) hx hb hml hown hU hN (cc_X4_init_0 l (dC, dI) cI cL cZ H.size q_62) hN.2.1 wd_97 wd_90 wd_98 rfl (by decide +kernel) ⟨Nat.le_of_ble_eq_true rfl, Nat.le_of_ble_eq_true rfl⟩ hK hP hD [18] (by decide) rfl rfl hl.1 rfl (Nat.le_of_ble_eq_true rfl) dX7_init_136 ⟨Nat.le_of_ble_eq_true rfl, Nat.le_of_ble_eq_true rfl⟩) hP hD hS hA [18] [0, 1, 2, 3, 4, 5, 6, 7, 8, 9, 10, 11, 12, 13, 14, 15, 16, 17] rfl rfl (by decide) (by decide) (fun w_64 H locs hw hP hD hS => ?_)
  obtain ⟨q_65, q_66, q_67, q_68, rfl⟩ := hw
  have hP : va_P (dC, dI) vwCl [(a0, .inr (7, [.ref q_1, .int 0, .ref q_2, .ref q_3, .ref q_4, .ref q_5, .int 0, .ref q_6, .ref q_7, .ref q_8, .ref q_9, .ref q_10, .int 0, .ref q_11, .ref q_16, .ref q_21])), (q_1, .inl (cI, 26, .inl z0)), (q_2, .inl (cI, 6, .inl z0)), (q_3, .inl (cI, 81, .inl z0)), (q_4, .inl (cI, 20, .inl z0)), (q_5, .inl (cI, 20, .inl z0)), (q_6, .inl (cI, 9, .inl z0)), (q_7, .inl (cI, 9, .inl z0)), (q_8, .inl (cI, 36, .inl z0)), (q_9, .inl (cI, 36, .inl z0)), (q_10, .inl (cR, 8, .inr (.inr (.inr (.inr g_61))))), (q_11, .inr (9, [.ref q_14, .ref q_15, .int 0])), (q_14, .inl (cI, 96, .inl z0)), (q_15, .inl (cI, 12, .inl z0)), (q_16, .inr (9, [.ref q_19, .ref q_20, .int 0])), (q_19, .inl (cI, 64, .inl z0)), (q_20, .inl (cI, 8, .inl z0)), (q_21, .inl (cI, 8, .inl z0)), (q_62, .inr (4, [.int 0, .int 0, .int 0, .int 0, .ref q_65, .ref q_66, .ref q_67, .ref q_68, .int 0, .int 0, .int 0]))] H := hP
  have hD : va_D A [(a0, .inr (7, [.ref q_1, .int 0, .ref q_2, .ref q_3, .ref q_4, .ref q_5, .int 0, .ref q_6, .ref q_7, .ref q_8, .ref q_9, .ref q_10, .int 0, .ref q_11, .ref q_16, .ref q_21])), (q_1, .inl (cI, 26, .inl z0)), (q_2, .inl (cI, 6, .inl z0)), (q_3, .inl (cI, 81, .inl z0)), (q_4, .inl (cI, 20, .inl z0)), (q_5, .inl (cI, 20, .inl z0)), (q_6, .inl (cI, 9, .inl z0)), (q_7, .inl (cI, 9, .inl z0)), (q_8, .inl (cI, 36, .inl z0)), (q_9, .inl (cI, 36, .inl z0)), (q_10, .inl (cR, 8, .inr (.inr (.inr (.inr g_61))))), (q_11, .inr (9, [.ref q_14, .ref q_15, .int 0])), (q_14, .inl (cI, 96, .inl z0)), (q_15, .inl (cI, 12, .inl z0)), (q_16, .inr (9, [.ref q_19, .ref q_20, .int 0])), (q_19, .inl (cI, 64, .inl z0)), (q_20, .inl (cI, 8, .inl z0)), (q_21, .inl (cI, 8, .inl z0)), (q_62, .inr (4, [.int 0, .int 0, .int 0, .int 0, .ref q_65, .ref q_66, .ref q_67, .ref q_68, .int 0, .int 0, .int 0]))] := hD
  refine W.widen (k := 83) (n := 1423) (Nat.le_of_ble_eq_true rfl) (Nat.le_of_ble_eq_true rfl) ?_
  refine va_astq (r := (RX4, TX4, 11)) hx hb hKR hP hD hS 10 3 18 4 rfl rfl rfl rfl (vp_in_nI (n := 5) (by decide) (by decide)) dX7_init_139 (fun H locs hP hD hS => ?_)
  obtain ⟨g_69, eg_69⟩ : ∃ y : Nat → Option Nat, va_up g_61 (Int32.toNatClampNeg 5) (some q_62) = y := ⟨_, rfl⟩
  have hP : va_P (dC, dI) vwCl [(a0, .inr (7, [.ref q_1, .int 0, .ref q_2, .ref q_3, .ref q_4, .ref q_5, .int 0, .ref q_6, .ref q_7, .ref q_8, .ref q_9, .ref q_10, .int 0, .ref q_11, .ref q_16, .ref q_21])), (q_1, .inl (cI, 26, .inl z0)), (q_2, .inl (cI, 6, .inl z0)), (q_3, .inl (cI, 81, .inl z0)), (q_4, .inl (cI, 20, .inl z0)), (q_5, .inl (cI, 20, .inl z0)), (q_6, .inl (cI, 9, .inl z0)), (q_7, .inl (cI, 9, .inl z0)), (q_8, .inl (cI, 36, .inl z0)), (q_9, .inl (cI, 36, .inl z0)), (q_10, .inl (cR, 8, .inr (.inr (.inr (.inr g_69))))), (q_11, .inr (9, [.ref q_14, .ref q_15, .int 0])), (q_14, .inl (cI, 96, .inl z0)), (q_15, .inl (cI, 12, .inl z0)), (q_16, .inr (9, [.ref q_19, .ref q_20, .int 0])), (q_19, .inl (cI, 64, .inl z0)), (q_20, .inl (cI, 8, .inl z0)), (q_21, .inl (cI, 8, .inl z0)), (q_62, .inr (4, [.int 0, .int 0, .int 0, .int 0, .ref q_65, .ref q_66, .ref q_67, .ref q_68, .int 0, .int 0, .int 0]))] H := by rw [← eg_69]; exact hP
  have hD : va_D A [(a0, .inr (7, [.ref q_1, .int 0, .ref q_2, .ref q_3, .ref q_4, .ref q_5, .int 0, .ref q_6, .ref q_7, .ref q_8, .ref q_9, .ref q_10, .int 0, .ref q_11, .ref q_16, .ref q_21])), (q_1, .inl (cI, 26, .inl z0)), (q_2, .inl (cI, 6, .inl z0)), (q_3, .inl (cI, 81, .inl z0)), (q_4, .inl (cI, 20, .inl z0)), (q_5, .inl (cI, 20, .inl z0)), (q_6, .inl (cI, 9, .inl z0)), (q_7, .inl (cI, 9, .inl z0)), (q_8, .inl (cI, 36, .inl z0)), (q_9, .inl (cI, 36, .inl z0)), (q_10, .inl (cR, 8, .inr (.inr (.inr (.inr g_69))))), (q_11, .inr (9, [.ref q_14, .ref q_15, .int 0])), (q_14, .inl (cI, 96, .inl z0)), (q_15, .inl (cI, 12, .inl z0)), (q_16, .inr (9, [.ref q_19, .ref q_20, .int 0])), (q_19, .inl (cI, 64, .inl z0)), (q_20, .inl (cI, 8, .inl z0)), (q_21, .inl (cI, 8, .inl z0)), (q_62, .inr (4, [.int 0, .int 0, .int 0, .int 0, .ref q_65, .ref q_66, .ref q_67, .ref q_68, .int 0, .int 0, .int 0]))] := by rw [← eg_69]; exact hD
  have hP : va_P (dC, dI) vwCl [(a0, .inr (7, [.ref q_1, .int 0, .ref q_2, .ref q_3, .ref q_4, .ref q_5, .int 0, .ref q_6, .ref q_7, .ref q_8, .ref q_9, .ref q_10, .int 0, .ref q_11, .ref q_16, .ref q_21])), (q_1, .inl (cI, 26, .inl z0)), (q_2, .inl (cI, 6, .inl z0)), (q_3, .inl (cI, 81, .inl z0)), (q_4, .inl (cI, 20, .inl z0)), (q_5, .inl (cI, 20, .inl z0)), (q_6, .inl (cI, 9, .inl z0)), (q_7, .inl (cI, 9, .inl z0)), (q_8, .inl (cI, 36, .inl z0)), (q_9, .inl (cI, 36, .inl z0)), (q_10, .inl (cR, 8, .inr (.inr (.inr (.inr g_69))))), (q_11, .inr (9, [.ref q_14, .ref q_15, .int 0])), (q_14, .inl (cI, 96, .inl z0)), (q_15, .inl (cI, 12, .inl z0)), (q_16, .inr (9, [.ref q_19, .ref q_20, .int 0])), (q_19, .inl (cI, 64, .inl z0)), (q_20, .inl (cI, 8, .inl z0)), (q_21, .inl (cI, 8, .inl z0))] H := hP.sub [0, 1, 2, 3, 4, 5, 6, 7, 8, 9, 10, 11, 12, 13, 14, 15, 16, 17] rfl
  have hD : va_D A [(a0, .inr (7, [.ref q_1, .int 0, .ref q_2, .ref q_3, .ref q_4, .ref q_5, .int 0, .ref q_6, .ref q_7, .ref q_8, .ref q_9, .ref q_10, .int 0, .ref q_11, .ref q_16, .ref q_21])), (q_1, .inl (cI, 26, .inl z0)), (q_2, .inl (cI, 6, .inl z0)), (q_3, .inl (cI, 81, .inl z0)), (q_4, .inl (cI, 20, .inl z0)), (q_5, .inl (cI, 20, .inl z0)), (q_6, .inl (cI, 9, .inl z0)), (q_7, .inl (cI, 9, .inl z0)), (q_8, .inl (cI, 36, .inl z0)), (q_9, .inl (cI, 36, .inl z0)), (q_10, .inl (cR, 8, .inr (.inr (.inr (.inr g_69))))), (q_11, .inr (9, [.ref q_14, .ref q_15, .int 0])), (q_14, .inl (cI, 96, .inl z0)), (q_15, .inl (cI, 12, .inl z0)), (q_16, .inr (9, [.ref q_19, .ref q_20, .int 0])), (q_19, .inl (cI, 64, .inl z0)), (q_20, .inl (cI, 8, .inl z0)), (q_21, .inl (cI, 8, .inl z0))] := hD.sub [0, 1, 2, 3, 4, 5, 6, 7, 8, 9, 10, 11, 12, 13, 14, 15, 16, 17] (by decide) rfl
  refine lv_iinc (v := 6) (lv' := [(1, .int 6), (0, .ref a0)]) hx hb dX7_init_140 hl (k := 0) rfl (by decide) (by decide) rfl (fun ls hl => ?_)
  refine lv_goto (tgt := 121) hx hb dX7_init_143 (by decide) ?_
  refine lv_iload_n hx hb dX7_init_121 rfl (lv_at hl 0 rfl) ?_
  refine lv_bipush (v := 8) hx hb dX7_init_122 (by decide) ?_
  refine lv_icmp_ge (tgt := 146) hx hb dX7_init_124 (by decide) (fun c9 => absurd c9 (by decide)) (fun _ => ?_)
  refine lv_aload_n hx hb dX7_init_127 rfl (lv_at hl 1 rfl) ?_
  refine va_get (D := (dC, dI)) (ci := 7) (v := .ref q_10) (C := RX7) (T := TX7) (N := 16) hx hb hU inlX7 hown hK hP 0 rfl rfl 11 (by decide) (hU _ wd_82) (fun _ h9 => h9) rfl dX7_init_128 ?_
  refine lv_iload_n hx hb dX7_init_131 rfl (lv_at hl 0 rfl) ?_
  refine va_new (ci := 4) (fs := [.int 0, .int 0, .int 0, .int 0, .null, .null, .null, .null, .int 0, .int 0, .int 0]) (C := RX4) (T := TX4) (N := 11) hx hb hU inlX4 tyX4 tyX4_ok hown (hU _ wd_81) (hU _ wd_89) (hU _ wd_90) hK hP hD hS hA rfl dvX4 (Nat.le_of_ble_eq_true rfl) (Nat.le_of_ble_eq_true rfl) dX7_init_132 (fun q_70 H hP hD hS => ?_)
  have hP : va_P (dC, dI) vwCl [(a0, .inr (7, [.ref q_1, .int 0, .ref q_2, .ref q_3, .ref q_4, .ref q_5, .int 0, .ref q_6, .ref q_7, .ref q_8, .ref q_9, .ref q_10, .int 0, .ref q_11, .ref q_16, .ref q_21])), (q_1, .inl (cI, 26, .inl z0)), (q_2, .inl (cI, 6, .inl z0)), (q_3, .inl (cI, 81, .inl z0)), (q_4, .inl (cI, 20, .inl z0)), (q_5, .inl (cI, 20, .inl z0)), (q_6, .inl (cI, 9, .inl z0)), (q_7, .inl (cI, 9, .inl z0)), (q_8, .inl (cI, 36, .inl z0)), (q_9, .inl (cI, 36, .inl z0)), (q_10, .inl (cR, 8, .inr (.inr (.inr (.inr g_69))))), (q_11, .inr (9, [.ref q_14, .ref q_15, .int 0])), (q_14, .inl (cI, 96, .inl z0)), (q_15, .inl (cI, 12, .inl z0)), (q_16, .inr (9, [.ref q_19, .ref q_20, .int 0])), (q_19, .inl (cI, 64, .inl z0)), (q_20, .inl (cI, 8, .inl z0)), (q_21, .inl (cI, 8, .inl z0)), (q_70, .inr (4, [.int 0, .int 0, .int 0, .int 0, .null, .null, .null, .null, .int 0, .int 0, .int 0]))] H := hP
  have hD : va_D A [(a0, .inr (7, [.ref q_1, .int 0, .ref q_2, .ref q_3, .ref q_4, .ref q_5, .int 0, .ref q_6, .ref q_7, .ref q_8, .ref q_9, .ref q_10, .int 0, .ref q_11, .ref q_16, .ref q_21])), (q_1, .inl (cI, 26, .inl z0)), (q_2, .inl (cI, 6, .inl z0)), (q_3, .inl (cI, 81, .inl z0)), (q_4, .inl (cI, 20, .inl z0)), (q_5, .inl (cI, 20, .inl z0)), (q_6, .inl (cI, 9, .inl z0)), (q_7, .inl (cI, 9, .inl z0)), (q_8, .inl (cI, 36, .inl z0)), (q_9, .inl (cI, 36, .inl z0)), (q_10, .inl (cR, 8, .inr (.inr (.inr (.inr g_69))))), (q_11, .inr (9, [.ref q_14, .ref q_15, .int 0])), (q_14, .inl (cI, 96, .inl z0)), (q_15, .inl (cI, 12, .inl z0)), (q_16, .inr (9, [.ref q_19, .ref q_20, .int 0])), (q_19, .inl (cI, 64, .inl z0)), (q_20, .inl (cI, 8, .inl z0)), (q_21, .inl (cI, 8, .inl z0)), (q_70, .inr (4, [.int 0, .int 0, .int 0, .int 0, .null, .null, .null, .null, .int 0, .int 0, .int 0]))] := hD
  refine W.widen (k := 84) (n := 1434) (Nat.le_of_ble_eq_true rfl) (Nat.le_of_ble_eq_true rfl) ?_
  refine lv_dup hx hb dX7_init_135 rfl ?_
  refine tk_rv (wr := [(a0, .inr (7, [.ref q_1, .int 0, .ref q_2, .ref q_3, .ref q_4, .ref q_5, .int 0, .ref q_6, .ref q_7, .ref q_8, .ref q_9, .ref q_10, .int 0, .ref q_11, .ref q_16, .ref q_21])), (q_1, .inl (cI, 26, .inl z0)), (q_2, .inl (cI, 6, .inl z0)), (q_3, .inl (cI, 81, .inl z0)), (q_4, .inl (cI, 20, .inl z0)), (q_5, .inl (cI, 20, .inl z0)), (q_6, .inl (cI, 9, .inl z0)), (q_7, .inl (cI, 9, .inl z0)), (q_8, .inl (cI, 36, .inl z0)), (q_9, .inl (cI, 36, .inl z0)), (q_10, .inl (cR, 8, .inr (.inr (.inr (.inr g_69))))), (q_11, .inr (9, [.ref q_14, .ref q_15, .int 0])), (q_14, .inl (cI, 96, .inl z0)), (q_15, .inl (cI, 12, .inl z0)), (q_16, .inr (9, [.ref q_19, .ref q_20, .int 0])), (q_19, .inl (cI, 64, .inl z0)), (q_20, .inl (cI, 8, .inl z0)), (q_21, .inl (cI, 8, .inl z0))]) (tk_IN (As := []) (rest := [.ref q_70, .int 6, .ref q_10]) (n := 0) hx hb hml hown hU hN (cc_X4_init_0 l (dC, dI) cI cL cZ H.size q_70) hN.2.1 wd_97 wd_90 wd_98 rfl (by decide +kernel) ⟨Nat.le_of_ble_eq_true rfl, Nat.le_of_ble_eq_true rfl⟩ hK hP hD [18] (by decide) rfl rfl hl.1 rfl (Nat.le_of_ble_eq_true rfl) dX7_init_136 ⟨Nat.le_of_ble_eq_true rfl, Nat.le_of_ble_eq_true rfl⟩) hP hD hS hA [18] [0, 1, 2, 3, 4, 5, 6, 7, 8, 9, 10, 11, 12, 13, 14, 15, 16, 17] rfl rfl (by decide) (by decide) (fun w_72 H locs hw hP hD hS => ?_)
  obtain ⟨q_73, q_74, q_75, q_76, rfl⟩ := hw
  have hP : va_P (dC, dI) vwCl [(a0, .inr (7, [.ref q_1, .int 0, .ref q_2, .ref q_3, .ref q_4, .ref q_5, .int 0, .ref q_6, .ref q_7, .ref q_8, .ref q_9, .ref q_10, .int 0, .ref q_11, .ref q_16, .ref q_21])), (q_1, .inl (cI, 26, .inl z0)), (q_2, .inl (cI, 6, .inl z0)), (q_3, .inl (cI, 81, .inl z0)), (q_4, .inl (cI, 20, .inl z0)), (q_5, .inl (cI, 20, .inl z0)), (q_6, .inl (cI, 9, .inl z0)), (q_7, .inl (cI, 9, .inl z0)), (q_8, .inl (cI, 36, .inl z0)), (q_9, .inl (cI, 36, .inl z0)), (q_10, .inl (cR, 8, .inr (.inr (.inr (.inr g_69))))), (q_11, .inr (9, [.ref q_14, .ref q_15, .int 0])), (q_14, .inl (cI, 96, .inl z0)), (q_15, .inl (cI, 12, .inl z0)), (q_16, .inr (9, [.ref q_19, .ref q_20, .int 0])), (q_19, .inl (cI, 64, .inl z0)), (q_20, .inl (cI, 8, .inl z0)), (q_21, .inl (cI, 8, .inl z0)), (q_70, .inr (4, [.int 0, .int 0, .int 0, .int 0, .ref q_73, .ref q_74, .ref q_75, .ref q_76, .int 0, .int 0, .int 0]))] H := hP
  have hD : va_D A [(a0, .inr (7, [.ref q_1, .int 0, .ref q_2, .ref q_3, .ref q_4, .ref q_5, .int 0, .ref q_6, .ref q_7, .ref q_8, .ref q_9, .ref q_10, .int 0, .ref q_11, .ref q_16, .ref q_21])), (q_1, .inl (cI, 26, .inl z0)), (q_2, .inl (cI, 6, .inl z0)), (q_3, .inl (cI, 81, .inl z0)), (q_4, .inl (cI, 20, .inl z0)), (q_5, .inl (cI, 20, .inl z0)), (q_6, .inl (cI, 9, .inl z0)), (q_7, .inl (cI, 9, .inl z0)), (q_8, .inl (cI, 36, .inl z0)), (q_9, .inl (cI, 36, .inl z0)), (q_10, .inl (cR, 8, .inr (.inr (.inr (.inr g_69))))), (q_11, .inr (9, [.ref q_14, .ref q_15, .int 0])), (q_14, .inl (cI, 96, .inl z0)), (q_15, .inl (cI, 12, .inl z0)), (q_16, .inr (9, [.ref q_19, .ref q_20, .int 0])), (q_19, .inl (cI, 64, .inl z0)), (q_20, .inl (cI, 8, .inl z0)), (q_21, .inl (cI, 8, .inl z0)), (q_70, .inr (4, [.int 0, .int 0, .int 0, .int 0, .ref q_73, .ref q_74, .ref q_75, .ref q_76, .int 0, .int 0, .int 0]))] := hD
  refine W.widen (k := 94) (n := 1586) (Nat.le_of_ble_eq_true rfl) (Nat.le_of_ble_eq_true rfl) ?_
  refine va_astq (r := (RX4, TX4, 11)) hx hb hKR hP hD hS 10 3 18 4 rfl rfl rfl rfl (vp_in_nI (n := 6) (by decide) (by decide)) dX7_init_139 (fun H locs hP hD hS => ?_)
  obtain ⟨g_77, eg_77⟩ : ∃ y : Nat → Option Nat, va_up g_69 (Int32.toNatClampNeg 6) (some q_70) = y := ⟨_, rfl⟩
  have hP : va_P (dC, dI) vwCl [(a0, .inr (7, [.ref q_1, .int 0, .ref q_2, .ref q_3, .ref q_4, .ref q_5, .int 0, .ref q_6, .ref q_7, .ref q_8, .ref q_9, .ref q_10, .int 0, .ref q_11, .ref q_16, .ref q_21])), (q_1, .inl (cI, 26, .inl z0)), (q_2, .inl (cI, 6, .inl z0)), (q_3, .inl (cI, 81, .inl z0)), (q_4, .inl (cI, 20, .inl z0)), (q_5, .inl (cI, 20, .inl z0)), (q_6, .inl (cI, 9, .inl z0)), (q_7, .inl (cI, 9, .inl z0)), (q_8, .inl (cI, 36, .inl z0)), (q_9, .inl (cI, 36, .inl z0)), (q_10, .inl (cR, 8, .inr (.inr (.inr (.inr g_77))))), (q_11, .inr (9, [.ref q_14, .ref q_15, .int 0])), (q_14, .inl (cI, 96, .inl z0)), (q_15, .inl (cI, 12, .inl z0)), (q_16, .inr (9, [.ref q_19, .ref q_20, .int 0])), (q_19, .inl (cI, 64, .inl z0)), (q_20, .inl (cI, 8, .inl z0)), (q_21, .inl (cI, 8, .inl z0)), (q_70, .inr (4, [.int 0, .int 0, .int 0, .int 0, .ref q_73, .ref q_74, .ref q_75, .ref q_76, .int 0, .int 0, .int 0]))] H := by rw [← eg_77]; exact hP
  have hD : va_D A [(a0, .inr (7, [.ref q_1, .int 0, .ref q_2, .ref q_3, .ref q_4, .ref q_5, .int 0, .ref q_6, .ref q_7, .ref q_8, .ref q_9, .ref q_10, .int 0, .ref q_11, .ref q_16, .ref q_21])), (q_1, .inl (cI, 26, .inl z0)), (q_2, .inl (cI, 6, .inl z0)), (q_3, .inl (cI, 81, .inl z0)), (q_4, .inl (cI, 20, .inl z0)), (q_5, .inl (cI, 20, .inl z0)), (q_6, .inl (cI, 9, .inl z0)), (q_7, .inl (cI, 9, .inl z0)), (q_8, .inl (cI, 36, .inl z0)), (q_9, .inl (cI, 36, .inl z0)), (q_10, .inl (cR, 8, .inr (.inr (.inr (.inr g_77))))), (q_11, .inr (9, [.ref q_14, .ref q_15, .int 0])), (q_14, .inl (cI, 96, .inl z0)), (q_15, .inl (cI, 12, .inl z0)), (q_16, .inr (9, [.ref q_19, .ref q_20, .int 0])), (q_19, .inl (cI, 64, .inl z0)), (q_20, .inl (cI, 8, .inl z0)), (q_21, .inl (cI, 8, .inl z0)), (q_70, .inr (4, [.int 0, .int 0, .int 0, .int 0, .ref q_73, .ref q_74, .ref q_75, .ref q_76, .int 0, .int 0, .int 0]))] := by rw [← eg_77]; exact hD
  have hP : va_P (dC, dI) vwCl [(a0, .inr (7, [.ref q_1, .int 0, .ref q_2, .ref q_3, .ref q_4, .ref q_5, .int 0, .ref q_6, .ref q_7, .ref q_8, .ref q_9, .ref q_10, .int 0, .ref q_11, .ref q_16, .ref q_21])), (q_1, .inl (cI, 26, .inl z0)), (q_2, .inl (cI, 6, .inl z0)), (q_3, .inl (cI, 81, .inl z0)), (q_4, .inl (cI, 20, .inl z0)), (q_5, .inl (cI, 20, .inl z0)), (q_6, .inl (cI, 9, .inl z0)), (q_7, .inl (cI, 9, .inl z0)), (q_8, .inl (cI, 36, .inl z0)), (q_9, .inl (cI, 36, .inl z0)), (q_10, .inl (cR, 8, .inr (.inr (.inr (.inr g_77))))), (q_11, .inr (9, [.ref q_14, .ref q_15, .int 0])), (q_14, .inl (cI, 96, .inl z0)), (q_15, .inl (cI, 12, .inl z0)), (q_16, .inr (9, [.ref q_19, .ref q_20, .int 0])), (q_19, .inl (cI, 64, .inl z0)), (q_20, .inl (cI, 8, .inl z0)), (q_21, .inl (cI, 8, .inl z0))] H := hP.sub [0, 1, 2, 3, 4, 5, 6, 7, 8, 9, 10, 11, 12, 13, 14, 15, 16, 17] rfl
  have hD : va_D A [(a0, .inr (7, [.ref q_1, .int 0, .ref q_2, .ref q_3, .ref q_4, .ref q_5, .int 0, .ref q_6, .ref q_7, .ref q_8, .ref q_9, .ref q_10, .int 0, .ref q_11, .ref q_16, .ref q_21])), (q_1, .inl (cI, 26, .inl z0)), (q_2, .inl (cI, 6, .inl z0)), (q_3, .inl (cI, 81, .inl z0)), (q_4, .inl (cI, 20, .inl z0)), (q_5, .inl (cI, 20, .inl z0)), (q_6, .inl (cI, 9, .inl z0)), (q_7, .inl (cI, 9, .inl z0)), (q_8, .inl (cI, 36, .inl z0)), (q_9, .inl (cI, 36, .inl z0)), (q_10, .inl (cR, 8, .inr (.inr (.inr (.inr g_77))))), (q_11, .inr (9, [.ref q_14, .ref q_15, .int 0])), (q_14, .inl (cI, 96, .inl z0)), (q_15, .inl (cI, 12, .inl z0)), (q_16, .inr (9, [.ref q_19, .ref q_20, .int 0])), (q_19, .inl (cI, 64, .inl z0)), (q_20, .inl (cI, 8, .inl z0)), (q_21, .inl (cI, 8, .inl z0))] := hD.sub [0, 1, 2, 3, 4, 5, 6, 7, 8, 9, 10, 11, 12, 13, 14, 15, 16, 17] (by decide) rfl
  refine lv_iinc (v := 7) (lv' := [(1, .int 7), (0, .ref a0)]) hx hb dX7_init_140 hl (k := 0) rfl (by decide) (by decide) rfl (fun ls hl => ?_)
  refine lv_goto (tgt := 121) hx hb dX7_init_143 (by decide) ?_
  refine lv_iload_n hx hb dX7_init_121 rfl (lv_at hl 0 rfl) ?_
  refine lv_bipush (v := 8) hx hb dX7_init_122 (by decide) ?_
  refine lv_icmp_ge (tgt := 146) hx hb dX7_init_124 (by decide) (fun c9 => absurd c9 (by decide)) (fun _ => ?_)
  refine lv_aload_n hx hb dX7_init_127 rfl (lv_at hl 1 rfl) ?_
  refine va_get (D := (dC, dI)) (ci := 7) (v := .ref q_10) (C := RX7) (T := TX7) (N := 16) hx hb hU inlX7 hown hK hP 0 rfl rfl 11 (by decide) (hU _ wd_82) (fun _ h9 => h9) rfl dX7_init_128 ?_
  refine lv_iload_n hx hb dX7_init_131 rfl (lv_at hl 0 rfl) ?_
  refine va_new (ci := 4) (fs := [.int 0, .int 0, .int 0, .int 0, .null, .null, .null, .null, .int 0, .int 0, .int 0]) (C := RX4) (T := TX4) (N := 11) hx hb hU inlX4 tyX4 tyX4_ok hown (hU _ wd_81) (hU _ wd_89) (hU _ wd_90) hK hP hD hS hA rfl dvX4 (Nat.le_of_ble_eq_true rfl) (Nat.le_of_ble_eq_true rfl) dX7_init_132 (fun q_78 H hP hD hS => ?_)
  have hP : va_P (dC, dI) vwCl [(a0, .inr (7, [.ref q_1, .int 0, .ref q_2, .ref q_3, .ref q_4, .ref q_5, .int 0, .ref q_6, .ref q_7, .ref q_8, .ref q_9, .ref q_10, .int 0, .ref q_11, .ref q_16, .ref q_21])), (q_1, .inl (cI, 26, .inl z0)), (q_2, .inl (cI, 6, .inl z0)), (q_3, .inl (cI, 81, .inl z0)), (q_4, .inl (cI, 20, .inl z0)), (q_5, .inl (cI, 20, .inl z0)), (q_6, .inl (cI, 9, .inl z0)), (q_7, .inl (cI, 9, .inl z0)), (q_8, .inl (cI, 36, .inl z0)), (q_9, .inl (cI, 36, .inl z0)), (q_10, .inl (cR, 8, .inr (.inr (.inr (.inr g_77))))), (q_11, .inr (9, [.ref q_14, .ref q_15, .int 0])), (q_14, .inl (cI, 96, .inl z0)), (q_15, .inl (cI, 12, .inl z0)), (q_16, .inr (9, [.ref q_19, .ref q_20, .int 0])), (q_19, .inl (cI, 64, .inl z0)), (q_20, .inl (cI, 8, .inl z0)), (q_21, .inl (cI, 8, .inl z0)), (q_78, .inr (4, [.int 0, .int 0, .int 0, .int 0, .null, .null, .null, .null, .int 0, .int 0, .int 0]))] H := hP
  have hD : va_D A [(a0, .inr (7, [.ref q_1, .int 0, .ref q_2, .ref q_3, .ref q_4, .ref q_5, .int 0, .ref q_6, .ref q_7, .ref q_8, .ref q_9, .ref q_10, .int 0, .ref q_11, .ref q_16, .ref q_21])), (q_1, .inl (cI, 26, .inl z0)), (q_2, .inl (cI, 6, .inl z0)), (q_3, .inl (cI, 81, .inl z0)), (q_4, .inl (cI, 20, .inl z0)), (q_5, .inl (cI, 20, .inl z0)), (q_6, .inl (cI, 9, .inl z0)), (q_7, .inl (cI, 9, .inl z0)), (q_8, .inl (cI, 36, .inl z0)), (q_9, .inl (cI, 36, .inl z0)), (q_10, .inl (cR, 8, .inr (.inr (.inr (.inr g_77))))), (q_11, .inr (9, [.ref q_14, .ref q_15, .int 0])), (q_14, .inl (cI, 96, .inl z0)), (q_15, .inl (cI, 12, .inl z0)), (q_16, .inr (9, [.ref q_19, .ref q_20, .int 0])), (q_19, .inl (cI, 64, .inl z0)), (q_20, .inl (cI, 8, .inl z0)), (q_21, .inl (cI, 8, .inl z0)), (q_78, .inr (4, [.int 0, .int 0, .int 0, .int 0, .null, .null, .null, .null, .int 0, .int 0, .int 0]))] := hD
  refine W.widen (k := 95) (n := 1597) (Nat.le_of_ble_eq_true rfl) (Nat.le_of_ble_eq_true rfl) ?_
  refine lv_dup hx hb dX7_init_135 rfl ?_
  refine tk_rv (wr := [(a0, .inr (7, [.ref q_1, .int 0, .ref q_2, .ref q_3, .ref q_4, .ref q_5, .int 0, .ref q_6, .ref q_7, .ref q_8, .ref q_9, .ref q_10, .int 0, .ref q_11, .ref q_16, .ref q_21])), (q_1, .inl (cI, 26, .inl z0)), (q_2, .inl (cI, 6, .inl z0)), (q_3, .inl (cI, 81, .inl z0)), (q_4, .inl (cI, 20, .inl z0)), (q_5, .inl (cI, 20, .inl z0)), (q_6, .inl (cI, 9, .inl z0)), (q_7, .inl (cI, 9, .inl z0)), (q_8, .inl (cI, 36, .inl z0)), (q_9, .inl (cI, 36, .inl z0)), (q_10, .inl (cR, 8, .inr (.inr (.inr (.inr g_77))))), (q_11, .inr (9, [.ref q_14, .ref q_15, .int 0])), (q_14, .inl (cI, 96, .inl z0)), (q_15, .inl (cI, 12, .inl z0)), (q_16, .inr (9, [.ref q_19, .ref q_20, .int 0])), (q_19, .inl (cI, 64, .inl z0)), (q_20, .inl (cI, 8, .inl z0)), (q_21, .inl (cI, 8, .inl z0))]) (tk_IN (As := []) (rest := [.ref q_78, .int 7, .ref q_10]) (n := 0) hx hb hml hown hU hN (cc_X4_init_0 l (dC, dI) cI cL cZ H.size q_78) hN.2.1 wd_97 wd_90 wd_98 rfl (by decide +kernel) ⟨Nat.le_of_ble_eq_true rfl, Nat.le_of_ble_eq_true rfl⟩ hK hP hD [18] (by decide) rfl rfl hl.1 rfl (Nat.le_of_ble_eq_true rfl) dX7_init_136 ⟨Nat.le_of_ble_eq_true rfl, Nat.le_of_ble_eq_true rfl⟩) hP hD hS hA [18] [0, 1, 2, 3, 4, 5, 6, 7, 8, 9, 10, 11, 12, 13, 14, 15, 16, 17] rfl rfl (by decide) (by decide) (fun w_80 H locs hw hP hD hS => ?_)
  obtain ⟨q_81, q_82, q_83, q_84, rfl⟩ := hw
  have hP : va_P (dC, dI) vwCl [(a0, .inr (7, [.ref q_1, .int 0, .ref q_2, .ref q_3, .ref q_4, .ref q_5, .int 0, .ref q_6, .ref q_7, .ref q_8, .ref q_9, .ref q_10, .int 0, .ref q_11, .ref q_16, .ref q_21])), (q_1, .inl (cI, 26, .inl z0)), (q_2, .inl (cI, 6, .inl z0)), (q_3, .inl (cI, 81, .inl z0)), (q_4, .inl (cI, 20, .inl z0)), (q_5, .inl (cI, 20, .inl z0)), (q_6, .inl (cI, 9, .inl z0)), (q_7, .inl (cI, 9, .inl z0)), (q_8, .inl (cI, 36, .inl z0)), (q_9, .inl (cI, 36, .inl z0)), (q_10, .inl (cR, 8, .inr (.inr (.inr (.inr g_77))))), (q_11, .inr (9, [.ref q_14, .ref q_15, .int 0])), (q_14, .inl (cI, 96, .inl z0)), (q_15, .inl (cI, 12, .inl z0)), (q_16, .inr (9, [.ref q_19, .ref q_20, .int 0])), (q_19, .inl (cI, 64, .inl z0)), (q_20, .inl (cI, 8, .inl z0)), (q_21, .inl (cI, 8, .inl z0)), (q_78, .inr (4, [.int 0, .int 0, .int 0, .int 0, .ref q_81, .ref q_82, .ref q_83, .ref q_84, .int 0, .int 0, .int 0]))] H := hP
  have hD : va_D A [(a0, .inr (7, [.ref q_1, .int 0, .ref q_2, .ref q_3, .ref q_4, .ref q_5, .int 0, .ref q_6, .ref q_7, .ref q_8, .ref q_9, .ref q_10, .int 0, .ref q_11, .ref q_16, .ref q_21])), (q_1, .inl (cI, 26, .inl z0)), (q_2, .inl (cI, 6, .inl z0)), (q_3, .inl (cI, 81, .inl z0)), (q_4, .inl (cI, 20, .inl z0)), (q_5, .inl (cI, 20, .inl z0)), (q_6, .inl (cI, 9, .inl z0)), (q_7, .inl (cI, 9, .inl z0)), (q_8, .inl (cI, 36, .inl z0)), (q_9, .inl (cI, 36, .inl z0)), (q_10, .inl (cR, 8, .inr (.inr (.inr (.inr g_77))))), (q_11, .inr (9, [.ref q_14, .ref q_15, .int 0])), (q_14, .inl (cI, 96, .inl z0)), (q_15, .inl (cI, 12, .inl z0)), (q_16, .inr (9, [.ref q_19, .ref q_20, .int 0])), (q_19, .inl (cI, 64, .inl z0)), (q_20, .inl (cI, 8, .inl z0)), (q_21, .inl (cI, 8, .inl z0)), (q_78, .inr (4, [.int 0, .int 0, .int 0, .int 0, .ref q_81, .ref q_82, .ref q_83, .ref q_84, .int 0, .int 0, .int 0]))] := hD
  refine W.widen (k := 105) (n := 1749) (Nat.le_of_ble_eq_true rfl) (Nat.le_of_ble_eq_true rfl) ?_
  refine va_astq (r := (RX4, TX4, 11)) hx hb hKR hP hD hS 10 3 18 4 rfl rfl rfl rfl (vp_in_nI (n := 7) (by decide) (by decide)) dX7_init_139 (fun H locs hP hD hS => ?_)
  obtain ⟨g_85, eg_85⟩ : ∃ y : Nat → Option Nat, va_up g_77 (Int32.toNatClampNeg 7) (some q_78) = y := ⟨_, rfl⟩
  have hP : va_P (dC, dI) vwCl [(a0, .inr (7, [.ref q_1, .int 0, .ref q_2, .ref q_3, .ref q_4, .ref q_5, .int 0, .ref q_6, .ref q_7, .ref q_8, .ref q_9, .ref q_10, .int 0, .ref q_11, .ref q_16, .ref q_21])), (q_1, .inl (cI, 26, .inl z0)), (q_2, .inl (cI, 6, .inl z0)), (q_3, .inl (cI, 81, .inl z0)), (q_4, .inl (cI, 20, .inl z0)), (q_5, .inl (cI, 20, .inl z0)), (q_6, .inl (cI, 9, .inl z0)), (q_7, .inl (cI, 9, .inl z0)), (q_8, .inl (cI, 36, .inl z0)), (q_9, .inl (cI, 36, .inl z0)), (q_10, .inl (cR, 8, .inr (.inr (.inr (.inr g_85))))), (q_11, .inr (9, [.ref q_14, .ref q_15, .int 0])), (q_14, .inl (cI, 96, .inl z0)), (q_15, .inl (cI, 12, .inl z0)), (q_16, .inr (9, [.ref q_19, .ref q_20, .int 0])), (q_19, .inl (cI, 64, .inl z0)), (q_20, .inl (cI, 8, .inl z0)), (q_21, .inl (cI, 8, .inl z0)), (q_78, .inr (4, [.int 0, .int 0, .int 0, .int 0, .ref q_81, .ref q_82, .ref q_83, .ref q_84, .int 0, .int 0, .int 0]))] H := by rw [← eg_85]; exact hP
  have hD : va_D A [(a0, .inr (7, [.ref q_1, .int 0, .ref q_2, .ref q_3, .ref q_4, .ref q_5, .int 0, .ref q_6, .ref q_7, .ref q_8, .ref q_9, .ref q_10, .int 0, .ref q_11, .ref q_16, .ref q_21])), (q_1, .inl (cI, 26, .inl z0)), (q_2, .inl (cI, 6, .inl z0)), (q_3, .inl (cI, 81, .inl z0)), (q_4, .inl (cI, 20, .inl z0)), (q_5, .inl (cI, 20, .inl z0)), (q_6, .inl (cI, 9, .inl z0)), (q_7, .inl (cI, 9, .inl z0)), (q_8, .inl (cI, 36, .inl z0)), (q_9, .inl (cI, 36, .inl z0)), (q_10, .inl (cR, 8, .inr (.inr (.inr (.inr g_85))))), (q_11, .inr (9, [.ref q_14, .ref q_15, .int 0])), (q_14, .inl (cI, 96, .inl z0)), (q_15, .inl (cI, 12, .inl z0)), (q_16, .inr (9, [.ref q_19, .ref q_20, .int 0])), (q_19, .inl (cI, 64, .inl z0)), (q_20, .inl (cI, 8, .inl z0)), (q_21, .inl (cI, 8, .inl z0)), (q_78, .inr (4, [.int 0, .int 0, .int 0, .int 0, .ref q_81, .ref q_82, .ref q_83, .ref q_84, .int 0, .int 0, .int 0]))] := by rw [← eg_85]; exact hD
  have hP : va_P (dC, dI) vwCl [(a0, .inr (7, [.ref q_1, .int 0, .ref q_2, .ref q_3, .ref q_4, .ref q_5, .int 0, .ref q_6, .ref q_7, .ref q_8, .ref q_9, .ref q_10, .int 0, .ref q_11, .ref q_16, .ref q_21])), (q_1, .inl (cI, 26, .inl z0)), (q_2, .inl (cI, 6, .inl z0)), (q_3, .inl (cI, 81, .inl z0)), (q_4, .inl (cI, 20, .inl z0)), (q_5, .inl (cI, 20, .inl z0)), (q_6, .inl (cI, 9, .inl z0)), (q_7, .inl (cI, 9, .inl z0)), (q_8, .inl (cI, 36, .inl z0)), (q_9, .inl (cI, 36, .inl z0)), (q_10, .inl (cR, 8, .inr (.inr (.inr (.inr g_85))))), (q_11, .inr (9, [.ref q_14, .ref q_15, .int 0])), (q_14, .inl (cI, 96, .inl z0)), (q_15, .inl (cI, 12, .inl z0)), (q_16, .inr (9, [.ref q_19, .ref q_20, .int 0])), (q_19, .inl (cI, 64, .inl z0)), (q_20, .inl (cI, 8, .inl z0)), (q_21, .inl (cI, 8, .inl z0))] H := hP.sub [0, 1, 2, 3, 4, 5, 6, 7, 8, 9, 10, 11, 12, 13, 14, 15, 16, 17] rfl
  have hD : va_D A [(a0, .inr (7, [.ref q_1, .int 0, .ref q_2, .ref q_3, .ref q_4, .ref q_5, .int 0, .ref q_6, .ref q_7, .ref q_8, .ref q_9, .ref q_10, .int 0, .ref q_11, .ref q_16, .ref q_21])), (q_1, .inl (cI, 26, .inl z0)), (q_2, .inl (cI, 6, .inl z0)), (q_3, .inl (cI, 81, .inl z0)), (q_4, .inl (cI, 20, .inl z0)), (q_5, .inl (cI, 20, .inl z0)), (q_6, .inl (cI, 9, .inl z0)), (q_7, .inl (cI, 9, .inl z0)), (q_8, .inl (cI, 36, .inl z0)), (q_9, .inl (cI, 36, .inl z0)), (q_10, .inl (cR, 8, .inr (.inr (.inr (.inr g_85))))), (q_11, .inr (9, [.ref q_14, .ref q_15, .int 0])), (q_14, .inl (cI, 96, .inl z0)), (q_15, .inl (cI, 12, .inl z0)), (q_16, .inr (9, [.ref q_19, .ref q_20, .int 0])), (q_19, .inl (cI, 64, .inl z0)), (q_20, .inl (cI, 8, .inl z0)), (q_21, .inl (cI, 8, .inl z0))] := hD.sub [0, 1, 2, 3, 4, 5, 6, 7, 8, 9, 10, 11, 12, 13, 14, 15, 16, 17] (by decide) rfl
  refine lv_iinc (v := 8) (lv' := [(1, .int 8), (0, .ref a0)]) hx hb dX7_init_140 hl (k := 0) rfl (by decide) (by decide) rfl (fun ls hl => ?_)
  refine lv_goto (tgt := 121) hx hb dX7_init_143 (by decide) ?_
  refine lv_iload_n hx hb dX7_init_121 rfl (lv_at hl 0 rfl) ?_
  refine lv_bipush (v := 8) hx hb dX7_init_122 (by decide) ?_
  refine lv_icmp_ge (tgt := 146) hx hb dX7_init_124 (by decide) (fun _ => ?_) (fun c9 => absurd (by decide) c9) 
  have hP9 := hP.sub (ws' := [(a0, .inr (7, [.ref q_1, .int 0, .ref q_2, .ref q_3, .ref q_4, .ref q_5, .int 0, .ref q_6, .ref q_7, .ref q_8, .ref q_9, .ref q_10, .int 0, .ref q_11, .ref q_16, .ref q_21])), (q_1, .inl (cI, 26, .inl z0)), (q_2, .inl (cI, 6, .inl z0)), (q_3, .inl (cI, 81, .inl z0)), (q_4, .inl (cI, 20, .inl z0)), (q_5, .inl (cI, 20, .inl z0)), (q_6, .inl (cI, 9, .inl z0)), (q_7, .inl (cI, 9, .inl z0)), (q_8, .inl (cI, 36, .inl z0)), (q_9, .inl (cI, 36, .inl z0)), (q_11, .inr (9, [.ref q_14, .ref q_15, .int 0])), (q_14, .inl (cI, 96, .inl z0)), (q_15, .inl (cI, 12, .inl z0)), (q_16, .inr (9, [.ref q_19, .ref q_20, .int 0])), (q_19, .inl (cI, 64, .inl z0)), (q_20, .inl (cI, 8, .inl z0))]) [0, 1, 2, 3, 4, 5, 6, 7, 8, 9, 11, 12, 13, 14, 15, 16] rfl
  have hD9 := hD.sub (ws' := [(a0, .inr (7, [.ref q_1, .int 0, .ref q_2, .ref q_3, .ref q_4, .ref q_5, .int 0, .ref q_6, .ref q_7, .ref q_8, .ref q_9, .ref q_10, .int 0, .ref q_11, .ref q_16, .ref q_21])), (q_1, .inl (cI, 26, .inl z0)), (q_2, .inl (cI, 6, .inl z0)), (q_3, .inl (cI, 81, .inl z0)), (q_4, .inl (cI, 20, .inl z0)), (q_5, .inl (cI, 20, .inl z0)), (q_6, .inl (cI, 9, .inl z0)), (q_7, .inl (cI, 9, .inl z0)), (q_8, .inl (cI, 36, .inl z0)), (q_9, .inl (cI, 36, .inl z0)), (q_11, .inr (9, [.ref q_14, .ref q_15, .int 0])), (q_14, .inl (cI, 96, .inl z0)), (q_15, .inl (cI, 12, .inl z0)), (q_16, .inr (9, [.ref q_19, .ref q_20, .int 0])), (q_19, .inl (cI, 64, .inl z0)), (q_20, .inl (cI, 8, .inl z0))]) [0, 1, 2, 3, 4, 5, 6, 7, 8, 9, 11, 12, 13, 14, 15, 16] (by decide) rfl
  refine W.widen (k := 105) (n := 1749) (Nat.le_of_ble_eq_true rfl) (Nat.le_of_ble_eq_true rfl) ?_
  exact W.vret hx hb hr (fun t ht hW => ⟨⟨[(a0, .inr (7, [.ref q_1, .int 0, .ref q_2, .ref q_3, .ref q_4, .ref q_5, .int 0, .ref q_6, .ref q_7, .ref q_8, .ref q_9, .ref q_10, .int 0, .ref q_11, .ref q_16, .ref q_21])), (q_1, .inl (cI, 26, .inl z0)), (q_2, .inl (cI, 6, .inl z0)), (q_3, .inl (cI, 81, .inl z0)), (q_4, .inl (cI, 20, .inl z0)), (q_5, .inl (cI, 20, .inl z0)), (q_6, .inl (cI, 9, .inl z0)), (q_7, .inl (cI, 9, .inl z0)), (q_8, .inl (cI, 36, .inl z0)), (q_9, .inl (cI, 36, .inl z0)), (q_11, .inr (9, [.ref q_14, .ref q_15, .int 0])), (q_14, .inl (cI, 96, .inl z0)), (q_15, .inl (cI, 12, .inl z0)), (q_16, .inr (9, [.ref q_19, .ref q_20, .int 0])), (q_19, .inl (cI, 64, .inl z0)), (q_20, .inl (cI, 8, .inl z0))], rfl, ⟨q_1, q_2, q_3, q_4, q_5, q_6, q_7, q_8, q_9, q_10, q_11, q_16, q_21, q_14, q_15, q_19, q_20, rfl⟩, by rw [ht]; exact hP9, va_K.moved hW.alike hK, hD9⟩, hS.F ht⟩) hS.2.2 dX7_init_146
end
section
set_option maxHeartbeats 8000000 in
set_option maxRecDepth 100000 in
theorem cc_X10_init_0 (l : Launch) (D : va_G) (cI cL cZ : ClassId) (sz : Nat) (a0 : Nat) : mV l D cI cL cZ yX10_init cX10_init 1 none 1 30 1 200 [.ref a0] sz [(a0, .inr (10, [.null, .int 0, .int 0]))] (fun (w1 : va_W) => ∃ (q_1 : Nat), w1 = ([(a0, .inr (10, [.ref q_1, .int 0, .int 0]))] : va_W)) := by
  obtain ⟨dC, dI⟩ := D
  refine Met.ofW (cc := cX10_init) (maxL := 1) (ret := none) (by decide) rfl ?_
  intro p e s m args below meth c s₁ B hml hv
  obtain ⟨rfl, hsz, hP, hK, hD0, hN⟩ := hv
  have hx := B.exec
  have hb := B.bytes
  have hr := B.returns
  have hU : ∀ w ∈ wsU, w.before _ s = true := fun w h => atoms_spec (ws := wU yX10_init cX10_init 1 none) B.pre w (List.mem_cons_of_mem _ h)
  have hown : s.vm.findClass RX10 = some m.cls := findClass_of_methodNamed B.named
  have hlocks := B.notSynchronized
  have hin : meth.name = "<init>" := (name_of_methodNamed B.named B.method).1
  subst hsz
  have hD := hD0.self (sz := s.heap.size)
  generalize hAe : va_A [(a0, .inr (10, [.null, .int 0, .int 0]))] s.heap.size = A at hD ⊢
  have hA : ∀ q : Nat, s.heap.size ≤ q → A q := fun q h => by rw [← hAe]; exact Or.inr h
  have hS : va_S A s.heap s.heap [] := va_S.rf
  have hP : va_P (dC, dI) vwCl [(a0, .inr (10, [.null, .int 0, .int 0]))] s.heap := hP
  have hl := lv_entry ([.ref a0]) (n := 1) (Nat.le_of_ble_eq_true rfl)
  rw [lg_entry_eq]
  generalize (lg_sl ([.ref a0]) ++ List.replicate (1 - (lg_sl ([.ref a0])).length) Slot.unset).toArray = ls at hl ⊢
  have hl : lv_has ls 1 [(0, .ref a0)] := hl
  refine lv_aload_n hx hb dX10_init_0 rfl (lv_at hl 0 rfl) ?_
  refine W.objInit hx hb hown (hU _ wd_115) (hU _ wd_10) (hU _ wd_11) rfl (by rw [hml]; exact hl.1) rfl dX10_init_1 (Nat.le_of_ble_eq_true rfl) (Nat.le_of_ble_eq_true rfl) ?_
  refine W.eq (g2 := F0 m 4 ls []) rfl ?_
  refine lv_aload_n hx hb dX10_init_4 rfl (lv_at hl 0 rfl) ?_
  refine lv_sipush (v := 200) hx hb dX10_init_5 (by decide) ?_
  refine tk_newa (atype := .int) (ty := .int) (a0 := (200, .inl z0)) hx hb 0 (hU (.arrayClass .int) wd_12) rfl (fun _ => Iff.rfl) hK rfl hP hD hS hA (fun _ => rfl) (by decide) (by decide) (Nat.le_of_ble_eq_true rfl) (Nat.le_of_ble_eq_true rfl) (Nat.le_of_ble_eq_true rfl) dX10_init_8 (fun q_1 H hP hD hS => ?_)
  have hP : va_P (dC, dI) vwCl [(a0, .inr (10, [.null, .int 0, .int 0])), (q_1, .inl (cI, 200, .inl z0))] H := hP
  have hD : va_D A [(a0, .inr (10, [.null, .int 0, .int 0])), (q_1, .inl (cI, 200, .inl z0))] := hD
  refine W.widen (k := 1) (n := 200) (Nat.le_of_ble_eq_true rfl) (Nat.le_of_ble_eq_true rfl) ?_
  refine va_putF (D := (dC, dI)) (ci := 10) (v := .ref q_1) (ty := .array .int) (C := RX10) (T := TX10) (N := 3) hx hb hU inlX10 tyX10 tyX10_ok nmX10 hown hK hP hD hS 0 rfl rfl 0 (by decide) (hU _ wd_116) (fun _ h9 => h9) rfl hin rfl (by decide +kernel) rfl rfl (Nat.le_of_ble_eq_true rfl) dX10_init_10 (fun H locs hP hD hS => ?_)
  have hP : va_P (dC, dI) vwCl [(a0, .inr (10, [.ref q_1, .int 0, .int 0])), (q_1, .inl (cI, 200, .inl z0))] H := hP
  have hD : va_D A [(a0, .inr (10, [.ref q_1, .int 0, .int 0])), (q_1, .inl (cI, 200, .inl z0))] := hD
  have hP9 := hP.sub (ws' := [(a0, .inr (10, [.ref q_1, .int 0, .int 0]))]) [0] rfl
  have hD9 := hD.sub (ws' := [(a0, .inr (10, [.ref q_1, .int 0, .int 0]))]) [0] (by decide) rfl
  refine W.widen (k := 1) (n := 200) (Nat.le_of_ble_eq_true rfl) (Nat.le_of_ble_eq_true rfl) ?_
  exact W.vret hx hb hr (fun t ht hW => ⟨⟨[(a0, .inr (10, [.ref q_1, .int 0, .int 0]))], rfl, ⟨q_1, rfl⟩, by rw [ht]; exact hP9, va_K.moved hW.alike hK, hD9⟩, hS.F ht⟩) hS.2.2 dX10_init_13
set_option maxHeartbeats 8000000 in
set_option maxRecDepth 100000 in
theorem cc_X8_init_0 (l : Launch) (D : va_G) (cI cL cZ : ClassId) (sz : Nat) (a0 : Nat) : mV l D cI cL cZ yX8_init cX8_init 1 none 1 30 5 1050 [.ref a0] sz [(a0, .inr (8, [.null, .null, .null, .null, .null]))] (fun (w1 : va_W) => w1 = ([] : va_W)) := by
  obtain ⟨dC, dI⟩ := D
  refine Met.ofW (cc := cX8_init) (maxL := 1) (ret := none) (by decide) rfl ?_
  intro p e s m args below meth c s₁ B hml hv
  obtain ⟨rfl, hsz, hP, hK, hD0, hN⟩ := hv
  have hx := B.exec
  have hb := B.bytes
  have hr := B.returns
  have hU : ∀ w ∈ wsU, w.before _ s = true := fun w h => atoms_spec (ws := wU yX8_init cX8_init 1 none) B.pre w (List.mem_cons_of_mem _ h)
  have hown : s.vm.findClass RX8 = some m.cls := findClass_of_methodNamed B.named
  have hlocks := B.notSynchronized
  have hin : meth.name = "<init>" := (name_of_methodNamed B.named B.method).1
  subst hsz
  have hD := hD0.self (sz := s.heap.size)
  generalize hAe : va_A [(a0, .inr (8, [.null, .null, .null, .null, .null]))] s.heap.size = A at hD ⊢
  have hA : ∀ q : Nat, s.heap.size ≤ q → A q := fun q h => by rw [← hAe]; exact Or.inr h
  have hS : va_S A s.heap s.heap [] := va_S.rf
  have hP : va_P (dC, dI) vwCl [(a0, .inr (8, [.null, .null, .null, .null, .null]))] s.heap := hP
  have hl := lv_entry ([.ref a0]) (n := 1) (Nat.le_of_ble_eq_true rfl)
  rw [lg_entry_eq]
  generalize (lg_sl ([.ref a0]) ++ List.replicate (1 - (lg_sl ([.ref a0])).length) Slot.unset).toArray = ls at hl ⊢
  have hl : lv_has ls 1 [(0, .ref a0)] := hl
  refine lv_aload_n hx hb dX8_init_0 rfl (lv_at hl 0 rfl) ?_
  refine W.objInit hx hb hown (hU _ wd_119) (hU _ wd_10) (hU _ wd_11) rfl (by rw [hml]; exact hl.1) rfl dX8_init_1 (Nat.le_of_ble_eq_true rfl) (Nat.le_of_ble_eq_true rfl) ?_
  refine W.eq (g2 := F0 m 4 ls []) rfl ?_
  refine lv_aload_n hx hb dX8_init_4 rfl (lv_at hl 0 rfl) ?_
  refine lv_bipush (v := 80) hx hb dX8_init_5 (by decide) ?_
  refine tk_newa (atype := .int) (ty := .int) (a0 := (80, .inl z0)) hx hb 0 (hU (.arrayClass .int) wd_12) rfl (fun _ => Iff.rfl) hK rfl hP hD hS hA (fun _ => rfl) (by decide) (by decide) (Nat.le_of_ble_eq_true rfl) (Nat.le_of_ble_eq_true rfl) (Nat.le_of_ble_eq_true rfl) dX8_init_7 (fun q_1 H hP hD hS => ?_)
  have hP : va_P (dC, dI) vwCl [(a0, .inr (8, [.null, .null, .null, .null, .null])), (q_1, .inl (cI, 80, .inl z0))] H := hP
  have hD : va_D A [(a0, .inr (8, [.null, .null, .null, .null, .null])), (q_1, .inl (cI, 80, .inl z0))] := hD
  refine W.widen (k := 1) (n := 80) (Nat.le_of_ble_eq_true rfl) (Nat.le_of_ble_eq_true rfl) ?_
  refine va_putF (D := (dC, dI)) (ci := 8) (v := .ref q_1) (ty := .array .int) (C := RX8) (T := TX8) (N := 5) hx hb hU inlX8 tyX8 tyX8_ok nmX8 hown hK hP hD hS 0 rfl rfl 0 (by decide) (hU _ wd_120) (fun _ h9 => h9) rfl hin rfl (by decide +kernel) rfl rfl (Nat.le_of_ble_eq_true rfl) dX8_init_9 (fun H locs hP hD hS => ?_)
  have hP : va_P (dC, dI) vwCl [(a0, .inr (8, [.ref q_1, .null, .null, .null, .null])), (q_1, .inl (cI, 80, .inl z0))] H := hP
  have hD : va_D A [(a0, .inr (8, [.ref q_1, .null, .null, .null, .null])), (q_1, .inl (cI, 80, .inl z0))] := hD
  refine lv_aload_n hx hb dX8_init_12 rfl (lv_at hl 0 rfl) ?_
  refine lv_bipush (v := 80) hx hb dX8_init_13 (by decide) ?_
  refine tk_newa (atype := .int) (ty := .int) (a0 := (80, .inl z0)) hx hb 0 (hU (.arrayClass .int) wd_12) rfl (fun _ => Iff.rfl) hK rfl hP hD hS hA (fun _ => rfl) (by decide) (by decide) (Nat.le_of_ble_eq_true rfl) (Nat.le_of_ble_eq_true rfl) (Nat.le_of_ble_eq_true rfl) dX8_init_15 (fun q_2 H hP hD hS => ?_)
  have hP : va_P (dC, dI) vwCl [(a0, .inr (8, [.ref q_1, .null, .null, .null, .null])), (q_1, .inl (cI, 80, .inl z0)), (q_2, .inl (cI, 80, .inl z0))] H := hP
  have hD : va_D A [(a0, .inr (8, [.ref q_1, .null, .null, .null, .null])), (q_1, .inl (cI, 80, .inl z0)), (q_2, .inl (cI, 80, .inl z0))] := hD
  refine W.widen (k := 2) (n := 160) (Nat.le_of_ble_eq_true rfl) (Nat.le_of_ble_eq_true rfl) ?_
  refine va_putF (D := (dC, dI)) (ci := 8) (v := .ref q_2) (ty := .array .int) (C := RX8) (T := TX8) (N := 5) hx hb hU inlX8 tyX8 tyX8_ok nmX8 hown hK hP hD hS 0 rfl rfl 1 (by decide) (hU _ wd_121) (fun _ h9 => h9) rfl hin rfl (by decide +kernel) rfl rfl (Nat.le_of_ble_eq_true rfl) dX8_init_17 (fun H locs hP hD hS => ?_)
  have hP : va_P (dC, dI) vwCl [(a0, .inr (8, [.ref q_1, .ref q_2, .null, .null, .null])), (q_1, .inl (cI, 80, .inl z0)), (q_2, .inl (cI, 80, .inl z0))] H := hP
  have hD : va_D A [(a0, .inr (8, [.ref q_1, .ref q_2, .null, .null, .null])), (q_1, .inl (cI, 80, .inl z0)), (q_2, .inl (cI, 80, .inl z0))] := hD
  refine lv_aload_n hx hb dX8_init_20 rfl (lv_at hl 0 rfl) ?_
  refine lv_bipush (v := 80) hx hb dX8_init_21 (by decide) ?_
  refine tk_newa (atype := .int) (ty := .int) (a0 := (80, .inl z0)) hx hb 0 (hU (.arrayClass .int) wd_12) rfl (fun _ => Iff.rfl) hK rfl hP hD hS hA (fun _ => rfl) (by decide) (by decide) (Nat.le_of_ble_eq_true rfl) (Nat.le_of_ble_eq_true rfl) (Nat.le_of_ble_eq_true rfl) dX8_init_23 (fun q_3 H hP hD hS => ?_)
  have hP : va_P (dC, dI) vwCl [(a0, .inr (8, [.ref q_1, .ref q_2, .null, .null, .null])), (q_1, .inl (cI, 80, .inl z0)), (q_2, .inl (cI, 80, .inl z0)), (q_3, .inl (cI, 80, .inl z0))] H := hP
  have hD : va_D A [(a0, .inr (8, [.ref q_1, .ref q_2, .null, .null, .null])), (q_1, .inl (cI, 80, .inl z0)), (q_2, .inl (cI, 80, .inl z0)), (q_3, .inl (cI, 80, .inl z0))] := hD
  refine W.widen (k := 3) (n := 240) (Nat.le_of_ble_eq_true rfl) (Nat.le_of_ble_eq_true rfl) ?_
  refine va_putF (D := (dC, dI)) (ci := 8) (v := .ref q_3) (ty := .array .int) (C := RX8) (T := TX8) (N := 5) hx hb hU inlX8 tyX8 tyX8_ok nmX8 hown hK hP hD hS 0 rfl rfl 2 (by decide) (hU _ wd_122) (fun _ h9 => h9) rfl hin rfl (by decide +kernel) rfl rfl (Nat.le_of_ble_eq_true rfl) dX8_init_25 (fun H locs hP hD hS => ?_)
  have hP : va_P (dC, dI) vwCl [(a0, .inr (8, [.ref q_1, .ref q_2, .ref q_3, .null, .null])), (q_1, .inl (cI, 80, .inl z0)), (q_2, .inl (cI, 80, .inl z0)), (q_3, .inl (cI, 80, .inl z0))] H := hP
  have hD : va_D A [(a0, .inr (8, [.ref q_1, .ref q_2, .ref q_3, .null, .null])), (q_1, .inl (cI, 80, .inl z0)), (q_2, .inl (cI, 80, .inl z0)), (q_3, .inl (cI, 80, .inl z0))] := hD
  refine lv_aload_n hx hb dX8_init_28 rfl (lv_at hl 0 rfl) ?_
  refine lv_sipush (v := 800) hx hb dX8_init_29 (by decide) ?_
  refine tk_newa (atype := .int) (ty := .int) (a0 := (800, .inl z0)) hx hb 0 (hU (.arrayClass .int) wd_12) rfl (fun _ => Iff.rfl) hK rfl hP hD hS hA (fun _ => rfl) (by decide) (by decide) (Nat.le_of_ble_eq_true rfl) (Nat.le_of_ble_eq_true rfl) (Nat.le_of_ble_eq_true rfl) dX8_init_32 (fun q_4 H hP hD hS => ?_)
  have hP : va_P (dC, dI) vwCl [(a0, .inr (8, [.ref q_1, .ref q_2, .ref q_3, .null, .null])), (q_1, .inl (cI, 80, .inl z0)), (q_2, .inl (cI, 80, .inl z0)), (q_3, .inl (cI, 80, .inl z0)), (q_4, .inl (cI, 800, .inl z0))] H := hP
  have hD : va_D A [(a0, .inr (8, [.ref q_1, .ref q_2, .ref q_3, .null, .null])), (q_1, .inl (cI, 80, .inl z0)), (q_2, .inl (cI, 80, .inl z0)), (q_3, .inl (cI, 80, .inl z0)), (q_4, .inl (cI, 800, .inl z0))] := hD
  refine W.widen (k := 4) (n := 1040) (Nat.le_of_ble_eq_true rfl) (Nat.le_of_ble_eq_true rfl) ?_
  refine va_putF (D := (dC, dI)) (ci := 8) (v := .ref q_4) (ty := .array .int) (C := RX8) (T := TX8) (N := 5) hx hb hU inlX8 tyX8 tyX8_ok nmX8 hown hK hP hD hS 0 rfl rfl 3 (by decide) (hU _ wd_123) (fun _ h9 => h9) rfl hin rfl (by decide +kernel) rfl rfl (Nat.le_of_ble_eq_true rfl) dX8_init_34 (fun H locs hP hD hS => ?_)
  have hP : va_P (dC, dI) vwCl [(a0, .inr (8, [.ref q_1, .ref q_2, .ref q_3, .ref q_4, .null])), (q_1, .inl (cI, 80, .inl z0)), (q_2, .inl (cI, 80, .inl z0)), (q_3, .inl (cI, 80, .inl z0)), (q_4, .inl (cI, 800, .inl z0))] H := hP
  have hD : va_D A [(a0, .inr (8, [.ref q_1, .ref q_2, .ref q_3, .ref q_4, .null])), (q_1, .inl (cI, 80, .inl z0)), (q_2, .inl (cI, 80, .inl z0)), (q_3, .inl (cI, 80, .inl z0)), (q_4, .inl (cI, 800, .inl z0))] := hD
  refine lv_aload_n hx hb dX8_init_37 rfl (lv_at hl 0 rfl) ?_
  refine lv_bipush (v := 10) hx hb dX8_init_38 (by decide) ?_
  refine tk_newa (atype := .int) (ty := .int) (a0 := (10, .inl z0)) hx hb 0 (hU (.arrayClass .int) wd_12) rfl (fun _ => Iff.rfl) hK rfl hP hD hS hA (fun _ => rfl) (by decide) (by decide) (Nat.le_of_ble_eq_true rfl) (Nat.le_of_ble_eq_true rfl) (Nat.le_of_ble_eq_true rfl) dX8_init_40 (fun q_5 H hP hD hS => ?_)
  have hP : va_P (dC, dI) vwCl [(a0, .inr (8, [.ref q_1, .ref q_2, .ref q_3, .ref q_4, .null])), (q_1, .inl (cI, 80, .inl z0)), (q_2, .inl (cI, 80, .inl z0)), (q_3, .inl (cI, 80, .inl z0)), (q_4, .inl (cI, 800, .inl z0)), (q_5, .inl (cI, 10, .inl z0))] H := hP
  have hD : va_D A [(a0, .inr (8, [.ref q_1, .ref q_2, .ref q_3, .ref q_4, .null])), (q_1, .inl (cI, 80, .inl z0)), (q_2, .inl (cI, 80, .inl z0)), (q_3, .inl (cI, 80, .inl z0)), (q_4, .inl (cI, 800, .inl z0)), (q_5, .inl (cI, 10, .inl z0))] := hD
  refine W.widen (k := 5) (n := 1050) (Nat.le_of_ble_eq_true rfl) (Nat.le_of_ble_eq_true rfl) ?_
  refine va_putF (D := (dC, dI)) (ci := 8) (v := .ref q_5) (ty := .array .int) (C := RX8) (T := TX8) (N := 5) hx hb hU inlX8 tyX8 tyX8_ok nmX8 hown hK hP hD hS 0 rfl rfl 4 (by decide) (hU _ wd_124) (fun _ h9 => h9) rfl hin rfl (by decide +kernel) rfl rfl (Nat.le_of_ble_eq_true rfl) dX8_init_42 (fun H locs hP hD hS => ?_)
  have hP : va_P (dC, dI) vwCl [(a0, .inr (8, [.ref q_1, .ref q_2, .ref q_3, .ref q_4, .ref q_5])), (q_1, .inl (cI, 80, .inl z0)), (q_2, .inl (cI, 80, .inl z0)), (q_3, .inl (cI, 80, .inl z0)), (q_4, .inl (cI, 800, .inl z0)), (q_5, .inl (cI, 10, .inl z0))] H := hP
  have hD : va_D A [(a0, .inr (8, [.ref q_1, .ref q_2, .ref q_3, .ref q_4, .ref q_5])), (q_1, .inl (cI, 80, .inl z0)), (q_2, .inl (cI, 80, .inl z0)), (q_3, .inl (cI, 80, .inl z0)), (q_4, .inl (cI, 800, .inl z0)), (q_5, .inl (cI, 10, .inl z0))] := hD
  have hP9 := hP.sub (ws' := []) [] rfl
  have hD9 := hD.sub (ws' := []) [] (by decide) rfl
  refine W.widen (k := 5) (n := 1050) (Nat.le_of_ble_eq_true rfl) (Nat.le_of_ble_eq_true rfl) ?_
  exact W.vret hx hb hr (fun t ht hW => ⟨⟨[], rfl, rfl, by rw [ht]; exact hP9, va_K.moved hW.alike hK, hD9⟩, hS.F ht⟩) hS.2.2 dX8_init_45
set_option maxHeartbeats 8000000 in
set_option maxRecDepth 100000 in
theorem cc_X1_init_0 (l : Launch) (D : va_G) (cI cL cZ : ClassId) (sz : Nat) (a0 : Nat) : mV l D cI cL cZ yX1_init cX1_init 1 none 1 30 3 36953 [.ref a0] sz [(a0, .inr (1, [.null, .null, .null, .int 0, .int 0, .int 0]))] (fun (w1 : va_W) => w1 = ([] : va_W)) := by
  obtain ⟨dC, dI⟩ := D
  refine Met.ofW (cc := cX1_init) (maxL := 1) (ret := none) (by decide) rfl ?_
  intro p e s m args below meth c s₁ B hml hv
  obtain ⟨rfl, hsz, hP, hK, hD0, hN⟩ := hv
  have hx := B.exec
  have hb := B.bytes
  have hr := B.returns
  have hU : ∀ w ∈ wsU, w.before _ s = true := fun w h => atoms_spec (ws := wU yX1_init cX1_init 1 none) B.pre w (List.mem_cons_of_mem _ h)
  have hown : s.vm.findClass RX1 = some m.cls := findClass_of_methodNamed B.named
  have hlocks := B.notSynchronized
  have hin : meth.name = "<init>" := (name_of_methodNamed B.named B.method).1
  subst hsz
  have hD := hD0.self (sz := s.heap.size)
  generalize hAe : va_A [(a0, .inr (1, [.null, .null, .null, .int 0, .int 0, .int 0]))] s.heap.size = A at hD ⊢
  have hA : ∀ q : Nat, s.heap.size ≤ q → A q := fun q h => by rw [← hAe]; exact Or.inr h
  have hS : va_S A s.heap s.heap [] := va_S.rf
  have hP : va_P (dC, dI) vwCl [(a0, .inr (1, [.null, .null, .null, .int 0, .int 0, .int 0]))] s.heap := hP
  have hl := lv_entry ([.ref a0]) (n := 1) (Nat.le_of_ble_eq_true rfl)
  rw [lg_entry_eq]
  generalize (lg_sl ([.ref a0]) ++ List.replicate (1 - (lg_sl ([.ref a0])).length) Slot.unset).toArray = ls at hl ⊢
  have hl : lv_has ls 1 [(0, .ref a0)] := hl
  refine lv_aload_n hx hb dX1_init_0 rfl (lv_at hl 0 rfl) ?_
  refine W.objInit hx hb hown (hU _ wd_127) (hU _ wd_10) (hU _ wd_11) rfl (by rw [hml]; exact hl.1) rfl dX1_init_1 (Nat.le_of_ble_eq_true rfl) (Nat.le_of_ble_eq_true rfl) ?_
  refine W.eq (g2 := F0 m 4 ls []) rfl ?_
  refine lv_aload_n hx hb dX1_init_4 rfl (lv_at hl 0 rfl) ?_
  refine lv_sipush (v := 4096) hx hb dX1_init_5 (by decide) ?_
  refine tk_newa (atype := .int) (ty := .int) (a0 := (4096, .inl z0)) hx hb 0 (hU (.arrayClass .int) wd_12) rfl (fun _ => Iff.rfl) hK rfl hP hD hS hA (fun _ => rfl) (by decide) (by decide) (Nat.le_of_ble_eq_true rfl) (Nat.le_of_ble_eq_true rfl) (Nat.le_of_ble_eq_true rfl) dX1_init_8 (fun q_1 H hP hD hS => ?_)
  have hP : va_P (dC, dI) vwCl [(a0, .inr (1, [.null, .null, .null, .int 0, .int 0, .int 0])), (q_1, .inl (cI, 4096, .inl z0))] H := hP
  have hD : va_D A [(a0, .inr (1, [.null, .null, .null, .int 0, .int 0, .int 0])), (q_1, .inl (cI, 4096, .inl z0))] := hD
  refine W.widen (k := 1) (n := 4096) (Nat.le_of_ble_eq_true rfl) (Nat.le_of_ble_eq_true rfl) ?_
  refine va_putF (D := (dC, dI)) (ci := 1) (v := .ref q_1) (ty := .array .int) (C := RX1) (T := TX1) (N := 6) hx hb hU inlX1 tyX1 tyX1_ok nmX1 hown hK hP hD hS 0 rfl rfl 0 (by decide) (hU _ wd_128) (fun _ h9 => h9) rfl hin rfl (by decide +kernel) rfl rfl (Nat.le_of_ble_eq_true rfl) dX1_init_10 (fun H locs hP hD hS => ?_)
  have hP : va_P (dC, dI) vwCl [(a0, .inr (1, [.ref q_1, .null, .null, .int 0, .int 0, .int 0])), (q_1, .inl (cI, 4096, .inl z0))] H := hP
  have hD : va_D A [(a0, .inr (1, [.ref q_1, .null, .null, .int 0, .int 0, .int 0])), (q_1, .inl (cI, 4096, .inl z0))] := hD
  refine lv_aload_n hx hb dX1_init_13 rfl (lv_at hl 0 rfl) ?_
  refine lv_ldc (v := 32768) hx hb hown (hU _ wd_129) dX1_init_14 ?_
  refine tk_newa (atype := .long) (ty := .long) (a0 := (32768, .inr (.inl (fun _ => 0)))) hx hb 1 (hU (.arrayClass .long) wd_130) rfl (fun _ => Iff.rfl) hK rfl hP hD hS hA (fun _ => rfl) (by decide) (by decide) (Nat.le_of_ble_eq_true rfl) (Nat.le_of_ble_eq_true rfl) (Nat.le_of_ble_eq_true rfl) dX1_init_16 (fun q_2 H hP hD hS => ?_)
  have hP : va_P (dC, dI) vwCl [(a0, .inr (1, [.ref q_1, .null, .null, .int 0, .int 0, .int 0])), (q_1, .inl (cI, 4096, .inl z0)), (q_2, .inl (cL, 32768, .inr (.inl (fun _ => 0))))] H := hP
  have hD : va_D A [(a0, .inr (1, [.ref q_1, .null, .null, .int 0, .int 0, .int 0])), (q_1, .inl (cI, 4096, .inl z0)), (q_2, .inl (cL, 32768, .inr (.inl (fun _ => 0))))] := hD
  refine W.widen (k := 2) (n := 36864) (Nat.le_of_ble_eq_true rfl) (Nat.le_of_ble_eq_true rfl) ?_
  refine va_putF (D := (dC, dI)) (ci := 1) (v := .ref q_2) (ty := .array .long) (C := RX1) (T := TX1) (N := 6) hx hb hU inlX1 tyX1 tyX1_ok nmX1 hown hK hP hD hS 0 rfl rfl 1 (by decide) (hU _ wd_131) (fun _ h9 => h9) rfl hin rfl (by decide +kernel) rfl rfl (Nat.le_of_ble_eq_true rfl) dX1_init_18 (fun H locs hP hD hS => ?_)
  have hP : va_P (dC, dI) vwCl [(a0, .inr (1, [.ref q_1, .ref q_2, .null, .int 0, .int 0, .int 0])), (q_1, .inl (cI, 4096, .inl z0)), (q_2, .inl (cL, 32768, .inr (.inl (fun _ => 0))))] H := hP
  have hD : va_D A [(a0, .inr (1, [.ref q_1, .ref q_2, .null, .int 0, .int 0, .int 0])), (q_1, .inl (cI, 4096, .inl z0)), (q_2, .inl (cL, 32768, .inr (.inl (fun _ => 0))))] := hD
  refine lv_aload_n hx hb dX1_init_21 rfl (lv_at hl 0 rfl) ?_
  refine lv_bipush (v := 89) hx hb dX1_init_22 (by decide) ?_
  refine tk_newa (atype := .long) (ty := .long) (a0 := (89, .inr (.inl (fun _ => 0)))) hx hb 1 (hU (.arrayClass .long) wd_130) rfl (fun _ => Iff.rfl) hK rfl hP hD hS hA (fun _ => rfl) (by decide) (by decide) (Nat.le_of_ble_eq_true rfl) (Nat.le_of_ble_eq_true rfl) (Nat.le_of_ble_eq_true rfl) dX1_init_24 (fun q_3 H hP hD hS => ?_)
  have hP : va_P (dC, dI) vwCl [(a0, .inr (1, [.ref q_1, .ref q_2, .null, .int 0, .int 0, .int 0])), (q_1, .inl (cI, 4096, .inl z0)), (q_2, .inl (cL, 32768, .inr (.inl (fun _ => 0)))), (q_3, .inl (cL, 89, .inr (.inl (fun _ => 0))))] H := hP
  have hD : va_D A [(a0, .inr (1, [.ref q_1, .ref q_2, .null, .int 0, .int 0, .int 0])), (q_1, .inl (cI, 4096, .inl z0)), (q_2, .inl (cL, 32768, .inr (.inl (fun _ => 0)))), (q_3, .inl (cL, 89, .inr (.inl (fun _ => 0))))] := hD
  refine W.widen (k := 3) (n := 36953) (Nat.le_of_ble_eq_true rfl) (Nat.le_of_ble_eq_true rfl) ?_
  refine va_putF (D := (dC, dI)) (ci := 1) (v := .ref q_3) (ty := .array .long) (C := RX1) (T := TX1) (N := 6) hx hb hU inlX1 tyX1 tyX1_ok nmX1 hown hK hP hD hS 0 rfl rfl 2 (by decide) (hU _ wd_132) (fun _ h9 => h9) rfl hin rfl (by decide +kernel) rfl rfl (Nat.le_of_ble_eq_true rfl) dX1_init_26 (fun H locs hP hD hS => ?_)
  have hP : va_P (dC, dI) vwCl [(a0, .inr (1, [.ref q_1, .ref q_2, .ref q_3, .int 0, .int 0, .int 0])), (q_1, .inl (cI, 4096, .inl z0)), (q_2, .inl (cL, 32768, .inr (.inl (fun _ => 0)))), (q_3, .inl (cL, 89, .inr (.inl (fun _ => 0))))] H := hP
  have hD : va_D A [(a0, .inr (1, [.ref q_1, .ref q_2, .ref q_3, .int 0, .int 0, .int 0])), (q_1, .inl (cI, 4096, .inl z0)), (q_2, .inl (cL, 32768, .inr (.inl (fun _ => 0)))), (q_3, .inl (cL, 89, .inr (.inl (fun _ => 0))))] := hD
  have hP9 := hP.sub (ws' := []) [] rfl
  have hD9 := hD.sub (ws' := []) [] (by decide) rfl
  refine W.widen (k := 3) (n := 36953) (Nat.le_of_ble_eq_true rfl) (Nat.le_of_ble_eq_true rfl) ?_
  exact W.vret hx hb hr (fun t ht hW => ⟨⟨[], rfl, rfl, by rw [ht]; exact hP9, va_K.moved hW.alike hK, hD9⟩, hS.F ht⟩) hS.2.2 dX1_init_29
set_option maxHeartbeats 8000000 in
set_option maxRecDepth 100000 in
theorem cc_X3_init_0 (l : Launch) (D : va_G) (cI cL cZ : ClassId) (sz : Nat) (a0 : Nat) : mV l D cI cL cZ yX3_init cX3_init 1 none 4 91 124 48864 [.ref a0] sz [(a0, .inr (3, [.null, .null, .null, .null, .null, .int 0, .int 0, .int 0, .int 0, .int 0, .int 0, .int 0, .null, .null, .null, .int 0, .null, .null]))] (fun (w1 : va_W) => ∃ (q_1 : Nat) (q_21 : Nat) (q_25 : Nat) (q_28 : Nat) (q_31 : Nat) (q_32 : Nat) (q_33 : Nat) (q_34 : Nat) (q_35 : Nat) (q_36 : Nat) (q_4 : Nat) (q_5 : Nat) (q_6 : Nat) (q_7 : Nat) (q_8 : Nat) (q_9 : Nat) (q_10 : Nat) (q_11 : Nat) (q_12 : Nat) (q_13 : Nat) (q_14 : Nat) (q_15 : Nat) (q_16 : Nat) (q_17 : Nat) (q_18 : Nat) (q_19 : Nat) (q_20 : Nat) (q_24 : Nat), w1 = ([(a0, .inr (3, [.ref q_1, .ref q_21, .ref q_25, .ref q_28, .ref q_31, .int 0, .int 0, .int 0, .int 0, .int 0, .int 0, .int (-1), .ref q_32, .ref q_33, .ref q_34, .int 0, .ref q_35, .ref q_36])), (q_1, .inr (7, [.ref q_4, .int 0, .ref q_5, .ref q_6, .ref q_7, .ref q_8, .int 0, .ref q_9, .ref q_10, .ref q_11, .ref q_12, .ref q_13, .int 0, .ref q_14, .ref q_15, .ref q_16])), (q_4, .inl (cI, 26, .inl z0)), (q_5, .inl (cI, 6, .inl z0)), (q_6, .inl (cI, 81, .inl z0)), (q_7, .inl (cI, 20, .inl z0)), (q_8, .inl (cI, 20, .inl z0)), (q_9, .inl (cI, 9, .inl z0)), (q_10, .inl (cI, 9, .inl z0)), (q_11, .inl (cI, 36, .inl z0)), (q_12, .inl (cI, 36, .inl z0)), (q_14, .inr (9, [.ref q_17, .ref q_18, .int 0])), (q_17, .inl (cI, 96, .inl z0)), (q_18, .inl (cI, 12, .inl z0)), (q_15, .inr (9, [.ref q_19, .ref q_20, .int 0])), (q_19, .inl (cI, 64, .inl z0)), (q_20, .inl (cI, 8, .inl z0)), (q_21, .inr (10, [.ref q_24, .int 0, .int 0])), (q_36, .inl (cI, 256, .inl z0))] : va_W)) := by
  obtain ⟨dC, dI⟩ := D
  refine Met.ofW (cc := cX3_init) (maxL := 1) (ret := none) (by decide) rfl ?_
  intro p e s m args below meth c s₁ B hml hv
  obtain ⟨rfl, hsz, hP, hK, hD0, hN⟩ := hv
  have hx := B.exec
  have hb := B.bytes
  have hr := B.returns
  have hU : ∀ w ∈ wsU, w.before _ s = true := fun w h => atoms_spec (ws := wU yX3_init cX3_init 1 none) B.pre w (List.mem_cons_of_mem _ h)
  have hown : s.vm.findClass RX3 = some m.cls := findClass_of_methodNamed B.named
  have hlocks := B.notSynchronized
  have hin : meth.name = "<init>" := (name_of_methodNamed B.named B.method).1
  subst hsz
  have hD := hD0.self (sz := s.heap.size)
  generalize hAe : va_A [(a0, .inr (3, [.null, .null, .null, .null, .null, .int 0, .int 0, .int 0, .int 0, .int 0, .int 0, .int 0, .null, .null, .null, .int 0, .null, .null]))] s.heap.size = A at hD ⊢
  have hA : ∀ q : Nat, s.heap.size ≤ q → A q := fun q h => by rw [← hAe]; exact Or.inr h
  have hS : va_S A s.heap s.heap [] := va_S.rf
  have hP : va_P (dC, dI) vwCl [(a0, .inr (3, [.null, .null, .null, .null, .null, .int 0, .int 0, .int 0, .int 0, .int 0, .int 0, .int 0, .null, .null, .null, .int 0, .null, .null]))] s.heap := hP
  have hl := lv_entry ([.ref a0]) (n := 1) (Nat.le_of_ble_eq_true rfl)
  rw [lg_entry_eq]
  generalize (lg_sl ([.ref a0]) ++ List.replicate (1 - (lg_sl ([.ref a0])).length) Slot.unset).toArray = ls at hl ⊢
  have hl : lv_has ls 1 [(0, .ref a0)] := hl
  refine lv_aload_n hx hb dX3_init_0 rfl (lv_at hl 0 rfl) ?_
  refine W.objInit hx hb hown (hU _ wd_46) (hU _ wd_10) (hU _ wd_11) rfl (by rw [hml]; exact hl.1) rfl dX3_init_1 (Nat.le_of_ble_eq_true rfl) (Nat.le_of_ble_eq_true rfl) ?_
  refine W.eq (g2 := F0 m 4 ls []) rfl ?_
  refine lv_aload_n hx hb dX3_init_4 rfl (lv_at hl 0 rfl) ?_
  refine va_new (ci := 7) (fs := [.null, .int 0, .null, .null, .null, .null, .int 0, .null, .null, .null, .null, .null, .int 0, .null, .null, .null]) (C := RX7) (T := TX7) (N := 16) hx hb hU inlX7 tyX7 tyX7_ok hown (hU _ wd_47) (hU _ wd_27) (hU _ wd_28) hK hP hD hS hA rfl dvX7 (Nat.le_of_ble_eq_true rfl) (Nat.le_of_ble_eq_true rfl) dX3_init_5 (fun q_1 H hP hD hS => ?_)
  have hP : va_P (dC, dI) vwCl [(a0, .inr (3, [.null, .null, .null, .null, .null, .int 0, .int 0, .int 0, .int 0, .int 0, .int 0, .int 0, .null, .null, .null, .int 0, .null, .null])), (q_1, .inr (7, [.null, .int 0, .null, .null, .null, .null, .int 0, .null, .null, .null, .null, .null, .int 0, .null, .null, .null]))] H := hP
  have hD : va_D A [(a0, .inr (3, [.null, .null, .null, .null, .null, .int 0, .int 0, .int 0, .int 0, .int 0, .int 0, .int 0, .null, .null, .null, .int 0, .null, .null])), (q_1, .inr (7, [.null, .int 0, .null, .null, .null, .null, .int 0, .null, .null, .null, .null, .null, .int 0, .null, .null, .null]))] := hD
  refine W.widen (k := 1) (n := 16) (Nat.le_of_ble_eq_true rfl) (Nat.le_of_ble_eq_true rfl) ?_
  refine lv_dup hx hb dX3_init_8 rfl ?_
  refine tk_rv (wr := [(a0, .inr (3, [.null, .null, .null, .null, .null, .int 0, .int 0, .int 0, .int 0, .int 0, .int 0, .int 0, .null, .null, .null, .int 0, .null, .null]))]) (tk_I (As := []) (rest := [.ref q_1, .ref a0]) (n := 0) hx hb hml hown hU hN (cc_X7_init_0 l (dC, dI) cI cL cZ H.size q_1) wd_68 wd_69 wd_28 wd_70 rfl (by decide +kernel) ⟨Nat.le_of_ble_eq_true rfl, Nat.le_of_ble_eq_true rfl⟩ hK hP hD [1] (by decide) rfl rfl hl.1 rfl (Nat.le_of_ble_eq_true rfl) dX3_init_9 ⟨Nat.le_of_ble_eq_true rfl, Nat.le_of_ble_eq_true rfl⟩) hP hD hS hA [1] [0] rfl rfl (by decide) (by decide) (fun w_3 H locs hw hP hD hS => ?_)
  obtain ⟨q_4, q_5, q_6, q_7, q_8, q_9, q_10, q_11, q_12, q_13, q_14, q_15, q_16, q_17, q_18, q_19, q_20, rfl⟩ := hw
  have hP : va_P (dC, dI) vwCl [(a0, .inr (3, [.null, .null, .null, .null, .null, .int 0, .int 0, .int 0, .int 0, .int 0, .int 0, .int 0, .null, .null, .null, .int 0, .null, .null])), (q_1, .inr (7, [.ref q_4, .int 0, .ref q_5, .ref q_6, .ref q_7, .ref q_8, .int 0, .ref q_9, .ref q_10, .ref q_11, .ref q_12, .ref q_13, .int 0, .ref q_14, .ref q_15, .ref q_16])), (q_4, .inl (cI, 26, .inl z0)), (q_5, .inl (cI, 6, .inl z0)), (q_6, .inl (cI, 81, .inl z0)), (q_7, .inl (cI, 20, .inl z0)), (q_8, .inl (cI, 20, .inl z0)), (q_9, .inl (cI, 9, .inl z0)), (q_10, .inl (cI, 9, .inl z0)), (q_11, .inl (cI, 36, .inl z0)), (q_12, .inl (cI, 36, .inl z0)), (q_14, .inr (9, [.ref q_17, .ref q_18, .int 0])), (q_17, .inl (cI, 96, .inl z0)), (q_18, .inl (cI, 12, .inl z0)), (q_15, .inr (9, [.ref q_19, .ref q_20, .int 0])), (q_19, .inl (cI, 64, .inl z0)), (q_20, .inl (cI, 8, .inl z0))] H := hP
  have hD : va_D A [(a0, .inr (3, [.null, .null, .null, .null, .null, .int 0, .int 0, .int 0, .int 0, .int 0, .int 0, .int 0, .null, .null, .null, .int 0, .null, .null])), (q_1, .inr (7, [.ref q_4, .int 0, .ref q_5, .ref q_6, .ref q_7, .ref q_8, .int 0, .ref q_9, .ref q_10, .ref q_11, .ref q_12, .ref q_13, .int 0, .ref q_14, .ref q_15, .ref q_16])), (q_4, .inl (cI, 26, .inl z0)), (q_5, .inl (cI, 6, .inl z0)), (q_6, .inl (cI, 81, .inl z0)), (q_7, .inl (cI, 20, .inl z0)), (q_8, .inl (cI, 20, .inl z0)), (q_9, .inl (cI, 9, .inl z0)), (q_10, .inl (cI, 9, .inl z0)), (q_11, .inl (cI, 36, .inl z0)), (q_12, .inl (cI, 36, .inl z0)), (q_14, .inr (9, [.ref q_17, .ref q_18, .int 0])), (q_17, .inl (cI, 96, .inl z0)), (q_18, .inl (cI, 12, .inl z0)), (q_15, .inr (9, [.ref q_19, .ref q_20, .int 0])), (q_19, .inl (cI, 64, .inl z0)), (q_20, .inl (cI, 8, .inl z0))] := hD
  refine W.widen (k := 106) (n := 1765) (Nat.le_of_ble_eq_true rfl) (Nat.le_of_ble_eq_true rfl) ?_
  refine va_putF (D := (dC, dI)) (ci := 3) (v := .ref q_1) (ty := .object "SaidShallow$Tongue") (C := RX3) (T := TX3) (N := 18) hx hb hU inlX3 tyX3 tyX3_ok nmX3 hown hK hP hD hS 0 rfl rfl 0 (by decide) (hU _ wd_48) (fun _ h9 => h9) rfl hin rfl (by decide +kernel) rfl rfl (Nat.le_of_ble_eq_true rfl) dX3_init_12 (fun H locs hP hD hS => ?_)
  have hP : va_P (dC, dI) vwCl [(a0, .inr (3, [.ref q_1, .null, .null, .null, .null, .int 0, .int 0, .int 0, .int 0, .int 0, .int 0, .int 0, .null, .null, .null, .int 0, .null, .null])), (q_1, .inr (7, [.ref q_4, .int 0, .ref q_5, .ref q_6, .ref q_7, .ref q_8, .int 0, .ref q_9, .ref q_10, .ref q_11, .ref q_12, .ref q_13, .int 0, .ref q_14, .ref q_15, .ref q_16])), (q_4, .inl (cI, 26, .inl z0)), (q_5, .inl (cI, 6, .inl z0)), (q_6, .inl (cI, 81, .inl z0)), (q_7, .inl (cI, 20, .inl z0)), (q_8, .inl (cI, 20, .inl z0)), (q_9, .inl (cI, 9, .inl z0)), (q_10, .inl (cI, 9, .inl z0)), (q_11, .inl (cI, 36, .inl z0)), (q_12, .inl (cI, 36, .inl z0)), (q_14, .inr (9, [.ref q_17, .ref q_18, .int 0])), (q_17, .inl (cI, 96, .inl z0)), (q_18, .inl (cI, 12, .inl z0)), (q_15, .inr (9, [.ref q_19, .ref q_20, .int 0])), (q_19, .inl (cI, 64, .inl z0)), (q_20, .inl (cI, 8, .inl z0))] H := hP
  have hD : va_D A [(a0, .inr (3, [.ref q_1, .null, .null, .null, .null, .int 0, .int 0, .int 0, .int 0, .int 0, .int 0, .int 0, .null, .null, .null, .int 0, .null, .null])), (q_1, .inr (7, [.ref q_4, .int 0, .ref q_5, .ref q_6, .ref q_7, .ref q_8, .int 0, .ref q_9, .ref q_10, .ref q_11, .ref q_12, .ref q_13, .int 0, .ref q_14, .ref q_15, .ref q_16])), (q_4, .inl (cI, 26, .inl z0)), (q_5, .inl (cI, 6, .inl z0)), (q_6, .inl (cI, 81, .inl z0)), (q_7, .inl (cI, 20, .inl z0)), (q_8, .inl (cI, 20, .inl z0)), (q_9, .inl (cI, 9, .inl z0)), (q_10, .inl (cI, 9, .inl z0)), (q_11, .inl (cI, 36, .inl z0)), (q_12, .inl (cI, 36, .inl z0)), (q_14, .inr (9, [.ref q_17, .ref q_18, .int 0])), (q_17, .inl (cI, 96, .inl z0)), (q_18, .inl (cI, 12, .inl z0)), (q_15, .inr (9, [.ref q_19, .ref q_20, .int 0])), (q_19, .inl (cI, 64, .inl z0)), (q_20, .inl (cI, 8, .inl z0))] := hD
  refine lv_aload_n hx hb dX3_init_15 rfl (lv_at hl 0 rfl) ?_
  refine va_new (ci := 10) (fs := [.null, .int 0, .int 0]) (C := RX10) (T := TX10) (N := 3) hx hb hU inlX10 tyX10 tyX10_ok hown (hU _ wd_49) (hU _ wd_50) (hU _ wd_51) hK hP hD hS hA rfl dvX10 (Nat.le_of_ble_eq_true rfl) (Nat.le_of_ble_eq_true rfl) dX3_init_16 (fun q_21 H hP hD hS => ?_)
  have hP : va_P (dC, dI) vwCl [(a0, .inr (3, [.ref q_1, .null, .null, .null, .null, .int 0, .int 0, .int 0, .int 0, .int 0, .int 0, .int 0, .null, .null, .null, .int 0, .null, .null])), (q_1, .inr (7, [.ref q_4, .int 0, .ref q_5, .ref q_6, .ref q_7, .ref q_8, .int 0, .ref q_9, .ref q_10, .ref q_11, .ref q_12, .ref q_13, .int 0, .ref q_14, .ref q_15, .ref q_16])), (q_4, .inl (cI, 26, .inl z0)), (q_5, .inl (cI, 6, .inl z0)), (q_6, .inl (cI, 81, .inl z0)), (q_7, .inl (cI, 20, .inl z0)), (q_8, .inl (cI, 20, .inl z0)), (q_9, .inl (cI, 9, .inl z0)), (q_10, .inl (cI, 9, .inl z0)), (q_11, .inl (cI, 36, .inl z0)), (q_12, .inl (cI, 36, .inl z0)), (q_14, .inr (9, [.ref q_17, .ref q_18, .int 0])), (q_17, .inl (cI, 96, .inl z0)), (q_18, .inl (cI, 12, .inl z0)), (q_15, .inr (9, [.ref q_19, .ref q_20, .int 0])), (q_19, .inl (cI, 64, .inl z0)), (q_20, .inl (cI, 8, .inl z0)), (q_21, .inr (10, [.null, .int 0, .int 0]))] H := hP
  have hD : va_D A [(a0, .inr (3, [.ref q_1, .null, .null, .null, .null, .int 0, .int 0, .int 0, .int 0, .int 0, .int 0, .int 0, .null, .null, .null, .int 0, .null, .null])), (q_1, .inr (7, [.ref q_4, .int 0, .ref q_5, .ref q_6, .ref q_7, .ref q_8, .int 0, .ref q_9, .ref q_10, .ref q_11, .ref q_12, .ref q_13, .int 0, .ref q_14, .ref q_15, .ref q_16])), (q_4, .inl (cI, 26, .inl z0)), (q_5, .inl (cI, 6, .inl z0)), (q_6, .inl (cI, 81, .inl z0)), (q_7, .inl (cI, 20, .inl z0)), (q_8, .inl (cI, 20, .inl z0)), (q_9, .inl (cI, 9, .inl z0)), (q_10, .inl (cI, 9, .inl z0)), (q_11, .inl (cI, 36, .inl z0)), (q_12, .inl (cI, 36, .inl z0)), (q_14, .inr (9, [.ref q_17, .ref q_18, .int 0])), (q_17, .inl (cI, 96, .inl z0)), (q_18, .inl (cI, 12, .inl z0)), (q_15, .inr (9, [.ref q_19, .ref q_20, .int 0])), (q_19, .inl (cI, 64, .inl z0)), (q_20, .inl (cI, 8, .inl z0)), (q_21, .inr (10, [.null, .int 0, .int 0]))] := hD
  refine W.widen (k := 107) (n := 1768) (Nat.le_of_ble_eq_true rfl) (Nat.le_of_ble_eq_true rfl) ?_
  refine lv_dup hx hb dX3_init_19 rfl ?_
  refine tk_rv (wr := [(a0, .inr (3, [.ref q_1, .null, .null, .null, .null, .int 0, .int 0, .int 0, .int 0, .int 0, .int 0, .int 0, .null, .null, .null, .int 0, .null, .null])), (q_1, .inr (7, [.ref q_4, .int 0, .ref q_5, .ref q_6, .ref q_7, .ref q_8, .int 0, .ref q_9, .ref q_10, .ref q_11, .ref q_12, .ref q_13, .int 0, .ref q_14, .ref q_15, .ref q_16])), (q_4, .inl (cI, 26, .inl z0)), (q_5, .inl (cI, 6, .inl z0)), (q_6, .inl (cI, 81, .inl z0)), (q_7, .inl (cI, 20, .inl z0)), (q_8, .inl (cI, 20, .inl z0)), (q_9, .inl (cI, 9, .inl z0)), (q_10, .inl (cI, 9, .inl z0)), (q_11, .inl (cI, 36, .inl z0)), (q_12, .inl (cI, 36, .inl z0)), (q_14, .inr (9, [.ref q_17, .ref q_18, .int 0])), (q_17, .inl (cI, 96, .inl z0)), (q_18, .inl (cI, 12, .inl z0)), (q_15, .inr (9, [.ref q_19, .ref q_20, .int 0])), (q_19, .inl (cI, 64, .inl z0)), (q_20, .inl (cI, 8, .inl z0))]) (tk_IN (As := []) (rest := [.ref q_21, .ref a0]) (n := 0) hx hb hml hown hU hN (cc_X10_init_0 l (dC, dI) cI cL cZ H.size q_21) hN.2.2.2.1 wd_113 wd_51 wd_114 rfl (by decide +kernel) ⟨Nat.le_of_ble_eq_true rfl, Nat.le_of_ble_eq_true rfl⟩ hK hP hD [17] (by decide) rfl rfl hl.1 rfl (Nat.le_of_ble_eq_true rfl) dX3_init_20 ⟨Nat.le_of_ble_eq_true rfl, Nat.le_of_ble_eq_true rfl⟩) hP hD hS hA [17] [0, 1, 2, 3, 4, 5, 6, 7, 8, 9, 10, 11, 12, 13, 14, 15, 16] rfl rfl (by decide) (by decide) (fun w_23 H locs hw hP hD hS => ?_)
  obtain ⟨q_24, rfl⟩ := hw
  have hP : va_P (dC, dI) vwCl [(a0, .inr (3, [.ref q_1, .null, .null, .null, .null, .int 0, .int 0, .int 0, .int 0, .int 0, .int 0, .int 0, .null, .null, .null, .int 0, .null, .null])), (q_1, .inr (7, [.ref q_4, .int 0, .ref q_5, .ref q_6, .ref q_7, .ref q_8, .int 0, .ref q_9, .ref q_10, .ref q_11, .ref q_12, .ref q_13, .int 0, .ref q_14, .ref q_15, .ref q_16])), (q_4, .inl (cI, 26, .inl z0)), (q_5, .inl (cI, 6, .inl z0)), (q_6, .inl (cI, 81, .inl z0)), (q_7, .inl (cI, 20, .inl z0)), (q_8, .inl (cI, 20, .inl z0)), (q_9, .inl (cI, 9, .inl z0)), (q_10, .inl (cI, 9, .inl z0)), (q_11, .inl (cI, 36, .inl z0)), (q_12, .inl (cI, 36, .inl z0)), (q_14, .inr (9, [.ref q_17, .ref q_18, .int 0])), (q_17, .inl (cI, 96, .inl z0)), (q_18, .inl (cI, 12, .inl z0)), (q_15, .inr (9, [.ref q_19, .ref q_20, .int 0])), (q_19, .inl (cI, 64, .inl z0)), (q_20, .inl (cI, 8, .inl z0)), (q_21, .inr (10, [.ref q_24, .int 0, .int 0]))] H := hP
  have hD : va_D A [(a0, .inr (3, [.ref q_1, .null, .null, .null, .null, .int 0, .int 0, .int 0, .int 0, .int 0, .int 0, .int 0, .null, .null, .null, .int 0, .null, .null])), (q_1, .inr (7, [.ref q_4, .int 0, .ref q_5, .ref q_6, .ref q_7, .ref q_8, .int 0, .ref q_9, .ref q_10, .ref q_11, .ref q_12, .ref q_13, .int 0, .ref q_14, .ref q_15, .ref q_16])), (q_4, .inl (cI, 26, .inl z0)), (q_5, .inl (cI, 6, .inl z0)), (q_6, .inl (cI, 81, .inl z0)), (q_7, .inl (cI, 20, .inl z0)), (q_8, .inl (cI, 20, .inl z0)), (q_9, .inl (cI, 9, .inl z0)), (q_10, .inl (cI, 9, .inl z0)), (q_11, .inl (cI, 36, .inl z0)), (q_12, .inl (cI, 36, .inl z0)), (q_14, .inr (9, [.ref q_17, .ref q_18, .int 0])), (q_17, .inl (cI, 96, .inl z0)), (q_18, .inl (cI, 12, .inl z0)), (q_15, .inr (9, [.ref q_19, .ref q_20, .int 0])), (q_19, .inl (cI, 64, .inl z0)), (q_20, .inl (cI, 8, .inl z0)), (q_21, .inr (10, [.ref q_24, .int 0, .int 0]))] := hD
  refine W.widen (k := 108) (n := 1968) (Nat.le_of_ble_eq_true rfl) (Nat.le_of_ble_eq_true rfl) ?_
  refine va_putF (D := (dC, dI)) (ci := 3) (v := .ref q_21) (ty := .object "SaidShallow$Words") (C := RX3) (T := TX3) (N := 18) hx hb hU inlX3 tyX3 tyX3_ok nmX3 hown hK hP hD hS 0 rfl rfl 1 (by decide) (hU _ wd_52) (fun _ h9 => h9) rfl hin rfl (by decide +kernel) rfl rfl (Nat.le_of_ble_eq_true rfl) dX3_init_23 (fun H locs hP hD hS => ?_)
  have hP : va_P (dC, dI) vwCl [(a0, .inr (3, [.ref q_1, .ref q_21, .null, .null, .null, .int 0, .int 0, .int 0, .int 0, .int 0, .int 0, .int 0, .null, .null, .null, .int 0, .null, .null])), (q_1, .inr (7, [.ref q_4, .int 0, .ref q_5, .ref q_6, .ref q_7, .ref q_8, .int 0, .ref q_9, .ref q_10, .ref q_11, .ref q_12, .ref q_13, .int 0, .ref q_14, .ref q_15, .ref q_16])), (q_4, .inl (cI, 26, .inl z0)), (q_5, .inl (cI, 6, .inl z0)), (q_6, .inl (cI, 81, .inl z0)), (q_7, .inl (cI, 20, .inl z0)), (q_8, .inl (cI, 20, .inl z0)), (q_9, .inl (cI, 9, .inl z0)), (q_10, .inl (cI, 9, .inl z0)), (q_11, .inl (cI, 36, .inl z0)), (q_12, .inl (cI, 36, .inl z0)), (q_14, .inr (9, [.ref q_17, .ref q_18, .int 0])), (q_17, .inl (cI, 96, .inl z0)), (q_18, .inl (cI, 12, .inl z0)), (q_15, .inr (9, [.ref q_19, .ref q_20, .int 0])), (q_19, .inl (cI, 64, .inl z0)), (q_20, .inl (cI, 8, .inl z0)), (q_21, .inr (10, [.ref q_24, .int 0, .int 0]))] H := hP
  have hD : va_D A [(a0, .inr (3, [.ref q_1, .ref q_21, .null, .null, .null, .int 0, .int 0, .int 0, .int 0, .int 0, .int 0, .int 0, .null, .null, .null, .int 0, .null, .null])), (q_1, .inr (7, [.ref q_4, .int 0, .ref q_5, .ref q_6, .ref q_7, .ref q_8, .int 0, .ref q_9, .ref q_10, .ref q_11, .ref q_12, .ref q_13, .int 0, .ref q_14, .ref q_15, .ref q_16])), (q_4, .inl (cI, 26, .inl z0)), (q_5, .inl (cI, 6, .inl z0)), (q_6, .inl (cI, 81, .inl z0)), (q_7, .inl (cI, 20, .inl z0)), (q_8, .inl (cI, 20, .inl z0)), (q_9, .inl (cI, 9, .inl z0)), (q_10, .inl (cI, 9, .inl z0)), (q_11, .inl (cI, 36, .inl z0)), (q_12, .inl (cI, 36, .inl z0)), (q_14, .inr (9, [.ref q_17, .ref q_18, .int 0])), (q_17, .inl (cI, 96, .inl z0)), (q_18, .inl (cI, 12, .inl z0)), (q_15, .inr (9, [.ref q_19, .ref q_20, .int 0])), (q_19, .inl (cI, 64, .inl z0)), (q_20, .inl (cI, 8, .inl z0)), (q_21, .inr (10, [.ref q_24, .int 0, .int 0]))] := hD
  refine lv_aload_n hx hb dX3_init_26 rfl (lv_at hl 0 rfl) ?_
  refine va_new (ci := 8) (fs := [.null, .null, .null, .null, .null]) (C := RX8) (T := TX8) (N := 5) hx hb hU inlX8 tyX8 tyX8_ok hown (hU _ wd_53) (hU _ wd_54) (hU _ wd_55) hK hP hD hS hA rfl dvX8 (Nat.le_of_ble_eq_true rfl) (Nat.le_of_ble_eq_true rfl) dX3_init_27 (fun q_25 H hP hD hS => ?_)
  have hP : va_P (dC, dI) vwCl [(a0, .inr (3, [.ref q_1, .ref q_21, .null, .null, .null, .int 0, .int 0, .int 0, .int 0, .int 0, .int 0, .int 0, .null, .null, .null, .int 0, .null, .null])), (q_1, .inr (7, [.ref q_4, .int 0, .ref q_5, .ref q_6, .ref q_7, .ref q_8, .int 0, .ref q_9, .ref q_10, .ref q_11, .ref q_12, .ref q_13, .int 0, .ref q_14, .ref q_15, .ref q_16])), (q_4, .inl (cI, 26, .inl z0)), (q_5, .inl (cI, 6, .inl z0)), (q_6, .inl (cI, 81, .inl z0)), (q_7, .inl (cI, 20, .inl z0)), (q_8, .inl (cI, 20, .inl z0)), (q_9, .inl (cI, 9, .inl z0)), (q_10, .inl (cI, 9, .inl z0)), (q_11, .inl (cI, 36, .inl z0)), (q_12, .inl (cI, 36, .inl z0)), (q_14, .inr (9, [.ref q_17, .ref q_18, .int 0])), (q_17, .inl (cI, 96, .inl z0)), (q_18, .inl (cI, 12, .inl z0)), (q_15, .inr (9, [.ref q_19, .ref q_20, .int 0])), (q_19, .inl (cI, 64, .inl z0)), (q_20, .inl (cI, 8, .inl z0)), (q_21, .inr (10, [.ref q_24, .int 0, .int 0])), (q_25, .inr (8, [.null, .null, .null, .null, .null]))] H := hP
  have hD : va_D A [(a0, .inr (3, [.ref q_1, .ref q_21, .null, .null, .null, .int 0, .int 0, .int 0, .int 0, .int 0, .int 0, .int 0, .null, .null, .null, .int 0, .null, .null])), (q_1, .inr (7, [.ref q_4, .int 0, .ref q_5, .ref q_6, .ref q_7, .ref q_8, .int 0, .ref q_9, .ref q_10, .ref q_11, .ref q_12, .ref q_13, .int 0, .ref q_14, .ref q_15, .ref q_16])), (q_4, .inl (cI, 26, .inl z0)), (q_5, .inl (cI, 6, .inl z0)), (q_6, .inl (cI, 81, .inl z0)), (q_7, .inl (cI, 20, .inl z0)), (q_8, .inl (cI, 20, .inl z0)), (q_9, .inl (cI, 9, .inl z0)), (q_10, .inl (cI, 9, .inl z0)), (q_11, .inl (cI, 36, .inl z0)), (q_12, .inl (cI, 36, .inl z0)), (q_14, .inr (9, [.ref q_17, .ref q_18, .int 0])), (q_17, .inl (cI, 96, .inl z0)), (q_18, .inl (cI, 12, .inl z0)), (q_15, .inr (9, [.ref q_19, .ref q_20, .int 0])), (q_19, .inl (cI, 64, .inl z0)), (q_20, .inl (cI, 8, .inl z0)), (q_21, .inr (10, [.ref q_24, .int 0, .int 0])), (q_25, .inr (8, [.null, .null, .null, .null, .null]))] := hD
  refine W.widen (k := 109) (n := 1973) (Nat.le_of_ble_eq_true rfl) (Nat.le_of_ble_eq_true rfl) ?_
  refine lv_dup hx hb dX3_init_30 rfl ?_
  refine tk_rv (wr := [(a0, .inr (3, [.ref q_1, .ref q_21, .null, .null, .null, .int 0, .int 0, .int 0, .int 0, .int 0, .int 0, .int 0, .null, .null, .null, .int 0, .null, .null])), (q_1, .inr (7, [.ref q_4, .int 0, .ref q_5, .ref q_6, .ref q_7, .ref q_8, .int 0, .ref q_9, .ref q_10, .ref q_11, .ref q_12, .ref q_13, .int 0, .ref q_14, .ref q_15, .ref q_16])), (q_4, .inl (cI, 26, .inl z0)), (q_5, .inl (cI, 6, .inl z0)), (q_6, .inl (cI, 81, .inl z0)), (q_7, .inl (cI, 20, .inl z0)), (q_8, .inl (cI, 20, .inl z0)), (q_9, .inl (cI, 9, .inl z0)), (q_10, .inl (cI, 9, .inl z0)), (q_11, .inl (cI, 36, .inl z0)), (q_12, .inl (cI, 36, .inl z0)), (q_14, .inr (9, [.ref q_17, .ref q_18, .int 0])), (q_17, .inl (cI, 96, .inl z0)), (q_18, .inl (cI, 12, .inl z0)), (q_15, .inr (9, [.ref q_19, .ref q_20, .int 0])), (q_19, .inl (cI, 64, .inl z0)), (q_20, .inl (cI, 8, .inl z0)), (q_21, .inr (10, [.ref q_24, .int 0, .int 0]))]) (tk_IN (As := []) (rest := [.ref q_25, .ref a0]) (n := 0) hx hb hml hown hU hN (cc_X8_init_0 l (dC, dI) cI cL cZ H.size q_25) hN.2.2.2.2.1 wd_117 wd_55 wd_118 rfl (by decide +kernel) ⟨Nat.le_of_ble_eq_true rfl, Nat.le_of_ble_eq_true rfl⟩ hK hP hD [18] (by decide) rfl rfl hl.1 rfl (Nat.le_of_ble_eq_true rfl) dX3_init_31 ⟨Nat.le_of_ble_eq_true rfl, Nat.le_of_ble_eq_true rfl⟩) hP hD hS hA [18] [0, 1, 2, 3, 4, 5, 6, 7, 8, 9, 10, 11, 12, 13, 14, 15, 16, 17] rfl rfl (by decide) (by decide) (fun w_27 H locs hw hP hD hS => ?_)
  subst hw
  have hP : va_P (dC, dI) vwCl [(a0, .inr (3, [.ref q_1, .ref q_21, .null, .null, .null, .int 0, .int 0, .int 0, .int 0, .int 0, .int 0, .int 0, .null, .null, .null, .int 0, .null, .null])), (q_1, .inr (7, [.ref q_4, .int 0, .ref q_5, .ref q_6, .ref q_7, .ref q_8, .int 0, .ref q_9, .ref q_10, .ref q_11, .ref q_12, .ref q_13, .int 0, .ref q_14, .ref q_15, .ref q_16])), (q_4, .inl (cI, 26, .inl z0)), (q_5, .inl (cI, 6, .inl z0)), (q_6, .inl (cI, 81, .inl z0)), (q_7, .inl (cI, 20, .inl z0)), (q_8, .inl (cI, 20, .inl z0)), (q_9, .inl (cI, 9, .inl z0)), (q_10, .inl (cI, 9, .inl z0)), (q_11, .inl (cI, 36, .inl z0)), (q_12, .inl (cI, 36, .inl z0)), (q_14, .inr (9, [.ref q_17, .ref q_18, .int 0])), (q_17, .inl (cI, 96, .inl z0)), (q_18, .inl (cI, 12, .inl z0)), (q_15, .inr (9, [.ref q_19, .ref q_20, .int 0])), (q_19, .inl (cI, 64, .inl z0)), (q_20, .inl (cI, 8, .inl z0)), (q_21, .inr (10, [.ref q_24, .int 0, .int 0]))] H := hP
  have hD : va_D A [(a0, .inr (3, [.ref q_1, .ref q_21, .null, .null, .null, .int 0, .int 0, .int 0, .int 0, .int 0, .int 0, .int 0, .null, .null, .null, .int 0, .null, .null])), (q_1, .inr (7, [.ref q_4, .int 0, .ref q_5, .ref q_6, .ref q_7, .ref q_8, .int 0, .ref q_9, .ref q_10, .ref q_11, .ref q_12, .ref q_13, .int 0, .ref q_14, .ref q_15, .ref q_16])), (q_4, .inl (cI, 26, .inl z0)), (q_5, .inl (cI, 6, .inl z0)), (q_6, .inl (cI, 81, .inl z0)), (q_7, .inl (cI, 20, .inl z0)), (q_8, .inl (cI, 20, .inl z0)), (q_9, .inl (cI, 9, .inl z0)), (q_10, .inl (cI, 9, .inl z0)), (q_11, .inl (cI, 36, .inl z0)), (q_12, .inl (cI, 36, .inl z0)), (q_14, .inr (9, [.ref q_17, .ref q_18, .int 0])), (q_17, .inl (cI, 96, .inl z0)), (q_18, .inl (cI, 12, .inl z0)), (q_15, .inr (9, [.ref q_19, .ref q_20, .int 0])), (q_19, .inl (cI, 64, .inl z0)), (q_20, .inl (cI, 8, .inl z0)), (q_21, .inr (10, [.ref q_24, .int 0, .int 0]))] := hD
  refine W.widen (k := 114) (n := 3023) (Nat.le_of_ble_eq_true rfl) (Nat.le_of_ble_eq_true rfl) ?_
  refine va_putF (D := (dC, dI)) (ci := 3) (v := .ref q_25) (ty := .object "SaidShallow$Track") (C := RX3) (T := TX3) (N := 18) hx hb hU inlX3 tyX3 tyX3_ok nmX3 hown hK hP hD hS 0 rfl rfl 2 (by decide) (hU _ wd_56) (fun _ h9 => h9) rfl hin rfl (by decide +kernel) rfl rfl (Nat.le_of_ble_eq_true rfl) dX3_init_34 (fun H locs hP hD hS => ?_)
  have hP : va_P (dC, dI) vwCl [(a0, .inr (3, [.ref q_1, .ref q_21, .ref q_25, .null, .null, .int 0, .int 0, .int 0, .int 0, .int 0, .int 0, .int 0, .null, .null, .null, .int 0, .null, .null])), (q_1, .inr (7, [.ref q_4, .int 0, .ref q_5, .ref q_6, .ref q_7, .ref q_8, .int 0, .ref q_9, .ref q_10, .ref q_11, .ref q_12, .ref q_13, .int 0, .ref q_14, .ref q_15, .ref q_16])), (q_4, .inl (cI, 26, .inl z0)), (q_5, .inl (cI, 6, .inl z0)), (q_6, .inl (cI, 81, .inl z0)), (q_7, .inl (cI, 20, .inl z0)), (q_8, .inl (cI, 20, .inl z0)), (q_9, .inl (cI, 9, .inl z0)), (q_10, .inl (cI, 9, .inl z0)), (q_11, .inl (cI, 36, .inl z0)), (q_12, .inl (cI, 36, .inl z0)), (q_14, .inr (9, [.ref q_17, .ref q_18, .int 0])), (q_17, .inl (cI, 96, .inl z0)), (q_18, .inl (cI, 12, .inl z0)), (q_15, .inr (9, [.ref q_19, .ref q_20, .int 0])), (q_19, .inl (cI, 64, .inl z0)), (q_20, .inl (cI, 8, .inl z0)), (q_21, .inr (10, [.ref q_24, .int 0, .int 0]))] H := hP
  have hD : va_D A [(a0, .inr (3, [.ref q_1, .ref q_21, .ref q_25, .null, .null, .int 0, .int 0, .int 0, .int 0, .int 0, .int 0, .int 0, .null, .null, .null, .int 0, .null, .null])), (q_1, .inr (7, [.ref q_4, .int 0, .ref q_5, .ref q_6, .ref q_7, .ref q_8, .int 0, .ref q_9, .ref q_10, .ref q_11, .ref q_12, .ref q_13, .int 0, .ref q_14, .ref q_15, .ref q_16])), (q_4, .inl (cI, 26, .inl z0)), (q_5, .inl (cI, 6, .inl z0)), (q_6, .inl (cI, 81, .inl z0)), (q_7, .inl (cI, 20, .inl z0)), (q_8, .inl (cI, 20, .inl z0)), (q_9, .inl (cI, 9, .inl z0)), (q_10, .inl (cI, 9, .inl z0)), (q_11, .inl (cI, 36, .inl z0)), (q_12, .inl (cI, 36, .inl z0)), (q_14, .inr (9, [.ref q_17, .ref q_18, .int 0])), (q_17, .inl (cI, 96, .inl z0)), (q_18, .inl (cI, 12, .inl z0)), (q_15, .inr (9, [.ref q_19, .ref q_20, .int 0])), (q_19, .inl (cI, 64, .inl z0)), (q_20, .inl (cI, 8, .inl z0)), (q_21, .inr (10, [.ref q_24, .int 0, .int 0]))] := hD
  refine lv_aload_n hx hb dX3_init_37 rfl (lv_at hl 0 rfl) ?_
  refine va_new (ci := 1) (fs := [.null, .null, .null, .int 0, .int 0, .int 0]) (C := RX1) (T := TX1) (N := 6) hx hb hU inlX1 tyX1 tyX1_ok hown (hU _ wd_57) (hU _ wd_58) (hU _ wd_59) hK hP hD hS hA rfl dvX1 (Nat.le_of_ble_eq_true rfl) (Nat.le_of_ble_eq_true rfl) dX3_init_38 (fun q_28 H hP hD hS => ?_)
  have hP : va_P (dC, dI) vwCl [(a0, .inr (3, [.ref q_1, .ref q_21, .ref q_25, .null, .null, .int 0, .int 0, .int 0, .int 0, .int 0, .int 0, .int 0, .null, .null, .null, .int 0, .null, .null])), (q_1, .inr (7, [.ref q_4, .int 0, .ref q_5, .ref q_6, .ref q_7, .ref q_8, .int 0, .ref q_9, .ref q_10, .ref q_11, .ref q_12, .ref q_13, .int 0, .ref q_14, .ref q_15, .ref q_16])), (q_4, .inl (cI, 26, .inl z0)), (q_5, .inl (cI, 6, .inl z0)), (q_6, .inl (cI, 81, .inl z0)), (q_7, .inl (cI, 20, .inl z0)), (q_8, .inl (cI, 20, .inl z0)), (q_9, .inl (cI, 9, .inl z0)), (q_10, .inl (cI, 9, .inl z0)), (q_11, .inl (cI, 36, .inl z0)), (q_12, .inl (cI, 36, .inl z0)), (q_14, .inr (9, [.ref q_17, .ref q_18, .int 0])), (q_17, .inl (cI, 96, .inl z0)), (q_18, .inl (cI, 12, .inl z0)), (q_15, .inr (9, [.ref q_19, .ref q_20, .int 0])), (q_19, .inl (cI, 64, .inl z0)), (q_20, .inl (cI, 8, .inl z0)), (q_21, .inr (10, [.ref q_24, .int 0, .int 0])), (q_28, .inr (1, [.null, .null, .null, .int 0, .int 0, .int 0]))] H := hP
  have hD : va_D A [(a0, .inr (3, [.ref q_1, .ref q_21, .ref q_25, .null, .null, .int 0, .int 0, .int 0, .int 0, .int 0, .int 0, .int 0, .null, .null, .null, .int 0, .null, .null])), (q_1, .inr (7, [.ref q_4, .int 0, .ref q_5, .ref q_6, .ref q_7, .ref q_8, .int 0, .ref q_9, .ref q_10, .ref q_11, .ref q_12, .ref q_13, .int 0, .ref q_14, .ref q_15, .ref q_16])), (q_4, .inl (cI, 26, .inl z0)), (q_5, .inl (cI, 6, .inl z0)), (q_6, .inl (cI, 81, .inl z0)), (q_7, .inl (cI, 20, .inl z0)), (q_8, .inl (cI, 20, .inl z0)), (q_9, .inl (cI, 9, .inl z0)), (q_10, .inl (cI, 9, .inl z0)), (q_11, .inl (cI, 36, .inl z0)), (q_12, .inl (cI, 36, .inl z0)), (q_14, .inr (9, [.ref q_17, .ref q_18, .int 0])), (q_17, .inl (cI, 96, .inl z0)), (q_18, .inl (cI, 12, .inl z0)), (q_15, .inr (9, [.ref q_19, .ref q_20, .int 0])), (q_19, .inl (cI, 64, .inl z0)), (q_20, .inl (cI, 8, .inl z0)), (q_21, .inr (10, [.ref q_24, .int 0, .int 0])), (q_28, .inr (1, [.null, .null, .null, .int 0, .int 0, .int 0]))] := hD
  refine W.widen (k := 115) (n := 3029) (Nat.le_of_ble_eq_true rfl) (Nat.le_of_ble_eq_true rfl) ?_
  refine lv_dup hx hb dX3_init_41 rfl ?_
  refine tk_rv (wr := [(a0, .inr (3, [.ref q_1, .ref q_21, .ref q_25, .null, .null, .int 0, .int 0, .int 0, .int 0, .int 0, .int 0, .int 0, .null, .null, .null, .int 0, .null, .null])), (q_1, .inr (7, [.ref q_4, .int 0, .ref q_5, .ref q_6, .ref q_7, .ref q_8, .int 0, .ref q_9, .ref q_10, .ref q_11, .ref q_12, .ref q_13, .int 0, .ref q_14, .ref q_15, .ref q_16])), (q_4, .inl (cI, 26, .inl z0)), (q_5, .inl (cI, 6, .inl z0)), (q_6, .inl (cI, 81, .inl z0)), (q_7, .inl (cI, 20, .inl z0)), (q_8, .inl (cI, 20, .inl z0)), (q_9, .inl (cI, 9, .inl z0)), (q_10, .inl (cI, 9, .inl z0)), (q_11, .inl (cI, 36, .inl z0)), (q_12, .inl (cI, 36, .inl z0)), (q_14, .inr (9, [.ref q_17, .ref q_18, .int 0])), (q_17, .inl (cI, 96, .inl z0)), (q_18, .inl (cI, 12, .inl z0)), (q_15, .inr (9, [.ref q_19, .ref q_20, .int 0])), (q_19, .inl (cI, 64, .inl z0)), (q_20, .inl (cI, 8, .inl z0)), (q_21, .inr (10, [.ref q_24, .int 0, .int 0]))]) (tk_IN (As := []) (rest := [.ref q_28, .ref a0]) (n := 0) hx hb hml hown hU hN (cc_X1_init_0 l (dC, dI) cI cL cZ H.size q_28) hN.2.2.2.2.2.1 wd_125 wd_59 wd_126 rfl (by decide +kernel) ⟨Nat.le_of_ble_eq_true rfl, Nat.le_of_ble_eq_true rfl⟩ hK hP hD [18] (by decide) rfl rfl hl.1 rfl (Nat.le_of_ble_eq_true rfl) dX3_init_42 ⟨Nat.le_of_ble_eq_true rfl, Nat.le_of_ble_eq_true rfl⟩) hP hD hS hA [18] [0, 1, 2, 3, 4, 5, 6, 7, 8, 9, 10, 11, 12, 13, 14, 15, 16, 17] rfl rfl (by decide) (by decide) (fun w_30 H locs hw hP hD hS => ?_)
  subst hw
  have hP : va_P (dC, dI) vwCl [(a0, .inr (3, [.ref q_1, .ref q_21, .ref q_25, .null, .null, .int 0, .int 0, .int 0, .int 0, .int 0, .int 0, .int 0, .null, .null, .null, .int 0, .null, .null])), (q_1, .inr (7, [.ref q_4, .int 0, .ref q_5, .ref q_6, .ref q_7, .ref q_8, .int 0, .ref q_9, .ref q_10, .ref q_11, .ref q_12, .ref q_13, .int 0, .ref q_14, .ref q_15, .ref q_16])), (q_4, .inl (cI, 26, .inl z0)), (q_5, .inl (cI, 6, .inl z0)), (q_6, .inl (cI, 81, .inl z0)), (q_7, .inl (cI, 20, .inl z0)), (q_8, .inl (cI, 20, .inl z0)), (q_9, .inl (cI, 9, .inl z0)), (q_10, .inl (cI, 9, .inl z0)), (q_11, .inl (cI, 36, .inl z0)), (q_12, .inl (cI, 36, .inl z0)), (q_14, .inr (9, [.ref q_17, .ref q_18, .int 0])), (q_17, .inl (cI, 96, .inl z0)), (q_18, .inl (cI, 12, .inl z0)), (q_15, .inr (9, [.ref q_19, .ref q_20, .int 0])), (q_19, .inl (cI, 64, .inl z0)), (q_20, .inl (cI, 8, .inl z0)), (q_21, .inr (10, [.ref q_24, .int 0, .int 0]))] H := hP
  have hD : va_D A [(a0, .inr (3, [.ref q_1, .ref q_21, .ref q_25, .null, .null, .int 0, .int 0, .int 0, .int 0, .int 0, .int 0, .int 0, .null, .null, .null, .int 0, .null, .null])), (q_1, .inr (7, [.ref q_4, .int 0, .ref q_5, .ref q_6, .ref q_7, .ref q_8, .int 0, .ref q_9, .ref q_10, .ref q_11, .ref q_12, .ref q_13, .int 0, .ref q_14, .ref q_15, .ref q_16])), (q_4, .inl (cI, 26, .inl z0)), (q_5, .inl (cI, 6, .inl z0)), (q_6, .inl (cI, 81, .inl z0)), (q_7, .inl (cI, 20, .inl z0)), (q_8, .inl (cI, 20, .inl z0)), (q_9, .inl (cI, 9, .inl z0)), (q_10, .inl (cI, 9, .inl z0)), (q_11, .inl (cI, 36, .inl z0)), (q_12, .inl (cI, 36, .inl z0)), (q_14, .inr (9, [.ref q_17, .ref q_18, .int 0])), (q_17, .inl (cI, 96, .inl z0)), (q_18, .inl (cI, 12, .inl z0)), (q_15, .inr (9, [.ref q_19, .ref q_20, .int 0])), (q_19, .inl (cI, 64, .inl z0)), (q_20, .inl (cI, 8, .inl z0)), (q_21, .inr (10, [.ref q_24, .int 0, .int 0]))] := hD
  refine W.widen (k := 118) (n := 39982) (Nat.le_of_ble_eq_true rfl) (Nat.le_of_ble_eq_true rfl) ?_
  refine va_putF (D := (dC, dI)) (ci := 3) (v := .ref q_28) (ty := .object "SaidShallow$DeadEnds") (C := RX3) (T := TX3) (N := 18) hx hb hU inlX3 tyX3 tyX3_ok nmX3 hown hK hP hD hS 0 rfl rfl 3 (by decide) (hU _ wd_60) (fun _ h9 => h9) rfl hin rfl (by decide +kernel) rfl rfl (Nat.le_of_ble_eq_true rfl) dX3_init_45 (fun H locs hP hD hS => ?_)
  have hP : va_P (dC, dI) vwCl [(a0, .inr (3, [.ref q_1, .ref q_21, .ref q_25, .ref q_28, .null, .int 0, .int 0, .int 0, .int 0, .int 0, .int 0, .int 0, .null, .null, .null, .int 0, .null, .null])), (q_1, .inr (7, [.ref q_4, .int 0, .ref q_5, .ref q_6, .ref q_7, .ref q_8, .int 0, .ref q_9, .ref q_10, .ref q_11, .ref q_12, .ref q_13, .int 0, .ref q_14, .ref q_15, .ref q_16])), (q_4, .inl (cI, 26, .inl z0)), (q_5, .inl (cI, 6, .inl z0)), (q_6, .inl (cI, 81, .inl z0)), (q_7, .inl (cI, 20, .inl z0)), (q_8, .inl (cI, 20, .inl z0)), (q_9, .inl (cI, 9, .inl z0)), (q_10, .inl (cI, 9, .inl z0)), (q_11, .inl (cI, 36, .inl z0)), (q_12, .inl (cI, 36, .inl z0)), (q_14, .inr (9, [.ref q_17, .ref q_18, .int 0])), (q_17, .inl (cI, 96, .inl z0)), (q_18, .inl (cI, 12, .inl z0)), (q_15, .inr (9, [.ref q_19, .ref q_20, .int 0])), (q_19, .inl (cI, 64, .inl z0)), (q_20, .inl (cI, 8, .inl z0)), (q_21, .inr (10, [.ref q_24, .int 0, .int 0]))] H := hP
  have hD : va_D A [(a0, .inr (3, [.ref q_1, .ref q_21, .ref q_25, .ref q_28, .null, .int 0, .int 0, .int 0, .int 0, .int 0, .int 0, .int 0, .null, .null, .null, .int 0, .null, .null])), (q_1, .inr (7, [.ref q_4, .int 0, .ref q_5, .ref q_6, .ref q_7, .ref q_8, .int 0, .ref q_9, .ref q_10, .ref q_11, .ref q_12, .ref q_13, .int 0, .ref q_14, .ref q_15, .ref q_16])), (q_4, .inl (cI, 26, .inl z0)), (q_5, .inl (cI, 6, .inl z0)), (q_6, .inl (cI, 81, .inl z0)), (q_7, .inl (cI, 20, .inl z0)), (q_8, .inl (cI, 20, .inl z0)), (q_9, .inl (cI, 9, .inl z0)), (q_10, .inl (cI, 9, .inl z0)), (q_11, .inl (cI, 36, .inl z0)), (q_12, .inl (cI, 36, .inl z0)), (q_14, .inr (9, [.ref q_17, .ref q_18, .int 0])), (q_17, .inl (cI, 96, .inl z0)), (q_18, .inl (cI, 12, .inl z0)), (q_15, .inr (9, [.ref q_19, .ref q_20, .int 0])), (q_19, .inl (cI, 64, .inl z0)), (q_20, .inl (cI, 8, .inl z0)), (q_21, .inr (10, [.ref q_24, .int 0, .int 0]))] := hD
  refine lv_aload_n hx hb dX3_init_48 rfl (lv_at hl 0 rfl) ?_
  refine lv_bipush (v := 8) hx hb dX3_init_49 (by decide) ?_
  refine tk_newa (atype := .int) (ty := .int) (a0 := (8, .inl z0)) hx hb 0 (hU (.arrayClass .int) wd_12) rfl (fun _ => Iff.rfl) hK rfl hP hD hS hA (fun _ => rfl) (by decide) (by decide) (Nat.le_of_ble_eq_true rfl) (Nat.le_of_ble_eq_true rfl) (Nat.le_of_ble_eq_true rfl) dX3_init_51 (fun q_31 H hP hD hS => ?_)
  have hP : va_P (dC, dI) vwCl [(a0, .inr (3, [.ref q_1, .ref q_21, .ref q_25, .ref q_28, .null, .int 0, .int 0, .int 0, .int 0, .int 0, .int 0, .int 0, .null, .null, .null, .int 0, .null, .null])), (q_1, .inr (7, [.ref q_4, .int 0, .ref q_5, .ref q_6, .ref q_7, .ref q_8, .int 0, .ref q_9, .ref q_10, .ref q_11, .ref q_12, .ref q_13, .int 0, .ref q_14, .ref q_15, .ref q_16])), (q_4, .inl (cI, 26, .inl z0)), (q_5, .inl (cI, 6, .inl z0)), (q_6, .inl (cI, 81, .inl z0)), (q_7, .inl (cI, 20, .inl z0)), (q_8, .inl (cI, 20, .inl z0)), (q_9, .inl (cI, 9, .inl z0)), (q_10, .inl (cI, 9, .inl z0)), (q_11, .inl (cI, 36, .inl z0)), (q_12, .inl (cI, 36, .inl z0)), (q_14, .inr (9, [.ref q_17, .ref q_18, .int 0])), (q_17, .inl (cI, 96, .inl z0)), (q_18, .inl (cI, 12, .inl z0)), (q_15, .inr (9, [.ref q_19, .ref q_20, .int 0])), (q_19, .inl (cI, 64, .inl z0)), (q_20, .inl (cI, 8, .inl z0)), (q_21, .inr (10, [.ref q_24, .int 0, .int 0])), (q_31, .inl (cI, 8, .inl z0))] H := hP
  have hD : va_D A [(a0, .inr (3, [.ref q_1, .ref q_21, .ref q_25, .ref q_28, .null, .int 0, .int 0, .int 0, .int 0, .int 0, .int 0, .int 0, .null, .null, .null, .int 0, .null, .null])), (q_1, .inr (7, [.ref q_4, .int 0, .ref q_5, .ref q_6, .ref q_7, .ref q_8, .int 0, .ref q_9, .ref q_10, .ref q_11, .ref q_12, .ref q_13, .int 0, .ref q_14, .ref q_15, .ref q_16])), (q_4, .inl (cI, 26, .inl z0)), (q_5, .inl (cI, 6, .inl z0)), (q_6, .inl (cI, 81, .inl z0)), (q_7, .inl (cI, 20, .inl z0)), (q_8, .inl (cI, 20, .inl z0)), (q_9, .inl (cI, 9, .inl z0)), (q_10, .inl (cI, 9, .inl z0)), (q_11, .inl (cI, 36, .inl z0)), (q_12, .inl (cI, 36, .inl z0)), (q_14, .inr (9, [.ref q_17, .ref q_18, .int 0])), (q_17, .inl (cI, 96, .inl z0)), (q_18, .inl (cI, 12, .inl z0)), (q_15, .inr (9, [.ref q_19, .ref q_20, .int 0])), (q_19, .inl (cI, 64, .inl z0)), (q_20, .inl (cI, 8, .inl z0)), (q_21, .inr (10, [.ref q_24, .int 0, .int 0])), (q_31, .inl (cI, 8, .inl z0))] := hD
  refine W.widen (k := 119) (n := 39990) (Nat.le_of_ble_eq_true rfl) (Nat.le_of_ble_eq_true rfl) ?_
  refine va_putF (D := (dC, dI)) (ci := 3) (v := .ref q_31) (ty := .array .int) (C := RX3) (T := TX3) (N := 18) hx hb hU inlX3 tyX3 tyX3_ok nmX3 hown hK hP hD hS 0 rfl rfl 4 (by decide) (hU _ wd_61) (fun _ h9 => h9) rfl hin rfl (by decide +kernel) rfl rfl (Nat.le_of_ble_eq_true rfl) dX3_init_53 (fun H locs hP hD hS => ?_)
  have hP : va_P (dC, dI) vwCl [(a0, .inr (3, [.ref q_1, .ref q_21, .ref q_25, .ref q_28, .ref q_31, .int 0, .int 0, .int 0, .int 0, .int 0, .int 0, .int 0, .null, .null, .null, .int 0, .null, .null])), (q_1, .inr (7, [.ref q_4, .int 0, .ref q_5, .ref q_6, .ref q_7, .ref q_8, .int 0, .ref q_9, .ref q_10, .ref q_11, .ref q_12, .ref q_13, .int 0, .ref q_14, .ref q_15, .ref q_16])), (q_4, .inl (cI, 26, .inl z0)), (q_5, .inl (cI, 6, .inl z0)), (q_6, .inl (cI, 81, .inl z0)), (q_7, .inl (cI, 20, .inl z0)), (q_8, .inl (cI, 20, .inl z0)), (q_9, .inl (cI, 9, .inl z0)), (q_10, .inl (cI, 9, .inl z0)), (q_11, .inl (cI, 36, .inl z0)), (q_12, .inl (cI, 36, .inl z0)), (q_14, .inr (9, [.ref q_17, .ref q_18, .int 0])), (q_17, .inl (cI, 96, .inl z0)), (q_18, .inl (cI, 12, .inl z0)), (q_15, .inr (9, [.ref q_19, .ref q_20, .int 0])), (q_19, .inl (cI, 64, .inl z0)), (q_20, .inl (cI, 8, .inl z0)), (q_21, .inr (10, [.ref q_24, .int 0, .int 0])), (q_31, .inl (cI, 8, .inl z0))] H := hP
  have hD : va_D A [(a0, .inr (3, [.ref q_1, .ref q_21, .ref q_25, .ref q_28, .ref q_31, .int 0, .int 0, .int 0, .int 0, .int 0, .int 0, .int 0, .null, .null, .null, .int 0, .null, .null])), (q_1, .inr (7, [.ref q_4, .int 0, .ref q_5, .ref q_6, .ref q_7, .ref q_8, .int 0, .ref q_9, .ref q_10, .ref q_11, .ref q_12, .ref q_13, .int 0, .ref q_14, .ref q_15, .ref q_16])), (q_4, .inl (cI, 26, .inl z0)), (q_5, .inl (cI, 6, .inl z0)), (q_6, .inl (cI, 81, .inl z0)), (q_7, .inl (cI, 20, .inl z0)), (q_8, .inl (cI, 20, .inl z0)), (q_9, .inl (cI, 9, .inl z0)), (q_10, .inl (cI, 9, .inl z0)), (q_11, .inl (cI, 36, .inl z0)), (q_12, .inl (cI, 36, .inl z0)), (q_14, .inr (9, [.ref q_17, .ref q_18, .int 0])), (q_17, .inl (cI, 96, .inl z0)), (q_18, .inl (cI, 12, .inl z0)), (q_15, .inr (9, [.ref q_19, .ref q_20, .int 0])), (q_19, .inl (cI, 64, .inl z0)), (q_20, .inl (cI, 8, .inl z0)), (q_21, .inr (10, [.ref q_24, .int 0, .int 0])), (q_31, .inl (cI, 8, .inl z0))] := hD
  refine lv_aload_n hx hb dX3_init_56 rfl (lv_at hl 0 rfl) ?_
  refine lv_iconst (v := (-1)) hx hb dX3_init_57 (by decide) ?_
  refine va_put (D := (dC, dI)) (ci := 3) (v := .int (-1)) (ty := .int) (C := RX3) (T := TX3) (N := 18) hx hb hU inlX3 tyX3 tyX3_ok nmX3 hown hK hP hD hS 0 rfl rfl 11 (by decide) (hU _ wd_62) (fun _ h9 => h9) rfl (by decide +kernel) rfl rfl (Nat.le_of_ble_eq_true rfl) dX3_init_58 (fun H locs hP hD hS => ?_)
  have hP : va_P (dC, dI) vwCl [(a0, .inr (3, [.ref q_1, .ref q_21, .ref q_25, .ref q_28, .ref q_31, .int 0, .int 0, .int 0, .int 0, .int 0, .int 0, .int (-1), .null, .null, .null, .int 0, .null, .null])), (q_1, .inr (7, [.ref q_4, .int 0, .ref q_5, .ref q_6, .ref q_7, .ref q_8, .int 0, .ref q_9, .ref q_10, .ref q_11, .ref q_12, .ref q_13, .int 0, .ref q_14, .ref q_15, .ref q_16])), (q_4, .inl (cI, 26, .inl z0)), (q_5, .inl (cI, 6, .inl z0)), (q_6, .inl (cI, 81, .inl z0)), (q_7, .inl (cI, 20, .inl z0)), (q_8, .inl (cI, 20, .inl z0)), (q_9, .inl (cI, 9, .inl z0)), (q_10, .inl (cI, 9, .inl z0)), (q_11, .inl (cI, 36, .inl z0)), (q_12, .inl (cI, 36, .inl z0)), (q_14, .inr (9, [.ref q_17, .ref q_18, .int 0])), (q_17, .inl (cI, 96, .inl z0)), (q_18, .inl (cI, 12, .inl z0)), (q_15, .inr (9, [.ref q_19, .ref q_20, .int 0])), (q_19, .inl (cI, 64, .inl z0)), (q_20, .inl (cI, 8, .inl z0)), (q_21, .inr (10, [.ref q_24, .int 0, .int 0])), (q_31, .inl (cI, 8, .inl z0))] H := hP
  have hD : va_D A [(a0, .inr (3, [.ref q_1, .ref q_21, .ref q_25, .ref q_28, .ref q_31, .int 0, .int 0, .int 0, .int 0, .int 0, .int 0, .int (-1), .null, .null, .null, .int 0, .null, .null])), (q_1, .inr (7, [.ref q_4, .int 0, .ref q_5, .ref q_6, .ref q_7, .ref q_8, .int 0, .ref q_9, .ref q_10, .ref q_11, .ref q_12, .ref q_13, .int 0, .ref q_14, .ref q_15, .ref q_16])), (q_4, .inl (cI, 26, .inl z0)), (q_5, .inl (cI, 6, .inl z0)), (q_6, .inl (cI, 81, .inl z0)), (q_7, .inl (cI, 20, .inl z0)), (q_8, .inl (cI, 20, .inl z0)), (q_9, .inl (cI, 9, .inl z0)), (q_10, .inl (cI, 9, .inl z0)), (q_11, .inl (cI, 36, .inl z0)), (q_12, .inl (cI, 36, .inl z0)), (q_14, .inr (9, [.ref q_17, .ref q_18, .int 0])), (q_17, .inl (cI, 96, .inl z0)), (q_18, .inl (cI, 12, .inl z0)), (q_15, .inr (9, [.ref q_19, .ref q_20, .int 0])), (q_19, .inl (cI, 64, .inl z0)), (q_20, .inl (cI, 8, .inl z0)), (q_21, .inr (10, [.ref q_24, .int 0, .int 0])), (q_31, .inl (cI, 8, .inl z0))] := hD
  refine lv_aload_n hx hb dX3_init_61 rfl (lv_at hl 0 rfl) ?_
  refine lv_bipush (v := 9) hx hb dX3_init_62 (by decide) ?_
  refine tk_newa (atype := .int) (ty := .int) (a0 := (9, .inl z0)) hx hb 0 (hU (.arrayClass .int) wd_12) rfl (fun _ => Iff.rfl) hK rfl hP hD hS hA (fun _ => rfl) (by decide) (by decide) (Nat.le_of_ble_eq_true rfl) (Nat.le_of_ble_eq_true rfl) (Nat.le_of_ble_eq_true rfl) dX3_init_64 (fun q_32 H hP hD hS => ?_)
  have hP : va_P (dC, dI) vwCl [(a0, .inr (3, [.ref q_1, .ref q_21, .ref q_25, .ref q_28, .ref q_31, .int 0, .int 0, .int 0, .int 0, .int 0, .int 0, .int (-1), .null, .null, .null, .int 0, .null, .null])), (q_1, .inr (7, [.ref q_4, .int 0, .ref q_5, .ref q_6, .ref q_7, .ref q_8, .int 0, .ref q_9, .ref q_10, .ref q_11, .ref q_12, .ref q_13, .int 0, .ref q_14, .ref q_15, .ref q_16])), (q_4, .inl (cI, 26, .inl z0)), (q_5, .inl (cI, 6, .inl z0)), (q_6, .inl (cI, 81, .inl z0)), (q_7, .inl (cI, 20, .inl z0)), (q_8, .inl (cI, 20, .inl z0)), (q_9, .inl (cI, 9, .inl z0)), (q_10, .inl (cI, 9, .inl z0)), (q_11, .inl (cI, 36, .inl z0)), (q_12, .inl (cI, 36, .inl z0)), (q_14, .inr (9, [.ref q_17, .ref q_18, .int 0])), (q_17, .inl (cI, 96, .inl z0)), (q_18, .inl (cI, 12, .inl z0)), (q_15, .inr (9, [.ref q_19, .ref q_20, .int 0])), (q_19, .inl (cI, 64, .inl z0)), (q_20, .inl (cI, 8, .inl z0)), (q_21, .inr (10, [.ref q_24, .int 0, .int 0])), (q_31, .inl (cI, 8, .inl z0)), (q_32, .inl (cI, 9, .inl z0))] H := hP
  have hD : va_D A [(a0, .inr (3, [.ref q_1, .ref q_21, .ref q_25, .ref q_28, .ref q_31, .int 0, .int 0, .int 0, .int 0, .int 0, .int 0, .int (-1), .null, .null, .null, .int 0, .null, .null])), (q_1, .inr (7, [.ref q_4, .int 0, .ref q_5, .ref q_6, .ref q_7, .ref q_8, .int 0, .ref q_9, .ref q_10, .ref q_11, .ref q_12, .ref q_13, .int 0, .ref q_14, .ref q_15, .ref q_16])), (q_4, .inl (cI, 26, .inl z0)), (q_5, .inl (cI, 6, .inl z0)), (q_6, .inl (cI, 81, .inl z0)), (q_7, .inl (cI, 20, .inl z0)), (q_8, .inl (cI, 20, .inl z0)), (q_9, .inl (cI, 9, .inl z0)), (q_10, .inl (cI, 9, .inl z0)), (q_11, .inl (cI, 36, .inl z0)), (q_12, .inl (cI, 36, .inl z0)), (q_14, .inr (9, [.ref q_17, .ref q_18, .int 0])), (q_17, .inl (cI, 96, .inl z0)), (q_18, .inl (cI, 12, .inl z0)), (q_15, .inr (9, [.ref q_19, .ref q_20, .int 0])), (q_19, .inl (cI, 64, .inl z0)), (q_20, .inl (cI, 8, .inl z0)), (q_21, .inr (10, [.ref q_24, .int 0, .int 0])), (q_31, .inl (cI, 8, .inl z0)), (q_32, .inl (cI, 9, .inl z0))] := hD
  refine W.widen (k := 120) (n := 39999) (Nat.le_of_ble_eq_true rfl) (Nat.le_of_ble_eq_true rfl) ?_
  refine va_putF (D := (dC, dI)) (ci := 3) (v := .ref q_32) (ty := .array .int) (C := RX3) (T := TX3) (N := 18) hx hb hU inlX3 tyX3 tyX3_ok nmX3 hown hK hP hD hS 0 rfl rfl 12 (by decide) (hU _ wd_63) (fun _ h9 => h9) rfl hin rfl (by decide +kernel) rfl rfl (Nat.le_of_ble_eq_true rfl) dX3_init_66 (fun H locs hP hD hS => ?_)
  have hP : va_P (dC, dI) vwCl [(a0, .inr (3, [.ref q_1, .ref q_21, .ref q_25, .ref q_28, .ref q_31, .int 0, .int 0, .int 0, .int 0, .int 0, .int 0, .int (-1), .ref q_32, .null, .null, .int 0, .null, .null])), (q_1, .inr (7, [.ref q_4, .int 0, .ref q_5, .ref q_6, .ref q_7, .ref q_8, .int 0, .ref q_9, .ref q_10, .ref q_11, .ref q_12, .ref q_13, .int 0, .ref q_14, .ref q_15, .ref q_16])), (q_4, .inl (cI, 26, .inl z0)), (q_5, .inl (cI, 6, .inl z0)), (q_6, .inl (cI, 81, .inl z0)), (q_7, .inl (cI, 20, .inl z0)), (q_8, .inl (cI, 20, .inl z0)), (q_9, .inl (cI, 9, .inl z0)), (q_10, .inl (cI, 9, .inl z0)), (q_11, .inl (cI, 36, .inl z0)), (q_12, .inl (cI, 36, .inl z0)), (q_14, .inr (9, [.ref q_17, .ref q_18, .int 0])), (q_17, .inl (cI, 96, .inl z0)), (q_18, .inl (cI, 12, .inl z0)), (q_15, .inr (9, [.ref q_19, .ref q_20, .int 0])), (q_19, .inl (cI, 64, .inl z0)), (q_20, .inl (cI, 8, .inl z0)), (q_21, .inr (10, [.ref q_24, .int 0, .int 0])), (q_31, .inl (cI, 8, .inl z0)), (q_32, .inl (cI, 9, .inl z0))] H := hP
  have hD : va_D A [(a0, .inr (3, [.ref q_1, .ref q_21, .ref q_25, .ref q_28, .ref q_31, .int 0, .int 0, .int 0, .int 0, .int 0, .int 0, .int (-1), .ref q_32, .null, .null, .int 0, .null, .null])), (q_1, .inr (7, [.ref q_4, .int 0, .ref q_5, .ref q_6, .ref q_7, .ref q_8, .int 0, .ref q_9, .ref q_10, .ref q_11, .ref q_12, .ref q_13, .int 0, .ref q_14, .ref q_15, .ref q_16])), (q_4, .inl (cI, 26, .inl z0)), (q_5, .inl (cI, 6, .inl z0)), (q_6, .inl (cI, 81, .inl z0)), (q_7, .inl (cI, 20, .inl z0)), (q_8, .inl (cI, 20, .inl z0)), (q_9, .inl (cI, 9, .inl z0)), (q_10, .inl (cI, 9, .inl z0)), (q_11, .inl (cI, 36, .inl z0)), (q_12, .inl (cI, 36, .inl z0)), (q_14, .inr (9, [.ref q_17, .ref q_18, .int 0])), (q_17, .inl (cI, 96, .inl z0)), (q_18, .inl (cI, 12, .inl z0)), (q_15, .inr (9, [.ref q_19, .ref q_20, .int 0])), (q_19, .inl (cI, 64, .inl z0)), (q_20, .inl (cI, 8, .inl z0)), (q_21, .inr (10, [.ref q_24, .int 0, .int 0])), (q_31, .inl (cI, 8, .inl z0)), (q_32, .inl (cI, 9, .inl z0))] := hD
  refine lv_aload_n hx hb dX3_init_69 rfl (lv_at hl 0 rfl) ?_
  refine lv_sipush (v := 1024) hx hb dX3_init_70 (by decide) ?_
  refine tk_newa (atype := .int) (ty := .int) (a0 := (1024, .inl z0)) hx hb 0 (hU (.arrayClass .int) wd_12) rfl (fun _ => Iff.rfl) hK rfl hP hD hS hA (fun _ => rfl) (by decide) (by decide) (Nat.le_of_ble_eq_true rfl) (Nat.le_of_ble_eq_true rfl) (Nat.le_of_ble_eq_true rfl) dX3_init_73 (fun q_33 H hP hD hS => ?_)
  have hP : va_P (dC, dI) vwCl [(a0, .inr (3, [.ref q_1, .ref q_21, .ref q_25, .ref q_28, .ref q_31, .int 0, .int 0, .int 0, .int 0, .int 0, .int 0, .int (-1), .ref q_32, .null, .null, .int 0, .null, .null])), (q_1, .inr (7, [.ref q_4, .int 0, .ref q_5, .ref q_6, .ref q_7, .ref q_8, .int 0, .ref q_9, .ref q_10, .ref q_11, .ref q_12, .ref q_13, .int 0, .ref q_14, .ref q_15, .ref q_16])), (q_4, .inl (cI, 26, .inl z0)), (q_5, .inl (cI, 6, .inl z0)), (q_6, .inl (cI, 81, .inl z0)), (q_7, .inl (cI, 20, .inl z0)), (q_8, .inl (cI, 20, .inl z0)), (q_9, .inl (cI, 9, .inl z0)), (q_10, .inl (cI, 9, .inl z0)), (q_11, .inl (cI, 36, .inl z0)), (q_12, .inl (cI, 36, .inl z0)), (q_14, .inr (9, [.ref q_17, .ref q_18, .int 0])), (q_17, .inl (cI, 96, .inl z0)), (q_18, .inl (cI, 12, .inl z0)), (q_15, .inr (9, [.ref q_19, .ref q_20, .int 0])), (q_19, .inl (cI, 64, .inl z0)), (q_20, .inl (cI, 8, .inl z0)), (q_21, .inr (10, [.ref q_24, .int 0, .int 0])), (q_31, .inl (cI, 8, .inl z0)), (q_32, .inl (cI, 9, .inl z0)), (q_33, .inl (cI, 1024, .inl z0))] H := hP
  have hD : va_D A [(a0, .inr (3, [.ref q_1, .ref q_21, .ref q_25, .ref q_28, .ref q_31, .int 0, .int 0, .int 0, .int 0, .int 0, .int 0, .int (-1), .ref q_32, .null, .null, .int 0, .null, .null])), (q_1, .inr (7, [.ref q_4, .int 0, .ref q_5, .ref q_6, .ref q_7, .ref q_8, .int 0, .ref q_9, .ref q_10, .ref q_11, .ref q_12, .ref q_13, .int 0, .ref q_14, .ref q_15, .ref q_16])), (q_4, .inl (cI, 26, .inl z0)), (q_5, .inl (cI, 6, .inl z0)), (q_6, .inl (cI, 81, .inl z0)), (q_7, .inl (cI, 20, .inl z0)), (q_8, .inl (cI, 20, .inl z0)), (q_9, .inl (cI, 9, .inl z0)), (q_10, .inl (cI, 9, .inl z0)), (q_11, .inl (cI, 36, .inl z0)), (q_12, .inl (cI, 36, .inl z0)), (q_14, .inr (9, [.ref q_17, .ref q_18, .int 0])), (q_17, .inl (cI, 96, .inl z0)), (q_18, .inl (cI, 12, .inl z0)), (q_15, .inr (9, [.ref q_19, .ref q_20, .int 0])), (q_19, .inl (cI, 64, .inl z0)), (q_20, .inl (cI, 8, .inl z0)), (q_21, .inr (10, [.ref q_24, .int 0, .int 0])), (q_31, .inl (cI, 8, .inl z0)), (q_32, .inl (cI, 9, .inl z0)), (q_33, .inl (cI, 1024, .inl z0))] := hD
  refine W.widen (k := 121) (n := 41023) (Nat.le_of_ble_eq_true rfl) (Nat.le_of_ble_eq_true rfl) ?_
  refine va_putF (D := (dC, dI)) (ci := 3) (v := .ref q_33) (ty := .array .int) (C := RX3) (T := TX3) (N := 18) hx hb hU inlX3 tyX3 tyX3_ok nmX3 hown hK hP hD hS 0 rfl rfl 13 (by decide) (hU _ wd_64) (fun _ h9 => h9) rfl hin rfl (by decide +kernel) rfl rfl (Nat.le_of_ble_eq_true rfl) dX3_init_75 (fun H locs hP hD hS => ?_)
  have hP : va_P (dC, dI) vwCl [(a0, .inr (3, [.ref q_1, .ref q_21, .ref q_25, .ref q_28, .ref q_31, .int 0, .int 0, .int 0, .int 0, .int 0, .int 0, .int (-1), .ref q_32, .ref q_33, .null, .int 0, .null, .null])), (q_1, .inr (7, [.ref q_4, .int 0, .ref q_5, .ref q_6, .ref q_7, .ref q_8, .int 0, .ref q_9, .ref q_10, .ref q_11, .ref q_12, .ref q_13, .int 0, .ref q_14, .ref q_15, .ref q_16])), (q_4, .inl (cI, 26, .inl z0)), (q_5, .inl (cI, 6, .inl z0)), (q_6, .inl (cI, 81, .inl z0)), (q_7, .inl (cI, 20, .inl z0)), (q_8, .inl (cI, 20, .inl z0)), (q_9, .inl (cI, 9, .inl z0)), (q_10, .inl (cI, 9, .inl z0)), (q_11, .inl (cI, 36, .inl z0)), (q_12, .inl (cI, 36, .inl z0)), (q_14, .inr (9, [.ref q_17, .ref q_18, .int 0])), (q_17, .inl (cI, 96, .inl z0)), (q_18, .inl (cI, 12, .inl z0)), (q_15, .inr (9, [.ref q_19, .ref q_20, .int 0])), (q_19, .inl (cI, 64, .inl z0)), (q_20, .inl (cI, 8, .inl z0)), (q_21, .inr (10, [.ref q_24, .int 0, .int 0])), (q_31, .inl (cI, 8, .inl z0)), (q_32, .inl (cI, 9, .inl z0)), (q_33, .inl (cI, 1024, .inl z0))] H := hP
  have hD : va_D A [(a0, .inr (3, [.ref q_1, .ref q_21, .ref q_25, .ref q_28, .ref q_31, .int 0, .int 0, .int 0, .int 0, .int 0, .int 0, .int (-1), .ref q_32, .ref q_33, .null, .int 0, .null, .null])), (q_1, .inr (7, [.ref q_4, .int 0, .ref q_5, .ref q_6, .ref q_7, .ref q_8, .int 0, .ref q_9, .ref q_10, .ref q_11, .ref q_12, .ref q_13, .int 0, .ref q_14, .ref q_15, .ref q_16])), (q_4, .inl (cI, 26, .inl z0)), (q_5, .inl (cI, 6, .inl z0)), (q_6, .inl (cI, 81, .inl z0)), (q_7, .inl (cI, 20, .inl z0)), (q_8, .inl (cI, 20, .inl z0)), (q_9, .inl (cI, 9, .inl z0)), (q_10, .inl (cI, 9, .inl z0)), (q_11, .inl (cI, 36, .inl z0)), (q_12, .inl (cI, 36, .inl z0)), (q_14, .inr (9, [.ref q_17, .ref q_18, .int 0])), (q_17, .inl (cI, 96, .inl z0)), (q_18, .inl (cI, 12, .inl z0)), (q_15, .inr (9, [.ref q_19, .ref q_20, .int 0])), (q_19, .inl (cI, 64, .inl z0)), (q_20, .inl (cI, 8, .inl z0)), (q_21, .inr (10, [.ref q_24, .int 0, .int 0])), (q_31, .inl (cI, 8, .inl z0)), (q_32, .inl (cI, 9, .inl z0)), (q_33, .inl (cI, 1024, .inl z0))] := hD
  refine lv_aload_n hx hb dX3_init_78 rfl (lv_at hl 0 rfl) ?_
  refine lv_sipush (v := 1024) hx hb dX3_init_79 (by decide) ?_
  refine tk_newa (atype := .int) (ty := .int) (a0 := (1024, .inl z0)) hx hb 0 (hU (.arrayClass .int) wd_12) rfl (fun _ => Iff.rfl) hK rfl hP hD hS hA (fun _ => rfl) (by decide) (by decide) (Nat.le_of_ble_eq_true rfl) (Nat.le_of_ble_eq_true rfl) (Nat.le_of_ble_eq_true rfl) dX3_init_82 (fun q_34 H hP hD hS => ?_)
  have hP : va_P (dC, dI) vwCl [(a0, .inr (3, [.ref q_1, .ref q_21, .ref q_25, .ref q_28, .ref q_31, .int 0, .int 0, .int 0, .int 0, .int 0, .int 0, .int (-1), .ref q_32, .ref q_33, .null, .int 0, .null, .null])), (q_1, .inr (7, [.ref q_4, .int 0, .ref q_5, .ref q_6, .ref q_7, .ref q_8, .int 0, .ref q_9, .ref q_10, .ref q_11, .ref q_12, .ref q_13, .int 0, .ref q_14, .ref q_15, .ref q_16])), (q_4, .inl (cI, 26, .inl z0)), (q_5, .inl (cI, 6, .inl z0)), (q_6, .inl (cI, 81, .inl z0)), (q_7, .inl (cI, 20, .inl z0)), (q_8, .inl (cI, 20, .inl z0)), (q_9, .inl (cI, 9, .inl z0)), (q_10, .inl (cI, 9, .inl z0)), (q_11, .inl (cI, 36, .inl z0)), (q_12, .inl (cI, 36, .inl z0)), (q_14, .inr (9, [.ref q_17, .ref q_18, .int 0])), (q_17, .inl (cI, 96, .inl z0)), (q_18, .inl (cI, 12, .inl z0)), (q_15, .inr (9, [.ref q_19, .ref q_20, .int 0])), (q_19, .inl (cI, 64, .inl z0)), (q_20, .inl (cI, 8, .inl z0)), (q_21, .inr (10, [.ref q_24, .int 0, .int 0])), (q_31, .inl (cI, 8, .inl z0)), (q_32, .inl (cI, 9, .inl z0)), (q_33, .inl (cI, 1024, .inl z0)), (q_34, .inl (cI, 1024, .inl z0))] H := hP
  have hD : va_D A [(a0, .inr (3, [.ref q_1, .ref q_21, .ref q_25, .ref q_28, .ref q_31, .int 0, .int 0, .int 0, .int 0, .int 0, .int 0, .int (-1), .ref q_32, .ref q_33, .null, .int 0, .null, .null])), (q_1, .inr (7, [.ref q_4, .int 0, .ref q_5, .ref q_6, .ref q_7, .ref q_8, .int 0, .ref q_9, .ref q_10, .ref q_11, .ref q_12, .ref q_13, .int 0, .ref q_14, .ref q_15, .ref q_16])), (q_4, .inl (cI, 26, .inl z0)), (q_5, .inl (cI, 6, .inl z0)), (q_6, .inl (cI, 81, .inl z0)), (q_7, .inl (cI, 20, .inl z0)), (q_8, .inl (cI, 20, .inl z0)), (q_9, .inl (cI, 9, .inl z0)), (q_10, .inl (cI, 9, .inl z0)), (q_11, .inl (cI, 36, .inl z0)), (q_12, .inl (cI, 36, .inl z0)), (q_14, .inr (9, [.ref q_17, .ref q_18, .int 0])), (q_17, .inl (cI, 96, .inl z0)), (q_18, .inl (cI, 12, .inl z0)), (q_15, .inr (9, [.ref q_19, .ref q_20, .int 0])), (q_19, .inl (cI, 64, .inl z0)), (q_20, .inl (cI, 8, .inl z0)), (q_21, .inr (10, [.ref q_24, .int 0, .int 0])), (q_31, .inl (cI, 8, .inl z0)), (q_32, .inl (cI, 9, .inl z0)), (q_33, .inl (cI, 1024, .inl z0)), (q_34, .inl (cI, 1024, .inl z0))] := hD
  refine W.widen (k := 122) (n := 42047) (Nat.le_of_ble_eq_true rfl) (Nat.le_of_ble_eq_true rfl) ?_
  refine va_putF (D := (dC, dI)) (ci := 3) (v := .ref q_34) (ty := .array .int) (C := RX3) (T := TX3) (N := 18) hx hb hU inlX3 tyX3 tyX3_ok nmX3 hown hK hP hD hS 0 rfl rfl 14 (by decide) (hU _ wd_65) (fun _ h9 => h9) rfl hin rfl (by decide +kernel) rfl rfl (Nat.le_of_ble_eq_true rfl) dX3_init_84 (fun H locs hP hD hS => ?_)
  have hP : va_P (dC, dI) vwCl [(a0, .inr (3, [.ref q_1, .ref q_21, .ref q_25, .ref q_28, .ref q_31, .int 0, .int 0, .int 0, .int 0, .int 0, .int 0, .int (-1), .ref q_32, .ref q_33, .ref q_34, .int 0, .null, .null])), (q_1, .inr (7, [.ref q_4, .int 0, .ref q_5, .ref q_6, .ref q_7, .ref q_8, .int 0, .ref q_9, .ref q_10, .ref q_11, .ref q_12, .ref q_13, .int 0, .ref q_14, .ref q_15, .ref q_16])), (q_4, .inl (cI, 26, .inl z0)), (q_5, .inl (cI, 6, .inl z0)), (q_6, .inl (cI, 81, .inl z0)), (q_7, .inl (cI, 20, .inl z0)), (q_8, .inl (cI, 20, .inl z0)), (q_9, .inl (cI, 9, .inl z0)), (q_10, .inl (cI, 9, .inl z0)), (q_11, .inl (cI, 36, .inl z0)), (q_12, .inl (cI, 36, .inl z0)), (q_14, .inr (9, [.ref q_17, .ref q_18, .int 0])), (q_17, .inl (cI, 96, .inl z0)), (q_18, .inl (cI, 12, .inl z0)), (q_15, .inr (9, [.ref q_19, .ref q_20, .int 0])), (q_19, .inl (cI, 64, .inl z0)), (q_20, .inl (cI, 8, .inl z0)), (q_21, .inr (10, [.ref q_24, .int 0, .int 0])), (q_31, .inl (cI, 8, .inl z0)), (q_32, .inl (cI, 9, .inl z0)), (q_33, .inl (cI, 1024, .inl z0)), (q_34, .inl (cI, 1024, .inl z0))] H := hP
  have hD : va_D A [(a0, .inr (3, [.ref q_1, .ref q_21, .ref q_25, .ref q_28, .ref q_31, .int 0, .int 0, .int 0, .int 0, .int 0, .int 0, .int (-1), .ref q_32, .ref q_33, .ref q_34, .int 0, .null, .null])), (q_1, .inr (7, [.ref q_4, .int 0, .ref q_5, .ref q_6, .ref q_7, .ref q_8, .int 0, .ref q_9, .ref q_10, .ref q_11, .ref q_12, .ref q_13, .int 0, .ref q_14, .ref q_15, .ref q_16])), (q_4, .inl (cI, 26, .inl z0)), (q_5, .inl (cI, 6, .inl z0)), (q_6, .inl (cI, 81, .inl z0)), (q_7, .inl (cI, 20, .inl z0)), (q_8, .inl (cI, 20, .inl z0)), (q_9, .inl (cI, 9, .inl z0)), (q_10, .inl (cI, 9, .inl z0)), (q_11, .inl (cI, 36, .inl z0)), (q_12, .inl (cI, 36, .inl z0)), (q_14, .inr (9, [.ref q_17, .ref q_18, .int 0])), (q_17, .inl (cI, 96, .inl z0)), (q_18, .inl (cI, 12, .inl z0)), (q_15, .inr (9, [.ref q_19, .ref q_20, .int 0])), (q_19, .inl (cI, 64, .inl z0)), (q_20, .inl (cI, 8, .inl z0)), (q_21, .inr (10, [.ref q_24, .int 0, .int 0])), (q_31, .inl (cI, 8, .inl z0)), (q_32, .inl (cI, 9, .inl z0)), (q_33, .inl (cI, 1024, .inl z0)), (q_34, .inl (cI, 1024, .inl z0))] := hD
  refine lv_aload_n hx hb dX3_init_87 rfl (lv_at hl 0 rfl) ?_
  refine lv_sipush (v := 6561) hx hb dX3_init_88 (by decide) ?_
  refine tk_newa (atype := .int) (ty := .int) (a0 := (6561, .inl z0)) hx hb 0 (hU (.arrayClass .int) wd_12) rfl (fun _ => Iff.rfl) hK rfl hP hD hS hA (fun _ => rfl) (by decide) (by decide) (Nat.le_of_ble_eq_true rfl) (Nat.le_of_ble_eq_true rfl) (Nat.le_of_ble_eq_true rfl) dX3_init_91 (fun q_35 H hP hD hS => ?_)
  have hP : va_P (dC, dI) vwCl [(a0, .inr (3, [.ref q_1, .ref q_21, .ref q_25, .ref q_28, .ref q_31, .int 0, .int 0, .int 0, .int 0, .int 0, .int 0, .int (-1), .ref q_32, .ref q_33, .ref q_34, .int 0, .null, .null])), (q_1, .inr (7, [.ref q_4, .int 0, .ref q_5, .ref q_6, .ref q_7, .ref q_8, .int 0, .ref q_9, .ref q_10, .ref q_11, .ref q_12, .ref q_13, .int 0, .ref q_14, .ref q_15, .ref q_16])), (q_4, .inl (cI, 26, .inl z0)), (q_5, .inl (cI, 6, .inl z0)), (q_6, .inl (cI, 81, .inl z0)), (q_7, .inl (cI, 20, .inl z0)), (q_8, .inl (cI, 20, .inl z0)), (q_9, .inl (cI, 9, .inl z0)), (q_10, .inl (cI, 9, .inl z0)), (q_11, .inl (cI, 36, .inl z0)), (q_12, .inl (cI, 36, .inl z0)), (q_14, .inr (9, [.ref q_17, .ref q_18, .int 0])), (q_17, .inl (cI, 96, .inl z0)), (q_18, .inl (cI, 12, .inl z0)), (q_15, .inr (9, [.ref q_19, .ref q_20, .int 0])), (q_19, .inl (cI, 64, .inl z0)), (q_20, .inl (cI, 8, .inl z0)), (q_21, .inr (10, [.ref q_24, .int 0, .int 0])), (q_31, .inl (cI, 8, .inl z0)), (q_32, .inl (cI, 9, .inl z0)), (q_33, .inl (cI, 1024, .inl z0)), (q_34, .inl (cI, 1024, .inl z0)), (q_35, .inl (cI, 6561, .inl z0))] H := hP
  have hD : va_D A [(a0, .inr (3, [.ref q_1, .ref q_21, .ref q_25, .ref q_28, .ref q_31, .int 0, .int 0, .int 0, .int 0, .int 0, .int 0, .int (-1), .ref q_32, .ref q_33, .ref q_34, .int 0, .null, .null])), (q_1, .inr (7, [.ref q_4, .int 0, .ref q_5, .ref q_6, .ref q_7, .ref q_8, .int 0, .ref q_9, .ref q_10, .ref q_11, .ref q_12, .ref q_13, .int 0, .ref q_14, .ref q_15, .ref q_16])), (q_4, .inl (cI, 26, .inl z0)), (q_5, .inl (cI, 6, .inl z0)), (q_6, .inl (cI, 81, .inl z0)), (q_7, .inl (cI, 20, .inl z0)), (q_8, .inl (cI, 20, .inl z0)), (q_9, .inl (cI, 9, .inl z0)), (q_10, .inl (cI, 9, .inl z0)), (q_11, .inl (cI, 36, .inl z0)), (q_12, .inl (cI, 36, .inl z0)), (q_14, .inr (9, [.ref q_17, .ref q_18, .int 0])), (q_17, .inl (cI, 96, .inl z0)), (q_18, .inl (cI, 12, .inl z0)), (q_15, .inr (9, [.ref q_19, .ref q_20, .int 0])), (q_19, .inl (cI, 64, .inl z0)), (q_20, .inl (cI, 8, .inl z0)), (q_21, .inr (10, [.ref q_24, .int 0, .int 0])), (q_31, .inl (cI, 8, .inl z0)), (q_32, .inl (cI, 9, .inl z0)), (q_33, .inl (cI, 1024, .inl z0)), (q_34, .inl (cI, 1024, .inl z0)), (q_35, .inl (cI, 6561, .inl z0))] := hD
  refine W.widen (k := 123) (n := 48608) (Nat.le_of_ble_eq_true rfl) (Nat.le_of_ble_eq_true rfl) ?_
  refine va_putF (D := (dC, dI)) (ci := 3) (v := .ref q_35) (ty := .array .int) (C := RX3) (T := TX3) (N := 18) hx hb hU inlX3 tyX3 tyX3_ok nmX3 hown hK hP hD hS 0 rfl rfl 16 (by decide) (hU _ wd_66) (fun _ h9 => h9) rfl hin rfl (by decide +kernel) rfl rfl (Nat.le_of_ble_eq_true rfl) dX3_init_93 (fun H locs hP hD hS => ?_)
  have hP : va_P (dC, dI) vwCl [(a0, .inr (3, [.ref q_1, .ref q_21, .ref q_25, .ref q_28, .ref q_31, .int 0, .int 0, .int 0, .int 0, .int 0, .int 0, .int (-1), .ref q_32, .ref q_33, .ref q_34, .int 0, .ref q_35, .null])), (q_1, .inr (7, [.ref q_4, .int 0, .ref q_5, .ref q_6, .ref q_7, .ref q_8, .int 0, .ref q_9, .ref q_10, .ref q_11, .ref q_12, .ref q_13, .int 0, .ref q_14, .ref q_15, .ref q_16])), (q_4, .inl (cI, 26, .inl z0)), (q_5, .inl (cI, 6, .inl z0)), (q_6, .inl (cI, 81, .inl z0)), (q_7, .inl (cI, 20, .inl z0)), (q_8, .inl (cI, 20, .inl z0)), (q_9, .inl (cI, 9, .inl z0)), (q_10, .inl (cI, 9, .inl z0)), (q_11, .inl (cI, 36, .inl z0)), (q_12, .inl (cI, 36, .inl z0)), (q_14, .inr (9, [.ref q_17, .ref q_18, .int 0])), (q_17, .inl (cI, 96, .inl z0)), (q_18, .inl (cI, 12, .inl z0)), (q_15, .inr (9, [.ref q_19, .ref q_20, .int 0])), (q_19, .inl (cI, 64, .inl z0)), (q_20, .inl (cI, 8, .inl z0)), (q_21, .inr (10, [.ref q_24, .int 0, .int 0])), (q_31, .inl (cI, 8, .inl z0)), (q_32, .inl (cI, 9, .inl z0)), (q_33, .inl (cI, 1024, .inl z0)), (q_34, .inl (cI, 1024, .inl z0)), (q_35, .inl (cI, 6561, .inl z0))] H := hP
  have hD : va_D A [(a0, .inr (3, [.ref q_1, .ref q_21, .ref q_25, .ref q_28, .ref q_31, .int 0, .int 0, .int 0, .int 0, .int 0, .int 0, .int (-1), .ref q_32, .ref q_33, .ref q_34, .int 0, .ref q_35, .null])), (q_1, .inr (7, [.ref q_4, .int 0, .ref q_5, .ref q_6, .ref q_7, .ref q_8, .int 0, .ref q_9, .ref q_10, .ref q_11, .ref q_12, .ref q_13, .int 0, .ref q_14, .ref q_15, .ref q_16])), (q_4, .inl (cI, 26, .inl z0)), (q_5, .inl (cI, 6, .inl z0)), (q_6, .inl (cI, 81, .inl z0)), (q_7, .inl (cI, 20, .inl z0)), (q_8, .inl (cI, 20, .inl z0)), (q_9, .inl (cI, 9, .inl z0)), (q_10, .inl (cI, 9, .inl z0)), (q_11, .inl (cI, 36, .inl z0)), (q_12, .inl (cI, 36, .inl z0)), (q_14, .inr (9, [.ref q_17, .ref q_18, .int 0])), (q_17, .inl (cI, 96, .inl z0)), (q_18, .inl (cI, 12, .inl z0)), (q_15, .inr (9, [.ref q_19, .ref q_20, .int 0])), (q_19, .inl (cI, 64, .inl z0)), (q_20, .inl (cI, 8, .inl z0)), (q_21, .inr (10, [.ref q_24, .int 0, .int 0])), (q_31, .inl (cI, 8, .inl z0)), (q_32, .inl (cI, 9, .inl z0)), (q_33, .inl (cI, 1024, .inl z0)), (q_34, .inl (cI, 1024, .inl z0)), (q_35, .inl (cI, 6561, .inl z0))] := hD
  refine lv_aload_n hx hb dX3_init_96 rfl (lv_at hl 0 rfl) ?_
  refine lv_sipush (v := 256) hx hb dX3_init_97 (by decide) ?_
  refine tk_newa (atype := .int) (ty := .int) (a0 := (256, .inl z0)) hx hb 0 (hU (.arrayClass .int) wd_12) rfl (fun _ => Iff.rfl) hK rfl hP hD hS hA (fun _ => rfl) (by decide) (by decide) (Nat.le_of_ble_eq_true rfl) (Nat.le_of_ble_eq_true rfl) (Nat.le_of_ble_eq_true rfl) dX3_init_100 (fun q_36 H hP hD hS => ?_)
  have hP : va_P (dC, dI) vwCl [(a0, .inr (3, [.ref q_1, .ref q_21, .ref q_25, .ref q_28, .ref q_31, .int 0, .int 0, .int 0, .int 0, .int 0, .int 0, .int (-1), .ref q_32, .ref q_33, .ref q_34, .int 0, .ref q_35, .null])), (q_1, .inr (7, [.ref q_4, .int 0, .ref q_5, .ref q_6, .ref q_7, .ref q_8, .int 0, .ref q_9, .ref q_10, .ref q_11, .ref q_12, .ref q_13, .int 0, .ref q_14, .ref q_15, .ref q_16])), (q_4, .inl (cI, 26, .inl z0)), (q_5, .inl (cI, 6, .inl z0)), (q_6, .inl (cI, 81, .inl z0)), (q_7, .inl (cI, 20, .inl z0)), (q_8, .inl (cI, 20, .inl z0)), (q_9, .inl (cI, 9, .inl z0)), (q_10, .inl (cI, 9, .inl z0)), (q_11, .inl (cI, 36, .inl z0)), (q_12, .inl (cI, 36, .inl z0)), (q_14, .inr (9, [.ref q_17, .ref q_18, .int 0])), (q_17, .inl (cI, 96, .inl z0)), (q_18, .inl (cI, 12, .inl z0)), (q_15, .inr (9, [.ref q_19, .ref q_20, .int 0])), (q_19, .inl (cI, 64, .inl z0)), (q_20, .inl (cI, 8, .inl z0)), (q_21, .inr (10, [.ref q_24, .int 0, .int 0])), (q_31, .inl (cI, 8, .inl z0)), (q_32, .inl (cI, 9, .inl z0)), (q_33, .inl (cI, 1024, .inl z0)), (q_34, .inl (cI, 1024, .inl z0)), (q_35, .inl (cI, 6561, .inl z0)), (q_36, .inl (cI, 256, .inl z0))] H := hP
  have hD : va_D A [(a0, .inr (3, [.ref q_1, .ref q_21, .ref q_25, .ref q_28, .ref q_31, .int 0, .int 0, .int 0, .int 0, .int 0, .int 0, .int (-1), .ref q_32, .ref q_33, .ref q_34, .int 0, .ref q_35, .null])), (q_1, .inr (7, [.ref q_4, .int 0, .ref q_5, .ref q_6, .ref q_7, .ref q_8, .int 0, .ref q_9, .ref q_10, .ref q_11, .ref q_12, .ref q_13, .int 0, .ref q_14, .ref q_15, .ref q_16])), (q_4, .inl (cI, 26, .inl z0)), (q_5, .inl (cI, 6, .inl z0)), (q_6, .inl (cI, 81, .inl z0)), (q_7, .inl (cI, 20, .inl z0)), (q_8, .inl (cI, 20, .inl z0)), (q_9, .inl (cI, 9, .inl z0)), (q_10, .inl (cI, 9, .inl z0)), (q_11, .inl (cI, 36, .inl z0)), (q_12, .inl (cI, 36, .inl z0)), (q_14, .inr (9, [.ref q_17, .ref q_18, .int 0])), (q_17, .inl (cI, 96, .inl z0)), (q_18, .inl (cI, 12, .inl z0)), (q_15, .inr (9, [.ref q_19, .ref q_20, .int 0])), (q_19, .inl (cI, 64, .inl z0)), (q_20, .inl (cI, 8, .inl z0)), (q_21, .inr (10, [.ref q_24, .int 0, .int 0])), (q_31, .inl (cI, 8, .inl z0)), (q_32, .inl (cI, 9, .inl z0)), (q_33, .inl (cI, 1024, .inl z0)), (q_34, .inl (cI, 1024, .inl z0)), (q_35, .inl (cI, 6561, .inl z0)), (q_36, .inl (cI, 256, .inl z0))] := hD
  refine W.widen (k := 124) (n := 48864) (Nat.le_of_ble_eq_true rfl) (Nat.le_of_ble_eq_true rfl) ?_
  refine va_putF (D := (dC, dI)) (ci := 3) (v := .ref q_36) (ty := .array .int) (C := RX3) (T := TX3) (N := 18) hx hb hU inlX3 tyX3 tyX3_ok nmX3 hown hK hP hD hS 0 rfl rfl 17 (by decide) (hU _ wd_67) (fun _ h9 => h9) rfl hin rfl (by decide +kernel) rfl rfl (Nat.le_of_ble_eq_true rfl) dX3_init_102 (fun H locs hP hD hS => ?_)
  have hP : va_P (dC, dI) vwCl [(a0, .inr (3, [.ref q_1, .ref q_21, .ref q_25, .ref q_28, .ref q_31, .int 0, .int 0, .int 0, .int 0, .int 0, .int 0, .int (-1), .ref q_32, .ref q_33, .ref q_34, .int 0, .ref q_35, .ref q_36])), (q_1, .inr (7, [.ref q_4, .int 0, .ref q_5, .ref q_6, .ref q_7, .ref q_8, .int 0, .ref q_9, .ref q_10, .ref q_11, .ref q_12, .ref q_13, .int 0, .ref q_14, .ref q_15, .ref q_16])), (q_4, .inl (cI, 26, .inl z0)), (q_5, .inl (cI, 6, .inl z0)), (q_6, .inl (cI, 81, .inl z0)), (q_7, .inl (cI, 20, .inl z0)), (q_8, .inl (cI, 20, .inl z0)), (q_9, .inl (cI, 9, .inl z0)), (q_10, .inl (cI, 9, .inl z0)), (q_11, .inl (cI, 36, .inl z0)), (q_12, .inl (cI, 36, .inl z0)), (q_14, .inr (9, [.ref q_17, .ref q_18, .int 0])), (q_17, .inl (cI, 96, .inl z0)), (q_18, .inl (cI, 12, .inl z0)), (q_15, .inr (9, [.ref q_19, .ref q_20, .int 0])), (q_19, .inl (cI, 64, .inl z0)), (q_20, .inl (cI, 8, .inl z0)), (q_21, .inr (10, [.ref q_24, .int 0, .int 0])), (q_31, .inl (cI, 8, .inl z0)), (q_32, .inl (cI, 9, .inl z0)), (q_33, .inl (cI, 1024, .inl z0)), (q_34, .inl (cI, 1024, .inl z0)), (q_35, .inl (cI, 6561, .inl z0)), (q_36, .inl (cI, 256, .inl z0))] H := hP
  have hD : va_D A [(a0, .inr (3, [.ref q_1, .ref q_21, .ref q_25, .ref q_28, .ref q_31, .int 0, .int 0, .int 0, .int 0, .int 0, .int 0, .int (-1), .ref q_32, .ref q_33, .ref q_34, .int 0, .ref q_35, .ref q_36])), (q_1, .inr (7, [.ref q_4, .int 0, .ref q_5, .ref q_6, .ref q_7, .ref q_8, .int 0, .ref q_9, .ref q_10, .ref q_11, .ref q_12, .ref q_13, .int 0, .ref q_14, .ref q_15, .ref q_16])), (q_4, .inl (cI, 26, .inl z0)), (q_5, .inl (cI, 6, .inl z0)), (q_6, .inl (cI, 81, .inl z0)), (q_7, .inl (cI, 20, .inl z0)), (q_8, .inl (cI, 20, .inl z0)), (q_9, .inl (cI, 9, .inl z0)), (q_10, .inl (cI, 9, .inl z0)), (q_11, .inl (cI, 36, .inl z0)), (q_12, .inl (cI, 36, .inl z0)), (q_14, .inr (9, [.ref q_17, .ref q_18, .int 0])), (q_17, .inl (cI, 96, .inl z0)), (q_18, .inl (cI, 12, .inl z0)), (q_15, .inr (9, [.ref q_19, .ref q_20, .int 0])), (q_19, .inl (cI, 64, .inl z0)), (q_20, .inl (cI, 8, .inl z0)), (q_21, .inr (10, [.ref q_24, .int 0, .int 0])), (q_31, .inl (cI, 8, .inl z0)), (q_32, .inl (cI, 9, .inl z0)), (q_33, .inl (cI, 1024, .inl z0)), (q_34, .inl (cI, 1024, .inl z0)), (q_35, .inl (cI, 6561, .inl z0)), (q_36, .inl (cI, 256, .inl z0))] := hD
  have hP9 := hP.sub (ws' := [(a0, .inr (3, [.ref q_1, .ref q_21, .ref q_25, .ref q_28, .ref q_31, .int 0, .int 0, .int 0, .int 0, .int 0, .int 0, .int (-1), .ref q_32, .ref q_33, .ref q_34, .int 0, .ref q_35, .ref q_36])), (q_1, .inr (7, [.ref q_4, .int 0, .ref q_5, .ref q_6, .ref q_7, .ref q_8, .int 0, .ref q_9, .ref q_10, .ref q_11, .ref q_12, .ref q_13, .int 0, .ref q_14, .ref q_15, .ref q_16])), (q_4, .inl (cI, 26, .inl z0)), (q_5, .inl (cI, 6, .inl z0)), (q_6, .inl (cI, 81, .inl z0)), (q_7, .inl (cI, 20, .inl z0)), (q_8, .inl (cI, 20, .inl z0)), (q_9, .inl (cI, 9, .inl z0)), (q_10, .inl (cI, 9, .inl z0)), (q_11, .inl (cI, 36, .inl z0)), (q_12, .inl (cI, 36, .inl z0)), (q_14, .inr (9, [.ref q_17, .ref q_18, .int 0])), (q_17, .inl (cI, 96, .inl z0)), (q_18, .inl (cI, 12, .inl z0)), (q_15, .inr (9, [.ref q_19, .ref q_20, .int 0])), (q_19, .inl (cI, 64, .inl z0)), (q_20, .inl (cI, 8, .inl z0)), (q_21, .inr (10, [.ref q_24, .int 0, .int 0])), (q_36, .inl (cI, 256, .inl z0))]) [0, 1, 2, 3, 4, 5, 6, 7, 8, 9, 10, 11, 12, 13, 14, 15, 16, 17, 23] rfl
  have hD9 := hD.sub (ws' := [(a0, .inr (3, [.ref q_1, .ref q_21, .ref q_25, .ref q_28, .ref q_31, .int 0, .int 0, .int 0, .int 0, .int 0, .int 0, .int (-1), .ref q_32, .ref q_33, .ref q_34, .int 0, .ref q_35, .ref q_36])), (q_1, .inr (7, [.ref q_4, .int 0, .ref q_5, .ref q_6, .ref q_7, .ref q_8, .int 0, .ref q_9, .ref q_10, .ref q_11, .ref q_12, .ref q_13, .int 0, .ref q_14, .ref q_15, .ref q_16])), (q_4, .inl (cI, 26, .inl z0)), (q_5, .inl (cI, 6, .inl z0)), (q_6, .inl (cI, 81, .inl z0)), (q_7, .inl (cI, 20, .inl z0)), (q_8, .inl (cI, 20, .inl z0)), (q_9, .inl (cI, 9, .inl z0)), (q_10, .inl (cI, 9, .inl z0)), (q_11, .inl (cI, 36, .inl z0)), (q_12, .inl (cI, 36, .inl z0)), (q_14, .inr (9, [.ref q_17, .ref q_18, .int 0])), (q_17, .inl (cI, 96, .inl z0)), (q_18, .inl (cI, 12, .inl z0)), (q_15, .inr (9, [.ref q_19, .ref q_20, .int 0])), (q_19, .inl (cI, 64, .inl z0)), (q_20, .inl (cI, 8, .inl z0)), (q_21, .inr (10, [.ref q_24, .int 0, .int 0])), (q_36, .inl (cI, 256, .inl z0))]) [0, 1, 2, 3, 4, 5, 6, 7, 8, 9, 10, 11, 12, 13, 14, 15, 16, 17, 23] (by decide) rfl
  refine W.widen (k := 124) (n := 48864) (Nat.le_of_ble_eq_true rfl) (Nat.le_of_ble_eq_true rfl) ?_
  exact W.vret hx hb hr (fun t ht hW => ⟨⟨[(a0, .inr (3, [.ref q_1, .ref q_21, .ref q_25, .ref q_28, .ref q_31, .int 0, .int 0, .int 0, .int 0, .int 0, .int 0, .int (-1), .ref q_32, .ref q_33, .ref q_34, .int 0, .ref q_35, .ref q_36])), (q_1, .inr (7, [.ref q_4, .int 0, .ref q_5, .ref q_6, .ref q_7, .ref q_8, .int 0, .ref q_9, .ref q_10, .ref q_11, .ref q_12, .ref q_13, .int 0, .ref q_14, .ref q_15, .ref q_16])), (q_4, .inl (cI, 26, .inl z0)), (q_5, .inl (cI, 6, .inl z0)), (q_6, .inl (cI, 81, .inl z0)), (q_7, .inl (cI, 20, .inl z0)), (q_8, .inl (cI, 20, .inl z0)), (q_9, .inl (cI, 9, .inl z0)), (q_10, .inl (cI, 9, .inl z0)), (q_11, .inl (cI, 36, .inl z0)), (q_12, .inl (cI, 36, .inl z0)), (q_14, .inr (9, [.ref q_17, .ref q_18, .int 0])), (q_17, .inl (cI, 96, .inl z0)), (q_18, .inl (cI, 12, .inl z0)), (q_15, .inr (9, [.ref q_19, .ref q_20, .int 0])), (q_19, .inl (cI, 64, .inl z0)), (q_20, .inl (cI, 8, .inl z0)), (q_21, .inr (10, [.ref q_24, .int 0, .int 0])), (q_36, .inl (cI, 256, .inl z0))], rfl, ⟨q_1, q_21, q_25, q_28, q_31, q_32, q_33, q_34, q_35, q_36, q_4, q_5, q_6, q_7, q_8, q_9, q_10, q_11, q_12, q_13, q_14, q_15, q_16, q_17, q_18, q_19, q_20, q_24, rfl⟩, by rw [ht]; exact hP9, va_K.moved hW.alike hK, hD9⟩, hS.F ht⟩) hS.2.2 dX3_init_105
end
section
set_option maxHeartbeats 8000000 in
set_option maxRecDepth 100000 in
theorem cc_X6_init_0 (l : Launch) (D : va_G) (cI cL cZ : ClassId) (sz : Nat) (a0 : Nat) : mV l D cI cL cZ yX6_init cX6_init 1 none 2 51 10 358 [.ref a0] sz [(a0, .inr (6, [.int 0, .int 0, .null, .null, .null, .int 0, .null, .null, .null]))] (fun (w1 : va_W) => ∃ (q_1 : Nat) (q_2 : Nat) (q_7 : Nat) (q_12 : Nat) (q_13 : Nat) (q_14 : Nat) (q_5 : Nat) (q_6 : Nat) (q_10 : Nat) (q_11 : Nat), w1 = ([(a0, .inr (6, [.int 0, .int 1, .ref q_1, .ref q_2, .ref q_7, .int 0, .ref q_12, .ref q_13, .ref q_14])), (q_1, .inl (cI, 8, .inl z0)), (q_2, .inr (9, [.ref q_5, .ref q_6, .int 0])), (q_5, .inl (cI, 96, .inl z0)), (q_6, .inl (cI, 12, .inl z0)), (q_7, .inr (9, [.ref q_10, .ref q_11, .int 0])), (q_10, .inl (cI, 96, .inl z0)), (q_11, .inl (cI, 12, .inl z0))] : va_W)) := by
  obtain ⟨dC, dI⟩ := D
  refine Met.ofW (cc := cX6_init) (maxL := 1) (ret := none) (by decide) rfl ?_
  intro p e s m args below meth c s₁ B hml hv
  obtain ⟨rfl, hsz, hP, hK, hD0, hN⟩ := hv
  have hx := B.exec
  have hb := B.bytes
  have hr := B.returns
  have hU : ∀ w ∈ wsU, w.before _ s = true := fun w h => atoms_spec (ws := wU yX6_init cX6_init 1 none) B.pre w (List.mem_cons_of_mem _ h)
  have hown : s.vm.findClass RX6 = some m.cls := findClass_of_methodNamed B.named
  have hlocks := B.notSynchronized
  have hin : meth.name = "<init>" := (name_of_methodNamed B.named B.method).1
  subst hsz
  have hD := hD0.self (sz := s.heap.size)
  generalize hAe : va_A [(a0, .inr (6, [.int 0, .int 0, .null, .null, .null, .int 0, .null, .null, .null]))] s.heap.size = A at hD ⊢
  have hA : ∀ q : Nat, s.heap.size ≤ q → A q := fun q h => by rw [← hAe]; exact Or.inr h
  have hS : va_S A s.heap s.heap [] := va_S.rf
  have hP : va_P (dC, dI) vwCl [(a0, .inr (6, [.int 0, .int 0, .null, .null, .null, .int 0, .null, .null, .null]))] s.heap := hP
  have hl := lv_entry ([.ref a0]) (n := 1) (Nat.le_of_ble_eq_true rfl)
  rw [lg_entry_eq]
  generalize (lg_sl ([.ref a0]) ++ List.replicate (1 - (lg_sl ([.ref a0])).length) Slot.unset).toArray = ls at hl ⊢
  have hl : lv_has ls 1 [(0, .ref a0)] := hl
  refine lv_aload_n hx hb dX6_init_0 rfl (lv_at hl 0 rfl) ?_
  refine W.objInit hx hb hown (hU _ wd_135) (hU _ wd_10) (hU _ wd_11) rfl (by rw [hml]; exact hl.1) rfl dX6_init_1 (Nat.le_of_ble_eq_true rfl) (Nat.le_of_ble_eq_true rfl) ?_
  refine W.eq (g2 := F0 m 4 ls []) rfl ?_
  refine lv_aload_n hx hb dX6_init_4 rfl (lv_at hl 0 rfl) ?_
  refine lv_iconst (v := 1) hx hb dX6_init_5 (by decide) ?_
  refine va_put (D := (dC, dI)) (ci := 6) (v := .int 1) (ty := .int) (C := RX6) (T := TX6) (N := 9) hx hb hU inlX6 tyX6 tyX6_ok nmX6 hown hK hP hD hS 0 rfl rfl 1 (by decide) (hU _ wd_136) (fun _ h9 => h9) rfl (by decide +kernel) rfl rfl (Nat.le_of_ble_eq_true rfl) dX6_init_6 (fun H locs hP hD hS => ?_)
  have hP : va_P (dC, dI) vwCl [(a0, .inr (6, [.int 0, .int 1, .null, .null, .null, .int 0, .null, .null, .null]))] H := hP
  have hD : va_D A [(a0, .inr (6, [.int 0, .int 1, .null, .null, .null, .int 0, .null, .null, .null]))] := hD
  refine lv_aload_n hx hb dX6_init_9 rfl (lv_at hl 0 rfl) ?_
  refine lv_bipush (v := 8) hx hb dX6_init_10 (by decide) ?_
  refine tk_newa (atype := .int) (ty := .int) (a0 := (8, .inl z0)) hx hb 0 (hU (.arrayClass .int) wd_12) rfl (fun _ => Iff.rfl) hK rfl hP hD hS hA (fun _ => rfl) (by decide) (by decide) (Nat.le_of_ble_eq_true rfl) (Nat.le_of_ble_eq_true rfl) (Nat.le_of_ble_eq_true rfl) dX6_init_12 (fun q_1 H hP hD hS => ?_)
  have hP : va_P (dC, dI) vwCl [(a0, .inr (6, [.int 0, .int 1, .null, .null, .null, .int 0, .null, .null, .null])), (q_1, .inl (cI, 8, .inl z0))] H := hP
  have hD : va_D A [(a0, .inr (6, [.int 0, .int 1, .null, .null, .null, .int 0, .null, .null, .null])), (q_1, .inl (cI, 8, .inl z0))] := hD
  refine W.widen (k := 1) (n := 8) (Nat.le_of_ble_eq_true rfl) (Nat.le_of_ble_eq_true rfl) ?_
  refine va_putF (D := (dC, dI)) (ci := 6) (v := .ref q_1) (ty := .array .int) (C := RX6) (T := TX6) (N := 9) hx hb hU inlX6 tyX6 tyX6_ok nmX6 hown hK hP hD hS 0 rfl rfl 2 (by decide) (hU _ wd_137) (fun _ h9 => h9) rfl hin rfl (by decide +kernel) rfl rfl (Nat.le_of_ble_eq_true rfl) dX6_init_14 (fun H locs hP hD hS => ?_)
  have hP : va_P (dC, dI) vwCl [(a0, .inr (6, [.int 0, .int 1, .ref q_1, .null, .null, .int 0, .null, .null, .null])), (q_1, .inl (cI, 8, .inl z0))] H := hP
  have hD : va_D A [(a0, .inr (6, [.int 0, .int 1, .ref q_1, .null, .null, .int 0, .null, .null, .null])), (q_1, .inl (cI, 8, .inl z0))] := hD
  refine lv_aload_n hx hb dX6_init_17 rfl (lv_at hl 0 rfl) ?_
  refine va_new (ci := 9) (fs := [.null, .null, .int 0]) (C := RX9) (T := TX9) (N := 3) hx hb hU inlX9 tyX9 tyX9_ok hown (hU _ wd_138) (hU _ wd_84) (hU _ wd_85) hK hP hD hS hA rfl dvX9 (Nat.le_of_ble_eq_true rfl) (Nat.le_of_ble_eq_true rfl) dX6_init_18 (fun q_2 H hP hD hS => ?_)
  have hP : va_P (dC, dI) vwCl [(a0, .inr (6, [.int 0, .int 1, .ref q_1, .null, .null, .int 0, .null, .null, .null])), (q_1, .inl (cI, 8, .inl z0)), (q_2, .inr (9, [.null, .null, .int 0]))] H := hP
  have hD : va_D A [(a0, .inr (6, [.int 0, .int 1, .ref q_1, .null, .null, .int 0, .null, .null, .null])), (q_1, .inl (cI, 8, .inl z0)), (q_2, .inr (9, [.null, .null, .int 0]))] := hD
  refine W.widen (k := 2) (n := 11) (Nat.le_of_ble_eq_true rfl) (Nat.le_of_ble_eq_true rfl) ?_
  refine lv_dup hx hb dX6_init_21 rfl ?_
  refine lv_bipush (v := 12) hx hb dX6_init_22 (by decide) ?_
  refine tk_rv (wr := [(a0, .inr (6, [.int 0, .int 1, .ref q_1, .null, .null, .int 0, .null, .null, .null])), (q_1, .inl (cI, 8, .inl z0))]) (tk_I (As := [.int 12]) (rest := [.ref q_2, .ref a0]) (n := 1) hx hb hml hown hU hN (cc_X9_init_0 l (dC, dI) cI cL cZ H.size q_2) wd_144 wd_92 wd_85 wd_93 rfl (by decide +kernel) ⟨Nat.le_of_ble_eq_true rfl, Nat.le_of_ble_eq_true rfl⟩ hK hP hD [2] (by decide) rfl rfl hl.1 rfl (Nat.le_of_ble_eq_true rfl) dX6_init_24 ⟨Nat.le_of_ble_eq_true rfl, Nat.le_of_ble_eq_true rfl⟩) hP hD hS hA [2] [0, 1] rfl rfl (by decide) (by decide) (fun w_4 H locs hw hP hD hS => ?_)
  obtain ⟨q_5, q_6, rfl⟩ := hw
  have hP : va_P (dC, dI) vwCl [(a0, .inr (6, [.int 0, .int 1, .ref q_1, .null, .null, .int 0, .null, .null, .null])), (q_1, .inl (cI, 8, .inl z0)), (q_2, .inr (9, [.ref q_5, .ref q_6, .int 0])), (q_5, .inl (cI, 96, .inl z0)), (q_6, .inl (cI, 12, .inl z0))] H := hP
  have hD : va_D A [(a0, .inr (6, [.int 0, .int 1, .ref q_1, .null, .null, .int 0, .null, .null, .null])), (q_1, .inl (cI, 8, .inl z0)), (q_2, .inr (9, [.ref q_5, .ref q_6, .int 0])), (q_5, .inl (cI, 96, .inl z0)), (q_6, .inl (cI, 12, .inl z0))] := hD
  refine W.widen (k := 4) (n := 119) (Nat.le_of_ble_eq_true rfl) (Nat.le_of_ble_eq_true rfl) ?_
  refine va_putF (D := (dC, dI)) (ci := 6) (v := .ref q_2) (ty := .object "SaidShallow$WordList") (C := RX6) (T := TX6) (N := 9) hx hb hU inlX6 tyX6 tyX6_ok nmX6 hown hK hP hD hS 0 rfl rfl 3 (by decide) (hU _ wd_139) (fun _ h9 => h9) rfl hin rfl (by decide +kernel) rfl rfl (Nat.le_of_ble_eq_true rfl) dX6_init_27 (fun H locs hP hD hS => ?_)
  have hP : va_P (dC, dI) vwCl [(a0, .inr (6, [.int 0, .int 1, .ref q_1, .ref q_2, .null, .int 0, .null, .null, .null])), (q_1, .inl (cI, 8, .inl z0)), (q_2, .inr (9, [.ref q_5, .ref q_6, .int 0])), (q_5, .inl (cI, 96, .inl z0)), (q_6, .inl (cI, 12, .inl z0))] H := hP
  have hD : va_D A [(a0, .inr (6, [.int 0, .int 1, .ref q_1, .ref q_2, .null, .int 0, .null, .null, .null])), (q_1, .inl (cI, 8, .inl z0)), (q_2, .inr (9, [.ref q_5, .ref q_6, .int 0])), (q_5, .inl (cI, 96, .inl z0)), (q_6, .inl (cI, 12, .inl z0))] := hD
  refine lv_aload_n hx hb dX6_init_30 rfl (lv_at hl 0 rfl) ?_
  refine va_new (ci := 9) (fs := [.null, .null, .int 0]) (C := RX9) (T := TX9) (N := 3) hx hb hU inlX9 tyX9 tyX9_ok hown (hU _ wd_138) (hU _ wd_84) (hU _ wd_85) hK hP hD hS hA rfl dvX9 (Nat.le_of_ble_eq_true rfl) (Nat.le_of_ble_eq_true rfl) dX6_init_31 (fun q_7 H hP hD hS => ?_)
  have hP : va_P (dC, dI) vwCl [(a0, .inr (6, [.int 0, .int 1, .ref q_1, .ref q_2, .null, .int 0, .null, .null, .null])), (q_1, .inl (cI, 8, .inl z0)), (q_2, .inr (9, [.ref q_5, .ref q_6, .int 0])), (q_5, .inl (cI, 96, .inl z0)), (q_6, .inl (cI, 12, .inl z0)), (q_7, .inr (9, [.null, .null, .int 0]))] H := hP
  have hD : va_D A [(a0, .inr (6, [.int 0, .int 1, .ref q_1, .ref q_2, .null, .int 0, .null, .null, .null])), (q_1, .inl (cI, 8, .inl z0)), (q_2, .inr (9, [.ref q_5, .ref q_6, .int 0])), (q_5, .inl (cI, 96, .inl z0)), (q_6, .inl (cI, 12, .inl z0)), (q_7, .inr (9, [.null, .null, .int 0]))] := hD
  refine W.widen (k := 5) (n := 122) (Nat.le_of_ble_eq_true rfl) (Nat.le_of_ble_eq_true rfl) ?_
  refine lv_dup hx hb dX6_init_34 rfl ?_
  refine lv_bipush (v := 12) hx hb dX6_init_35 (by decide) ?_
  refine tk_rv (wr := [(a0, .inr (6, [.int 0, .int 1, .ref q_1, .ref q_2, .null, .int 0, .null, .null, .null])), (q_1, .inl (cI, 8, .inl z0)), (q_2, .inr (9, [.ref q_5, .ref q_6, .int 0])), (q_5, .inl (cI, 96, .inl z0)), (q_6, .inl (cI, 12, .inl z0))]) (tk_I (As := [.int 12]) (rest := [.ref q_7, .ref a0]) (n := 1) hx hb hml hown hU hN (cc_X9_init_0 l (dC, dI) cI cL cZ H.size q_7) wd_144 wd_92 wd_85 wd_93 rfl (by decide +kernel) ⟨Nat.le_of_ble_eq_true rfl, Nat.le_of_ble_eq_true rfl⟩ hK hP hD [5] (by decide) rfl rfl hl.1 rfl (Nat.le_of_ble_eq_true rfl) dX6_init_37 ⟨Nat.le_of_ble_eq_true rfl, Nat.le_of_ble_eq_true rfl⟩) hP hD hS hA [5] [0, 1, 2, 3, 4] rfl rfl (by decide) (by decide) (fun w_9 H locs hw hP hD hS => ?_)
  obtain ⟨q_10, q_11, rfl⟩ := hw
  have hP : va_P (dC, dI) vwCl [(a0, .inr (6, [.int 0, .int 1, .ref q_1, .ref q_2, .null, .int 0, .null, .null, .null])), (q_1, .inl (cI, 8, .inl z0)), (q_2, .inr (9, [.ref q_5, .ref q_6, .int 0])), (q_5, .inl (cI, 96, .inl z0)), (q_6, .inl (cI, 12, .inl z0)), (q_7, .inr (9, [.ref q_10, .ref q_11, .int 0])), (q_10, .inl (cI, 96, .inl z0)), (q_11, .inl (cI, 12, .inl z0))] H := hP
  have hD : va_D A [(a0, .inr (6, [.int 0, .int 1, .ref q_1, .ref q_2, .null, .int 0, .null, .null, .null])), (q_1, .inl (cI, 8, .inl z0)), (q_2, .inr (9, [.ref q_5, .ref q_6, .int 0])), (q_5, .inl (cI, 96, .inl z0)), (q_6, .inl (cI, 12, .inl z0)), (q_7, .inr (9, [.ref q_10, .ref q_11, .int 0])), (q_10, .inl (cI, 96, .inl z0)), (q_11, .inl (cI, 12, .inl z0))] := hD
  refine W.widen (k := 7) (n := 230) (Nat.le_of_ble_eq_true rfl) (Nat.le_of_ble_eq_true rfl) ?_
  refine va_putF (D := (dC, dI)) (ci := 6) (v := .ref q_7) (ty := .object "SaidShallow$WordList") (C := RX6) (T := TX6) (N := 9) hx hb hU inlX6 tyX6 tyX6_ok nmX6 hown hK hP hD hS 0 rfl rfl 4 (by decide) (hU _ wd_140) (fun _ h9 => h9) rfl hin rfl (by decide +kernel) rfl rfl (Nat.le_of_ble_eq_true rfl) dX6_init_40 (fun H locs hP hD hS => ?_)
  have hP : va_P (dC, dI) vwCl [(a0, .inr (6, [.int 0, .int 1, .ref q_1, .ref q_2, .ref q_7, .int 0, .null, .null, .null])), (q_1, .inl (cI, 8, .inl z0)), (q_2, .inr (9, [.ref q_5, .ref q_6, .int 0])), (q_5, .inl (cI, 96, .inl z0)), (q_6, .inl (cI, 12, .inl z0)), (q_7, .inr (9, [.ref q_10, .ref q_11, .int 0])), (q_10, .inl (cI, 96, .inl z0)), (q_11, .inl (cI, 12, .inl z0))] H := hP
  have hD : va_D A [(a0, .inr (6, [.int 0, .int 1, .ref q_1, .ref q_2, .ref q_7, .int 0, .null, .null, .null])), (q_1, .inl (cI, 8, .inl z0)), (q_2, .inr (9, [.ref q_5, .ref q_6, .int 0])), (q_5, .inl (cI, 96, .inl z0)), (q_6, .inl (cI, 12, .inl z0)), (q_7, .inr (9, [.ref q_10, .ref q_11, .int 0])), (q_10, .inl (cI, 96, .inl z0)), (q_11, .inl (cI, 12, .inl z0))] := hD
  refine lv_aload_n hx hb dX6_init_43 rfl (lv_at hl 0 rfl) ?_
  refine lv_bipush (v := 108) hx hb dX6_init_44 (by decide) ?_
  refine tk_newa (atype := .int) (ty := .int) (a0 := (108, .inl z0)) hx hb 0 (hU (.arrayClass .int) wd_12) rfl (fun _ => Iff.rfl) hK rfl hP hD hS hA (fun _ => rfl) (by decide) (by decide) (Nat.le_of_ble_eq_true rfl) (Nat.le_of_ble_eq_true rfl) (Nat.le_of_ble_eq_true rfl) dX6_init_46 (fun q_12 H hP hD hS => ?_)
  have hP : va_P (dC, dI) vwCl [(a0, .inr (6, [.int 0, .int 1, .ref q_1, .ref q_2, .ref q_7, .int 0, .null, .null, .null])), (q_1, .inl (cI, 8, .inl z0)), (q_2, .inr (9, [.ref q_5, .ref q_6, .int 0])), (q_5, .inl (cI, 96, .inl z0)), (q_6, .inl (cI, 12, .inl z0)), (q_7, .inr (9, [.ref q_10, .ref q_11, .int 0])), (q_10, .inl (cI, 96, .inl z0)), (q_11, .inl (cI, 12, .inl z0)), (q_12, .inl (cI, 108, .inl z0))] H := hP
  have hD : va_D A [(a0, .inr (6, [.int 0, .int 1, .ref q_1, .ref q_2, .ref q_7, .int 0, .null, .null, .null])), (q_1, .inl (cI, 8, .inl z0)), (q_2, .inr (9, [.ref q_5, .ref q_6, .int 0])), (q_5, .inl (cI, 96, .inl z0)), (q_6, .inl (cI, 12, .inl z0)), (q_7, .inr (9, [.ref q_10, .ref q_11, .int 0])), (q_10, .inl (cI, 96, .inl z0)), (q_11, .inl (cI, 12, .inl z0)), (q_12, .inl (cI, 108, .inl z0))] := hD
  refine W.widen (k := 8) (n := 338) (Nat.le_of_ble_eq_true rfl) (Nat.le_of_ble_eq_true rfl) ?_
  refine va_putF (D := (dC, dI)) (ci := 6) (v := .ref q_12) (ty := .array .int) (C := RX6) (T := TX6) (N := 9) hx hb hU inlX6 tyX6 tyX6_ok nmX6 hown hK hP hD hS 0 rfl rfl 6 (by decide) (hU _ wd_141) (fun _ h9 => h9) rfl hin rfl (by decide +kernel) rfl rfl (Nat.le_of_ble_eq_true rfl) dX6_init_48 (fun H locs hP hD hS => ?_)
  have hP : va_P (dC, dI) vwCl [(a0, .inr (6, [.int 0, .int 1, .ref q_1, .ref q_2, .ref q_7, .int 0, .ref q_12, .null, .null])), (q_1, .inl (cI, 8, .inl z0)), (q_2, .inr (9, [.ref q_5, .ref q_6, .int 0])), (q_5, .inl (cI, 96, .inl z0)), (q_6, .inl (cI, 12, .inl z0)), (q_7, .inr (9, [.ref q_10, .ref q_11, .int 0])), (q_10, .inl (cI, 96, .inl z0)), (q_11, .inl (cI, 12, .inl z0)), (q_12, .inl (cI, 108, .inl z0))] H := hP
  have hD : va_D A [(a0, .inr (6, [.int 0, .int 1, .ref q_1, .ref q_2, .ref q_7, .int 0, .ref q_12, .null, .null])), (q_1, .inl (cI, 8, .inl z0)), (q_2, .inr (9, [.ref q_5, .ref q_6, .int 0])), (q_5, .inl (cI, 96, .inl z0)), (q_6, .inl (cI, 12, .inl z0)), (q_7, .inr (9, [.ref q_10, .ref q_11, .int 0])), (q_10, .inl (cI, 96, .inl z0)), (q_11, .inl (cI, 12, .inl z0)), (q_12, .inl (cI, 108, .inl z0))] := hD
  refine lv_aload_n hx hb dX6_init_51 rfl (lv_at hl 0 rfl) ?_
  refine lv_bipush (v := 12) hx hb dX6_init_52 (by decide) ?_
  refine tk_newa (atype := .int) (ty := .int) (a0 := (12, .inl z0)) hx hb 0 (hU (.arrayClass .int) wd_12) rfl (fun _ => Iff.rfl) hK rfl hP hD hS hA (fun _ => rfl) (by decide) (by decide) (Nat.le_of_ble_eq_true rfl) (Nat.le_of_ble_eq_true rfl) (Nat.le_of_ble_eq_true rfl) dX6_init_54 (fun q_13 H hP hD hS => ?_)
  have hP : va_P (dC, dI) vwCl [(a0, .inr (6, [.int 0, .int 1, .ref q_1, .ref q_2, .ref q_7, .int 0, .ref q_12, .null, .null])), (q_1, .inl (cI, 8, .inl z0)), (q_2, .inr (9, [.ref q_5, .ref q_6, .int 0])), (q_5, .inl (cI, 96, .inl z0)), (q_6, .inl (cI, 12, .inl z0)), (q_7, .inr (9, [.ref q_10, .ref q_11, .int 0])), (q_10, .inl (cI, 96, .inl z0)), (q_11, .inl (cI, 12, .inl z0)), (q_12, .inl (cI, 108, .inl z0)), (q_13, .inl (cI, 12, .inl z0))] H := hP
  have hD : va_D A [(a0, .inr (6, [.int 0, .int 1, .ref q_1, .ref q_2, .ref q_7, .int 0, .ref q_12, .null, .null])), (q_1, .inl (cI, 8, .inl z0)), (q_2, .inr (9, [.ref q_5, .ref q_6, .int 0])), (q_5, .inl (cI, 96, .inl z0)), (q_6, .inl (cI, 12, .inl z0)), (q_7, .inr (9, [.ref q_10, .ref q_11, .int 0])), (q_10, .inl (cI, 96, .inl z0)), (q_11, .inl (cI, 12, .inl z0)), (q_12, .inl (cI, 108, .inl z0)), (q_13, .inl (cI, 12, .inl z0))] := hD
  refine W.widen (k := 9) (n := 350) (Nat.le_of_ble_eq_true rfl) (Nat.le_of_ble_eq_true rfl) ?_
  refine va_putF (D := (dC, dI)) (ci := 6) (v := .ref q_13) (ty := .array .int) (C := RX6) (T := TX6) (N := 9) hx hb hU inlX6 tyX6 tyX6_ok nmX6 hown hK hP hD hS 0 rfl rfl 7 (by decide) (hU _ wd_142) (fun _ h9 => h9) rfl hin rfl (by decide +kernel) rfl rfl (Nat.le_of_ble_eq_true rfl) dX6_init_56 (fun H locs hP hD hS => ?_)
  have hP : va_P (dC, dI) vwCl [(a0, .inr (6, [.int 0, .int 1, .ref q_1, .ref q_2, .ref q_7, .int 0, .ref q_12, .ref q_13, .null])), (q_1, .inl (cI, 8, .inl z0)), (q_2, .inr (9, [.ref q_5, .ref q_6, .int 0])), (q_5, .inl (cI, 96, .inl z0)), (q_6, .inl (cI, 12, .inl z0)), (q_7, .inr (9, [.ref q_10, .ref q_11, .int 0])), (q_10, .inl (cI, 96, .inl z0)), (q_11, .inl (cI, 12, .inl z0)), (q_12, .inl (cI, 108, .inl z0)), (q_13, .inl (cI, 12, .inl z0))] H := hP
  have hD : va_D A [(a0, .inr (6, [.int 0, .int 1, .ref q_1, .ref q_2, .ref q_7, .int 0, .ref q_12, .ref q_13, .null])), (q_1, .inl (cI, 8, .inl z0)), (q_2, .inr (9, [.ref q_5, .ref q_6, .int 0])), (q_5, .inl (cI, 96, .inl z0)), (q_6, .inl (cI, 12, .inl z0)), (q_7, .inr (9, [.ref q_10, .ref q_11, .int 0])), (q_10, .inl (cI, 96, .inl z0)), (q_11, .inl (cI, 12, .inl z0)), (q_12, .inl (cI, 108, .inl z0)), (q_13, .inl (cI, 12, .inl z0))] := hD
  refine lv_aload_n hx hb dX6_init_59 rfl (lv_at hl 0 rfl) ?_
  refine lv_bipush (v := 8) hx hb dX6_init_60 (by decide) ?_
  refine tk_newa (atype := .int) (ty := .int) (a0 := (8, .inl z0)) hx hb 0 (hU (.arrayClass .int) wd_12) rfl (fun _ => Iff.rfl) hK rfl hP hD hS hA (fun _ => rfl) (by decide) (by decide) (Nat.le_of_ble_eq_true rfl) (Nat.le_of_ble_eq_true rfl) (Nat.le_of_ble_eq_true rfl) dX6_init_62 (fun q_14 H hP hD hS => ?_)
  have hP : va_P (dC, dI) vwCl [(a0, .inr (6, [.int 0, .int 1, .ref q_1, .ref q_2, .ref q_7, .int 0, .ref q_12, .ref q_13, .null])), (q_1, .inl (cI, 8, .inl z0)), (q_2, .inr (9, [.ref q_5, .ref q_6, .int 0])), (q_5, .inl (cI, 96, .inl z0)), (q_6, .inl (cI, 12, .inl z0)), (q_7, .inr (9, [.ref q_10, .ref q_11, .int 0])), (q_10, .inl (cI, 96, .inl z0)), (q_11, .inl (cI, 12, .inl z0)), (q_12, .inl (cI, 108, .inl z0)), (q_13, .inl (cI, 12, .inl z0)), (q_14, .inl (cI, 8, .inl z0))] H := hP
  have hD : va_D A [(a0, .inr (6, [.int 0, .int 1, .ref q_1, .ref q_2, .ref q_7, .int 0, .ref q_12, .ref q_13, .null])), (q_1, .inl (cI, 8, .inl z0)), (q_2, .inr (9, [.ref q_5, .ref q_6, .int 0])), (q_5, .inl (cI, 96, .inl z0)), (q_6, .inl (cI, 12, .inl z0)), (q_7, .inr (9, [.ref q_10, .ref q_11, .int 0])), (q_10, .inl (cI, 96, .inl z0)), (q_11, .inl (cI, 12, .inl z0)), (q_12, .inl (cI, 108, .inl z0)), (q_13, .inl (cI, 12, .inl z0)), (q_14, .inl (cI, 8, .inl z0))] := hD
  refine W.widen (k := 10) (n := 358) (Nat.le_of_ble_eq_true rfl) (Nat.le_of_ble_eq_true rfl) ?_
  refine va_putF (D := (dC, dI)) (ci := 6) (v := .ref q_14) (ty := .array .int) (C := RX6) (T := TX6) (N := 9) hx hb hU inlX6 tyX6 tyX6_ok nmX6 hown hK hP hD hS 0 rfl rfl 8 (by decide) (hU _ wd_143) (fun _ h9 => h9) rfl hin rfl (by decide +kernel) rfl rfl (Nat.le_of_ble_eq_true rfl) dX6_init_64 (fun H locs hP hD hS => ?_)
  have hP : va_P (dC, dI) vwCl [(a0, .inr (6, [.int 0, .int 1, .ref q_1, .ref q_2, .ref q_7, .int 0, .ref q_12, .ref q_13, .ref q_14])), (q_1, .inl (cI, 8, .inl z0)), (q_2, .inr (9, [.ref q_5, .ref q_6, .int 0])), (q_5, .inl (cI, 96, .inl z0)), (q_6, .inl (cI, 12, .inl z0)), (q_7, .inr (9, [.ref q_10, .ref q_11, .int 0])), (q_10, .inl (cI, 96, .inl z0)), (q_11, .inl (cI, 12, .inl z0)), (q_12, .inl (cI, 108, .inl z0)), (q_13, .inl (cI, 12, .inl z0)), (q_14, .inl (cI, 8, .inl z0))] H := hP
  have hD : va_D A [(a0, .inr (6, [.int 0, .int 1, .ref q_1, .ref q_2, .ref q_7, .int 0, .ref q_12, .ref q_13, .ref q_14])), (q_1, .inl (cI, 8, .inl z0)), (q_2, .inr (9, [.ref q_5, .ref q_6, .int 0])), (q_5, .inl (cI, 96, .inl z0)), (q_6, .inl (cI, 12, .inl z0)), (q_7, .inr (9, [.ref q_10, .ref q_11, .int 0])), (q_10, .inl (cI, 96, .inl z0)), (q_11, .inl (cI, 12, .inl z0)), (q_12, .inl (cI, 108, .inl z0)), (q_13, .inl (cI, 12, .inl z0)), (q_14, .inl (cI, 8, .inl z0))] := hD
  have hP9 := hP.sub (ws' := [(a0, .inr (6, [.int 0, .int 1, .ref q_1, .ref q_2, .ref q_7, .int 0, .ref q_12, .ref q_13, .ref q_14])), (q_1, .inl (cI, 8, .inl z0)), (q_2, .inr (9, [.ref q_5, .ref q_6, .int 0])), (q_5, .inl (cI, 96, .inl z0)), (q_6, .inl (cI, 12, .inl z0)), (q_7, .inr (9, [.ref q_10, .ref q_11, .int 0])), (q_10, .inl (cI, 96, .inl z0)), (q_11, .inl (cI, 12, .inl z0))]) [0, 1, 2, 3, 4, 5, 6, 7] rfl
  have hD9 := hD.sub (ws' := [(a0, .inr (6, [.int 0, .int 1, .ref q_1, .ref q_2, .ref q_7, .int 0, .ref q_12, .ref q_13, .ref q_14])), (q_1, .inl (cI, 8, .inl z0)), (q_2, .inr (9, [.ref q_5, .ref q_6, .int 0])), (q_5, .inl (cI, 96, .inl z0)), (q_6, .inl (cI, 12, .inl z0)), (q_7, .inr (9, [.ref q_10, .ref q_11, .int 0])), (q_10, .inl (cI, 96, .inl z0)), (q_11, .inl (cI, 12, .inl z0))]) [0, 1, 2, 3, 4, 5, 6, 7] (by decide) rfl
  refine W.widen (k := 10) (n := 358) (Nat.le_of_ble_eq_true rfl) (Nat.le_of_ble_eq_true rfl) ?_
  exact W.vret hx hb hr (fun t ht hW => ⟨⟨[(a0, .inr (6, [.int 0, .int 1, .ref q_1, .ref q_2, .ref q_7, .int 0, .ref q_12, .ref q_13, .ref q_14])), (q_1, .inl (cI, 8, .inl z0)), (q_2, .inr (9, [.ref q_5, .ref q_6, .int 0])), (q_5, .inl (cI, 96, .inl z0)), (q_6, .inl (cI, 12, .inl z0)), (q_7, .inr (9, [.ref q_10, .ref q_11, .int 0])), (q_10, .inl (cI, 96, .inl z0)), (q_11, .inl (cI, 12, .inl z0))], rfl, ⟨q_1, q_2, q_7, q_12, q_13, q_14, q_5, q_6, q_10, q_11, rfl⟩, by rw [ht]; exact hP9, va_K.moved hW.alike hK, hD9⟩, hS.F ht⟩) hS.2.2 dX6_init_67
set_option maxHeartbeats 8000000 in
set_option maxRecDepth 100000 in
theorem cc_X2_init_0 (l : Launch) (D : va_G) (cI cL cZ : ClassId) (sz : Nat) (a0 : Nat) : mV l D cI cL cZ yX2_init cX2_init 1 none 4 91 107 2365 [.ref a0] sz [(a0, .inr (2, [.null, .int 0, .int 0, .null, .int 0, .int 0, .int 0, .int 0, .int 0, .int 0]))] (fun (w1 : va_W) => ∃ (q_1 : Nat) (q_21 : Nat) (q_4 : Nat) (q_5 : Nat) (q_6 : Nat) (q_7 : Nat) (q_8 : Nat) (q_9 : Nat) (q_10 : Nat) (q_11 : Nat) (q_12 : Nat) (q_13 : Nat) (q_14 : Nat) (q_15 : Nat) (q_16 : Nat) (q_17 : Nat) (q_18 : Nat) (q_19 : Nat) (q_20 : Nat), w1 = ([(a0, .inr (2, [.ref q_1, .int 0, .int (-1), .ref q_21, .int 0, .int 0, .int 0, .int 0, .int 0, .int 0])), (q_1, .inr (7, [.ref q_4, .int 0, .ref q_5, .ref q_6, .ref q_7, .ref q_8, .int 0, .ref q_9, .ref q_10, .ref q_11, .ref q_12, .ref q_13, .int 0, .ref q_14, .ref q_15, .ref q_16])), (q_4, .inl (cI, 26, .inl z0)), (q_5, .inl (cI, 6, .inl z0)), (q_6, .inl (cI, 81, .inl z0)), (q_7, .inl (cI, 20, .inl z0)), (q_8, .inl (cI, 20, .inl z0)), (q_9, .inl (cI, 9, .inl z0)), (q_10, .inl (cI, 9, .inl z0)), (q_11, .inl (cI, 36, .inl z0)), (q_12, .inl (cI, 36, .inl z0)), (q_14, .inr (9, [.ref q_17, .ref q_18, .int 0])), (q_17, .inl (cI, 96, .inl z0)), (q_18, .inl (cI, 12, .inl z0)), (q_15, .inr (9, [.ref q_19, .ref q_20, .int 0])), (q_19, .inl (cI, 64, .inl z0)), (q_20, .inl (cI, 8, .inl z0)), (q_21, .inl (cI, 600, .inl z0))] : va_W)) := by
  obtain ⟨dC, dI⟩ := D
  refine Met.ofW (cc := cX2_init) (maxL := 1) (ret := none) (by decide) rfl ?_
  intro p e s m args below meth c s₁ B hml hv
  obtain ⟨rfl, hsz, hP, hK, hD0, hN⟩ := hv
  have hx := B.exec
  have hb := B.bytes
  have hr := B.returns
  have hU : ∀ w ∈ wsU, w.before _ s = true := fun w h => atoms_spec (ws := wU yX2_init cX2_init 1 none) B.pre w (List.mem_cons_of_mem _ h)
  have hown : s.vm.findClass RX2 = some m.cls := findClass_of_methodNamed B.named
  have hlocks := B.notSynchronized
  have hin : meth.name = "<init>" := (name_of_methodNamed B.named B.method).1
  subst hsz
  have hD := hD0.self (sz := s.heap.size)
  generalize hAe : va_A [(a0, .inr (2, [.null, .int 0, .int 0, .null, .int 0, .int 0, .int 0, .int 0, .int 0, .int 0]))] s.heap.size = A at hD ⊢
  have hA : ∀ q : Nat, s.heap.size ≤ q → A q := fun q h => by rw [← hAe]; exact Or.inr h
  have hS : va_S A s.heap s.heap [] := va_S.rf
  have hP : va_P (dC, dI) vwCl [(a0, .inr (2, [.null, .int 0, .int 0, .null, .int 0, .int 0, .int 0, .int 0, .int 0, .int 0]))] s.heap := hP
  have hl := lv_entry ([.ref a0]) (n := 1) (Nat.le_of_ble_eq_true rfl)
  rw [lg_entry_eq]
  generalize (lg_sl ([.ref a0]) ++ List.replicate (1 - (lg_sl ([.ref a0])).length) Slot.unset).toArray = ls at hl ⊢
  have hl : lv_has ls 1 [(0, .ref a0)] := hl
  refine lv_aload_n hx hb dX2_init_0 rfl (lv_at hl 0 rfl) ?_
  refine W.objInit hx hb hown (hU _ wd_148) (hU _ wd_10) (hU _ wd_11) rfl (by rw [hml]; exact hl.1) rfl dX2_init_1 (Nat.le_of_ble_eq_true rfl) (Nat.le_of_ble_eq_true rfl) ?_
  refine W.eq (g2 := F0 m 4 ls []) rfl ?_
  refine lv_aload_n hx hb dX2_init_4 rfl (lv_at hl 0 rfl) ?_
  refine va_new (ci := 7) (fs := [.null, .int 0, .null, .null, .null, .null, .int 0, .null, .null, .null, .null, .null, .int 0, .null, .null, .null]) (C := RX7) (T := TX7) (N := 16) hx hb hU inlX7 tyX7 tyX7_ok hown (hU _ wd_149) (hU _ wd_27) (hU _ wd_28) hK hP hD hS hA rfl dvX7 (Nat.le_of_ble_eq_true rfl) (Nat.le_of_ble_eq_true rfl) dX2_init_5 (fun q_1 H hP hD hS => ?_)
  have hP : va_P (dC, dI) vwCl [(a0, .inr (2, [.null, .int 0, .int 0, .null, .int 0, .int 0, .int 0, .int 0, .int 0, .int 0])), (q_1, .inr (7, [.null, .int 0, .null, .null, .null, .null, .int 0, .null, .null, .null, .null, .null, .int 0, .null, .null, .null]))] H := hP
  have hD : va_D A [(a0, .inr (2, [.null, .int 0, .int 0, .null, .int 0, .int 0, .int 0, .int 0, .int 0, .int 0])), (q_1, .inr (7, [.null, .int 0, .null, .null, .null, .null, .int 0, .null, .null, .null, .null, .null, .int 0, .null, .null, .null]))] := hD
  refine W.widen (k := 1) (n := 16) (Nat.le_of_ble_eq_true rfl) (Nat.le_of_ble_eq_true rfl) ?_
  refine lv_dup hx hb dX2_init_8 rfl ?_
  refine tk_rv (wr := [(a0, .inr (2, [.null, .int 0, .int 0, .null, .int 0, .int 0, .int 0, .int 0, .int 0, .int 0]))]) (tk_I (As := []) (rest := [.ref q_1, .ref a0]) (n := 0) hx hb hml hown hU hN (cc_X7_init_0 l (dC, dI) cI cL cZ H.size q_1) wd_153 wd_69 wd_28 wd_70 rfl (by decide +kernel) ⟨Nat.le_of_ble_eq_true rfl, Nat.le_of_ble_eq_true rfl⟩ hK hP hD [1] (by decide) rfl rfl hl.1 rfl (Nat.le_of_ble_eq_true rfl) dX2_init_9 ⟨Nat.le_of_ble_eq_true rfl, Nat.le_of_ble_eq_true rfl⟩) hP hD hS hA [1] [0] rfl rfl (by decide) (by decide) (fun w_3 H locs hw hP hD hS => ?_)
  obtain ⟨q_4, q_5, q_6, q_7, q_8, q_9, q_10, q_11, q_12, q_13, q_14, q_15, q_16, q_17, q_18, q_19, q_20, rfl⟩ := hw
  have hP : va_P (dC, dI) vwCl [(a0, .inr (2, [.null, .int 0, .int 0, .null, .int 0, .int 0, .int 0, .int 0, .int 0, .int 0])), (q_1, .inr (7, [.ref q_4, .int 0, .ref q_5, .ref q_6, .ref q_7, .ref q_8, .int 0, .ref q_9, .ref q_10, .ref q_11, .ref q_12, .ref q_13, .int 0, .ref q_14, .ref q_15, .ref q_16])), (q_4, .inl (cI, 26, .inl z0)), (q_5, .inl (cI, 6, .inl z0)), (q_6, .inl (cI, 81, .inl z0)), (q_7, .inl (cI, 20, .inl z0)), (q_8, .inl (cI, 20, .inl z0)), (q_9, .inl (cI, 9, .inl z0)), (q_10, .inl (cI, 9, .inl z0)), (q_11, .inl (cI, 36, .inl z0)), (q_12, .inl (cI, 36, .inl z0)), (q_14, .inr (9, [.ref q_17, .ref q_18, .int 0])), (q_17, .inl (cI, 96, .inl z0)), (q_18, .inl (cI, 12, .inl z0)), (q_15, .inr (9, [.ref q_19, .ref q_20, .int 0])), (q_19, .inl (cI, 64, .inl z0)), (q_20, .inl (cI, 8, .inl z0))] H := hP
  have hD : va_D A [(a0, .inr (2, [.null, .int 0, .int 0, .null, .int 0, .int 0, .int 0, .int 0, .int 0, .int 0])), (q_1, .inr (7, [.ref q_4, .int 0, .ref q_5, .ref q_6, .ref q_7, .ref q_8, .int 0, .ref q_9, .ref q_10, .ref q_11, .ref q_12, .ref q_13, .int 0, .ref q_14, .ref q_15, .ref q_16])), (q_4, .inl (cI, 26, .inl z0)), (q_5, .inl (cI, 6, .inl z0)), (q_6, .inl (cI, 81, .inl z0)), (q_7, .inl (cI, 20, .inl z0)), (q_8, .inl (cI, 20, .inl z0)), (q_9, .inl (cI, 9, .inl z0)), (q_10, .inl (cI, 9, .inl z0)), (q_11, .inl (cI, 36, .inl z0)), (q_12, .inl (cI, 36, .inl z0)), (q_14, .inr (9, [.ref q_17, .ref q_18, .int 0])), (q_17, .inl (cI, 96, .inl z0)), (q_18, .inl (cI, 12, .inl z0)), (q_15, .inr (9, [.ref q_19, .ref q_20, .int 0])), (q_19, .inl (cI, 64, .inl z0)), (q_20, .inl (cI, 8, .inl z0))] := hD
  refine W.widen (k := 106) (n := 1765) (Nat.le_of_ble_eq_true rfl) (Nat.le_of_ble_eq_true rfl) ?_
  refine va_putF (D := (dC, dI)) (ci := 2) (v := .ref q_1) (ty := .object "SaidShallow$Tongue") (C := RX2) (T := TX2) (N := 10) hx hb hU inlX2 tyX2 tyX2_ok nmX2 hown hK hP hD hS 0 rfl rfl 0 (by decide) (hU _ wd_150) (fun _ h9 => h9) rfl hin rfl (by decide +kernel) rfl rfl (Nat.le_of_ble_eq_true rfl) dX2_init_12 (fun H locs hP hD hS => ?_)
  have hP : va_P (dC, dI) vwCl [(a0, .inr (2, [.ref q_1, .int 0, .int 0, .null, .int 0, .int 0, .int 0, .int 0, .int 0, .int 0])), (q_1, .inr (7, [.ref q_4, .int 0, .ref q_5, .ref q_6, .ref q_7, .ref q_8, .int 0, .ref q_9, .ref q_10, .ref q_11, .ref q_12, .ref q_13, .int 0, .ref q_14, .ref q_15, .ref q_16])), (q_4, .inl (cI, 26, .inl z0)), (q_5, .inl (cI, 6, .inl z0)), (q_6, .inl (cI, 81, .inl z0)), (q_7, .inl (cI, 20, .inl z0)), (q_8, .inl (cI, 20, .inl z0)), (q_9, .inl (cI, 9, .inl z0)), (q_10, .inl (cI, 9, .inl z0)), (q_11, .inl (cI, 36, .inl z0)), (q_12, .inl (cI, 36, .inl z0)), (q_14, .inr (9, [.ref q_17, .ref q_18, .int 0])), (q_17, .inl (cI, 96, .inl z0)), (q_18, .inl (cI, 12, .inl z0)), (q_15, .inr (9, [.ref q_19, .ref q_20, .int 0])), (q_19, .inl (cI, 64, .inl z0)), (q_20, .inl (cI, 8, .inl z0))] H := hP
  have hD : va_D A [(a0, .inr (2, [.ref q_1, .int 0, .int 0, .null, .int 0, .int 0, .int 0, .int 0, .int 0, .int 0])), (q_1, .inr (7, [.ref q_4, .int 0, .ref q_5, .ref q_6, .ref q_7, .ref q_8, .int 0, .ref q_9, .ref q_10, .ref q_11, .ref q_12, .ref q_13, .int 0, .ref q_14, .ref q_15, .ref q_16])), (q_4, .inl (cI, 26, .inl z0)), (q_5, .inl (cI, 6, .inl z0)), (q_6, .inl (cI, 81, .inl z0)), (q_7, .inl (cI, 20, .inl z0)), (q_8, .inl (cI, 20, .inl z0)), (q_9, .inl (cI, 9, .inl z0)), (q_10, .inl (cI, 9, .inl z0)), (q_11, .inl (cI, 36, .inl z0)), (q_12, .inl (cI, 36, .inl z0)), (q_14, .inr (9, [.ref q_17, .ref q_18, .int 0])), (q_17, .inl (cI, 96, .inl z0)), (q_18, .inl (cI, 12, .inl z0)), (q_15, .inr (9, [.ref q_19, .ref q_20, .int 0])), (q_19, .inl (cI, 64, .inl z0)), (q_20, .inl (cI, 8, .inl z0))] := hD
  refine lv_aload_n hx hb dX2_init_15 rfl (lv_at hl 0 rfl) ?_
  refine lv_iconst (v := (-1)) hx hb dX2_init_16 (by decide) ?_
  refine va_put (D := (dC, dI)) (ci := 2) (v := .int (-1)) (ty := .int) (C := RX2) (T := TX2) (N := 10) hx hb hU inlX2 tyX2 tyX2_ok nmX2 hown hK hP hD hS 0 rfl rfl 2 (by decide) (hU _ wd_151) (fun _ h9 => h9) rfl (by decide +kernel) rfl rfl (Nat.le_of_ble_eq_true rfl) dX2_init_17 (fun H locs hP hD hS => ?_)
  have hP : va_P (dC, dI) vwCl [(a0, .inr (2, [.ref q_1, .int 0, .int (-1), .null, .int 0, .int 0, .int 0, .int 0, .int 0, .int 0])), (q_1, .inr (7, [.ref q_4, .int 0, .ref q_5, .ref q_6, .ref q_7, .ref q_8, .int 0, .ref q_9, .ref q_10, .ref q_11, .ref q_12, .ref q_13, .int 0, .ref q_14, .ref q_15, .ref q_16])), (q_4, .inl (cI, 26, .inl z0)), (q_5, .inl (cI, 6, .inl z0)), (q_6, .inl (cI, 81, .inl z0)), (q_7, .inl (cI, 20, .inl z0)), (q_8, .inl (cI, 20, .inl z0)), (q_9, .inl (cI, 9, .inl z0)), (q_10, .inl (cI, 9, .inl z0)), (q_11, .inl (cI, 36, .inl z0)), (q_12, .inl (cI, 36, .inl z0)), (q_14, .inr (9, [.ref q_17, .ref q_18, .int 0])), (q_17, .inl (cI, 96, .inl z0)), (q_18, .inl (cI, 12, .inl z0)), (q_15, .inr (9, [.ref q_19, .ref q_20, .int 0])), (q_19, .inl (cI, 64, .inl z0)), (q_20, .inl (cI, 8, .inl z0))] H := hP
  have hD : va_D A [(a0, .inr (2, [.ref q_1, .int 0, .int (-1), .null, .int 0, .int 0, .int 0, .int 0, .int 0, .int 0])), (q_1, .inr (7, [.ref q_4, .int 0, .ref q_5, .ref q_6, .ref q_7, .ref q_8, .int 0, .ref q_9, .ref q_10, .ref q_11, .ref q_12, .ref q_13, .int 0, .ref q_14, .ref q_15, .ref q_16])), (q_4, .inl (cI, 26, .inl z0)), (q_5, .inl (cI, 6, .inl z0)), (q_6, .inl (cI, 81, .inl z0)), (q_7, .inl (cI, 20, .inl z0)), (q_8, .inl (cI, 20, .inl z0)), (q_9, .inl (cI, 9, .inl z0)), (q_10, .inl (cI, 9, .inl z0)), (q_11, .inl (cI, 36, .inl z0)), (q_12, .inl (cI, 36, .inl z0)), (q_14, .inr (9, [.ref q_17, .ref q_18, .int 0])), (q_17, .inl (cI, 96, .inl z0)), (q_18, .inl (cI, 12, .inl z0)), (q_15, .inr (9, [.ref q_19, .ref q_20, .int 0])), (q_19, .inl (cI, 64, .inl z0)), (q_20, .inl (cI, 8, .inl z0))] := hD
  refine lv_aload_n hx hb dX2_init_20 rfl (lv_at hl 0 rfl) ?_
  refine lv_sipush (v := 600) hx hb dX2_init_21 (by decide) ?_
  refine tk_newa (atype := .int) (ty := .int) (a0 := (600, .inl z0)) hx hb 0 (hU (.arrayClass .int) wd_12) rfl (fun _ => Iff.rfl) hK rfl hP hD hS hA (fun _ => rfl) (by decide) (by decide) (Nat.le_of_ble_eq_true rfl) (Nat.le_of_ble_eq_true rfl) (Nat.le_of_ble_eq_true rfl) dX2_init_24 (fun q_21 H hP hD hS => ?_)
  have hP : va_P (dC, dI) vwCl [(a0, .inr (2, [.ref q_1, .int 0, .int (-1), .null, .int 0, .int 0, .int 0, .int 0, .int 0, .int 0])), (q_1, .inr (7, [.ref q_4, .int 0, .ref q_5, .ref q_6, .ref q_7, .ref q_8, .int 0, .ref q_9, .ref q_10, .ref q_11, .ref q_12, .ref q_13, .int 0, .ref q_14, .ref q_15, .ref q_16])), (q_4, .inl (cI, 26, .inl z0)), (q_5, .inl (cI, 6, .inl z0)), (q_6, .inl (cI, 81, .inl z0)), (q_7, .inl (cI, 20, .inl z0)), (q_8, .inl (cI, 20, .inl z0)), (q_9, .inl (cI, 9, .inl z0)), (q_10, .inl (cI, 9, .inl z0)), (q_11, .inl (cI, 36, .inl z0)), (q_12, .inl (cI, 36, .inl z0)), (q_14, .inr (9, [.ref q_17, .ref q_18, .int 0])), (q_17, .inl (cI, 96, .inl z0)), (q_18, .inl (cI, 12, .inl z0)), (q_15, .inr (9, [.ref q_19, .ref q_20, .int 0])), (q_19, .inl (cI, 64, .inl z0)), (q_20, .inl (cI, 8, .inl z0)), (q_21, .inl (cI, 600, .inl z0))] H := hP
  have hD : va_D A [(a0, .inr (2, [.ref q_1, .int 0, .int (-1), .null, .int 0, .int 0, .int 0, .int 0, .int 0, .int 0])), (q_1, .inr (7, [.ref q_4, .int 0, .ref q_5, .ref q_6, .ref q_7, .ref q_8, .int 0, .ref q_9, .ref q_10, .ref q_11, .ref q_12, .ref q_13, .int 0, .ref q_14, .ref q_15, .ref q_16])), (q_4, .inl (cI, 26, .inl z0)), (q_5, .inl (cI, 6, .inl z0)), (q_6, .inl (cI, 81, .inl z0)), (q_7, .inl (cI, 20, .inl z0)), (q_8, .inl (cI, 20, .inl z0)), (q_9, .inl (cI, 9, .inl z0)), (q_10, .inl (cI, 9, .inl z0)), (q_11, .inl (cI, 36, .inl z0)), (q_12, .inl (cI, 36, .inl z0)), (q_14, .inr (9, [.ref q_17, .ref q_18, .int 0])), (q_17, .inl (cI, 96, .inl z0)), (q_18, .inl (cI, 12, .inl z0)), (q_15, .inr (9, [.ref q_19, .ref q_20, .int 0])), (q_19, .inl (cI, 64, .inl z0)), (q_20, .inl (cI, 8, .inl z0)), (q_21, .inl (cI, 600, .inl z0))] := hD
  refine W.widen (k := 107) (n := 2365) (Nat.le_of_ble_eq_true rfl) (Nat.le_of_ble_eq_true rfl) ?_
  refine va_putF (D := (dC, dI)) (ci := 2) (v := .ref q_21) (ty := .array .int) (C := RX2) (T := TX2) (N := 10) hx hb hU inlX2 tyX2 tyX2_ok nmX2 hown hK hP hD hS 0 rfl rfl 3 (by decide) (hU _ wd_152) (fun _ h9 => h9) rfl hin rfl (by decide +kernel) rfl rfl (Nat.le_of_ble_eq_true rfl) dX2_init_26 (fun H locs hP hD hS => ?_)
  have hP : va_P (dC, dI) vwCl [(a0, .inr (2, [.ref q_1, .int 0, .int (-1), .ref q_21, .int 0, .int 0, .int 0, .int 0, .int 0, .int 0])), (q_1, .inr (7, [.ref q_4, .int 0, .ref q_5, .ref q_6, .ref q_7, .ref q_8, .int 0, .ref q_9, .ref q_10, .ref q_11, .ref q_12, .ref q_13, .int 0, .ref q_14, .ref q_15, .ref q_16])), (q_4, .inl (cI, 26, .inl z0)), (q_5, .inl (cI, 6, .inl z0)), (q_6, .inl (cI, 81, .inl z0)), (q_7, .inl (cI, 20, .inl z0)), (q_8, .inl (cI, 20, .inl z0)), (q_9, .inl (cI, 9, .inl z0)), (q_10, .inl (cI, 9, .inl z0)), (q_11, .inl (cI, 36, .inl z0)), (q_12, .inl (cI, 36, .inl z0)), (q_14, .inr (9, [.ref q_17, .ref q_18, .int 0])), (q_17, .inl (cI, 96, .inl z0)), (q_18, .inl (cI, 12, .inl z0)), (q_15, .inr (9, [.ref q_19, .ref q_20, .int 0])), (q_19, .inl (cI, 64, .inl z0)), (q_20, .inl (cI, 8, .inl z0)), (q_21, .inl (cI, 600, .inl z0))] H := hP
  have hD : va_D A [(a0, .inr (2, [.ref q_1, .int 0, .int (-1), .ref q_21, .int 0, .int 0, .int 0, .int 0, .int 0, .int 0])), (q_1, .inr (7, [.ref q_4, .int 0, .ref q_5, .ref q_6, .ref q_7, .ref q_8, .int 0, .ref q_9, .ref q_10, .ref q_11, .ref q_12, .ref q_13, .int 0, .ref q_14, .ref q_15, .ref q_16])), (q_4, .inl (cI, 26, .inl z0)), (q_5, .inl (cI, 6, .inl z0)), (q_6, .inl (cI, 81, .inl z0)), (q_7, .inl (cI, 20, .inl z0)), (q_8, .inl (cI, 20, .inl z0)), (q_9, .inl (cI, 9, .inl z0)), (q_10, .inl (cI, 9, .inl z0)), (q_11, .inl (cI, 36, .inl z0)), (q_12, .inl (cI, 36, .inl z0)), (q_14, .inr (9, [.ref q_17, .ref q_18, .int 0])), (q_17, .inl (cI, 96, .inl z0)), (q_18, .inl (cI, 12, .inl z0)), (q_15, .inr (9, [.ref q_19, .ref q_20, .int 0])), (q_19, .inl (cI, 64, .inl z0)), (q_20, .inl (cI, 8, .inl z0)), (q_21, .inl (cI, 600, .inl z0))] := hD
  have hP9 := hP.sub (ws' := [(a0, .inr (2, [.ref q_1, .int 0, .int (-1), .ref q_21, .int 0, .int 0, .int 0, .int 0, .int 0, .int 0])), (q_1, .inr (7, [.ref q_4, .int 0, .ref q_5, .ref q_6, .ref q_7, .ref q_8, .int 0, .ref q_9, .ref q_10, .ref q_11, .ref q_12, .ref q_13, .int 0, .ref q_14, .ref q_15, .ref q_16])), (q_4, .inl (cI, 26, .inl z0)), (q_5, .inl (cI, 6, .inl z0)), (q_6, .inl (cI, 81, .inl z0)), (q_7, .inl (cI, 20, .inl z0)), (q_8, .inl (cI, 20, .inl z0)), (q_9, .inl (cI, 9, .inl z0)), (q_10, .inl (cI, 9, .inl z0)), (q_11, .inl (cI, 36, .inl z0)), (q_12, .inl (cI, 36, .inl z0)), (q_14, .inr (9, [.ref q_17, .ref q_18, .int 0])), (q_17, .inl (cI, 96, .inl z0)), (q_18, .inl (cI, 12, .inl z0)), (q_15, .inr (9, [.ref q_19, .ref q_20, .int 0])), (q_19, .inl (cI, 64, .inl z0)), (q_20, .inl (cI, 8, .inl z0)), (q_21, .inl (cI, 600, .inl z0))]) [0, 1, 2, 3, 4, 5, 6, 7, 8, 9, 10, 11, 12, 13, 14, 15, 16, 17] rfl
  have hD9 := hD.sub (ws' := [(a0, .inr (2, [.ref q_1, .int 0, .int (-1), .ref q_21, .int 0, .int 0, .int 0, .int 0, .int 0, .int 0])), (q_1, .inr (7, [.ref q_4, .int 0, .ref q_5, .ref q_6, .ref q_7, .ref q_8, .int 0, .ref q_9, .ref q_10, .ref q_11, .ref q_12, .ref q_13, .int 0, .ref q_14, .ref q_15, .ref q_16])), (q_4, .inl (cI, 26, .inl z0)), (q_5, .inl (cI, 6, .inl z0)), (q_6, .inl (cI, 81, .inl z0)), (q_7, .inl (cI, 20, .inl z0)), (q_8, .inl (cI, 20, .inl z0)), (q_9, .inl (cI, 9, .inl z0)), (q_10, .inl (cI, 9, .inl z0)), (q_11, .inl (cI, 36, .inl z0)), (q_12, .inl (cI, 36, .inl z0)), (q_14, .inr (9, [.ref q_17, .ref q_18, .int 0])), (q_17, .inl (cI, 96, .inl z0)), (q_18, .inl (cI, 12, .inl z0)), (q_15, .inr (9, [.ref q_19, .ref q_20, .int 0])), (q_19, .inl (cI, 64, .inl z0)), (q_20, .inl (cI, 8, .inl z0)), (q_21, .inl (cI, 600, .inl z0))]) [0, 1, 2, 3, 4, 5, 6, 7, 8, 9, 10, 11, 12, 13, 14, 15, 16, 17] (by decide) rfl
  refine W.widen (k := 107) (n := 2365) (Nat.le_of_ble_eq_true rfl) (Nat.le_of_ble_eq_true rfl) ?_
  exact W.vret hx hb hr (fun t ht hW => ⟨⟨[(a0, .inr (2, [.ref q_1, .int 0, .int (-1), .ref q_21, .int 0, .int 0, .int 0, .int 0, .int 0, .int 0])), (q_1, .inr (7, [.ref q_4, .int 0, .ref q_5, .ref q_6, .ref q_7, .ref q_8, .int 0, .ref q_9, .ref q_10, .ref q_11, .ref q_12, .ref q_13, .int 0, .ref q_14, .ref q_15, .ref q_16])), (q_4, .inl (cI, 26, .inl z0)), (q_5, .inl (cI, 6, .inl z0)), (q_6, .inl (cI, 81, .inl z0)), (q_7, .inl (cI, 20, .inl z0)), (q_8, .inl (cI, 20, .inl z0)), (q_9, .inl (cI, 9, .inl z0)), (q_10, .inl (cI, 9, .inl z0)), (q_11, .inl (cI, 36, .inl z0)), (q_12, .inl (cI, 36, .inl z0)), (q_14, .inr (9, [.ref q_17, .ref q_18, .int 0])), (q_17, .inl (cI, 96, .inl z0)), (q_18, .inl (cI, 12, .inl z0)), (q_15, .inr (9, [.ref q_19, .ref q_20, .int 0])), (q_19, .inl (cI, 64, .inl z0)), (q_20, .inl (cI, 8, .inl z0)), (q_21, .inl (cI, 600, .inl z0))], rfl, ⟨q_1, q_21, q_4, q_5, q_6, q_7, q_8, q_9, q_10, q_11, q_12, q_13, q_14, q_15, q_16, q_17, q_18, q_19, q_20, rfl⟩, by rw [ht]; exact hP9, va_K.moved hW.alike hK, hD9⟩, hS.F ht⟩) hS.2.2 dX2_init_29
set_option maxHeartbeats 8000000 in
set_option maxRecDepth 100000 in
theorem cc_X0_init_0 (l : Launch) (D : va_G) (cI cL cZ : ClassId) (sz : Nat) (a0 : Nat) : mV l D cI cL cZ yX0_init cX0_init 1 none 1 30 7 6444 [.ref a0] sz [(a0, .inr (0, [.null, .null, .null, .int 0, .null, .null, .null, .int 0, .null, .int 0, .int 0]))] (fun (w1 : va_W) => ∃ (q_1 : Nat) (q_2 : Nat) (q_3 : Nat) (q_4 : Nat) (q_5 : Nat) (q_6 : Nat) (q_7 : Nat), w1 = ([(a0, .inr (0, [.ref q_1, .ref q_2, .ref q_3, .int 0, .ref q_4, .ref q_5, .ref q_6, .int 0, .ref q_7, .int 0, .int (-1)])), (q_2, .inl (cI, 5329, .inl z0)), (q_5, .inl (cI, 511, .inl z0)), (q_4, .inl (cI, 6, .inl z0)), (q_6, .inl (cI, 6, .inl z0))] : va_W)) := by
  obtain ⟨dC, dI⟩ := D
  refine Met.ofW (cc := cX0_init) (maxL := 1) (ret := none) (by decide) rfl ?_
  intro p e s m args below meth c s₁ B hml hv
  obtain ⟨rfl, hsz, hP, hK, hD0, hN⟩ := hv
  have hx := B.exec
  have hb := B.bytes
  have hr := B.returns
  have hU : ∀ w ∈ wsU, w.before _ s = true := fun w h => atoms_spec (ws := wU yX0_init cX0_init 1 none) B.pre w (List.mem_cons_of_mem _ h)
  have hown : s.vm.findClass RX0 = some m.cls := findClass_of_methodNamed B.named
  have hlocks := B.notSynchronized
  have hin : meth.name = "<init>" := (name_of_methodNamed B.named B.method).1
  subst hsz
  have hD := hD0.self (sz := s.heap.size)
  generalize hAe : va_A [(a0, .inr (0, [.null, .null, .null, .int 0, .null, .null, .null, .int 0, .null, .int 0, .int 0]))] s.heap.size = A at hD ⊢
  have hA : ∀ q : Nat, s.heap.size ≤ q → A q := fun q h => by rw [← hAe]; exact Or.inr h
  have hS : va_S A s.heap s.heap [] := va_S.rf
  have hP : va_P (dC, dI) vwCl [(a0, .inr (0, [.null, .null, .null, .int 0, .null, .null, .null, .int 0, .null, .int 0, .int 0]))] s.heap := hP
  have hl := lv_entry ([.ref a0]) (n := 1) (Nat.le_of_ble_eq_true rfl)
  rw [lg_entry_eq]
  generalize (lg_sl ([.ref a0]) ++ List.replicate (1 - (lg_sl ([.ref a0])).length) Slot.unset).toArray = ls at hl ⊢
  have hl : lv_has ls 1 [(0, .ref a0)] := hl
  refine lv_aload_n hx hb dX0_init_0 rfl (lv_at hl 0 rfl) ?_
  refine W.objInit hx hb hown (hU _ wd_156) (hU _ wd_10) (hU _ wd_11) rfl (by rw [hml]; exact hl.1) rfl dX0_init_1 (Nat.le_of_ble_eq_true rfl) (Nat.le_of_ble_eq_true rfl) ?_
  refine W.eq (g2 := F0 m 4 ls []) rfl ?_
  refine lv_aload_n hx hb dX0_init_4 rfl (lv_at hl 0 rfl) ?_
  refine lv_sipush (v := 584) hx hb dX0_init_5 (by decide) ?_
  refine tk_newa (atype := .int) (ty := .int) (a0 := (584, .inl z0)) hx hb 0 (hU (.arrayClass .int) wd_12) rfl (fun _ => Iff.rfl) hK rfl hP hD hS hA (fun _ => rfl) (by decide) (by decide) (Nat.le_of_ble_eq_true rfl) (Nat.le_of_ble_eq_true rfl) (Nat.le_of_ble_eq_true rfl) dX0_init_8 (fun q_1 H hP hD hS => ?_)
  have hP : va_P (dC, dI) vwCl [(a0, .inr (0, [.null, .null, .null, .int 0, .null, .null, .null, .int 0, .null, .int 0, .int 0])), (q_1, .inl (cI, 584, .inl z0))] H := hP
  have hD : va_D A [(a0, .inr (0, [.null, .null, .null, .int 0, .null, .null, .null, .int 0, .null, .int 0, .int 0])), (q_1, .inl (cI, 584, .inl z0))] := hD
  refine W.widen (k := 1) (n := 584) (Nat.le_of_ble_eq_true rfl) (Nat.le_of_ble_eq_true rfl) ?_
  refine va_putF (D := (dC, dI)) (ci := 0) (v := .ref q_1) (ty := .array .int) (C := RX0) (T := TX0) (N := 11) hx hb hU inlX0 tyX0 tyX0_ok nmX0 hown hK hP hD hS 0 rfl rfl 0 (by decide) (hU _ wd_157) (fun _ h9 => h9) rfl hin rfl (by decide +kernel) rfl rfl (Nat.le_of_ble_eq_true rfl) dX0_init_10 (fun H locs hP hD hS => ?_)
  have hP : va_P (dC, dI) vwCl [(a0, .inr (0, [.ref q_1, .null, .null, .int 0, .null, .null, .null, .int 0, .null, .int 0, .int 0])), (q_1, .inl (cI, 584, .inl z0))] H := hP
  have hD : va_D A [(a0, .inr (0, [.ref q_1, .null, .null, .int 0, .null, .null, .null, .int 0, .null, .int 0, .int 0])), (q_1, .inl (cI, 584, .inl z0))] := hD
  refine lv_aload_n hx hb dX0_init_13 rfl (lv_at hl 0 rfl) ?_
  refine lv_sipush (v := 5329) hx hb dX0_init_14 (by decide) ?_
  refine tk_newa (atype := .int) (ty := .int) (a0 := (5329, .inl z0)) hx hb 0 (hU (.arrayClass .int) wd_12) rfl (fun _ => Iff.rfl) hK rfl hP hD hS hA (fun _ => rfl) (by decide) (by decide) (Nat.le_of_ble_eq_true rfl) (Nat.le_of_ble_eq_true rfl) (Nat.le_of_ble_eq_true rfl) dX0_init_17 (fun q_2 H hP hD hS => ?_)
  have hP : va_P (dC, dI) vwCl [(a0, .inr (0, [.ref q_1, .null, .null, .int 0, .null, .null, .null, .int 0, .null, .int 0, .int 0])), (q_1, .inl (cI, 584, .inl z0)), (q_2, .inl (cI, 5329, .inl z0))] H := hP
  have hD : va_D A [(a0, .inr (0, [.ref q_1, .null, .null, .int 0, .null, .null, .null, .int 0, .null, .int 0, .int 0])), (q_1, .inl (cI, 584, .inl z0)), (q_2, .inl (cI, 5329, .inl z0))] := hD
  refine W.widen (k := 2) (n := 5913) (Nat.le_of_ble_eq_true rfl) (Nat.le_of_ble_eq_true rfl) ?_
  refine va_putF (D := (dC, dI)) (ci := 0) (v := .ref q_2) (ty := .array .int) (C := RX0) (T := TX0) (N := 11) hx hb hU inlX0 tyX0 tyX0_ok nmX0 hown hK hP hD hS 0 rfl rfl 1 (by decide) (hU _ wd_158) (fun _ h9 => h9) rfl hin rfl (by decide +kernel) rfl rfl (Nat.le_of_ble_eq_true rfl) dX0_init_19 (fun H locs hP hD hS => ?_)
  have hP : va_P (dC, dI) vwCl [(a0, .inr (0, [.ref q_1, .ref q_2, .null, .int 0, .null, .null, .null, .int 0, .null, .int 0, .int 0])), (q_1, .inl (cI, 584, .inl z0)), (q_2, .inl (cI, 5329, .inl z0))] H := hP
  have hD : va_D A [(a0, .inr (0, [.ref q_1, .ref q_2, .null, .int 0, .null, .null, .null, .int 0, .null, .int 0, .int 0])), (q_1, .inl (cI, 584, .inl z0)), (q_2, .inl (cI, 5329, .inl z0))] := hD
  refine lv_aload_n hx hb dX0_init_22 rfl (lv_at hl 0 rfl) ?_
  refine lv_bipush (v := 6) hx hb dX0_init_23 (by decide) ?_
  refine tk_newa (atype := .int) (ty := .int) (a0 := (6, .inl z0)) hx hb 0 (hU (.arrayClass .int) wd_12) rfl (fun _ => Iff.rfl) hK rfl hP hD hS hA (fun _ => rfl) (by decide) (by decide) (Nat.le_of_ble_eq_true rfl) (Nat.le_of_ble_eq_true rfl) (Nat.le_of_ble_eq_true rfl) dX0_init_25 (fun q_3 H hP hD hS => ?_)
  have hP : va_P (dC, dI) vwCl [(a0, .inr (0, [.ref q_1, .ref q_2, .null, .int 0, .null, .null, .null, .int 0, .null, .int 0, .int 0])), (q_1, .inl (cI, 584, .inl z0)), (q_2, .inl (cI, 5329, .inl z0)), (q_3, .inl (cI, 6, .inl z0))] H := hP
  have hD : va_D A [(a0, .inr (0, [.ref q_1, .ref q_2, .null, .int 0, .null, .null, .null, .int 0, .null, .int 0, .int 0])), (q_1, .inl (cI, 584, .inl z0)), (q_2, .inl (cI, 5329, .inl z0)), (q_3, .inl (cI, 6, .inl z0))] := hD
  refine W.widen (k := 3) (n := 5919) (Nat.le_of_ble_eq_true rfl) (Nat.le_of_ble_eq_true rfl) ?_
  refine va_putF (D := (dC, dI)) (ci := 0) (v := .ref q_3) (ty := .array .int) (C := RX0) (T := TX0) (N := 11) hx hb hU inlX0 tyX0 tyX0_ok nmX0 hown hK hP hD hS 0 rfl rfl 2 (by decide) (hU _ wd_159) (fun _ h9 => h9) rfl hin rfl (by decide +kernel) rfl rfl (Nat.le_of_ble_eq_true rfl) dX0_init_27 (fun H locs hP hD hS => ?_)
  have hP : va_P (dC, dI) vwCl [(a0, .inr (0, [.ref q_1, .ref q_2, .ref q_3, .int 0, .null, .null, .null, .int 0, .null, .int 0, .int 0])), (q_1, .inl (cI, 584, .inl z0)), (q_2, .inl (cI, 5329, .inl z0)), (q_3, .inl (cI, 6, .inl z0))] H := hP
  have hD : va_D A [(a0, .inr (0, [.ref q_1, .ref q_2, .ref q_3, .int 0, .null, .null, .null, .int 0, .null, .int 0, .int 0])), (q_1, .inl (cI, 584, .inl z0)), (q_2, .inl (cI, 5329, .inl z0)), (q_3, .inl (cI, 6, .inl z0))] := hD
  refine lv_aload_n hx hb dX0_init_30 rfl (lv_at hl 0 rfl) ?_
  refine lv_bipush (v := 6) hx hb dX0_init_31 (by decide) ?_
  refine tk_newa (atype := .int) (ty := .int) (a0 := (6, .inl z0)) hx hb 0 (hU (.arrayClass .int) wd_12) rfl (fun _ => Iff.rfl) hK rfl hP hD hS hA (fun _ => rfl) (by decide) (by decide) (Nat.le_of_ble_eq_true rfl) (Nat.le_of_ble_eq_true rfl) (Nat.le_of_ble_eq_true rfl) dX0_init_33 (fun q_4 H hP hD hS => ?_)
  have hP : va_P (dC, dI) vwCl [(a0, .inr (0, [.ref q_1, .ref q_2, .ref q_3, .int 0, .null, .null, .null, .int 0, .null, .int 0, .int 0])), (q_1, .inl (cI, 584, .inl z0)), (q_2, .inl (cI, 5329, .inl z0)), (q_3, .inl (cI, 6, .inl z0)), (q_4, .inl (cI, 6, .inl z0))] H := hP
  have hD : va_D A [(a0, .inr (0, [.ref q_1, .ref q_2, .ref q_3, .int 0, .null, .null, .null, .int 0, .null, .int 0, .int 0])), (q_1, .inl (cI, 584, .inl z0)), (q_2, .inl (cI, 5329, .inl z0)), (q_3, .inl (cI, 6, .inl z0)), (q_4, .inl (cI, 6, .inl z0))] := hD
  refine W.widen (k := 4) (n := 5925) (Nat.le_of_ble_eq_true rfl) (Nat.le_of_ble_eq_true rfl) ?_
  refine va_putF (D := (dC, dI)) (ci := 0) (v := .ref q_4) (ty := .array .int) (C := RX0) (T := TX0) (N := 11) hx hb hU inlX0 tyX0 tyX0_ok nmX0 hown hK hP hD hS 0 rfl rfl 4 (by decide) (hU _ wd_160) (fun _ h9 => h9) rfl hin rfl (by decide +kernel) rfl rfl (Nat.le_of_ble_eq_true rfl) dX0_init_35 (fun H locs hP hD hS => ?_)
  have hP : va_P (dC, dI) vwCl [(a0, .inr (0, [.ref q_1, .ref q_2, .ref q_3, .int 0, .ref q_4, .null, .null, .int 0, .null, .int 0, .int 0])), (q_1, .inl (cI, 584, .inl z0)), (q_2, .inl (cI, 5329, .inl z0)), (q_3, .inl (cI, 6, .inl z0)), (q_4, .inl (cI, 6, .inl z0))] H := hP
  have hD : va_D A [(a0, .inr (0, [.ref q_1, .ref q_2, .ref q_3, .int 0, .ref q_4, .null, .null, .int 0, .null, .int 0, .int 0])), (q_1, .inl (cI, 584, .inl z0)), (q_2, .inl (cI, 5329, .inl z0)), (q_3, .inl (cI, 6, .inl z0)), (q_4, .inl (cI, 6, .inl z0))] := hD
  refine lv_aload_n hx hb dX0_init_38 rfl (lv_at hl 0 rfl) ?_
  refine lv_sipush (v := 511) hx hb dX0_init_39 (by decide) ?_
  refine tk_newa (atype := .int) (ty := .int) (a0 := (511, .inl z0)) hx hb 0 (hU (.arrayClass .int) wd_12) rfl (fun _ => Iff.rfl) hK rfl hP hD hS hA (fun _ => rfl) (by decide) (by decide) (Nat.le_of_ble_eq_true rfl) (Nat.le_of_ble_eq_true rfl) (Nat.le_of_ble_eq_true rfl) dX0_init_42 (fun q_5 H hP hD hS => ?_)
  have hP : va_P (dC, dI) vwCl [(a0, .inr (0, [.ref q_1, .ref q_2, .ref q_3, .int 0, .ref q_4, .null, .null, .int 0, .null, .int 0, .int 0])), (q_1, .inl (cI, 584, .inl z0)), (q_2, .inl (cI, 5329, .inl z0)), (q_3, .inl (cI, 6, .inl z0)), (q_4, .inl (cI, 6, .inl z0)), (q_5, .inl (cI, 511, .inl z0))] H := hP
  have hD : va_D A [(a0, .inr (0, [.ref q_1, .ref q_2, .ref q_3, .int 0, .ref q_4, .null, .null, .int 0, .null, .int 0, .int 0])), (q_1, .inl (cI, 584, .inl z0)), (q_2, .inl (cI, 5329, .inl z0)), (q_3, .inl (cI, 6, .inl z0)), (q_4, .inl (cI, 6, .inl z0)), (q_5, .inl (cI, 511, .inl z0))] := hD
  refine W.widen (k := 5) (n := 6436) (Nat.le_of_ble_eq_true rfl) (Nat.le_of_ble_eq_true rfl) ?_
  refine va_putF (D := (dC, dI)) (ci := 0) (v := .ref q_5) (ty := .array .int) (C := RX0) (T := TX0) (N := 11) hx hb hU inlX0 tyX0 tyX0_ok nmX0 hown hK hP hD hS 0 rfl rfl 5 (by decide) (hU _ wd_161) (fun _ h9 => h9) rfl hin rfl (by decide +kernel) rfl rfl (Nat.le_of_ble_eq_true rfl) dX0_init_44 (fun H locs hP hD hS => ?_)
  have hP : va_P (dC, dI) vwCl [(a0, .inr (0, [.ref q_1, .ref q_2, .ref q_3, .int 0, .ref q_4, .ref q_5, .null, .int 0, .null, .int 0, .int 0])), (q_1, .inl (cI, 584, .inl z0)), (q_2, .inl (cI, 5329, .inl z0)), (q_3, .inl (cI, 6, .inl z0)), (q_4, .inl (cI, 6, .inl z0)), (q_5, .inl (cI, 511, .inl z0))] H := hP
  have hD : va_D A [(a0, .inr (0, [.ref q_1, .ref q_2, .ref q_3, .int 0, .ref q_4, .ref q_5, .null, .int 0, .null, .int 0, .int 0])), (q_1, .inl (cI, 584, .inl z0)), (q_2, .inl (cI, 5329, .inl z0)), (q_3, .inl (cI, 6, .inl z0)), (q_4, .inl (cI, 6, .inl z0)), (q_5, .inl (cI, 511, .inl z0))] := hD
  refine lv_aload_n hx hb dX0_init_47 rfl (lv_at hl 0 rfl) ?_
  refine lv_bipush (v := 6) hx hb dX0_init_48 (by decide) ?_
  refine tk_newa (atype := .int) (ty := .int) (a0 := (6, .inl z0)) hx hb 0 (hU (.arrayClass .int) wd_12) rfl (fun _ => Iff.rfl) hK rfl hP hD hS hA (fun _ => rfl) (by decide) (by decide) (Nat.le_of_ble_eq_true rfl) (Nat.le_of_ble_eq_true rfl) (Nat.le_of_ble_eq_true rfl) dX0_init_50 (fun q_6 H hP hD hS => ?_)
  have hP : va_P (dC, dI) vwCl [(a0, .inr (0, [.ref q_1, .ref q_2, .ref q_3, .int 0, .ref q_4, .ref q_5, .null, .int 0, .null, .int 0, .int 0])), (q_1, .inl (cI, 584, .inl z0)), (q_2, .inl (cI, 5329, .inl z0)), (q_3, .inl (cI, 6, .inl z0)), (q_4, .inl (cI, 6, .inl z0)), (q_5, .inl (cI, 511, .inl z0)), (q_6, .inl (cI, 6, .inl z0))] H := hP
  have hD : va_D A [(a0, .inr (0, [.ref q_1, .ref q_2, .ref q_3, .int 0, .ref q_4, .ref q_5, .null, .int 0, .null, .int 0, .int 0])), (q_1, .inl (cI, 584, .inl z0)), (q_2, .inl (cI, 5329, .inl z0)), (q_3, .inl (cI, 6, .inl z0)), (q_4, .inl (cI, 6, .inl z0)), (q_5, .inl (cI, 511, .inl z0)), (q_6, .inl (cI, 6, .inl z0))] := hD
  refine W.widen (k := 6) (n := 6442) (Nat.le_of_ble_eq_true rfl) (Nat.le_of_ble_eq_true rfl) ?_
  refine va_putF (D := (dC, dI)) (ci := 0) (v := .ref q_6) (ty := .array .int) (C := RX0) (T := TX0) (N := 11) hx hb hU inlX0 tyX0 tyX0_ok nmX0 hown hK hP hD hS 0 rfl rfl 6 (by decide) (hU _ wd_162) (fun _ h9 => h9) rfl hin rfl (by decide +kernel) rfl rfl (Nat.le_of_ble_eq_true rfl) dX0_init_52 (fun H locs hP hD hS => ?_)
  have hP : va_P (dC, dI) vwCl [(a0, .inr (0, [.ref q_1, .ref q_2, .ref q_3, .int 0, .ref q_4, .ref q_5, .ref q_6, .int 0, .null, .int 0, .int 0])), (q_1, .inl (cI, 584, .inl z0)), (q_2, .inl (cI, 5329, .inl z0)), (q_3, .inl (cI, 6, .inl z0)), (q_4, .inl (cI, 6, .inl z0)), (q_5, .inl (cI, 511, .inl z0)), (q_6, .inl (cI, 6, .inl z0))] H := hP
  have hD : va_D A [(a0, .inr (0, [.ref q_1, .ref q_2, .ref q_3, .int 0, .ref q_4, .ref q_5, .ref q_6, .int 0, .null, .int 0, .int 0])), (q_1, .inl (cI, 584, .inl z0)), (q_2, .inl (cI, 5329, .inl z0)), (q_3, .inl (cI, 6, .inl z0)), (q_4, .inl (cI, 6, .inl z0)), (q_5, .inl (cI, 511, .inl z0)), (q_6, .inl (cI, 6, .inl z0))] := hD
  refine lv_aload_n hx hb dX0_init_55 rfl (lv_at hl 0 rfl) ?_
  refine lv_iconst (v := 2) hx hb dX0_init_56 (by decide) ?_
  refine tk_newa (atype := .int) (ty := .int) (a0 := (2, .inl z0)) hx hb 0 (hU (.arrayClass .int) wd_12) rfl (fun _ => Iff.rfl) hK rfl hP hD hS hA (fun _ => rfl) (by decide) (by decide) (Nat.le_of_ble_eq_true rfl) (Nat.le_of_ble_eq_true rfl) (Nat.le_of_ble_eq_true rfl) dX0_init_57 (fun q_7 H hP hD hS => ?_)
  have hP : va_P (dC, dI) vwCl [(a0, .inr (0, [.ref q_1, .ref q_2, .ref q_3, .int 0, .ref q_4, .ref q_5, .ref q_6, .int 0, .null, .int 0, .int 0])), (q_1, .inl (cI, 584, .inl z0)), (q_2, .inl (cI, 5329, .inl z0)), (q_3, .inl (cI, 6, .inl z0)), (q_4, .inl (cI, 6, .inl z0)), (q_5, .inl (cI, 511, .inl z0)), (q_6, .inl (cI, 6, .inl z0)), (q_7, .inl (cI, 2, .inl z0))] H := hP
  have hD : va_D A [(a0, .inr (0, [.ref q_1, .ref q_2, .ref q_3, .int 0, .ref q_4, .ref q_5, .ref q_6, .int 0, .null, .int 0, .int 0])), (q_1, .inl (cI, 584, .inl z0)), (q_2, .inl (cI, 5329, .inl z0)), (q_3, .inl (cI, 6, .inl z0)), (q_4, .inl (cI, 6, .inl z0)), (q_5, .inl (cI, 511, .inl z0)), (q_6, .inl (cI, 6, .inl z0)), (q_7, .inl (cI, 2, .inl z0))] := hD
  refine W.widen (k := 7) (n := 6444) (Nat.le_of_ble_eq_true rfl) (Nat.le_of_ble_eq_true rfl) ?_
  refine va_putF (D := (dC, dI)) (ci := 0) (v := .ref q_7) (ty := .array .int) (C := RX0) (T := TX0) (N := 11) hx hb hU inlX0 tyX0 tyX0_ok nmX0 hown hK hP hD hS 0 rfl rfl 8 (by decide) (hU _ wd_163) (fun _ h9 => h9) rfl hin rfl (by decide +kernel) rfl rfl (Nat.le_of_ble_eq_true rfl) dX0_init_59 (fun H locs hP hD hS => ?_)
  have hP : va_P (dC, dI) vwCl [(a0, .inr (0, [.ref q_1, .ref q_2, .ref q_3, .int 0, .ref q_4, .ref q_5, .ref q_6, .int 0, .ref q_7, .int 0, .int 0])), (q_1, .inl (cI, 584, .inl z0)), (q_2, .inl (cI, 5329, .inl z0)), (q_3, .inl (cI, 6, .inl z0)), (q_4, .inl (cI, 6, .inl z0)), (q_5, .inl (cI, 511, .inl z0)), (q_6, .inl (cI, 6, .inl z0)), (q_7, .inl (cI, 2, .inl z0))] H := hP
  have hD : va_D A [(a0, .inr (0, [.ref q_1, .ref q_2, .ref q_3, .int 0, .ref q_4, .ref q_5, .ref q_6, .int 0, .ref q_7, .int 0, .int 0])), (q_1, .inl (cI, 584, .inl z0)), (q_2, .inl (cI, 5329, .inl z0)), (q_3, .inl (cI, 6, .inl z0)), (q_4, .inl (cI, 6, .inl z0)), (q_5, .inl (cI, 511, .inl z0)), (q_6, .inl (cI, 6, .inl z0)), (q_7, .inl (cI, 2, .inl z0))] := hD
  refine lv_aload_n hx hb dX0_init_62 rfl (lv_at hl 0 rfl) ?_
  refine lv_iconst (v := (-1)) hx hb dX0_init_63 (by decide) ?_
  refine va_put (D := (dC, dI)) (ci := 0) (v := .int (-1)) (ty := .int) (C := RX0) (T := TX0) (N := 11) hx hb hU inlX0 tyX0 tyX0_ok nmX0 hown hK hP hD hS 0 rfl rfl 10 (by decide) (hU _ wd_164) (fun _ h9 => h9) rfl (by decide +kernel) rfl rfl (Nat.le_of_ble_eq_true rfl) dX0_init_64 (fun H locs hP hD hS => ?_)
  have hP : va_P (dC, dI) vwCl [(a0, .inr (0, [.ref q_1, .ref q_2, .ref q_3, .int 0, .ref q_4, .ref q_5, .ref q_6, .int 0, .ref q_7, .int 0, .int (-1)])), (q_1, .inl (cI, 584, .inl z0)), (q_2, .inl (cI, 5329, .inl z0)), (q_3, .inl (cI, 6, .inl z0)), (q_4, .inl (cI, 6, .inl z0)), (q_5, .inl (cI, 511, .inl z0)), (q_6, .inl (cI, 6, .inl z0)), (q_7, .inl (cI, 2, .inl z0))] H := hP
  have hD : va_D A [(a0, .inr (0, [.ref q_1, .ref q_2, .ref q_3, .int 0, .ref q_4, .ref q_5, .ref q_6, .int 0, .ref q_7, .int 0, .int (-1)])), (q_1, .inl (cI, 584, .inl z0)), (q_2, .inl (cI, 5329, .inl z0)), (q_3, .inl (cI, 6, .inl z0)), (q_4, .inl (cI, 6, .inl z0)), (q_5, .inl (cI, 511, .inl z0)), (q_6, .inl (cI, 6, .inl z0)), (q_7, .inl (cI, 2, .inl z0))] := hD
  have hP9 := hP.sub (ws' := [(a0, .inr (0, [.ref q_1, .ref q_2, .ref q_3, .int 0, .ref q_4, .ref q_5, .ref q_6, .int 0, .ref q_7, .int 0, .int (-1)])), (q_2, .inl (cI, 5329, .inl z0)), (q_5, .inl (cI, 511, .inl z0)), (q_4, .inl (cI, 6, .inl z0)), (q_6, .inl (cI, 6, .inl z0))]) [0, 2, 5, 4, 6] rfl
  have hD9 := hD.sub (ws' := [(a0, .inr (0, [.ref q_1, .ref q_2, .ref q_3, .int 0, .ref q_4, .ref q_5, .ref q_6, .int 0, .ref q_7, .int 0, .int (-1)])), (q_2, .inl (cI, 5329, .inl z0)), (q_5, .inl (cI, 511, .inl z0)), (q_4, .inl (cI, 6, .inl z0)), (q_6, .inl (cI, 6, .inl z0))]) [0, 2, 5, 4, 6] (by decide) rfl
  refine W.widen (k := 7) (n := 6444) (Nat.le_of_ble_eq_true rfl) (Nat.le_of_ble_eq_true rfl) ?_
  exact W.vret hx hb hr (fun t ht hW => ⟨⟨[(a0, .inr (0, [.ref q_1, .ref q_2, .ref q_3, .int 0, .ref q_4, .ref q_5, .ref q_6, .int 0, .ref q_7, .int 0, .int (-1)])), (q_2, .inl (cI, 5329, .inl z0)), (q_5, .inl (cI, 511, .inl z0)), (q_4, .inl (cI, 6, .inl z0)), (q_6, .inl (cI, 6, .inl z0))], rfl, ⟨q_1, q_2, q_3, q_4, q_5, q_6, q_7, rfl⟩, by rw [ht]; exact hP9, va_K.moved hW.alike hK, hD9⟩, hS.F ht⟩) hS.2.2 dX0_init_67
set_option maxHeartbeats 8000000 in
set_option maxRecDepth 100000 in
theorem cc_X11_init_0 (l : Launch) (D : va_G) (cI cL cZ : ClassId) (sz : Nat) (a0 : Nat) : mV l D cI cL cZ yX11_init cX11_init 1 none 5 111 374 60943 [.ref a0] sz [(a0, .inr (11, [.null, .int 0, .null, .null, .null, .null, .null, .null, .int 0, .null, .null, .null, .int 0, .int 0, .null, .int 0, .null, .null, .int 0]))] (fun (w1 : va_W) => ∃ (q_1 : Nat) (q_2 : Nat) (q_5 : Nat) (q_6 : Nat) (q_33 : Nat) (q_46 : Nat) (q_66 : Nat) (q_79 : Nat) (q_101 : Nat) (q_111 : Nat) (q_112 : Nat) (q_113 : Nat) (q_114 : Nat) (q_7 : Nat) (q_8 : Nat) (q_9 : Nat) (q_10 : Nat) (q_11 : Nat) (q_12 : Nat) (q_13 : Nat) (q_14 : Nat) (q_15 : Nat) (q_16 : Nat) (q_17 : Nat) (q_18 : Nat) (q_19 : Nat) (q_20 : Nat) (q_21 : Nat) (q_22 : Nat) (q_23 : Nat) (q_24 : Nat) (q_25 : Nat) (q_26 : Nat) (q_27 : Nat) (q_28 : Nat) (q_29 : Nat) (q_30 : Nat) (q_31 : Nat) (q_32 : Nat) (q_36 : Nat) (q_37 : Nat) (q_38 : Nat) (q_39 : Nat) (q_40 : Nat) (q_41 : Nat) (q_42 : Nat) (q_43 : Nat) (q_44 : Nat) (q_45 : Nat) (q_49 : Nat) (q_50 : Nat) (q_51 : Nat) (q_52 : Nat) (q_53 : Nat) (q_54 : Nat) (q_55 : Nat) (q_56 : Nat) (q_57 : Nat) (q_58 : Nat) (q_59 : Nat) (q_60 : Nat) (q_61 : Nat) (q_62 : Nat) (q_63 : Nat) (q_64 : Nat) (q_65 : Nat) (q_69 : Nat) (q_70 : Nat) (q_71 : Nat) (q_72 : Nat) (q_73 : Nat) (q_74 : Nat) (q_75 : Nat) (q_76 : Nat) (q_77 : Nat) (q_78 : Nat) (q_82 : Nat) (q_83 : Nat) (q_84 : Nat) (q_85 : Nat) (q_86 : Nat) (q_87 : Nat) (q_88 : Nat) (q_89 : Nat) (q_90 : Nat) (q_91 : Nat) (q_92 : Nat) (q_93 : Nat) (q_94 : Nat) (q_95 : Nat) (q_96 : Nat) (q_97 : Nat) (q_98 : Nat) (q_99 : Nat) (q_100 : Nat) (q_104 : Nat) (q_105 : Nat) (q_106 : Nat) (q_107 : Nat) (q_108 : Nat) (q_109 : Nat) (q_110 : Nat), w1 = ([(a0, .inr (11, [.ref q_1, .int 0, .ref q_2, .ref q_5, .ref q_6, .ref q_33, .ref q_46, .ref q_66, .int 0, .ref q_79, .ref q_101, .ref q_111, .int 0, .int (-1), .ref q_112, .int 0, .ref q_113, .ref q_114, .int 0])), (q_1, .inl (cI, 600, .inl z0)), (q_2, .inr (3, [.ref q_5, .ref q_6, .ref q_7, .ref q_8, .ref q_9, .int 0, .int 0, .int 0, .int 0, .int 0, .int 0, .int (-1), .ref q_10, .ref q_11, .ref q_12, .int 0, .ref q_13, .ref q_14])), (q_5, .inr (7, [.ref q_15, .int 0, .ref q_16, .ref q_17, .ref q_18, .ref q_19, .int 0, .ref q_20, .ref q_21, .ref q_22, .ref q_23, .ref q_24, .int 0, .ref q_25, .ref q_26, .ref q_27])), (q_15, .inl (cI, 26, .inl z0)), (q_16, .inl (cI, 6, .inl z0)), (q_17, .inl (cI, 81, .inl z0)), (q_18, .inl (cI, 20, .inl z0)), (q_19, .inl (cI, 20, .inl z0)), (q_20, .inl (cI, 9, .inl z0)), (q_21, .inl (cI, 9, .inl z0)), (q_22, .inl (cI, 36, .inl z0)), (q_23, .inl (cI, 36, .inl z0)), (q_25, .inr (9, [.ref q_28, .ref q_29, .int 0])), (q_28, .inl (cI, 96, .inl z0)), (q_29, .inl (cI, 12, .inl z0)), (q_26, .inr (9, [.ref q_30, .ref q_31, .int 0])), (q_30, .inl (cI, 64, .inl z0)), (q_31, .inl (cI, 8, .inl z0)), (q_6, .inr (10, [.ref q_32, .int 0, .int 0])), (q_14, .inl (cI, 256, .inl z0)), (q_33, .inr (6, [.int 0, .int 1, .ref q_36, .ref q_37, .ref q_38, .int 0, .ref q_39, .ref q_40, .ref q_41])), (q_36, .inl (cI, 8, .inl z0)), (q_37, .inr (9, [.ref q_42, .ref q_43, .int 0])), (q_42, .inl (cI, 96, .inl z0)), (q_43, .inl (cI, 12, .inl z0)), (q_38, .inr (9, [.ref q_44, .ref q_45, .int 0])), (q_44, .inl (cI, 96, .inl z0)), (q_45, .inl (cI, 12, .inl z0)), (q_46, .inr (7, [.ref q_49, .int 0, .ref q_50, .ref q_51, .ref q_52, .ref q_53, .int 0, .ref q_54, .ref q_55, .ref q_56, .ref q_57, .ref q_58, .int 0, .ref q_59, .ref q_60, .ref q_61])), (q_49, .inl (cI, 26, .inl z0)), (q_50, .inl (cI, 6, .inl z0)), (q_51, .inl (cI, 81, .inl z0)), (q_52, .inl (cI, 20, .inl z0)), (q_53, .inl (cI, 20, .inl z0)), (q_54, .inl (cI, 9, .inl z0)), (q_55, .inl (cI, 9, .inl z0)), (q_56, .inl (cI, 36, .inl z0)), (q_57, .inl (cI, 36, .inl z0)), (q_59, .inr (9, [.ref q_62, .ref q_63, .int 0])), (q_62, .inl (cI, 96, .inl z0)), (q_63, .inl (cI, 12, .inl z0)), (q_60, .inr (9, [.ref q_64, .ref q_65, .int 0])), (q_64, .inl (cI, 64, .inl z0)), (q_65, .inl (cI, 8, .inl z0)), (q_66, .inr (6, [.int 0, .int 1, .ref q_69, .ref q_70, .ref q_71, .int 0, .ref q_72, .ref q_73, .ref q_74])), (q_69, .inl (cI, 8, .inl z0)), (q_70, .inr (9, [.ref q_75, .ref q_76, .int 0])), (q_75, .inl (cI, 96, .inl z0)), (q_76, .inl (cI, 12, .inl z0)), (q_71, .inr (9, [.ref q_77, .ref q_78, .int 0])), (q_77, .inl (cI, 96, .inl z0)), (q_78, .inl (cI, 12, .inl z0)), (q_79, .inr (2, [.ref q_82, .int 0, .int (-1), .ref q_83, .int 0, .int 0, .int 0, .int 0, .int 0, .int 0])), (q_82, .inr (7, [.ref q_84, .int 0, .ref q_85, .ref q_86, .ref q_87, .ref q_88, .int 0, .ref q_89, .ref q_90, .ref q_91, .ref q_92, .ref q_93, .int 0, .ref q_94, .ref q_95, .ref q_96])), (q_84, .inl (cI, 26, .inl z0)), (q_85, .inl (cI, 6, .inl z0)), (q_86, .inl (cI, 81, .inl z0)), (q_87, .inl (cI, 20, .inl z0)), (q_88, .inl (cI, 20, .inl z0)), (q_89, .inl (cI, 9, .inl z0)), (q_90, .inl (cI, 9, .inl z0)), (q_91, .inl (cI, 36, .inl z0)), (q_92, .inl (cI, 36, .inl z0)), (q_94, .inr (9, [.ref q_97, .ref q_98, .int 0])), (q_97, .inl (cI, 96, .inl z0)), (q_98, .inl (cI, 12, .inl z0)), (q_95, .inr (9, [.ref q_99, .ref q_100, .int 0])), (q_99, .inl (cI, 64, .inl z0)), (q_100, .inl (cI, 8, .inl z0)), (q_83, .inl (cI, 600, .inl z0)), (q_101, .inr (0, [.ref q_104, .ref q_105, .ref q_106, .int 0, .ref q_107, .ref q_108, .ref q_109, .int 0, .ref q_110, .int 0, .int (-1)])), (q_105, .inl (cI, 5329, .inl z0)), (q_107, .inl (cI, 6, .inl z0)), (q_108, .inl (cI, 511, .inl z0)), (q_109, .inl (cI, 6, .inl z0))] : va_W)) := by
  obtain ⟨dC, dI⟩ := D
  refine Met.ofW (cc := cX11_init) (maxL := 1) (ret := none) (by decide) rfl ?_
  intro p e s m args below meth c s₁ B hml hv
  obtain ⟨rfl, hsz, hP, hK, hD0, hN⟩ := hv
  have hx := B.exec
  have hb := B.bytes
  have hr := B.returns
  have hU : ∀ w ∈ wsU, w.before _ s = true := fun w h => atoms_spec (ws := wU yX11_init cX11_init 1 none) B.pre w (List.mem_cons_of_mem _ h)
  have hown : s.vm.findClass RX11 = some m.cls := findClass_of_methodNamed B.named
  have hlocks := B.notSynchronized
  have hin : meth.name = "<init>" := (name_of_methodNamed B.named B.method).1
  subst hsz
  have hD := hD0.self (sz := s.heap.size)
  generalize hAe : va_A [(a0, .inr (11, [.null, .int 0, .null, .null, .null, .null, .null, .null, .int 0, .null, .null, .null, .int 0, .int 0, .null, .int 0, .null, .null, .int 0]))] s.heap.size = A at hD ⊢
  have hA : ∀ q : Nat, s.heap.size ≤ q → A q := fun q h => by rw [← hAe]; exact Or.inr h
  have hS : va_S A s.heap s.heap [] := va_S.rf
  have hP : va_P (dC, dI) vwCl [(a0, .inr (11, [.null, .int 0, .null, .null, .null, .null, .null, .null, .int 0, .null, .null, .null, .int 0, .int 0, .null, .int 0, .null, .null, .int 0]))] s.heap := hP
  have hl := lv_entry ([.ref a0]) (n := 1) (Nat.le_of_ble_eq_true rfl)
  rw [lg_entry_eq]
  generalize (lg_sl ([.ref a0]) ++ List.replicate (1 - (lg_sl ([.ref a0])).length) Slot.unset).toArray = ls at hl ⊢
  have hl : lv_has ls 1 [(0, .ref a0)] := hl
  refine lv_aload_n hx hb dX11_init_0 rfl (lv_at hl 0 rfl) ?_
  refine W.objInit hx hb hown (hU _ wd_9) (hU _ wd_10) (hU _ wd_11) rfl (by rw [hml]; exact hl.1) rfl dX11_init_1 (Nat.le_of_ble_eq_true rfl) (Nat.le_of_ble_eq_true rfl) ?_
  refine W.eq (g2 := F0 m 4 ls []) rfl ?_
  refine lv_aload_n hx hb dX11_init_4 rfl (lv_at hl 0 rfl) ?_
  refine lv_sipush (v := 600) hx hb dX11_init_5 (by decide) ?_
  refine tk_newa (atype := .int) (ty := .int) (a0 := (600, .inl z0)) hx hb 0 (hU (.arrayClass .int) wd_12) rfl (fun _ => Iff.rfl) hK rfl hP hD hS hA (fun _ => rfl) (by decide) (by decide) (Nat.le_of_ble_eq_true rfl) (Nat.le_of_ble_eq_true rfl) (Nat.le_of_ble_eq_true rfl) dX11_init_8 (fun q_1 H hP hD hS => ?_)
  have hP : va_P (dC, dI) vwCl [(a0, .inr (11, [.null, .int 0, .null, .null, .null, .null, .null, .null, .int 0, .null, .null, .null, .int 0, .int 0, .null, .int 0, .null, .null, .int 0])), (q_1, .inl (cI, 600, .inl z0))] H := hP
  have hD : va_D A [(a0, .inr (11, [.null, .int 0, .null, .null, .null, .null, .null, .null, .int 0, .null, .null, .null, .int 0, .int 0, .null, .int 0, .null, .null, .int 0])), (q_1, .inl (cI, 600, .inl z0))] := hD
  refine W.widen (k := 1) (n := 600) (Nat.le_of_ble_eq_true rfl) (Nat.le_of_ble_eq_true rfl) ?_
  refine va_putF (D := (dC, dI)) (ci := 11) (v := .ref q_1) (ty := .array .int) (C := RX11) (T := TX11) (N := 19) hx hb hU inlX11 tyX11 tyX11_ok nmX11 hown hK hP hD hS 0 rfl rfl 0 (by decide) (hU _ wd_13) (fun _ h9 => h9) rfl hin rfl (by decide +kernel) rfl rfl (Nat.le_of_ble_eq_true rfl) dX11_init_10 (fun H locs hP hD hS => ?_)
  have hP : va_P (dC, dI) vwCl [(a0, .inr (11, [.ref q_1, .int 0, .null, .null, .null, .null, .null, .null, .int 0, .null, .null, .null, .int 0, .int 0, .null, .int 0, .null, .null, .int 0])), (q_1, .inl (cI, 600, .inl z0))] H := hP
  have hD : va_D A [(a0, .inr (11, [.ref q_1, .int 0, .null, .null, .null, .null, .null, .null, .int 0, .null, .null, .null, .int 0, .int 0, .null, .int 0, .null, .null, .int 0])), (q_1, .inl (cI, 600, .inl z0))] := hD
  refine lv_aload_n hx hb dX11_init_13 rfl (lv_at hl 0 rfl) ?_
  refine va_new (ci := 3) (fs := [.null, .null, .null, .null, .null, .int 0, .int 0, .int 0, .int 0, .int 0, .int 0, .int 0, .null, .null, .null, .int 0, .null, .null]) (C := RX3) (T := TX3) (N := 18) hx hb hU inlX3 tyX3 tyX3_ok hown (hU _ wd_14) (hU _ wd_15) (hU _ wd_16) hK hP hD hS hA rfl dvX3 (Nat.le_of_ble_eq_true rfl) (Nat.le_of_ble_eq_true rfl) dX11_init_14 (fun q_2 H hP hD hS => ?_)
  have hP : va_P (dC, dI) vwCl [(a0, .inr (11, [.ref q_1, .int 0, .null, .null, .null, .null, .null, .null, .int 0, .null, .null, .null, .int 0, .int 0, .null, .int 0, .null, .null, .int 0])), (q_1, .inl (cI, 600, .inl z0)), (q_2, .inr (3, [.null, .null, .null, .null, .null, .int 0, .int 0, .int 0, .int 0, .int 0, .int 0, .int 0, .null, .null, .null, .int 0, .null, .null]))] H := hP
  have hD : va_D A [(a0, .inr (11, [.ref q_1, .int 0, .null, .null, .null, .null, .null, .null, .int 0, .null, .null, .null, .int 0, .int 0, .null, .int 0, .null, .null, .int 0])), (q_1, .inl (cI, 600, .inl z0)), (q_2, .inr (3, [.null, .null, .null, .null, .null, .int 0, .int 0, .int 0, .int 0, .int 0, .int 0, .int 0, .null, .null, .null, .int 0, .null, .null]))] := hD
  refine W.widen (k := 2) (n := 618) (Nat.le_of_ble_eq_true rfl) (Nat.le_of_ble_eq_true rfl) ?_
  refine lv_dup hx hb dX11_init_17 rfl ?_
  refine tk_rv (wr := [(a0, .inr (11, [.ref q_1, .int 0, .null, .null, .null, .null, .null, .null, .int 0, .null, .null, .null, .int 0, .int 0, .null, .int 0, .null, .null, .int 0])), (q_1, .inl (cI, 600, .inl z0))]) (tk_IN (As := []) (rest := [.ref q_2, .ref a0]) (n := 0) hx hb hml hown hU hN (cc_X3_init_0 l (dC, dI) cI cL cZ H.size q_2) hN.1 wd_44 wd_16 wd_45 rfl (by decide +kernel) ⟨Nat.le_of_ble_eq_true rfl, Nat.le_of_ble_eq_true rfl⟩ hK hP hD [2] (by decide) rfl rfl hl.1 rfl (Nat.le_of_ble_eq_true rfl) dX11_init_18 ⟨Nat.le_of_ble_eq_true rfl, Nat.le_of_ble_eq_true rfl⟩) hP hD hS hA [2] [0, 1] rfl rfl (by decide) (by decide) (fun w_4 H locs hw hP hD hS => ?_)
  obtain ⟨q_5, q_6, q_7, q_8, q_9, q_10, q_11, q_12, q_13, q_14, q_15, q_16, q_17, q_18, q_19, q_20, q_21, q_22, q_23, q_24, q_25, q_26, q_27, q_28, q_29, q_30, q_31, q_32, rfl⟩ := hw
  have hP : va_P (dC, dI) vwCl [(a0, .inr (11, [.ref q_1, .int 0, .null, .null, .null, .null, .null, .null, .int 0, .null, .null, .null, .int 0, .int 0, .null, .int 0, .null, .null, .int 0])), (q_1, .inl (cI, 600, .inl z0)), (q_2, .inr (3, [.ref q_5, .ref q_6, .ref q_7, .ref q_8, .ref q_9, .int 0, .int 0, .int 0, .int 0, .int 0, .int 0, .int (-1), .ref q_10, .ref q_11, .ref q_12, .int 0, .ref q_13, .ref q_14])), (q_5, .inr (7, [.ref q_15, .int 0, .ref q_16, .ref q_17, .ref q_18, .ref q_19, .int 0, .ref q_20, .ref q_21, .ref q_22, .ref q_23, .ref q_24, .int 0, .ref q_25, .ref q_26, .ref q_27])), (q_15, .inl (cI, 26, .inl z0)), (q_16, .inl (cI, 6, .inl z0)), (q_17, .inl (cI, 81, .inl z0)), (q_18, .inl (cI, 20, .inl z0)), (q_19, .inl (cI, 20, .inl z0)), (q_20, .inl (cI, 9, .inl z0)), (q_21, .inl (cI, 9, .inl z0)), (q_22, .inl (cI, 36, .inl z0)), (q_23, .inl (cI, 36, .inl z0)), (q_25, .inr (9, [.ref q_28, .ref q_29, .int 0])), (q_28, .inl (cI, 96, .inl z0)), (q_29, .inl (cI, 12, .inl z0)), (q_26, .inr (9, [.ref q_30, .ref q_31, .int 0])), (q_30, .inl (cI, 64, .inl z0)), (q_31, .inl (cI, 8, .inl z0)), (q_6, .inr (10, [.ref q_32, .int 0, .int 0])), (q_14, .inl (cI, 256, .inl z0))] H := hP
  have hD : va_D A [(a0, .inr (11, [.ref q_1, .int 0, .null, .null, .null, .null, .null, .null, .int 0, .null, .null, .null, .int 0, .int 0, .null, .int 0, .null, .null, .int 0])), (q_1, .inl (cI, 600, .inl z0)), (q_2, .inr (3, [.ref q_5, .ref q_6, .ref q_7, .ref q_8, .ref q_9, .int 0, .int 0, .int 0, .int 0, .int 0, .int 0, .int (-1), .ref q_10, .ref q_11, .ref q_12, .int 0, .ref q_13, .ref q_14])), (q_5, .inr (7, [.ref q_15, .int 0, .ref q_16, .ref q_17, .ref q_18, .ref q_19, .int 0, .ref q_20, .ref q_21, .ref q_22, .ref q_23, .ref q_24, .int 0, .ref q_25, .ref q_26, .ref q_27])), (q_15, .inl (cI, 26, .inl z0)), (q_16, .inl (cI, 6, .inl z0)), (q_17, .inl (cI, 81, .inl z0)), (q_18, .inl (cI, 20, .inl z0)), (q_19, .inl (cI, 20, .inl z0)), (q_20, .inl (cI, 9, .inl z0)), (q_21, .inl (cI, 9, .inl z0)), (q_22, .inl (cI, 36, .inl z0)), (q_23, .inl (cI, 36, .inl z0)), (q_25, .inr (9, [.ref q_28, .ref q_29, .int 0])), (q_28, .inl (cI, 96, .inl z0)), (q_29, .inl (cI, 12, .inl z0)), (q_26, .inr (9, [.ref q_30, .ref q_31, .int 0])), (q_30, .inl (cI, 64, .inl z0)), (q_31, .inl (cI, 8, .inl z0)), (q_6, .inr (10, [.ref q_32, .int 0, .int 0])), (q_14, .inl (cI, 256, .inl z0))] := hD
  refine W.widen (k := 126) (n := 49482) (Nat.le_of_ble_eq_true rfl) (Nat.le_of_ble_eq_true rfl) ?_
  refine va_putF (D := (dC, dI)) (ci := 11) (v := .ref q_2) (ty := .object "SaidShallow$Rows") (C := RX11) (T := TX11) (N := 19) hx hb hU inlX11 tyX11 tyX11_ok nmX11 hown hK hP hD hS 0 rfl rfl 2 (by decide) (hU _ wd_17) (fun _ h9 => h9) rfl hin rfl (by decide +kernel) rfl rfl (Nat.le_of_ble_eq_true rfl) dX11_init_21 (fun H locs hP hD hS => ?_)
  have hP : va_P (dC, dI) vwCl [(a0, .inr (11, [.ref q_1, .int 0, .ref q_2, .null, .null, .null, .null, .null, .int 0, .null, .null, .null, .int 0, .int 0, .null, .int 0, .null, .null, .int 0])), (q_1, .inl (cI, 600, .inl z0)), (q_2, .inr (3, [.ref q_5, .ref q_6, .ref q_7, .ref q_8, .ref q_9, .int 0, .int 0, .int 0, .int 0, .int 0, .int 0, .int (-1), .ref q_10, .ref q_11, .ref q_12, .int 0, .ref q_13, .ref q_14])), (q_5, .inr (7, [.ref q_15, .int 0, .ref q_16, .ref q_17, .ref q_18, .ref q_19, .int 0, .ref q_20, .ref q_21, .ref q_22, .ref q_23, .ref q_24, .int 0, .ref q_25, .ref q_26, .ref q_27])), (q_15, .inl (cI, 26, .inl z0)), (q_16, .inl (cI, 6, .inl z0)), (q_17, .inl (cI, 81, .inl z0)), (q_18, .inl (cI, 20, .inl z0)), (q_19, .inl (cI, 20, .inl z0)), (q_20, .inl (cI, 9, .inl z0)), (q_21, .inl (cI, 9, .inl z0)), (q_22, .inl (cI, 36, .inl z0)), (q_23, .inl (cI, 36, .inl z0)), (q_25, .inr (9, [.ref q_28, .ref q_29, .int 0])), (q_28, .inl (cI, 96, .inl z0)), (q_29, .inl (cI, 12, .inl z0)), (q_26, .inr (9, [.ref q_30, .ref q_31, .int 0])), (q_30, .inl (cI, 64, .inl z0)), (q_31, .inl (cI, 8, .inl z0)), (q_6, .inr (10, [.ref q_32, .int 0, .int 0])), (q_14, .inl (cI, 256, .inl z0))] H := hP
  have hD : va_D A [(a0, .inr (11, [.ref q_1, .int 0, .ref q_2, .null, .null, .null, .null, .null, .int 0, .null, .null, .null, .int 0, .int 0, .null, .int 0, .null, .null, .int 0])), (q_1, .inl (cI, 600, .inl z0)), (q_2, .inr (3, [.ref q_5, .ref q_6, .ref q_7, .ref q_8, .ref q_9, .int 0, .int 0, .int 0, .int 0, .int 0, .int 0, .int (-1), .ref q_10, .ref q_11, .ref q_12, .int 0, .ref q_13, .ref q_14])), (q_5, .inr (7, [.ref q_15, .int 0, .ref q_16, .ref q_17, .ref q_18, .ref q_19, .int 0, .ref q_20, .ref q_21, .ref q_22, .ref q_23, .ref q_24, .int 0, .ref q_25, .ref q_26, .ref q_27])), (q_15, .inl (cI, 26, .inl z0)), (q_16, .inl (cI, 6, .inl z0)), (q_17, .inl (cI, 81, .inl z0)), (q_18, .inl (cI, 20, .inl z0)), (q_19, .inl (cI, 20, .inl z0)), (q_20, .inl (cI, 9, .inl z0)), (q_21, .inl (cI, 9, .inl z0)), (q_22, .inl (cI, 36, .inl z0)), (q_23, .inl (cI, 36, .inl z0)), (q_25, .inr (9, [.ref q_28, .ref q_29, .int 0])), (q_28, .inl (cI, 96, .inl z0)), (q_29, .inl (cI, 12, .inl z0)), (q_26, .inr (9, [.ref q_30, .ref q_31, .int 0])), (q_30, .inl (cI, 64, .inl z0)), (q_31, .inl (cI, 8, .inl z0)), (q_6, .inr (10, [.ref q_32, .int 0, .int 0])), (q_14, .inl (cI, 256, .inl z0))] := hD
  refine lv_aload_n hx hb dX11_init_24 rfl (lv_at hl 0 rfl) ?_
  refine lv_aload_n hx hb dX11_init_25 rfl (lv_at hl 0 rfl) ?_
  refine va_get (D := (dC, dI)) (ci := 11) (v := .ref q_2) (C := RX11) (T := TX11) (N := 19) hx hb hU inlX11 hown hK hP 0 rfl rfl 2 (by decide) (hU _ wd_17) (fun _ h9 => h9) rfl dX11_init_26 ?_
  refine va_get (D := (dC, dI)) (ci := 3) (v := .ref q_5) (C := RX3) (T := TX3) (N := 18) hx hb hU inlX3 hown hK hP 2 rfl rfl 0 (by decide) (hU _ wd_18) (fun _ h9 => h9) rfl dX11_init_29 ?_
  refine va_putF (D := (dC, dI)) (ci := 11) (v := .ref q_5) (ty := .object "SaidShallow$Tongue") (C := RX11) (T := TX11) (N := 19) hx hb hU inlX11 tyX11 tyX11_ok nmX11 hown hK hP hD hS 0 rfl rfl 3 (by decide) (hU _ wd_19) (fun _ h9 => h9) rfl hin rfl (by decide +kernel) rfl rfl (Nat.le_of_ble_eq_true rfl) dX11_init_32 (fun H locs hP hD hS => ?_)
  have hP : va_P (dC, dI) vwCl [(a0, .inr (11, [.ref q_1, .int 0, .ref q_2, .ref q_5, .null, .null, .null, .null, .int 0, .null, .null, .null, .int 0, .int 0, .null, .int 0, .null, .null, .int 0])), (q_1, .inl (cI, 600, .inl z0)), (q_2, .inr (3, [.ref q_5, .ref q_6, .ref q_7, .ref q_8, .ref q_9, .int 0, .int 0, .int 0, .int 0, .int 0, .int 0, .int (-1), .ref q_10, .ref q_11, .ref q_12, .int 0, .ref q_13, .ref q_14])), (q_5, .inr (7, [.ref q_15, .int 0, .ref q_16, .ref q_17, .ref q_18, .ref q_19, .int 0, .ref q_20, .ref q_21, .ref q_22, .ref q_23, .ref q_24, .int 0, .ref q_25, .ref q_26, .ref q_27])), (q_15, .inl (cI, 26, .inl z0)), (q_16, .inl (cI, 6, .inl z0)), (q_17, .inl (cI, 81, .inl z0)), (q_18, .inl (cI, 20, .inl z0)), (q_19, .inl (cI, 20, .inl z0)), (q_20, .inl (cI, 9, .inl z0)), (q_21, .inl (cI, 9, .inl z0)), (q_22, .inl (cI, 36, .inl z0)), (q_23, .inl (cI, 36, .inl z0)), (q_25, .inr (9, [.ref q_28, .ref q_29, .int 0])), (q_28, .inl (cI, 96, .inl z0)), (q_29, .inl (cI, 12, .inl z0)), (q_26, .inr (9, [.ref q_30, .ref q_31, .int 0])), (q_30, .inl (cI, 64, .inl z0)), (q_31, .inl (cI, 8, .inl z0)), (q_6, .inr (10, [.ref q_32, .int 0, .int 0])), (q_14, .inl (cI, 256, .inl z0))] H := hP
  have hD : va_D A [(a0, .inr (11, [.ref q_1, .int 0, .ref q_2, .ref q_5, .null, .null, .null, .null, .int 0, .null, .null, .null, .int 0, .int 0, .null, .int 0, .null, .null, .int 0])), (q_1, .inl (cI, 600, .inl z0)), (q_2, .inr (3, [.ref q_5, .ref q_6, .ref q_7, .ref q_8, .ref q_9, .int 0, .int 0, .int 0, .int 0, .int 0, .int 0, .int (-1), .ref q_10, .ref q_11, .ref q_12, .int 0, .ref q_13, .ref q_14])), (q_5, .inr (7, [.ref q_15, .int 0, .ref q_16, .ref q_17, .ref q_18, .ref q_19, .int 0, .ref q_20, .ref q_21, .ref q_22, .ref q_23, .ref q_24, .int 0, .ref q_25, .ref q_26, .ref q_27])), (q_15, .inl (cI, 26, .inl z0)), (q_16, .inl (cI, 6, .inl z0)), (q_17, .inl (cI, 81, .inl z0)), (q_18, .inl (cI, 20, .inl z0)), (q_19, .inl (cI, 20, .inl z0)), (q_20, .inl (cI, 9, .inl z0)), (q_21, .inl (cI, 9, .inl z0)), (q_22, .inl (cI, 36, .inl z0)), (q_23, .inl (cI, 36, .inl z0)), (q_25, .inr (9, [.ref q_28, .ref q_29, .int 0])), (q_28, .inl (cI, 96, .inl z0)), (q_29, .inl (cI, 12, .inl z0)), (q_26, .inr (9, [.ref q_30, .ref q_31, .int 0])), (q_30, .inl (cI, 64, .inl z0)), (q_31, .inl (cI, 8, .inl z0)), (q_6, .inr (10, [.ref q_32, .int 0, .int 0])), (q_14, .inl (cI, 256, .inl z0))] := hD
  refine lv_aload_n hx hb dX11_init_35 rfl (lv_at hl 0 rfl) ?_
  refine lv_aload_n hx hb dX11_init_36 rfl (lv_at hl 0 rfl) ?_
  refine va_get (D := (dC, dI)) (ci := 11) (v := .ref q_2) (C := RX11) (T := TX11) (N := 19) hx hb hU inlX11 hown hK hP 0 rfl rfl 2 (by decide) (hU _ wd_17) (fun _ h9 => h9) rfl dX11_init_37 ?_
  refine va_get (D := (dC, dI)) (ci := 3) (v := .ref q_6) (C := RX3) (T := TX3) (N := 18) hx hb hU inlX3 hown hK hP 2 rfl rfl 1 (by decide) (hU _ wd_20) (fun _ h9 => h9) rfl dX11_init_40 ?_
  refine va_putF (D := (dC, dI)) (ci := 11) (v := .ref q_6) (ty := .object "SaidShallow$Words") (C := RX11) (T := TX11) (N := 19) hx hb hU inlX11 tyX11 tyX11_ok nmX11 hown hK hP hD hS 0 rfl rfl 4 (by decide) (hU _ wd_21) (fun _ h9 => h9) rfl hin rfl (by decide +kernel) rfl rfl (Nat.le_of_ble_eq_true rfl) dX11_init_43 (fun H locs hP hD hS => ?_)
  have hP : va_P (dC, dI) vwCl [(a0, .inr (11, [.ref q_1, .int 0, .ref q_2, .ref q_5, .ref q_6, .null, .null, .null, .int 0, .null, .null, .null, .int 0, .int 0, .null, .int 0, .null, .null, .int 0])), (q_1, .inl (cI, 600, .inl z0)), (q_2, .inr (3, [.ref q_5, .ref q_6, .ref q_7, .ref q_8, .ref q_9, .int 0, .int 0, .int 0, .int 0, .int 0, .int 0, .int (-1), .ref q_10, .ref q_11, .ref q_12, .int 0, .ref q_13, .ref q_14])), (q_5, .inr (7, [.ref q_15, .int 0, .ref q_16, .ref q_17, .ref q_18, .ref q_19, .int 0, .ref q_20, .ref q_21, .ref q_22, .ref q_23, .ref q_24, .int 0, .ref q_25, .ref q_26, .ref q_27])), (q_15, .inl (cI, 26, .inl z0)), (q_16, .inl (cI, 6, .inl z0)), (q_17, .inl (cI, 81, .inl z0)), (q_18, .inl (cI, 20, .inl z0)), (q_19, .inl (cI, 20, .inl z0)), (q_20, .inl (cI, 9, .inl z0)), (q_21, .inl (cI, 9, .inl z0)), (q_22, .inl (cI, 36, .inl z0)), (q_23, .inl (cI, 36, .inl z0)), (q_25, .inr (9, [.ref q_28, .ref q_29, .int 0])), (q_28, .inl (cI, 96, .inl z0)), (q_29, .inl (cI, 12, .inl z0)), (q_26, .inr (9, [.ref q_30, .ref q_31, .int 0])), (q_30, .inl (cI, 64, .inl z0)), (q_31, .inl (cI, 8, .inl z0)), (q_6, .inr (10, [.ref q_32, .int 0, .int 0])), (q_14, .inl (cI, 256, .inl z0))] H := hP
  have hD : va_D A [(a0, .inr (11, [.ref q_1, .int 0, .ref q_2, .ref q_5, .ref q_6, .null, .null, .null, .int 0, .null, .null, .null, .int 0, .int 0, .null, .int 0, .null, .null, .int 0])), (q_1, .inl (cI, 600, .inl z0)), (q_2, .inr (3, [.ref q_5, .ref q_6, .ref q_7, .ref q_8, .ref q_9, .int 0, .int 0, .int 0, .int 0, .int 0, .int 0, .int (-1), .ref q_10, .ref q_11, .ref q_12, .int 0, .ref q_13, .ref q_14])), (q_5, .inr (7, [.ref q_15, .int 0, .ref q_16, .ref q_17, .ref q_18, .ref q_19, .int 0, .ref q_20, .ref q_21, .ref q_22, .ref q_23, .ref q_24, .int 0, .ref q_25, .ref q_26, .ref q_27])), (q_15, .inl (cI, 26, .inl z0)), (q_16, .inl (cI, 6, .inl z0)), (q_17, .inl (cI, 81, .inl z0)), (q_18, .inl (cI, 20, .inl z0)), (q_19, .inl (cI, 20, .inl z0)), (q_20, .inl (cI, 9, .inl z0)), (q_21, .inl (cI, 9, .inl z0)), (q_22, .inl (cI, 36, .inl z0)), (q_23, .inl (cI, 36, .inl z0)), (q_25, .inr (9, [.ref q_28, .ref q_29, .int 0])), (q_28, .inl (cI, 96, .inl z0)), (q_29, .inl (cI, 12, .inl z0)), (q_26, .inr (9, [.ref q_30, .ref q_31, .int 0])), (q_30, .inl (cI, 64, .inl z0)), (q_31, .inl (cI, 8, .inl z0)), (q_6, .inr (10, [.ref q_32, .int 0, .int 0])), (q_14, .inl (cI, 256, .inl z0))] := hD
  refine lv_aload_n hx hb dX11_init_46 rfl (lv_at hl 0 rfl) ?_
  refine va_new (ci := 6) (fs := [.int 0, .int 0, .null, .null, .null, .int 0, .null, .null, .null]) (C := RX6) (T := TX6) (N := 9) hx hb hU inlX6 tyX6 tyX6_ok hown (hU _ wd_22) (hU _ wd_23) (hU _ wd_24) hK hP hD hS hA rfl dvX6 (Nat.le_of_ble_eq_true rfl) (Nat.le_of_ble_eq_true rfl) dX11_init_47 (fun q_33 H hP hD hS => ?_)
  have hP : va_P (dC, dI) vwCl [(a0, .inr (11, [.ref q_1, .int 0, .ref q_2, .ref q_5, .ref q_6, .null, .null, .null, .int 0, .null, .null, .null, .int 0, .int 0, .null, .int 0, .null, .null, .int 0])), (q_1, .inl (cI, 600, .inl z0)), (q_2, .inr (3, [.ref q_5, .ref q_6, .ref q_7, .ref q_8, .ref q_9, .int 0, .int 0, .int 0, .int 0, .int 0, .int 0, .int (-1), .ref q_10, .ref q_11, .ref q_12, .int 0, .ref q_13, .ref q_14])), (q_5, .inr (7, [.ref q_15, .int 0, .ref q_16, .ref q_17, .ref q_18, .ref q_19, .int 0, .ref q_20, .ref q_21, .ref q_22, .ref q_23, .ref q_24, .int 0, .ref q_25, .ref q_26, .ref q_27])), (q_15, .inl (cI, 26, .inl z0)), (q_16, .inl (cI, 6, .inl z0)), (q_17, .inl (cI, 81, .inl z0)), (q_18, .inl (cI, 20, .inl z0)), (q_19, .inl (cI, 20, .inl z0)), (q_20, .inl (cI, 9, .inl z0)), (q_21, .inl (cI, 9, .inl z0)), (q_22, .inl (cI, 36, .inl z0)), (q_23, .inl (cI, 36, .inl z0)), (q_25, .inr (9, [.ref q_28, .ref q_29, .int 0])), (q_28, .inl (cI, 96, .inl z0)), (q_29, .inl (cI, 12, .inl z0)), (q_26, .inr (9, [.ref q_30, .ref q_31, .int 0])), (q_30, .inl (cI, 64, .inl z0)), (q_31, .inl (cI, 8, .inl z0)), (q_6, .inr (10, [.ref q_32, .int 0, .int 0])), (q_14, .inl (cI, 256, .inl z0)), (q_33, .inr (6, [.int 0, .int 0, .null, .null, .null, .int 0, .null, .null, .null]))] H := hP
  have hD : va_D A [(a0, .inr (11, [.ref q_1, .int 0, .ref q_2, .ref q_5, .ref q_6, .null, .null, .null, .int 0, .null, .null, .null, .int 0, .int 0, .null, .int 0, .null, .null, .int 0])), (q_1, .inl (cI, 600, .inl z0)), (q_2, .inr (3, [.ref q_5, .ref q_6, .ref q_7, .ref q_8, .ref q_9, .int 0, .int 0, .int 0, .int 0, .int 0, .int 0, .int (-1), .ref q_10, .ref q_11, .ref q_12, .int 0, .ref q_13, .ref q_14])), (q_5, .inr (7, [.ref q_15, .int 0, .ref q_16, .ref q_17, .ref q_18, .ref q_19, .int 0, .ref q_20, .ref q_21, .ref q_22, .ref q_23, .ref q_24, .int 0, .ref q_25, .ref q_26, .ref q_27])), (q_15, .inl (cI, 26, .inl z0)), (q_16, .inl (cI, 6, .inl z0)), (q_17, .inl (cI, 81, .inl z0)), (q_18, .inl (cI, 20, .inl z0)), (q_19, .inl (cI, 20, .inl z0)), (q_20, .inl (cI, 9, .inl z0)), (q_21, .inl (cI, 9, .inl z0)), (q_22, .inl (cI, 36, .inl z0)), (q_23, .inl (cI, 36, .inl z0)), (q_25, .inr (9, [.ref q_28, .ref q_29, .int 0])), (q_28, .inl (cI, 96, .inl z0)), (q_29, .inl (cI, 12, .inl z0)), (q_26, .inr (9, [.ref q_30, .ref q_31, .int 0])), (q_30, .inl (cI, 64, .inl z0)), (q_31, .inl (cI, 8, .inl z0)), (q_6, .inr (10, [.ref q_32, .int 0, .int 0])), (q_14, .inl (cI, 256, .inl z0)), (q_33, .inr (6, [.int 0, .int 0, .null, .null, .null, .int 0, .null, .null, .null]))] := hD
  refine W.widen (k := 127) (n := 49491) (Nat.le_of_ble_eq_true rfl) (Nat.le_of_ble_eq_true rfl) ?_
  refine lv_dup hx hb dX11_init_50 rfl ?_
  refine tk_rv (wr := [(a0, .inr (11, [.ref q_1, .int 0, .ref q_2, .ref q_5, .ref q_6, .null, .null, .null, .int 0, .null, .null, .null, .int 0, .int 0, .null, .int 0, .null, .null, .int 0])), (q_1, .inl (cI, 600, .inl z0)), (q_2, .inr (3, [.ref q_5, .ref q_6, .ref q_7, .ref q_8, .ref q_9, .int 0, .int 0, .int 0, .int 0, .int 0, .int 0, .int (-1), .ref q_10, .ref q_11, .ref q_12, .int 0, .ref q_13, .ref q_14])), (q_5, .inr (7, [.ref q_15, .int 0, .ref q_16, .ref q_17, .ref q_18, .ref q_19, .int 0, .ref q_20, .ref q_21, .ref q_22, .ref q_23, .ref q_24, .int 0, .ref q_25, .ref q_26, .ref q_27])), (q_15, .inl (cI, 26, .inl z0)), (q_16, .inl (cI, 6, .inl z0)), (q_17, .inl (cI, 81, .inl z0)), (q_18, .inl (cI, 20, .inl z0)), (q_19, .inl (cI, 20, .inl z0)), (q_20, .inl (cI, 9, .inl z0)), (q_21, .inl (cI, 9, .inl z0)), (q_22, .inl (cI, 36, .inl z0)), (q_23, .inl (cI, 36, .inl z0)), (q_25, .inr (9, [.ref q_28, .ref q_29, .int 0])), (q_28, .inl (cI, 96, .inl z0)), (q_29, .inl (cI, 12, .inl z0)), (q_26, .inr (9, [.ref q_30, .ref q_31, .int 0])), (q_30, .inl (cI, 64, .inl z0)), (q_31, .inl (cI, 8, .inl z0)), (q_6, .inr (10, [.ref q_32, .int 0, .int 0])), (q_14, .inl (cI, 256, .inl z0))]) (tk_IN (As := []) (rest := [.ref q_33, .ref a0]) (n := 0) hx hb hml hown hU hN (cc_X6_init_0 l (dC, dI) cI cL cZ H.size q_33) hN.2.2.2.2.2.2.1 wd_133 wd_24 wd_134 rfl (by decide +kernel) ⟨Nat.le_of_ble_eq_true rfl, Nat.le_of_ble_eq_true rfl⟩ hK hP hD [21] (by decide) rfl rfl hl.1 rfl (Nat.le_of_ble_eq_true rfl) dX11_init_51 ⟨Nat.le_of_ble_eq_true rfl, Nat.le_of_ble_eq_true rfl⟩) hP hD hS hA [21] [0, 1, 2, 3, 4, 5, 6, 7, 8, 9, 10, 11, 12, 13, 14, 15, 16, 17, 18, 19, 20] rfl rfl (by decide) (by decide) (fun w_35 H locs hw hP hD hS => ?_)
  obtain ⟨q_36, q_37, q_38, q_39, q_40, q_41, q_42, q_43, q_44, q_45, rfl⟩ := hw
  have hP : va_P (dC, dI) vwCl [(a0, .inr (11, [.ref q_1, .int 0, .ref q_2, .ref q_5, .ref q_6, .null, .null, .null, .int 0, .null, .null, .null, .int 0, .int 0, .null, .int 0, .null, .null, .int 0])), (q_1, .inl (cI, 600, .inl z0)), (q_2, .inr (3, [.ref q_5, .ref q_6, .ref q_7, .ref q_8, .ref q_9, .int 0, .int 0, .int 0, .int 0, .int 0, .int 0, .int (-1), .ref q_10, .ref q_11, .ref q_12, .int 0, .ref q_13, .ref q_14])), (q_5, .inr (7, [.ref q_15, .int 0, .ref q_16, .ref q_17, .ref q_18, .ref q_19, .int 0, .ref q_20, .ref q_21, .ref q_22, .ref q_23, .ref q_24, .int 0, .ref q_25, .ref q_26, .ref q_27])), (q_15, .inl (cI, 26, .inl z0)), (q_16, .inl (cI, 6, .inl z0)), (q_17, .inl (cI, 81, .inl z0)), (q_18, .inl (cI, 20, .inl z0)), (q_19, .inl (cI, 20, .inl z0)), (q_20, .inl (cI, 9, .inl z0)), (q_21, .inl (cI, 9, .inl z0)), (q_22, .inl (cI, 36, .inl z0)), (q_23, .inl (cI, 36, .inl z0)), (q_25, .inr (9, [.ref q_28, .ref q_29, .int 0])), (q_28, .inl (cI, 96, .inl z0)), (q_29, .inl (cI, 12, .inl z0)), (q_26, .inr (9, [.ref q_30, .ref q_31, .int 0])), (q_30, .inl (cI, 64, .inl z0)), (q_31, .inl (cI, 8, .inl z0)), (q_6, .inr (10, [.ref q_32, .int 0, .int 0])), (q_14, .inl (cI, 256, .inl z0)), (q_33, .inr (6, [.int 0, .int 1, .ref q_36, .ref q_37, .ref q_38, .int 0, .ref q_39, .ref q_40, .ref q_41])), (q_36, .inl (cI, 8, .inl z0)), (q_37, .inr (9, [.ref q_42, .ref q_43, .int 0])), (q_42, .inl (cI, 96, .inl z0)), (q_43, .inl (cI, 12, .inl z0)), (q_38, .inr (9, [.ref q_44, .ref q_45, .int 0])), (q_44, .inl (cI, 96, .inl z0)), (q_45, .inl (cI, 12, .inl z0))] H := hP
  have hD : va_D A [(a0, .inr (11, [.ref q_1, .int 0, .ref q_2, .ref q_5, .ref q_6, .null, .null, .null, .int 0, .null, .null, .null, .int 0, .int 0, .null, .int 0, .null, .null, .int 0])), (q_1, .inl (cI, 600, .inl z0)), (q_2, .inr (3, [.ref q_5, .ref q_6, .ref q_7, .ref q_8, .ref q_9, .int 0, .int 0, .int 0, .int 0, .int 0, .int 0, .int (-1), .ref q_10, .ref q_11, .ref q_12, .int 0, .ref q_13, .ref q_14])), (q_5, .inr (7, [.ref q_15, .int 0, .ref q_16, .ref q_17, .ref q_18, .ref q_19, .int 0, .ref q_20, .ref q_21, .ref q_22, .ref q_23, .ref q_24, .int 0, .ref q_25, .ref q_26, .ref q_27])), (q_15, .inl (cI, 26, .inl z0)), (q_16, .inl (cI, 6, .inl z0)), (q_17, .inl (cI, 81, .inl z0)), (q_18, .inl (cI, 20, .inl z0)), (q_19, .inl (cI, 20, .inl z0)), (q_20, .inl (cI, 9, .inl z0)), (q_21, .inl (cI, 9, .inl z0)), (q_22, .inl (cI, 36, .inl z0)), (q_23, .inl (cI, 36, .inl z0)), (q_25, .inr (9, [.ref q_28, .ref q_29, .int 0])), (q_28, .inl (cI, 96, .inl z0)), (q_29, .inl (cI, 12, .inl z0)), (q_26, .inr (9, [.ref q_30, .ref q_31, .int 0])), (q_30, .inl (cI, 64, .inl z0)), (q_31, .inl (cI, 8, .inl z0)), (q_6, .inr (10, [.ref q_32, .int 0, .int 0])), (q_14, .inl (cI, 256, .inl z0)), (q_33, .inr (6, [.int 0, .int 1, .ref q_36, .ref q_37, .ref q_38, .int 0, .ref q_39, .ref q_40, .ref q_41])), (q_36, .inl (cI, 8, .inl z0)), (q_37, .inr (9, [.ref q_42, .ref q_43, .int 0])), (q_42, .inl (cI, 96, .inl z0)), (q_43, .inl (cI, 12, .inl z0)), (q_38, .inr (9, [.ref q_44, .ref q_45, .int 0])), (q_44, .inl (cI, 96, .inl z0)), (q_45, .inl (cI, 12, .inl z0))] := hD
  refine W.widen (k := 137) (n := 49849) (Nat.le_of_ble_eq_true rfl) (Nat.le_of_ble_eq_true rfl) ?_
  refine va_putF (D := (dC, dI)) (ci := 11) (v := .ref q_33) (ty := .object "SaidShallow$Standing") (C := RX11) (T := TX11) (N := 19) hx hb hU inlX11 tyX11 tyX11_ok nmX11 hown hK hP hD hS 0 rfl rfl 5 (by decide) (hU _ wd_25) (fun _ h9 => h9) rfl hin rfl (by decide +kernel) rfl rfl (Nat.le_of_ble_eq_true rfl) dX11_init_54 (fun H locs hP hD hS => ?_)
  have hP : va_P (dC, dI) vwCl [(a0, .inr (11, [.ref q_1, .int 0, .ref q_2, .ref q_5, .ref q_6, .ref q_33, .null, .null, .int 0, .null, .null, .null, .int 0, .int 0, .null, .int 0, .null, .null, .int 0])), (q_1, .inl (cI, 600, .inl z0)), (q_2, .inr (3, [.ref q_5, .ref q_6, .ref q_7, .ref q_8, .ref q_9, .int 0, .int 0, .int 0, .int 0, .int 0, .int 0, .int (-1), .ref q_10, .ref q_11, .ref q_12, .int 0, .ref q_13, .ref q_14])), (q_5, .inr (7, [.ref q_15, .int 0, .ref q_16, .ref q_17, .ref q_18, .ref q_19, .int 0, .ref q_20, .ref q_21, .ref q_22, .ref q_23, .ref q_24, .int 0, .ref q_25, .ref q_26, .ref q_27])), (q_15, .inl (cI, 26, .inl z0)), (q_16, .inl (cI, 6, .inl z0)), (q_17, .inl (cI, 81, .inl z0)), (q_18, .inl (cI, 20, .inl z0)), (q_19, .inl (cI, 20, .inl z0)), (q_20, .inl (cI, 9, .inl z0)), (q_21, .inl (cI, 9, .inl z0)), (q_22, .inl (cI, 36, .inl z0)), (q_23, .inl (cI, 36, .inl z0)), (q_25, .inr (9, [.ref q_28, .ref q_29, .int 0])), (q_28, .inl (cI, 96, .inl z0)), (q_29, .inl (cI, 12, .inl z0)), (q_26, .inr (9, [.ref q_30, .ref q_31, .int 0])), (q_30, .inl (cI, 64, .inl z0)), (q_31, .inl (cI, 8, .inl z0)), (q_6, .inr (10, [.ref q_32, .int 0, .int 0])), (q_14, .inl (cI, 256, .inl z0)), (q_33, .inr (6, [.int 0, .int 1, .ref q_36, .ref q_37, .ref q_38, .int 0, .ref q_39, .ref q_40, .ref q_41])), (q_36, .inl (cI, 8, .inl z0)), (q_37, .inr (9, [.ref q_42, .ref q_43, .int 0])), (q_42, .inl (cI, 96, .inl z0)), (q_43, .inl (cI, 12, .inl z0)), (q_38, .inr (9, [.ref q_44, .ref q_45, .int 0])), (q_44, .inl (cI, 96, .inl z0)), (q_45, .inl (cI, 12, .inl z0))] H := hP
  have hD : va_D A [(a0, .inr (11, [.ref q_1, .int 0, .ref q_2, .ref q_5, .ref q_6, .ref q_33, .null, .null, .int 0, .null, .null, .null, .int 0, .int 0, .null, .int 0, .null, .null, .int 0])), (q_1, .inl (cI, 600, .inl z0)), (q_2, .inr (3, [.ref q_5, .ref q_6, .ref q_7, .ref q_8, .ref q_9, .int 0, .int 0, .int 0, .int 0, .int 0, .int 0, .int (-1), .ref q_10, .ref q_11, .ref q_12, .int 0, .ref q_13, .ref q_14])), (q_5, .inr (7, [.ref q_15, .int 0, .ref q_16, .ref q_17, .ref q_18, .ref q_19, .int 0, .ref q_20, .ref q_21, .ref q_22, .ref q_23, .ref q_24, .int 0, .ref q_25, .ref q_26, .ref q_27])), (q_15, .inl (cI, 26, .inl z0)), (q_16, .inl (cI, 6, .inl z0)), (q_17, .inl (cI, 81, .inl z0)), (q_18, .inl (cI, 20, .inl z0)), (q_19, .inl (cI, 20, .inl z0)), (q_20, .inl (cI, 9, .inl z0)), (q_21, .inl (cI, 9, .inl z0)), (q_22, .inl (cI, 36, .inl z0)), (q_23, .inl (cI, 36, .inl z0)), (q_25, .inr (9, [.ref q_28, .ref q_29, .int 0])), (q_28, .inl (cI, 96, .inl z0)), (q_29, .inl (cI, 12, .inl z0)), (q_26, .inr (9, [.ref q_30, .ref q_31, .int 0])), (q_30, .inl (cI, 64, .inl z0)), (q_31, .inl (cI, 8, .inl z0)), (q_6, .inr (10, [.ref q_32, .int 0, .int 0])), (q_14, .inl (cI, 256, .inl z0)), (q_33, .inr (6, [.int 0, .int 1, .ref q_36, .ref q_37, .ref q_38, .int 0, .ref q_39, .ref q_40, .ref q_41])), (q_36, .inl (cI, 8, .inl z0)), (q_37, .inr (9, [.ref q_42, .ref q_43, .int 0])), (q_42, .inl (cI, 96, .inl z0)), (q_43, .inl (cI, 12, .inl z0)), (q_38, .inr (9, [.ref q_44, .ref q_45, .int 0])), (q_44, .inl (cI, 96, .inl z0)), (q_45, .inl (cI, 12, .inl z0))] := hD
  refine lv_aload_n hx hb dX11_init_57 rfl (lv_at hl 0 rfl) ?_
  refine va_new (ci := 7) (fs := [.null, .int 0, .null, .null, .null, .null, .int 0, .null, .null, .null, .null, .null, .int 0, .null, .null, .null]) (C := RX7) (T := TX7) (N := 16) hx hb hU inlX7 tyX7 tyX7_ok hown (hU _ wd_26) (hU _ wd_27) (hU _ wd_28) hK hP hD hS hA rfl dvX7 (Nat.le_of_ble_eq_true rfl) (Nat.le_of_ble_eq_true rfl) dX11_init_58 (fun q_46 H hP hD hS => ?_)
  have hP : va_P (dC, dI) vwCl [(a0, .inr (11, [.ref q_1, .int 0, .ref q_2, .ref q_5, .ref q_6, .ref q_33, .null, .null, .int 0, .null, .null, .null, .int 0, .int 0, .null, .int 0, .null, .null, .int 0])), (q_1, .inl (cI, 600, .inl z0)), (q_2, .inr (3, [.ref q_5, .ref q_6, .ref q_7, .ref q_8, .ref q_9, .int 0, .int 0, .int 0, .int 0, .int 0, .int 0, .int (-1), .ref q_10, .ref q_11, .ref q_12, .int 0, .ref q_13, .ref q_14])), (q_5, .inr (7, [.ref q_15, .int 0, .ref q_16, .ref q_17, .ref q_18, .ref q_19, .int 0, .ref q_20, .ref q_21, .ref q_22, .ref q_23, .ref q_24, .int 0, .ref q_25, .ref q_26, .ref q_27])), (q_15, .inl (cI, 26, .inl z0)), (q_16, .inl (cI, 6, .inl z0)), (q_17, .inl (cI, 81, .inl z0)), (q_18, .inl (cI, 20, .inl z0)), (q_19, .inl (cI, 20, .inl z0)), (q_20, .inl (cI, 9, .inl z0)), (q_21, .inl (cI, 9, .inl z0)), (q_22, .inl (cI, 36, .inl z0)), (q_23, .inl (cI, 36, .inl z0)), (q_25, .inr (9, [.ref q_28, .ref q_29, .int 0])), (q_28, .inl (cI, 96, .inl z0)), (q_29, .inl (cI, 12, .inl z0)), (q_26, .inr (9, [.ref q_30, .ref q_31, .int 0])), (q_30, .inl (cI, 64, .inl z0)), (q_31, .inl (cI, 8, .inl z0)), (q_6, .inr (10, [.ref q_32, .int 0, .int 0])), (q_14, .inl (cI, 256, .inl z0)), (q_33, .inr (6, [.int 0, .int 1, .ref q_36, .ref q_37, .ref q_38, .int 0, .ref q_39, .ref q_40, .ref q_41])), (q_36, .inl (cI, 8, .inl z0)), (q_37, .inr (9, [.ref q_42, .ref q_43, .int 0])), (q_42, .inl (cI, 96, .inl z0)), (q_43, .inl (cI, 12, .inl z0)), (q_38, .inr (9, [.ref q_44, .ref q_45, .int 0])), (q_44, .inl (cI, 96, .inl z0)), (q_45, .inl (cI, 12, .inl z0)), (q_46, .inr (7, [.null, .int 0, .null, .null, .null, .null, .int 0, .null, .null, .null, .null, .null, .int 0, .null, .null, .null]))] H := hP
  have hD : va_D A [(a0, .inr (11, [.ref q_1, .int 0, .ref q_2, .ref q_5, .ref q_6, .ref q_33, .null, .null, .int 0, .null, .null, .null, .int 0, .int 0, .null, .int 0, .null, .null, .int 0])), (q_1, .inl (cI, 600, .inl z0)), (q_2, .inr (3, [.ref q_5, .ref q_6, .ref q_7, .ref q_8, .ref q_9, .int 0, .int 0, .int 0, .int 0, .int 0, .int 0, .int (-1), .ref q_10, .ref q_11, .ref q_12, .int 0, .ref q_13, .ref q_14])), (q_5, .inr (7, [.ref q_15, .int 0, .ref q_16, .ref q_17, .ref q_18, .ref q_19, .int 0, .ref q_20, .ref q_21, .ref q_22, .ref q_23, .ref q_24, .int 0, .ref q_25, .ref q_26, .ref q_27])), (q_15, .inl (cI, 26, .inl z0)), (q_16, .inl (cI, 6, .inl z0)), (q_17, .inl (cI, 81, .inl z0)), (q_18, .inl (cI, 20, .inl z0)), (q_19, .inl (cI, 20, .inl z0)), (q_20, .inl (cI, 9, .inl z0)), (q_21, .inl (cI, 9, .inl z0)), (q_22, .inl (cI, 36, .inl z0)), (q_23, .inl (cI, 36, .inl z0)), (q_25, .inr (9, [.ref q_28, .ref q_29, .int 0])), (q_28, .inl (cI, 96, .inl z0)), (q_29, .inl (cI, 12, .inl z0)), (q_26, .inr (9, [.ref q_30, .ref q_31, .int 0])), (q_30, .inl (cI, 64, .inl z0)), (q_31, .inl (cI, 8, .inl z0)), (q_6, .inr (10, [.ref q_32, .int 0, .int 0])), (q_14, .inl (cI, 256, .inl z0)), (q_33, .inr (6, [.int 0, .int 1, .ref q_36, .ref q_37, .ref q_38, .int 0, .ref q_39, .ref q_40, .ref q_41])), (q_36, .inl (cI, 8, .inl z0)), (q_37, .inr (9, [.ref q_42, .ref q_43, .int 0])), (q_42, .inl (cI, 96, .inl z0)), (q_43, .inl (cI, 12, .inl z0)), (q_38, .inr (9, [.ref q_44, .ref q_45, .int 0])), (q_44, .inl (cI, 96, .inl z0)), (q_45, .inl (cI, 12, .inl z0)), (q_46, .inr (7, [.null, .int 0, .null, .null, .null, .null, .int 0, .null, .null, .null, .null, .null, .int 0, .null, .null, .null]))] := hD
  refine W.widen (k := 138) (n := 49865) (Nat.le_of_ble_eq_true rfl) (Nat.le_of_ble_eq_true rfl) ?_
  refine lv_dup hx hb dX11_init_61 rfl ?_
  refine tk_rv (wr := [(a0, .inr (11, [.ref q_1, .int 0, .ref q_2, .ref q_5, .ref q_6, .ref q_33, .null, .null, .int 0, .null, .null, .null, .int 0, .int 0, .null, .int 0, .null, .null, .int 0])), (q_1, .inl (cI, 600, .inl z0)), (q_2, .inr (3, [.ref q_5, .ref q_6, .ref q_7, .ref q_8, .ref q_9, .int 0, .int 0, .int 0, .int 0, .int 0, .int 0, .int (-1), .ref q_10, .ref q_11, .ref q_12, .int 0, .ref q_13, .ref q_14])), (q_5, .inr (7, [.ref q_15, .int 0, .ref q_16, .ref q_17, .ref q_18, .ref q_19, .int 0, .ref q_20, .ref q_21, .ref q_22, .ref q_23, .ref q_24, .int 0, .ref q_25, .ref q_26, .ref q_27])), (q_15, .inl (cI, 26, .inl z0)), (q_16, .inl (cI, 6, .inl z0)), (q_17, .inl (cI, 81, .inl z0)), (q_18, .inl (cI, 20, .inl z0)), (q_19, .inl (cI, 20, .inl z0)), (q_20, .inl (cI, 9, .inl z0)), (q_21, .inl (cI, 9, .inl z0)), (q_22, .inl (cI, 36, .inl z0)), (q_23, .inl (cI, 36, .inl z0)), (q_25, .inr (9, [.ref q_28, .ref q_29, .int 0])), (q_28, .inl (cI, 96, .inl z0)), (q_29, .inl (cI, 12, .inl z0)), (q_26, .inr (9, [.ref q_30, .ref q_31, .int 0])), (q_30, .inl (cI, 64, .inl z0)), (q_31, .inl (cI, 8, .inl z0)), (q_6, .inr (10, [.ref q_32, .int 0, .int 0])), (q_14, .inl (cI, 256, .inl z0)), (q_33, .inr (6, [.int 0, .int 1, .ref q_36, .ref q_37, .ref q_38, .int 0, .ref q_39, .ref q_40, .ref q_41])), (q_36, .inl (cI, 8, .inl z0)), (q_37, .inr (9, [.ref q_42, .ref q_43, .int 0])), (q_42, .inl (cI, 96, .inl z0)), (q_43, .inl (cI, 12, .inl z0)), (q_38, .inr (9, [.ref q_44, .ref q_45, .int 0])), (q_44, .inl (cI, 96, .inl z0)), (q_45, .inl (cI, 12, .inl z0))]) (tk_I (As := []) (rest := [.ref q_46, .ref a0]) (n := 0) hx hb hml hown hU hN (cc_X7_init_0 l (dC, dI) cI cL cZ H.size q_46) wd_145 wd_69 wd_28 wd_70 rfl (by decide +kernel) ⟨Nat.le_of_ble_eq_true rfl, Nat.le_of_ble_eq_true rfl⟩ hK hP hD [29] (by decide) rfl rfl hl.1 rfl (Nat.le_of_ble_eq_true rfl) dX11_init_62 ⟨Nat.le_of_ble_eq_true rfl, Nat.le_of_ble_eq_true rfl⟩) hP hD hS hA [29] [0, 1, 2, 3, 4, 5, 6, 7, 8, 9, 10, 11, 12, 13, 14, 15, 16, 17, 18, 19, 20, 21, 22, 23, 24, 25, 26, 27, 28] rfl rfl (by decide) (by decide) (fun w_48 H locs hw hP hD hS => ?_)
  obtain ⟨q_49, q_50, q_51, q_52, q_53, q_54, q_55, q_56, q_57, q_58, q_59, q_60, q_61, q_62, q_63, q_64, q_65, rfl⟩ := hw
  have hP : va_P (dC, dI) vwCl [(a0, .inr (11, [.ref q_1, .int 0, .ref q_2, .ref q_5, .ref q_6, .ref q_33, .null, .null, .int 0, .null, .null, .null, .int 0, .int 0, .null, .int 0, .null, .null, .int 0])), (q_1, .inl (cI, 600, .inl z0)), (q_2, .inr (3, [.ref q_5, .ref q_6, .ref q_7, .ref q_8, .ref q_9, .int 0, .int 0, .int 0, .int 0, .int 0, .int 0, .int (-1), .ref q_10, .ref q_11, .ref q_12, .int 0, .ref q_13, .ref q_14])), (q_5, .inr (7, [.ref q_15, .int 0, .ref q_16, .ref q_17, .ref q_18, .ref q_19, .int 0, .ref q_20, .ref q_21, .ref q_22, .ref q_23, .ref q_24, .int 0, .ref q_25, .ref q_26, .ref q_27])), (q_15, .inl (cI, 26, .inl z0)), (q_16, .inl (cI, 6, .inl z0)), (q_17, .inl (cI, 81, .inl z0)), (q_18, .inl (cI, 20, .inl z0)), (q_19, .inl (cI, 20, .inl z0)), (q_20, .inl (cI, 9, .inl z0)), (q_21, .inl (cI, 9, .inl z0)), (q_22, .inl (cI, 36, .inl z0)), (q_23, .inl (cI, 36, .inl z0)), (q_25, .inr (9, [.ref q_28, .ref q_29, .int 0])), (q_28, .inl (cI, 96, .inl z0)), (q_29, .inl (cI, 12, .inl z0)), (q_26, .inr (9, [.ref q_30, .ref q_31, .int 0])), (q_30, .inl (cI, 64, .inl z0)), (q_31, .inl (cI, 8, .inl z0)), (q_6, .inr (10, [.ref q_32, .int 0, .int 0])), (q_14, .inl (cI, 256, .inl z0)), (q_33, .inr (6, [.int 0, .int 1, .ref q_36, .ref q_37, .ref q_38, .int 0, .ref q_39, .ref q_40, .ref q_41])), (q_36, .inl (cI, 8, .inl z0)), (q_37, .inr (9, [.ref q_42, .ref q_43, .int 0])), (q_42, .inl (cI, 96, .inl z0)), (q_43, .inl (cI, 12, .inl z0)), (q_38, .inr (9, [.ref q_44, .ref q_45, .int 0])), (q_44, .inl (cI, 96, .inl z0)), (q_45, .inl (cI, 12, .inl z0)), (q_46, .inr (7, [.ref q_49, .int 0, .ref q_50, .ref q_51, .ref q_52, .ref q_53, .int 0, .ref q_54, .ref q_55, .ref q_56, .ref q_57, .ref q_58, .int 0, .ref q_59, .ref q_60, .ref q_61])), (q_49, .inl (cI, 26, .inl z0)), (q_50, .inl (cI, 6, .inl z0)), (q_51, .inl (cI, 81, .inl z0)), (q_52, .inl (cI, 20, .inl z0)), (q_53, .inl (cI, 20, .inl z0)), (q_54, .inl (cI, 9, .inl z0)), (q_55, .inl (cI, 9, .inl z0)), (q_56, .inl (cI, 36, .inl z0)), (q_57, .inl (cI, 36, .inl z0)), (q_59, .inr (9, [.ref q_62, .ref q_63, .int 0])), (q_62, .inl (cI, 96, .inl z0)), (q_63, .inl (cI, 12, .inl z0)), (q_60, .inr (9, [.ref q_64, .ref q_65, .int 0])), (q_64, .inl (cI, 64, .inl z0)), (q_65, .inl (cI, 8, .inl z0))] H := hP
  have hD : va_D A [(a0, .inr (11, [.ref q_1, .int 0, .ref q_2, .ref q_5, .ref q_6, .ref q_33, .null, .null, .int 0, .null, .null, .null, .int 0, .int 0, .null, .int 0, .null, .null, .int 0])), (q_1, .inl (cI, 600, .inl z0)), (q_2, .inr (3, [.ref q_5, .ref q_6, .ref q_7, .ref q_8, .ref q_9, .int 0, .int 0, .int 0, .int 0, .int 0, .int 0, .int (-1), .ref q_10, .ref q_11, .ref q_12, .int 0, .ref q_13, .ref q_14])), (q_5, .inr (7, [.ref q_15, .int 0, .ref q_16, .ref q_17, .ref q_18, .ref q_19, .int 0, .ref q_20, .ref q_21, .ref q_22, .ref q_23, .ref q_24, .int 0, .ref q_25, .ref q_26, .ref q_27])), (q_15, .inl (cI, 26, .inl z0)), (q_16, .inl (cI, 6, .inl z0)), (q_17, .inl (cI, 81, .inl z0)), (q_18, .inl (cI, 20, .inl z0)), (q_19, .inl (cI, 20, .inl z0)), (q_20, .inl (cI, 9, .inl z0)), (q_21, .inl (cI, 9, .inl z0)), (q_22, .inl (cI, 36, .inl z0)), (q_23, .inl (cI, 36, .inl z0)), (q_25, .inr (9, [.ref q_28, .ref q_29, .int 0])), (q_28, .inl (cI, 96, .inl z0)), (q_29, .inl (cI, 12, .inl z0)), (q_26, .inr (9, [.ref q_30, .ref q_31, .int 0])), (q_30, .inl (cI, 64, .inl z0)), (q_31, .inl (cI, 8, .inl z0)), (q_6, .inr (10, [.ref q_32, .int 0, .int 0])), (q_14, .inl (cI, 256, .inl z0)), (q_33, .inr (6, [.int 0, .int 1, .ref q_36, .ref q_37, .ref q_38, .int 0, .ref q_39, .ref q_40, .ref q_41])), (q_36, .inl (cI, 8, .inl z0)), (q_37, .inr (9, [.ref q_42, .ref q_43, .int 0])), (q_42, .inl (cI, 96, .inl z0)), (q_43, .inl (cI, 12, .inl z0)), (q_38, .inr (9, [.ref q_44, .ref q_45, .int 0])), (q_44, .inl (cI, 96, .inl z0)), (q_45, .inl (cI, 12, .inl z0)), (q_46, .inr (7, [.ref q_49, .int 0, .ref q_50, .ref q_51, .ref q_52, .ref q_53, .int 0, .ref q_54, .ref q_55, .ref q_56, .ref q_57, .ref q_58, .int 0, .ref q_59, .ref q_60, .ref q_61])), (q_49, .inl (cI, 26, .inl z0)), (q_50, .inl (cI, 6, .inl z0)), (q_51, .inl (cI, 81, .inl z0)), (q_52, .inl (cI, 20, .inl z0)), (q_53, .inl (cI, 20, .inl z0)), (q_54, .inl (cI, 9, .inl z0)), (q_55, .inl (cI, 9, .inl z0)), (q_56, .inl (cI, 36, .inl z0)), (q_57, .inl (cI, 36, .inl z0)), (q_59, .inr (9, [.ref q_62, .ref q_63, .int 0])), (q_62, .inl (cI, 96, .inl z0)), (q_63, .inl (cI, 12, .inl z0)), (q_60, .inr (9, [.ref q_64, .ref q_65, .int 0])), (q_64, .inl (cI, 64, .inl z0)), (q_65, .inl (cI, 8, .inl z0))] := hD
  refine W.widen (k := 243) (n := 51614) (Nat.le_of_ble_eq_true rfl) (Nat.le_of_ble_eq_true rfl) ?_
  refine va_putF (D := (dC, dI)) (ci := 11) (v := .ref q_46) (ty := .object "SaidShallow$Tongue") (C := RX11) (T := TX11) (N := 19) hx hb hU inlX11 tyX11 tyX11_ok nmX11 hown hK hP hD hS 0 rfl rfl 6 (by decide) (hU _ wd_29) (fun _ h9 => h9) rfl hin rfl (by decide +kernel) rfl rfl (Nat.le_of_ble_eq_true rfl) dX11_init_65 (fun H locs hP hD hS => ?_)
  have hP : va_P (dC, dI) vwCl [(a0, .inr (11, [.ref q_1, .int 0, .ref q_2, .ref q_5, .ref q_6, .ref q_33, .ref q_46, .null, .int 0, .null, .null, .null, .int 0, .int 0, .null, .int 0, .null, .null, .int 0])), (q_1, .inl (cI, 600, .inl z0)), (q_2, .inr (3, [.ref q_5, .ref q_6, .ref q_7, .ref q_8, .ref q_9, .int 0, .int 0, .int 0, .int 0, .int 0, .int 0, .int (-1), .ref q_10, .ref q_11, .ref q_12, .int 0, .ref q_13, .ref q_14])), (q_5, .inr (7, [.ref q_15, .int 0, .ref q_16, .ref q_17, .ref q_18, .ref q_19, .int 0, .ref q_20, .ref q_21, .ref q_22, .ref q_23, .ref q_24, .int 0, .ref q_25, .ref q_26, .ref q_27])), (q_15, .inl (cI, 26, .inl z0)), (q_16, .inl (cI, 6, .inl z0)), (q_17, .inl (cI, 81, .inl z0)), (q_18, .inl (cI, 20, .inl z0)), (q_19, .inl (cI, 20, .inl z0)), (q_20, .inl (cI, 9, .inl z0)), (q_21, .inl (cI, 9, .inl z0)), (q_22, .inl (cI, 36, .inl z0)), (q_23, .inl (cI, 36, .inl z0)), (q_25, .inr (9, [.ref q_28, .ref q_29, .int 0])), (q_28, .inl (cI, 96, .inl z0)), (q_29, .inl (cI, 12, .inl z0)), (q_26, .inr (9, [.ref q_30, .ref q_31, .int 0])), (q_30, .inl (cI, 64, .inl z0)), (q_31, .inl (cI, 8, .inl z0)), (q_6, .inr (10, [.ref q_32, .int 0, .int 0])), (q_14, .inl (cI, 256, .inl z0)), (q_33, .inr (6, [.int 0, .int 1, .ref q_36, .ref q_37, .ref q_38, .int 0, .ref q_39, .ref q_40, .ref q_41])), (q_36, .inl (cI, 8, .inl z0)), (q_37, .inr (9, [.ref q_42, .ref q_43, .int 0])), (q_42, .inl (cI, 96, .inl z0)), (q_43, .inl (cI, 12, .inl z0)), (q_38, .inr (9, [.ref q_44, .ref q_45, .int 0])), (q_44, .inl (cI, 96, .inl z0)), (q_45, .inl (cI, 12, .inl z0)), (q_46, .inr (7, [.ref q_49, .int 0, .ref q_50, .ref q_51, .ref q_52, .ref q_53, .int 0, .ref q_54, .ref q_55, .ref q_56, .ref q_57, .ref q_58, .int 0, .ref q_59, .ref q_60, .ref q_61])), (q_49, .inl (cI, 26, .inl z0)), (q_50, .inl (cI, 6, .inl z0)), (q_51, .inl (cI, 81, .inl z0)), (q_52, .inl (cI, 20, .inl z0)), (q_53, .inl (cI, 20, .inl z0)), (q_54, .inl (cI, 9, .inl z0)), (q_55, .inl (cI, 9, .inl z0)), (q_56, .inl (cI, 36, .inl z0)), (q_57, .inl (cI, 36, .inl z0)), (q_59, .inr (9, [.ref q_62, .ref q_63, .int 0])), (q_62, .inl (cI, 96, .inl z0)), (q_63, .inl (cI, 12, .inl z0)), (q_60, .inr (9, [.ref q_64, .ref q_65, .int 0])), (q_64, .inl (cI, 64, .inl z0)), (q_65, .inl (cI, 8, .inl z0))] H := hP
  have hD : va_D A [(a0, .inr (11, [.ref q_1, .int 0, .ref q_2, .ref q_5, .ref q_6, .ref q_33, .ref q_46, .null, .int 0, .null, .null, .null, .int 0, .int 0, .null, .int 0, .null, .null, .int 0])), (q_1, .inl (cI, 600, .inl z0)), (q_2, .inr (3, [.ref q_5, .ref q_6, .ref q_7, .ref q_8, .ref q_9, .int 0, .int 0, .int 0, .int 0, .int 0, .int 0, .int (-1), .ref q_10, .ref q_11, .ref q_12, .int 0, .ref q_13, .ref q_14])), (q_5, .inr (7, [.ref q_15, .int 0, .ref q_16, .ref q_17, .ref q_18, .ref q_19, .int 0, .ref q_20, .ref q_21, .ref q_22, .ref q_23, .ref q_24, .int 0, .ref q_25, .ref q_26, .ref q_27])), (q_15, .inl (cI, 26, .inl z0)), (q_16, .inl (cI, 6, .inl z0)), (q_17, .inl (cI, 81, .inl z0)), (q_18, .inl (cI, 20, .inl z0)), (q_19, .inl (cI, 20, .inl z0)), (q_20, .inl (cI, 9, .inl z0)), (q_21, .inl (cI, 9, .inl z0)), (q_22, .inl (cI, 36, .inl z0)), (q_23, .inl (cI, 36, .inl z0)), (q_25, .inr (9, [.ref q_28, .ref q_29, .int 0])), (q_28, .inl (cI, 96, .inl z0)), (q_29, .inl (cI, 12, .inl z0)), (q_26, .inr (9, [.ref q_30, .ref q_31, .int 0])), (q_30, .inl (cI, 64, .inl z0)), (q_31, .inl (cI, 8, .inl z0)), (q_6, .inr (10, [.ref q_32, .int 0, .int 0])), (q_14, .inl (cI, 256, .inl z0)), (q_33, .inr (6, [.int 0, .int 1, .ref q_36, .ref q_37, .ref q_38, .int 0, .ref q_39, .ref q_40, .ref q_41])), (q_36, .inl (cI, 8, .inl z0)), (q_37, .inr (9, [.ref q_42, .ref q_43, .int 0])), (q_42, .inl (cI, 96, .inl z0)), (q_43, .inl (cI, 12, .inl z0)), (q_38, .inr (9, [.ref q_44, .ref q_45, .int 0])), (q_44, .inl (cI, 96, .inl z0)), (q_45, .inl (cI, 12, .inl z0)), (q_46, .inr (7, [.ref q_49, .int 0, .ref q_50, .ref q_51, .ref q_52, .ref q_53, .int 0, .ref q_54, .ref q_55, .ref q_56, .ref q_57, .ref q_58, .int 0, .ref q_59, .ref q_60, .ref q_61])), (q_49, .inl (cI, 26, .inl z0)), (q_50, .inl (cI, 6, .inl z0)), (q_51, .inl (cI, 81, .inl z0)), (q_52, .inl (cI, 20, .inl z0)), (q_53, .inl (cI, 20, .inl z0)), (q_54, .inl (cI, 9, .inl z0)), (q_55, .inl (cI, 9, .inl z0)), (q_56, .inl (cI, 36, .inl z0)), (q_57, .inl (cI, 36, .inl z0)), (q_59, .inr (9, [.ref q_62, .ref q_63, .int 0])), (q_62, .inl (cI, 96, .inl z0)), (q_63, .inl (cI, 12, .inl z0)), (q_60, .inr (9, [.ref q_64, .ref q_65, .int 0])), (q_64, .inl (cI, 64, .inl z0)), (q_65, .inl (cI, 8, .inl z0))] := hD
  refine lv_aload_n hx hb dX11_init_68 rfl (lv_at hl 0 rfl) ?_
  refine va_new (ci := 6) (fs := [.int 0, .int 0, .null, .null, .null, .int 0, .null, .null, .null]) (C := RX6) (T := TX6) (N := 9) hx hb hU inlX6 tyX6 tyX6_ok hown (hU _ wd_22) (hU _ wd_23) (hU _ wd_24) hK hP hD hS hA rfl dvX6 (Nat.le_of_ble_eq_true rfl) (Nat.le_of_ble_eq_true rfl) dX11_init_69 (fun q_66 H hP hD hS => ?_)
  have hP : va_P (dC, dI) vwCl [(a0, .inr (11, [.ref q_1, .int 0, .ref q_2, .ref q_5, .ref q_6, .ref q_33, .ref q_46, .null, .int 0, .null, .null, .null, .int 0, .int 0, .null, .int 0, .null, .null, .int 0])), (q_1, .inl (cI, 600, .inl z0)), (q_2, .inr (3, [.ref q_5, .ref q_6, .ref q_7, .ref q_8, .ref q_9, .int 0, .int 0, .int 0, .int 0, .int 0, .int 0, .int (-1), .ref q_10, .ref q_11, .ref q_12, .int 0, .ref q_13, .ref q_14])), (q_5, .inr (7, [.ref q_15, .int 0, .ref q_16, .ref q_17, .ref q_18, .ref q_19, .int 0, .ref q_20, .ref q_21, .ref q_22, .ref q_23, .ref q_24, .int 0, .ref q_25, .ref q_26, .ref q_27])), (q_15, .inl (cI, 26, .inl z0)), (q_16, .inl (cI, 6, .inl z0)), (q_17, .inl (cI, 81, .inl z0)), (q_18, .inl (cI, 20, .inl z0)), (q_19, .inl (cI, 20, .inl z0)), (q_20, .inl (cI, 9, .inl z0)), (q_21, .inl (cI, 9, .inl z0)), (q_22, .inl (cI, 36, .inl z0)), (q_23, .inl (cI, 36, .inl z0)), (q_25, .inr (9, [.ref q_28, .ref q_29, .int 0])), (q_28, .inl (cI, 96, .inl z0)), (q_29, .inl (cI, 12, .inl z0)), (q_26, .inr (9, [.ref q_30, .ref q_31, .int 0])), (q_30, .inl (cI, 64, .inl z0)), (q_31, .inl (cI, 8, .inl z0)), (q_6, .inr (10, [.ref q_32, .int 0, .int 0])), (q_14, .inl (cI, 256, .inl z0)), (q_33, .inr (6, [.int 0, .int 1, .ref q_36, .ref q_37, .ref q_38, .int 0, .ref q_39, .ref q_40, .ref q_41])), (q_36, .inl (cI, 8, .inl z0)), (q_37, .inr (9, [.ref q_42, .ref q_43, .int 0])), (q_42, .inl (cI, 96, .inl z0)), (q_43, .inl (cI, 12, .inl z0)), (q_38, .inr (9, [.ref q_44, .ref q_45, .int 0])), (q_44, .inl (cI, 96, .inl z0)), (q_45, .inl (cI, 12, .inl z0)), (q_46, .inr (7, [.ref q_49, .int 0, .ref q_50, .ref q_51, .ref q_52, .ref q_53, .int 0, .ref q_54, .ref q_55, .ref q_56, .ref q_57, .ref q_58, .int 0, .ref q_59, .ref q_60, .ref q_61])), (q_49, .inl (cI, 26, .inl z0)), (q_50, .inl (cI, 6, .inl z0)), (q_51, .inl (cI, 81, .inl z0)), (q_52, .inl (cI, 20, .inl z0)), (q_53, .inl (cI, 20, .inl z0)), (q_54, .inl (cI, 9, .inl z0)), (q_55, .inl (cI, 9, .inl z0)), (q_56, .inl (cI, 36, .inl z0)), (q_57, .inl (cI, 36, .inl z0)), (q_59, .inr (9, [.ref q_62, .ref q_63, .int 0])), (q_62, .inl (cI, 96, .inl z0)), (q_63, .inl (cI, 12, .inl z0)), (q_60, .inr (9, [.ref q_64, .ref q_65, .int 0])), (q_64, .inl (cI, 64, .inl z0)), (q_65, .inl (cI, 8, .inl z0)), (q_66, .inr (6, [.int 0, .int 0, .null, .null, .null, .int 0, .null, .null, .null]))] H := hP
  have hD : va_D A [(a0, .inr (11, [.ref q_1, .int 0, .ref q_2, .ref q_5, .ref q_6, .ref q_33, .ref q_46, .null, .int 0, .null, .null, .null, .int 0, .int 0, .null, .int 0, .null, .null, .int 0])), (q_1, .inl (cI, 600, .inl z0)), (q_2, .inr (3, [.ref q_5, .ref q_6, .ref q_7, .ref q_8, .ref q_9, .int 0, .int 0, .int 0, .int 0, .int 0, .int 0, .int (-1), .ref q_10, .ref q_11, .ref q_12, .int 0, .ref q_13, .ref q_14])), (q_5, .inr (7, [.ref q_15, .int 0, .ref q_16, .ref q_17, .ref q_18, .ref q_19, .int 0, .ref q_20, .ref q_21, .ref q_22, .ref q_23, .ref q_24, .int 0, .ref q_25, .ref q_26, .ref q_27])), (q_15, .inl (cI, 26, .inl z0)), (q_16, .inl (cI, 6, .inl z0)), (q_17, .inl (cI, 81, .inl z0)), (q_18, .inl (cI, 20, .inl z0)), (q_19, .inl (cI, 20, .inl z0)), (q_20, .inl (cI, 9, .inl z0)), (q_21, .inl (cI, 9, .inl z0)), (q_22, .inl (cI, 36, .inl z0)), (q_23, .inl (cI, 36, .inl z0)), (q_25, .inr (9, [.ref q_28, .ref q_29, .int 0])), (q_28, .inl (cI, 96, .inl z0)), (q_29, .inl (cI, 12, .inl z0)), (q_26, .inr (9, [.ref q_30, .ref q_31, .int 0])), (q_30, .inl (cI, 64, .inl z0)), (q_31, .inl (cI, 8, .inl z0)), (q_6, .inr (10, [.ref q_32, .int 0, .int 0])), (q_14, .inl (cI, 256, .inl z0)), (q_33, .inr (6, [.int 0, .int 1, .ref q_36, .ref q_37, .ref q_38, .int 0, .ref q_39, .ref q_40, .ref q_41])), (q_36, .inl (cI, 8, .inl z0)), (q_37, .inr (9, [.ref q_42, .ref q_43, .int 0])), (q_42, .inl (cI, 96, .inl z0)), (q_43, .inl (cI, 12, .inl z0)), (q_38, .inr (9, [.ref q_44, .ref q_45, .int 0])), (q_44, .inl (cI, 96, .inl z0)), (q_45, .inl (cI, 12, .inl z0)), (q_46, .inr (7, [.ref q_49, .int 0, .ref q_50, .ref q_51, .ref q_52, .ref q_53, .int 0, .ref q_54, .ref q_55, .ref q_56, .ref q_57, .ref q_58, .int 0, .ref q_59, .ref q_60, .ref q_61])), (q_49, .inl (cI, 26, .inl z0)), (q_50, .inl (cI, 6, .inl z0)), (q_51, .inl (cI, 81, .inl z0)), (q_52, .inl (cI, 20, .inl z0)), (q_53, .inl (cI, 20, .inl z0)), (q_54, .inl (cI, 9, .inl z0)), (q_55, .inl (cI, 9, .inl z0)), (q_56, .inl (cI, 36, .inl z0)), (q_57, .inl (cI, 36, .inl z0)), (q_59, .inr (9, [.ref q_62, .ref q_63, .int 0])), (q_62, .inl (cI, 96, .inl z0)), (q_63, .inl (cI, 12, .inl z0)), (q_60, .inr (9, [.ref q_64, .ref q_65, .int 0])), (q_64, .inl (cI, 64, .inl z0)), (q_65, .inl (cI, 8, .inl z0)), (q_66, .inr (6, [.int 0, .int 0, .null, .null, .null, .int 0, .null, .null, .null]))] := hD
  refine W.widen (k := 244) (n := 51623) (Nat.le_of_ble_eq_true rfl) (Nat.le_of_ble_eq_true rfl) ?_
  refine lv_dup hx hb dX11_init_72 rfl ?_
  refine tk_rv (wr := [(a0, .inr (11, [.ref q_1, .int 0, .ref q_2, .ref q_5, .ref q_6, .ref q_33, .ref q_46, .null, .int 0, .null, .null, .null, .int 0, .int 0, .null, .int 0, .null, .null, .int 0])), (q_1, .inl (cI, 600, .inl z0)), (q_2, .inr (3, [.ref q_5, .ref q_6, .ref q_7, .ref q_8, .ref q_9, .int 0, .int 0, .int 0, .int 0, .int 0, .int 0, .int (-1), .ref q_10, .ref q_11, .ref q_12, .int 0, .ref q_13, .ref q_14])), (q_5, .inr (7, [.ref q_15, .int 0, .ref q_16, .ref q_17, .ref q_18, .ref q_19, .int 0, .ref q_20, .ref q_21, .ref q_22, .ref q_23, .ref q_24, .int 0, .ref q_25, .ref q_26, .ref q_27])), (q_15, .inl (cI, 26, .inl z0)), (q_16, .inl (cI, 6, .inl z0)), (q_17, .inl (cI, 81, .inl z0)), (q_18, .inl (cI, 20, .inl z0)), (q_19, .inl (cI, 20, .inl z0)), (q_20, .inl (cI, 9, .inl z0)), (q_21, .inl (cI, 9, .inl z0)), (q_22, .inl (cI, 36, .inl z0)), (q_23, .inl (cI, 36, .inl z0)), (q_25, .inr (9, [.ref q_28, .ref q_29, .int 0])), (q_28, .inl (cI, 96, .inl z0)), (q_29, .inl (cI, 12, .inl z0)), (q_26, .inr (9, [.ref q_30, .ref q_31, .int 0])), (q_30, .inl (cI, 64, .inl z0)), (q_31, .inl (cI, 8, .inl z0)), (q_6, .inr (10, [.ref q_32, .int 0, .int 0])), (q_14, .inl (cI, 256, .inl z0)), (q_33, .inr (6, [.int 0, .int 1, .ref q_36, .ref q_37, .ref q_38, .int 0, .ref q_39, .ref q_40, .ref q_41])), (q_36, .inl (cI, 8, .inl z0)), (q_37, .inr (9, [.ref q_42, .ref q_43, .int 0])), (q_42, .inl (cI, 96, .inl z0)), (q_43, .inl (cI, 12, .inl z0)), (q_38, .inr (9, [.ref q_44, .ref q_45, .int 0])), (q_44, .inl (cI, 96, .inl z0)), (q_45, .inl (cI, 12, .inl z0)), (q_46, .inr (7, [.ref q_49, .int 0, .ref q_50, .ref q_51, .ref q_52, .ref q_53, .int 0, .ref q_54, .ref q_55, .ref q_56, .ref q_57, .ref q_58, .int 0, .ref q_59, .ref q_60, .ref q_61])), (q_49, .inl (cI, 26, .inl z0)), (q_50, .inl (cI, 6, .inl z0)), (q_51, .inl (cI, 81, .inl z0)), (q_52, .inl (cI, 20, .inl z0)), (q_53, .inl (cI, 20, .inl z0)), (q_54, .inl (cI, 9, .inl z0)), (q_55, .inl (cI, 9, .inl z0)), (q_56, .inl (cI, 36, .inl z0)), (q_57, .inl (cI, 36, .inl z0)), (q_59, .inr (9, [.ref q_62, .ref q_63, .int 0])), (q_62, .inl (cI, 96, .inl z0)), (q_63, .inl (cI, 12, .inl z0)), (q_60, .inr (9, [.ref q_64, .ref q_65, .int 0])), (q_64, .inl (cI, 64, .inl z0)), (q_65, .inl (cI, 8, .inl z0))]) (tk_IN (As := []) (rest := [.ref q_66, .ref a0]) (n := 0) hx hb hml hown hU hN (cc_X6_init_0 l (dC, dI) cI cL cZ H.size q_66) hN.2.2.2.2.2.2.1 wd_133 wd_24 wd_134 rfl (by decide +kernel) ⟨Nat.le_of_ble_eq_true rfl, Nat.le_of_ble_eq_true rfl⟩ hK hP hD [45] (by decide) rfl rfl hl.1 rfl (Nat.le_of_ble_eq_true rfl) dX11_init_73 ⟨Nat.le_of_ble_eq_true rfl, Nat.le_of_ble_eq_true rfl⟩) hP hD hS hA [45] [0, 1, 2, 3, 4, 5, 6, 7, 8, 9, 10, 11, 12, 13, 14, 15, 16, 17, 18, 19, 20, 21, 22, 23, 24, 25, 26, 27, 28, 29, 30, 31, 32, 33, 34, 35, 36, 37, 38, 39, 40, 41, 42, 43, 44] rfl rfl (by decide) (by decide) (fun w_68 H locs hw hP hD hS => ?_)
  obtain ⟨q_69, q_70, q_71, q_72, q_73, q_74, q_75, q_76, q_77, q_78, rfl⟩ := hw
  have hP : va_P (dC, dI) vwCl [(a0, .inr (11, [.ref q_1, .int 0, .ref q_2, .ref q_5, .ref q_6, .ref q_33, .ref q_46, .null, .int 0, .null, .null, .null, .int 0, .int 0, .null, .int 0, .null, .null, .int 0])), (q_1, .inl (cI, 600, .inl z0)), (q_2, .inr (3, [.ref q_5, .ref q_6, .ref q_7, .ref q_8, .ref q_9, .int 0, .int 0, .int 0, .int 0, .int 0, .int 0, .int (-1), .ref q_10, .ref q_11, .ref q_12, .int 0, .ref q_13, .ref q_14])), (q_5, .inr (7, [.ref q_15, .int 0, .ref q_16, .ref q_17, .ref q_18, .ref q_19, .int 0, .ref q_20, .ref q_21, .ref q_22, .ref q_23, .ref q_24, .int 0, .ref q_25, .ref q_26, .ref q_27])), (q_15, .inl (cI, 26, .inl z0)), (q_16, .inl (cI, 6, .inl z0)), (q_17, .inl (cI, 81, .inl z0)), (q_18, .inl (cI, 20, .inl z0)), (q_19, .inl (cI, 20, .inl z0)), (q_20, .inl (cI, 9, .inl z0)), (q_21, .inl (cI, 9, .inl z0)), (q_22, .inl (cI, 36, .inl z0)), (q_23, .inl (cI, 36, .inl z0)), (q_25, .inr (9, [.ref q_28, .ref q_29, .int 0])), (q_28, .inl (cI, 96, .inl z0)), (q_29, .inl (cI, 12, .inl z0)), (q_26, .inr (9, [.ref q_30, .ref q_31, .int 0])), (q_30, .inl (cI, 64, .inl z0)), (q_31, .inl (cI, 8, .inl z0)), (q_6, .inr (10, [.ref q_32, .int 0, .int 0])), (q_14, .inl (cI, 256, .inl z0)), (q_33, .inr (6, [.int 0, .int 1, .ref q_36, .ref q_37, .ref q_38, .int 0, .ref q_39, .ref q_40, .ref q_41])), (q_36, .inl (cI, 8, .inl z0)), (q_37, .inr (9, [.ref q_42, .ref q_43, .int 0])), (q_42, .inl (cI, 96, .inl z0)), (q_43, .inl (cI, 12, .inl z0)), (q_38, .inr (9, [.ref q_44, .ref q_45, .int 0])), (q_44, .inl (cI, 96, .inl z0)), (q_45, .inl (cI, 12, .inl z0)), (q_46, .inr (7, [.ref q_49, .int 0, .ref q_50, .ref q_51, .ref q_52, .ref q_53, .int 0, .ref q_54, .ref q_55, .ref q_56, .ref q_57, .ref q_58, .int 0, .ref q_59, .ref q_60, .ref q_61])), (q_49, .inl (cI, 26, .inl z0)), (q_50, .inl (cI, 6, .inl z0)), (q_51, .inl (cI, 81, .inl z0)), (q_52, .inl (cI, 20, .inl z0)), (q_53, .inl (cI, 20, .inl z0)), (q_54, .inl (cI, 9, .inl z0)), (q_55, .inl (cI, 9, .inl z0)), (q_56, .inl (cI, 36, .inl z0)), (q_57, .inl (cI, 36, .inl z0)), (q_59, .inr (9, [.ref q_62, .ref q_63, .int 0])), (q_62, .inl (cI, 96, .inl z0)), (q_63, .inl (cI, 12, .inl z0)), (q_60, .inr (9, [.ref q_64, .ref q_65, .int 0])), (q_64, .inl (cI, 64, .inl z0)), (q_65, .inl (cI, 8, .inl z0)), (q_66, .inr (6, [.int 0, .int 1, .ref q_69, .ref q_70, .ref q_71, .int 0, .ref q_72, .ref q_73, .ref q_74])), (q_69, .inl (cI, 8, .inl z0)), (q_70, .inr (9, [.ref q_75, .ref q_76, .int 0])), (q_75, .inl (cI, 96, .inl z0)), (q_76, .inl (cI, 12, .inl z0)), (q_71, .inr (9, [.ref q_77, .ref q_78, .int 0])), (q_77, .inl (cI, 96, .inl z0)), (q_78, .inl (cI, 12, .inl z0))] H := hP
  have hD : va_D A [(a0, .inr (11, [.ref q_1, .int 0, .ref q_2, .ref q_5, .ref q_6, .ref q_33, .ref q_46, .null, .int 0, .null, .null, .null, .int 0, .int 0, .null, .int 0, .null, .null, .int 0])), (q_1, .inl (cI, 600, .inl z0)), (q_2, .inr (3, [.ref q_5, .ref q_6, .ref q_7, .ref q_8, .ref q_9, .int 0, .int 0, .int 0, .int 0, .int 0, .int 0, .int (-1), .ref q_10, .ref q_11, .ref q_12, .int 0, .ref q_13, .ref q_14])), (q_5, .inr (7, [.ref q_15, .int 0, .ref q_16, .ref q_17, .ref q_18, .ref q_19, .int 0, .ref q_20, .ref q_21, .ref q_22, .ref q_23, .ref q_24, .int 0, .ref q_25, .ref q_26, .ref q_27])), (q_15, .inl (cI, 26, .inl z0)), (q_16, .inl (cI, 6, .inl z0)), (q_17, .inl (cI, 81, .inl z0)), (q_18, .inl (cI, 20, .inl z0)), (q_19, .inl (cI, 20, .inl z0)), (q_20, .inl (cI, 9, .inl z0)), (q_21, .inl (cI, 9, .inl z0)), (q_22, .inl (cI, 36, .inl z0)), (q_23, .inl (cI, 36, .inl z0)), (q_25, .inr (9, [.ref q_28, .ref q_29, .int 0])), (q_28, .inl (cI, 96, .inl z0)), (q_29, .inl (cI, 12, .inl z0)), (q_26, .inr (9, [.ref q_30, .ref q_31, .int 0])), (q_30, .inl (cI, 64, .inl z0)), (q_31, .inl (cI, 8, .inl z0)), (q_6, .inr (10, [.ref q_32, .int 0, .int 0])), (q_14, .inl (cI, 256, .inl z0)), (q_33, .inr (6, [.int 0, .int 1, .ref q_36, .ref q_37, .ref q_38, .int 0, .ref q_39, .ref q_40, .ref q_41])), (q_36, .inl (cI, 8, .inl z0)), (q_37, .inr (9, [.ref q_42, .ref q_43, .int 0])), (q_42, .inl (cI, 96, .inl z0)), (q_43, .inl (cI, 12, .inl z0)), (q_38, .inr (9, [.ref q_44, .ref q_45, .int 0])), (q_44, .inl (cI, 96, .inl z0)), (q_45, .inl (cI, 12, .inl z0)), (q_46, .inr (7, [.ref q_49, .int 0, .ref q_50, .ref q_51, .ref q_52, .ref q_53, .int 0, .ref q_54, .ref q_55, .ref q_56, .ref q_57, .ref q_58, .int 0, .ref q_59, .ref q_60, .ref q_61])), (q_49, .inl (cI, 26, .inl z0)), (q_50, .inl (cI, 6, .inl z0)), (q_51, .inl (cI, 81, .inl z0)), (q_52, .inl (cI, 20, .inl z0)), (q_53, .inl (cI, 20, .inl z0)), (q_54, .inl (cI, 9, .inl z0)), (q_55, .inl (cI, 9, .inl z0)), (q_56, .inl (cI, 36, .inl z0)), (q_57, .inl (cI, 36, .inl z0)), (q_59, .inr (9, [.ref q_62, .ref q_63, .int 0])), (q_62, .inl (cI, 96, .inl z0)), (q_63, .inl (cI, 12, .inl z0)), (q_60, .inr (9, [.ref q_64, .ref q_65, .int 0])), (q_64, .inl (cI, 64, .inl z0)), (q_65, .inl (cI, 8, .inl z0)), (q_66, .inr (6, [.int 0, .int 1, .ref q_69, .ref q_70, .ref q_71, .int 0, .ref q_72, .ref q_73, .ref q_74])), (q_69, .inl (cI, 8, .inl z0)), (q_70, .inr (9, [.ref q_75, .ref q_76, .int 0])), (q_75, .inl (cI, 96, .inl z0)), (q_76, .inl (cI, 12, .inl z0)), (q_71, .inr (9, [.ref q_77, .ref q_78, .int 0])), (q_77, .inl (cI, 96, .inl z0)), (q_78, .inl (cI, 12, .inl z0))] := hD
  refine W.widen (k := 254) (n := 51981) (Nat.le_of_ble_eq_true rfl) (Nat.le_of_ble_eq_true rfl) ?_
  refine va_putF (D := (dC, dI)) (ci := 11) (v := .ref q_66) (ty := .object "SaidShallow$Standing") (C := RX11) (T := TX11) (N := 19) hx hb hU inlX11 tyX11 tyX11_ok nmX11 hown hK hP hD hS 0 rfl rfl 7 (by decide) (hU _ wd_30) (fun _ h9 => h9) rfl hin rfl (by decide +kernel) rfl rfl (Nat.le_of_ble_eq_true rfl) dX11_init_76 (fun H locs hP hD hS => ?_)
  have hP : va_P (dC, dI) vwCl [(a0, .inr (11, [.ref q_1, .int 0, .ref q_2, .ref q_5, .ref q_6, .ref q_33, .ref q_46, .ref q_66, .int 0, .null, .null, .null, .int 0, .int 0, .null, .int 0, .null, .null, .int 0])), (q_1, .inl (cI, 600, .inl z0)), (q_2, .inr (3, [.ref q_5, .ref q_6, .ref q_7, .ref q_8, .ref q_9, .int 0, .int 0, .int 0, .int 0, .int 0, .int 0, .int (-1), .ref q_10, .ref q_11, .ref q_12, .int 0, .ref q_13, .ref q_14])), (q_5, .inr (7, [.ref q_15, .int 0, .ref q_16, .ref q_17, .ref q_18, .ref q_19, .int 0, .ref q_20, .ref q_21, .ref q_22, .ref q_23, .ref q_24, .int 0, .ref q_25, .ref q_26, .ref q_27])), (q_15, .inl (cI, 26, .inl z0)), (q_16, .inl (cI, 6, .inl z0)), (q_17, .inl (cI, 81, .inl z0)), (q_18, .inl (cI, 20, .inl z0)), (q_19, .inl (cI, 20, .inl z0)), (q_20, .inl (cI, 9, .inl z0)), (q_21, .inl (cI, 9, .inl z0)), (q_22, .inl (cI, 36, .inl z0)), (q_23, .inl (cI, 36, .inl z0)), (q_25, .inr (9, [.ref q_28, .ref q_29, .int 0])), (q_28, .inl (cI, 96, .inl z0)), (q_29, .inl (cI, 12, .inl z0)), (q_26, .inr (9, [.ref q_30, .ref q_31, .int 0])), (q_30, .inl (cI, 64, .inl z0)), (q_31, .inl (cI, 8, .inl z0)), (q_6, .inr (10, [.ref q_32, .int 0, .int 0])), (q_14, .inl (cI, 256, .inl z0)), (q_33, .inr (6, [.int 0, .int 1, .ref q_36, .ref q_37, .ref q_38, .int 0, .ref q_39, .ref q_40, .ref q_41])), (q_36, .inl (cI, 8, .inl z0)), (q_37, .inr (9, [.ref q_42, .ref q_43, .int 0])), (q_42, .inl (cI, 96, .inl z0)), (q_43, .inl (cI, 12, .inl z0)), (q_38, .inr (9, [.ref q_44, .ref q_45, .int 0])), (q_44, .inl (cI, 96, .inl z0)), (q_45, .inl (cI, 12, .inl z0)), (q_46, .inr (7, [.ref q_49, .int 0, .ref q_50, .ref q_51, .ref q_52, .ref q_53, .int 0, .ref q_54, .ref q_55, .ref q_56, .ref q_57, .ref q_58, .int 0, .ref q_59, .ref q_60, .ref q_61])), (q_49, .inl (cI, 26, .inl z0)), (q_50, .inl (cI, 6, .inl z0)), (q_51, .inl (cI, 81, .inl z0)), (q_52, .inl (cI, 20, .inl z0)), (q_53, .inl (cI, 20, .inl z0)), (q_54, .inl (cI, 9, .inl z0)), (q_55, .inl (cI, 9, .inl z0)), (q_56, .inl (cI, 36, .inl z0)), (q_57, .inl (cI, 36, .inl z0)), (q_59, .inr (9, [.ref q_62, .ref q_63, .int 0])), (q_62, .inl (cI, 96, .inl z0)), (q_63, .inl (cI, 12, .inl z0)), (q_60, .inr (9, [.ref q_64, .ref q_65, .int 0])), (q_64, .inl (cI, 64, .inl z0)), (q_65, .inl (cI, 8, .inl z0)), (q_66, .inr (6, [.int 0, .int 1, .ref q_69, .ref q_70, .ref q_71, .int 0, .ref q_72, .ref q_73, .ref q_74])), (q_69, .inl (cI, 8, .inl z0)), (q_70, .inr (9, [.ref q_75, .ref q_76, .int 0])), (q_75, .inl (cI, 96, .inl z0)), (q_76, .inl (cI, 12, .inl z0)), (q_71, .inr (9, [.ref q_77, .ref q_78, .int 0])), (q_77, .inl (cI, 96, .inl z0)), (q_78, .inl (cI, 12, .inl z0))] H := hP
  have hD : va_D A [(a0, .inr (11, [.ref q_1, .int 0, .ref q_2, .ref q_5, .ref q_6, .ref q_33, .ref q_46, .ref q_66, .int 0, .null, .null, .null, .int 0, .int 0, .null, .int 0, .null, .null, .int 0])), (q_1, .inl (cI, 600, .inl z0)), (q_2, .inr (3, [.ref q_5, .ref q_6, .ref q_7, .ref q_8, .ref q_9, .int 0, .int 0, .int 0, .int 0, .int 0, .int 0, .int (-1), .ref q_10, .ref q_11, .ref q_12, .int 0, .ref q_13, .ref q_14])), (q_5, .inr (7, [.ref q_15, .int 0, .ref q_16, .ref q_17, .ref q_18, .ref q_19, .int 0, .ref q_20, .ref q_21, .ref q_22, .ref q_23, .ref q_24, .int 0, .ref q_25, .ref q_26, .ref q_27])), (q_15, .inl (cI, 26, .inl z0)), (q_16, .inl (cI, 6, .inl z0)), (q_17, .inl (cI, 81, .inl z0)), (q_18, .inl (cI, 20, .inl z0)), (q_19, .inl (cI, 20, .inl z0)), (q_20, .inl (cI, 9, .inl z0)), (q_21, .inl (cI, 9, .inl z0)), (q_22, .inl (cI, 36, .inl z0)), (q_23, .inl (cI, 36, .inl z0)), (q_25, .inr (9, [.ref q_28, .ref q_29, .int 0])), (q_28, .inl (cI, 96, .inl z0)), (q_29, .inl (cI, 12, .inl z0)), (q_26, .inr (9, [.ref q_30, .ref q_31, .int 0])), (q_30, .inl (cI, 64, .inl z0)), (q_31, .inl (cI, 8, .inl z0)), (q_6, .inr (10, [.ref q_32, .int 0, .int 0])), (q_14, .inl (cI, 256, .inl z0)), (q_33, .inr (6, [.int 0, .int 1, .ref q_36, .ref q_37, .ref q_38, .int 0, .ref q_39, .ref q_40, .ref q_41])), (q_36, .inl (cI, 8, .inl z0)), (q_37, .inr (9, [.ref q_42, .ref q_43, .int 0])), (q_42, .inl (cI, 96, .inl z0)), (q_43, .inl (cI, 12, .inl z0)), (q_38, .inr (9, [.ref q_44, .ref q_45, .int 0])), (q_44, .inl (cI, 96, .inl z0)), (q_45, .inl (cI, 12, .inl z0)), (q_46, .inr (7, [.ref q_49, .int 0, .ref q_50, .ref q_51, .ref q_52, .ref q_53, .int 0, .ref q_54, .ref q_55, .ref q_56, .ref q_57, .ref q_58, .int 0, .ref q_59, .ref q_60, .ref q_61])), (q_49, .inl (cI, 26, .inl z0)), (q_50, .inl (cI, 6, .inl z0)), (q_51, .inl (cI, 81, .inl z0)), (q_52, .inl (cI, 20, .inl z0)), (q_53, .inl (cI, 20, .inl z0)), (q_54, .inl (cI, 9, .inl z0)), (q_55, .inl (cI, 9, .inl z0)), (q_56, .inl (cI, 36, .inl z0)), (q_57, .inl (cI, 36, .inl z0)), (q_59, .inr (9, [.ref q_62, .ref q_63, .int 0])), (q_62, .inl (cI, 96, .inl z0)), (q_63, .inl (cI, 12, .inl z0)), (q_60, .inr (9, [.ref q_64, .ref q_65, .int 0])), (q_64, .inl (cI, 64, .inl z0)), (q_65, .inl (cI, 8, .inl z0)), (q_66, .inr (6, [.int 0, .int 1, .ref q_69, .ref q_70, .ref q_71, .int 0, .ref q_72, .ref q_73, .ref q_74])), (q_69, .inl (cI, 8, .inl z0)), (q_70, .inr (9, [.ref q_75, .ref q_76, .int 0])), (q_75, .inl (cI, 96, .inl z0)), (q_76, .inl (cI, 12, .inl z0)), (q_71, .inr (9, [.ref q_77, .ref q_78, .int 0])), (q_77, .inl (cI, 96, .inl z0)), (q_78, .inl (cI, 12, .inl z0))] := hD
  refine lv_aload_n hx hb dX11_init_79 rfl (lv_at hl 0 rfl) ?_
  refine va_new (ci := 2) (fs := [.null, .int 0, .int 0, .null, .int 0, .int 0, .int 0, .int 0, .int 0, .int 0]) (C := RX2) (T := TX2) (N := 10) hx hb hU inlX2 tyX2 tyX2_ok hown (hU _ wd_31) (hU _ wd_32) (hU _ wd_33) hK hP hD hS hA rfl dvX2 (Nat.le_of_ble_eq_true rfl) (Nat.le_of_ble_eq_true rfl) dX11_init_80 (fun q_79 H hP hD hS => ?_)
  have hP : va_P (dC, dI) vwCl [(a0, .inr (11, [.ref q_1, .int 0, .ref q_2, .ref q_5, .ref q_6, .ref q_33, .ref q_46, .ref q_66, .int 0, .null, .null, .null, .int 0, .int 0, .null, .int 0, .null, .null, .int 0])), (q_1, .inl (cI, 600, .inl z0)), (q_2, .inr (3, [.ref q_5, .ref q_6, .ref q_7, .ref q_8, .ref q_9, .int 0, .int 0, .int 0, .int 0, .int 0, .int 0, .int (-1), .ref q_10, .ref q_11, .ref q_12, .int 0, .ref q_13, .ref q_14])), (q_5, .inr (7, [.ref q_15, .int 0, .ref q_16, .ref q_17, .ref q_18, .ref q_19, .int 0, .ref q_20, .ref q_21, .ref q_22, .ref q_23, .ref q_24, .int 0, .ref q_25, .ref q_26, .ref q_27])), (q_15, .inl (cI, 26, .inl z0)), (q_16, .inl (cI, 6, .inl z0)), (q_17, .inl (cI, 81, .inl z0)), (q_18, .inl (cI, 20, .inl z0)), (q_19, .inl (cI, 20, .inl z0)), (q_20, .inl (cI, 9, .inl z0)), (q_21, .inl (cI, 9, .inl z0)), (q_22, .inl (cI, 36, .inl z0)), (q_23, .inl (cI, 36, .inl z0)), (q_25, .inr (9, [.ref q_28, .ref q_29, .int 0])), (q_28, .inl (cI, 96, .inl z0)), (q_29, .inl (cI, 12, .inl z0)), (q_26, .inr (9, [.ref q_30, .ref q_31, .int 0])), (q_30, .inl (cI, 64, .inl z0)), (q_31, .inl (cI, 8, .inl z0)), (q_6, .inr (10, [.ref q_32, .int 0, .int 0])), (q_14, .inl (cI, 256, .inl z0)), (q_33, .inr (6, [.int 0, .int 1, .ref q_36, .ref q_37, .ref q_38, .int 0, .ref q_39, .ref q_40, .ref q_41])), (q_36, .inl (cI, 8, .inl z0)), (q_37, .inr (9, [.ref q_42, .ref q_43, .int 0])), (q_42, .inl (cI, 96, .inl z0)), (q_43, .inl (cI, 12, .inl z0)), (q_38, .inr (9, [.ref q_44, .ref q_45, .int 0])), (q_44, .inl (cI, 96, .inl z0)), (q_45, .inl (cI, 12, .inl z0)), (q_46, .inr (7, [.ref q_49, .int 0, .ref q_50, .ref q_51, .ref q_52, .ref q_53, .int 0, .ref q_54, .ref q_55, .ref q_56, .ref q_57, .ref q_58, .int 0, .ref q_59, .ref q_60, .ref q_61])), (q_49, .inl (cI, 26, .inl z0)), (q_50, .inl (cI, 6, .inl z0)), (q_51, .inl (cI, 81, .inl z0)), (q_52, .inl (cI, 20, .inl z0)), (q_53, .inl (cI, 20, .inl z0)), (q_54, .inl (cI, 9, .inl z0)), (q_55, .inl (cI, 9, .inl z0)), (q_56, .inl (cI, 36, .inl z0)), (q_57, .inl (cI, 36, .inl z0)), (q_59, .inr (9, [.ref q_62, .ref q_63, .int 0])), (q_62, .inl (cI, 96, .inl z0)), (q_63, .inl (cI, 12, .inl z0)), (q_60, .inr (9, [.ref q_64, .ref q_65, .int 0])), (q_64, .inl (cI, 64, .inl z0)), (q_65, .inl (cI, 8, .inl z0)), (q_66, .inr (6, [.int 0, .int 1, .ref q_69, .ref q_70, .ref q_71, .int 0, .ref q_72, .ref q_73, .ref q_74])), (q_69, .inl (cI, 8, .inl z0)), (q_70, .inr (9, [.ref q_75, .ref q_76, .int 0])), (q_75, .inl (cI, 96, .inl z0)), (q_76, .inl (cI, 12, .inl z0)), (q_71, .inr (9, [.ref q_77, .ref q_78, .int 0])), (q_77, .inl (cI, 96, .inl z0)), (q_78, .inl (cI, 12, .inl z0)), (q_79, .inr (2, [.null, .int 0, .int 0, .null, .int 0, .int 0, .int 0, .int 0, .int 0, .int 0]))] H := hP
  have hD : va_D A [(a0, .inr (11, [.ref q_1, .int 0, .ref q_2, .ref q_5, .ref q_6, .ref q_33, .ref q_46, .ref q_66, .int 0, .null, .null, .null, .int 0, .int 0, .null, .int 0, .null, .null, .int 0])), (q_1, .inl (cI, 600, .inl z0)), (q_2, .inr (3, [.ref q_5, .ref q_6, .ref q_7, .ref q_8, .ref q_9, .int 0, .int 0, .int 0, .int 0, .int 0, .int 0, .int (-1), .ref q_10, .ref q_11, .ref q_12, .int 0, .ref q_13, .ref q_14])), (q_5, .inr (7, [.ref q_15, .int 0, .ref q_16, .ref q_17, .ref q_18, .ref q_19, .int 0, .ref q_20, .ref q_21, .ref q_22, .ref q_23, .ref q_24, .int 0, .ref q_25, .ref q_26, .ref q_27])), (q_15, .inl (cI, 26, .inl z0)), (q_16, .inl (cI, 6, .inl z0)), (q_17, .inl (cI, 81, .inl z0)), (q_18, .inl (cI, 20, .inl z0)), (q_19, .inl (cI, 20, .inl z0)), (q_20, .inl (cI, 9, .inl z0)), (q_21, .inl (cI, 9, .inl z0)), (q_22, .inl (cI, 36, .inl z0)), (q_23, .inl (cI, 36, .inl z0)), (q_25, .inr (9, [.ref q_28, .ref q_29, .int 0])), (q_28, .inl (cI, 96, .inl z0)), (q_29, .inl (cI, 12, .inl z0)), (q_26, .inr (9, [.ref q_30, .ref q_31, .int 0])), (q_30, .inl (cI, 64, .inl z0)), (q_31, .inl (cI, 8, .inl z0)), (q_6, .inr (10, [.ref q_32, .int 0, .int 0])), (q_14, .inl (cI, 256, .inl z0)), (q_33, .inr (6, [.int 0, .int 1, .ref q_36, .ref q_37, .ref q_38, .int 0, .ref q_39, .ref q_40, .ref q_41])), (q_36, .inl (cI, 8, .inl z0)), (q_37, .inr (9, [.ref q_42, .ref q_43, .int 0])), (q_42, .inl (cI, 96, .inl z0)), (q_43, .inl (cI, 12, .inl z0)), (q_38, .inr (9, [.ref q_44, .ref q_45, .int 0])), (q_44, .inl (cI, 96, .inl z0)), (q_45, .inl (cI, 12, .inl z0)), (q_46, .inr (7, [.ref q_49, .int 0, .ref q_50, .ref q_51, .ref q_52, .ref q_53, .int 0, .ref q_54, .ref q_55, .ref q_56, .ref q_57, .ref q_58, .int 0, .ref q_59, .ref q_60, .ref q_61])), (q_49, .inl (cI, 26, .inl z0)), (q_50, .inl (cI, 6, .inl z0)), (q_51, .inl (cI, 81, .inl z0)), (q_52, .inl (cI, 20, .inl z0)), (q_53, .inl (cI, 20, .inl z0)), (q_54, .inl (cI, 9, .inl z0)), (q_55, .inl (cI, 9, .inl z0)), (q_56, .inl (cI, 36, .inl z0)), (q_57, .inl (cI, 36, .inl z0)), (q_59, .inr (9, [.ref q_62, .ref q_63, .int 0])), (q_62, .inl (cI, 96, .inl z0)), (q_63, .inl (cI, 12, .inl z0)), (q_60, .inr (9, [.ref q_64, .ref q_65, .int 0])), (q_64, .inl (cI, 64, .inl z0)), (q_65, .inl (cI, 8, .inl z0)), (q_66, .inr (6, [.int 0, .int 1, .ref q_69, .ref q_70, .ref q_71, .int 0, .ref q_72, .ref q_73, .ref q_74])), (q_69, .inl (cI, 8, .inl z0)), (q_70, .inr (9, [.ref q_75, .ref q_76, .int 0])), (q_75, .inl (cI, 96, .inl z0)), (q_76, .inl (cI, 12, .inl z0)), (q_71, .inr (9, [.ref q_77, .ref q_78, .int 0])), (q_77, .inl (cI, 96, .inl z0)), (q_78, .inl (cI, 12, .inl z0)), (q_79, .inr (2, [.null, .int 0, .int 0, .null, .int 0, .int 0, .int 0, .int 0, .int 0, .int 0]))] := hD
  refine W.widen (k := 255) (n := 51991) (Nat.le_of_ble_eq_true rfl) (Nat.le_of_ble_eq_true rfl) ?_
  refine lv_dup hx hb dX11_init_83 rfl ?_
  refine tk_rv (wr := [(a0, .inr (11, [.ref q_1, .int 0, .ref q_2, .ref q_5, .ref q_6, .ref q_33, .ref q_46, .ref q_66, .int 0, .null, .null, .null, .int 0, .int 0, .null, .int 0, .null, .null, .int 0])), (q_1, .inl (cI, 600, .inl z0)), (q_2, .inr (3, [.ref q_5, .ref q_6, .ref q_7, .ref q_8, .ref q_9, .int 0, .int 0, .int 0, .int 0, .int 0, .int 0, .int (-1), .ref q_10, .ref q_11, .ref q_12, .int 0, .ref q_13, .ref q_14])), (q_5, .inr (7, [.ref q_15, .int 0, .ref q_16, .ref q_17, .ref q_18, .ref q_19, .int 0, .ref q_20, .ref q_21, .ref q_22, .ref q_23, .ref q_24, .int 0, .ref q_25, .ref q_26, .ref q_27])), (q_15, .inl (cI, 26, .inl z0)), (q_16, .inl (cI, 6, .inl z0)), (q_17, .inl (cI, 81, .inl z0)), (q_18, .inl (cI, 20, .inl z0)), (q_19, .inl (cI, 20, .inl z0)), (q_20, .inl (cI, 9, .inl z0)), (q_21, .inl (cI, 9, .inl z0)), (q_22, .inl (cI, 36, .inl z0)), (q_23, .inl (cI, 36, .inl z0)), (q_25, .inr (9, [.ref q_28, .ref q_29, .int 0])), (q_28, .inl (cI, 96, .inl z0)), (q_29, .inl (cI, 12, .inl z0)), (q_26, .inr (9, [.ref q_30, .ref q_31, .int 0])), (q_30, .inl (cI, 64, .inl z0)), (q_31, .inl (cI, 8, .inl z0)), (q_6, .inr (10, [.ref q_32, .int 0, .int 0])), (q_14, .inl (cI, 256, .inl z0)), (q_33, .inr (6, [.int 0, .int 1, .ref q_36, .ref q_37, .ref q_38, .int 0, .ref q_39, .ref q_40, .ref q_41])), (q_36, .inl (cI, 8, .inl z0)), (q_37, .inr (9, [.ref q_42, .ref q_43, .int 0])), (q_42, .inl (cI, 96, .inl z0)), (q_43, .inl (cI, 12, .inl z0)), (q_38, .inr (9, [.ref q_44, .ref q_45, .int 0])), (q_44, .inl (cI, 96, .inl z0)), (q_45, .inl (cI, 12, .inl z0)), (q_46, .inr (7, [.ref q_49, .int 0, .ref q_50, .ref q_51, .ref q_52, .ref q_53, .int 0, .ref q_54, .ref q_55, .ref q_56, .ref q_57, .ref q_58, .int 0, .ref q_59, .ref q_60, .ref q_61])), (q_49, .inl (cI, 26, .inl z0)), (q_50, .inl (cI, 6, .inl z0)), (q_51, .inl (cI, 81, .inl z0)), (q_52, .inl (cI, 20, .inl z0)), (q_53, .inl (cI, 20, .inl z0)), (q_54, .inl (cI, 9, .inl z0)), (q_55, .inl (cI, 9, .inl z0)), (q_56, .inl (cI, 36, .inl z0)), (q_57, .inl (cI, 36, .inl z0)), (q_59, .inr (9, [.ref q_62, .ref q_63, .int 0])), (q_62, .inl (cI, 96, .inl z0)), (q_63, .inl (cI, 12, .inl z0)), (q_60, .inr (9, [.ref q_64, .ref q_65, .int 0])), (q_64, .inl (cI, 64, .inl z0)), (q_65, .inl (cI, 8, .inl z0)), (q_66, .inr (6, [.int 0, .int 1, .ref q_69, .ref q_70, .ref q_71, .int 0, .ref q_72, .ref q_73, .ref q_74])), (q_69, .inl (cI, 8, .inl z0)), (q_70, .inr (9, [.ref q_75, .ref q_76, .int 0])), (q_75, .inl (cI, 96, .inl z0)), (q_76, .inl (cI, 12, .inl z0)), (q_71, .inr (9, [.ref q_77, .ref q_78, .int 0])), (q_77, .inl (cI, 96, .inl z0)), (q_78, .inl (cI, 12, .inl z0))]) (tk_IN (As := []) (rest := [.ref q_79, .ref a0]) (n := 0) hx hb hml hown hU hN (cc_X2_init_0 l (dC, dI) cI cL cZ H.size q_79) hN.2.2.2.2.2.2.2.1 wd_146 wd_33 wd_147 rfl (by decide +kernel) ⟨Nat.le_of_ble_eq_true rfl, Nat.le_of_ble_eq_true rfl⟩ hK hP hD [53] (by decide) rfl rfl hl.1 rfl (Nat.le_of_ble_eq_true rfl) dX11_init_84 ⟨Nat.le_of_ble_eq_true rfl, Nat.le_of_ble_eq_true rfl⟩) hP hD hS hA [53] [0, 1, 2, 3, 4, 5, 6, 7, 8, 9, 10, 11, 12, 13, 14, 15, 16, 17, 18, 19, 20, 21, 22, 23, 24, 25, 26, 27, 28, 29, 30, 31, 32, 33, 34, 35, 36, 37, 38, 39, 40, 41, 42, 43, 44, 45, 46, 47, 48, 49, 50, 51, 52] rfl rfl (by decide) (by decide) (fun w_81 H locs hw hP hD hS => ?_)
  obtain ⟨q_82, q_83, q_84, q_85, q_86, q_87, q_88, q_89, q_90, q_91, q_92, q_93, q_94, q_95, q_96, q_97, q_98, q_99, q_100, rfl⟩ := hw
  have hP : va_P (dC, dI) vwCl [(a0, .inr (11, [.ref q_1, .int 0, .ref q_2, .ref q_5, .ref q_6, .ref q_33, .ref q_46, .ref q_66, .int 0, .null, .null, .null, .int 0, .int 0, .null, .int 0, .null, .null, .int 0])), (q_1, .inl (cI, 600, .inl z0)), (q_2, .inr (3, [.ref q_5, .ref q_6, .ref q_7, .ref q_8, .ref q_9, .int 0, .int 0, .int 0, .int 0, .int 0, .int 0, .int (-1), .ref q_10, .ref q_11, .ref q_12, .int 0, .ref q_13, .ref q_14])), (q_5, .inr (7, [.ref q_15, .int 0, .ref q_16, .ref q_17, .ref q_18, .ref q_19, .int 0, .ref q_20, .ref q_21, .ref q_22, .ref q_23, .ref q_24, .int 0, .ref q_25, .ref q_26, .ref q_27])), (q_15, .inl (cI, 26, .inl z0)), (q_16, .inl (cI, 6, .inl z0)), (q_17, .inl (cI, 81, .inl z0)), (q_18, .inl (cI, 20, .inl z0)), (q_19, .inl (cI, 20, .inl z0)), (q_20, .inl (cI, 9, .inl z0)), (q_21, .inl (cI, 9, .inl z0)), (q_22, .inl (cI, 36, .inl z0)), (q_23, .inl (cI, 36, .inl z0)), (q_25, .inr (9, [.ref q_28, .ref q_29, .int 0])), (q_28, .inl (cI, 96, .inl z0)), (q_29, .inl (cI, 12, .inl z0)), (q_26, .inr (9, [.ref q_30, .ref q_31, .int 0])), (q_30, .inl (cI, 64, .inl z0)), (q_31, .inl (cI, 8, .inl z0)), (q_6, .inr (10, [.ref q_32, .int 0, .int 0])), (q_14, .inl (cI, 256, .inl z0)), (q_33, .inr (6, [.int 0, .int 1, .ref q_36, .ref q_37, .ref q_38, .int 0, .ref q_39, .ref q_40, .ref q_41])), (q_36, .inl (cI, 8, .inl z0)), (q_37, .inr (9, [.ref q_42, .ref q_43, .int 0])), (q_42, .inl (cI, 96, .inl z0)), (q_43, .inl (cI, 12, .inl z0)), (q_38, .inr (9, [.ref q_44, .ref q_45, .int 0])), (q_44, .inl (cI, 96, .inl z0)), (q_45, .inl (cI, 12, .inl z0)), (q_46, .inr (7, [.ref q_49, .int 0, .ref q_50, .ref q_51, .ref q_52, .ref q_53, .int 0, .ref q_54, .ref q_55, .ref q_56, .ref q_57, .ref q_58, .int 0, .ref q_59, .ref q_60, .ref q_61])), (q_49, .inl (cI, 26, .inl z0)), (q_50, .inl (cI, 6, .inl z0)), (q_51, .inl (cI, 81, .inl z0)), (q_52, .inl (cI, 20, .inl z0)), (q_53, .inl (cI, 20, .inl z0)), (q_54, .inl (cI, 9, .inl z0)), (q_55, .inl (cI, 9, .inl z0)), (q_56, .inl (cI, 36, .inl z0)), (q_57, .inl (cI, 36, .inl z0)), (q_59, .inr (9, [.ref q_62, .ref q_63, .int 0])), (q_62, .inl (cI, 96, .inl z0)), (q_63, .inl (cI, 12, .inl z0)), (q_60, .inr (9, [.ref q_64, .ref q_65, .int 0])), (q_64, .inl (cI, 64, .inl z0)), (q_65, .inl (cI, 8, .inl z0)), (q_66, .inr (6, [.int 0, .int 1, .ref q_69, .ref q_70, .ref q_71, .int 0, .ref q_72, .ref q_73, .ref q_74])), (q_69, .inl (cI, 8, .inl z0)), (q_70, .inr (9, [.ref q_75, .ref q_76, .int 0])), (q_75, .inl (cI, 96, .inl z0)), (q_76, .inl (cI, 12, .inl z0)), (q_71, .inr (9, [.ref q_77, .ref q_78, .int 0])), (q_77, .inl (cI, 96, .inl z0)), (q_78, .inl (cI, 12, .inl z0)), (q_79, .inr (2, [.ref q_82, .int 0, .int (-1), .ref q_83, .int 0, .int 0, .int 0, .int 0, .int 0, .int 0])), (q_82, .inr (7, [.ref q_84, .int 0, .ref q_85, .ref q_86, .ref q_87, .ref q_88, .int 0, .ref q_89, .ref q_90, .ref q_91, .ref q_92, .ref q_93, .int 0, .ref q_94, .ref q_95, .ref q_96])), (q_84, .inl (cI, 26, .inl z0)), (q_85, .inl (cI, 6, .inl z0)), (q_86, .inl (cI, 81, .inl z0)), (q_87, .inl (cI, 20, .inl z0)), (q_88, .inl (cI, 20, .inl z0)), (q_89, .inl (cI, 9, .inl z0)), (q_90, .inl (cI, 9, .inl z0)), (q_91, .inl (cI, 36, .inl z0)), (q_92, .inl (cI, 36, .inl z0)), (q_94, .inr (9, [.ref q_97, .ref q_98, .int 0])), (q_97, .inl (cI, 96, .inl z0)), (q_98, .inl (cI, 12, .inl z0)), (q_95, .inr (9, [.ref q_99, .ref q_100, .int 0])), (q_99, .inl (cI, 64, .inl z0)), (q_100, .inl (cI, 8, .inl z0)), (q_83, .inl (cI, 600, .inl z0))] H := hP
  have hD : va_D A [(a0, .inr (11, [.ref q_1, .int 0, .ref q_2, .ref q_5, .ref q_6, .ref q_33, .ref q_46, .ref q_66, .int 0, .null, .null, .null, .int 0, .int 0, .null, .int 0, .null, .null, .int 0])), (q_1, .inl (cI, 600, .inl z0)), (q_2, .inr (3, [.ref q_5, .ref q_6, .ref q_7, .ref q_8, .ref q_9, .int 0, .int 0, .int 0, .int 0, .int 0, .int 0, .int (-1), .ref q_10, .ref q_11, .ref q_12, .int 0, .ref q_13, .ref q_14])), (q_5, .inr (7, [.ref q_15, .int 0, .ref q_16, .ref q_17, .ref q_18, .ref q_19, .int 0, .ref q_20, .ref q_21, .ref q_22, .ref q_23, .ref q_24, .int 0, .ref q_25, .ref q_26, .ref q_27])), (q_15, .inl (cI, 26, .inl z0)), (q_16, .inl (cI, 6, .inl z0)), (q_17, .inl (cI, 81, .inl z0)), (q_18, .inl (cI, 20, .inl z0)), (q_19, .inl (cI, 20, .inl z0)), (q_20, .inl (cI, 9, .inl z0)), (q_21, .inl (cI, 9, .inl z0)), (q_22, .inl (cI, 36, .inl z0)), (q_23, .inl (cI, 36, .inl z0)), (q_25, .inr (9, [.ref q_28, .ref q_29, .int 0])), (q_28, .inl (cI, 96, .inl z0)), (q_29, .inl (cI, 12, .inl z0)), (q_26, .inr (9, [.ref q_30, .ref q_31, .int 0])), (q_30, .inl (cI, 64, .inl z0)), (q_31, .inl (cI, 8, .inl z0)), (q_6, .inr (10, [.ref q_32, .int 0, .int 0])), (q_14, .inl (cI, 256, .inl z0)), (q_33, .inr (6, [.int 0, .int 1, .ref q_36, .ref q_37, .ref q_38, .int 0, .ref q_39, .ref q_40, .ref q_41])), (q_36, .inl (cI, 8, .inl z0)), (q_37, .inr (9, [.ref q_42, .ref q_43, .int 0])), (q_42, .inl (cI, 96, .inl z0)), (q_43, .inl (cI, 12, .inl z0)), (q_38, .inr (9, [.ref q_44, .ref q_45, .int 0])), (q_44, .inl (cI, 96, .inl z0)), (q_45, .inl (cI, 12, .inl z0)), (q_46, .inr (7, [.ref q_49, .int 0, .ref q_50, .ref q_51, .ref q_52, .ref q_53, .int 0, .ref q_54, .ref q_55, .ref q_56, .ref q_57, .ref q_58, .int 0, .ref q_59, .ref q_60, .ref q_61])), (q_49, .inl (cI, 26, .inl z0)), (q_50, .inl (cI, 6, .inl z0)), (q_51, .inl (cI, 81, .inl z0)), (q_52, .inl (cI, 20, .inl z0)), (q_53, .inl (cI, 20, .inl z0)), (q_54, .inl (cI, 9, .inl z0)), (q_55, .inl (cI, 9, .inl z0)), (q_56, .inl (cI, 36, .inl z0)), (q_57, .inl (cI, 36, .inl z0)), (q_59, .inr (9, [.ref q_62, .ref q_63, .int 0])), (q_62, .inl (cI, 96, .inl z0)), (q_63, .inl (cI, 12, .inl z0)), (q_60, .inr (9, [.ref q_64, .ref q_65, .int 0])), (q_64, .inl (cI, 64, .inl z0)), (q_65, .inl (cI, 8, .inl z0)), (q_66, .inr (6, [.int 0, .int 1, .ref q_69, .ref q_70, .ref q_71, .int 0, .ref q_72, .ref q_73, .ref q_74])), (q_69, .inl (cI, 8, .inl z0)), (q_70, .inr (9, [.ref q_75, .ref q_76, .int 0])), (q_75, .inl (cI, 96, .inl z0)), (q_76, .inl (cI, 12, .inl z0)), (q_71, .inr (9, [.ref q_77, .ref q_78, .int 0])), (q_77, .inl (cI, 96, .inl z0)), (q_78, .inl (cI, 12, .inl z0)), (q_79, .inr (2, [.ref q_82, .int 0, .int (-1), .ref q_83, .int 0, .int 0, .int 0, .int 0, .int 0, .int 0])), (q_82, .inr (7, [.ref q_84, .int 0, .ref q_85, .ref q_86, .ref q_87, .ref q_88, .int 0, .ref q_89, .ref q_90, .ref q_91, .ref q_92, .ref q_93, .int 0, .ref q_94, .ref q_95, .ref q_96])), (q_84, .inl (cI, 26, .inl z0)), (q_85, .inl (cI, 6, .inl z0)), (q_86, .inl (cI, 81, .inl z0)), (q_87, .inl (cI, 20, .inl z0)), (q_88, .inl (cI, 20, .inl z0)), (q_89, .inl (cI, 9, .inl z0)), (q_90, .inl (cI, 9, .inl z0)), (q_91, .inl (cI, 36, .inl z0)), (q_92, .inl (cI, 36, .inl z0)), (q_94, .inr (9, [.ref q_97, .ref q_98, .int 0])), (q_97, .inl (cI, 96, .inl z0)), (q_98, .inl (cI, 12, .inl z0)), (q_95, .inr (9, [.ref q_99, .ref q_100, .int 0])), (q_99, .inl (cI, 64, .inl z0)), (q_100, .inl (cI, 8, .inl z0)), (q_83, .inl (cI, 600, .inl z0))] := hD
  refine W.widen (k := 362) (n := 54356) (Nat.le_of_ble_eq_true rfl) (Nat.le_of_ble_eq_true rfl) ?_
  refine va_putF (D := (dC, dI)) (ci := 11) (v := .ref q_79) (ty := .object "SaidShallow$Reader") (C := RX11) (T := TX11) (N := 19) hx hb hU inlX11 tyX11 tyX11_ok nmX11 hown hK hP hD hS 0 rfl rfl 9 (by decide) (hU _ wd_34) (fun _ h9 => h9) rfl hin rfl (by decide +kernel) rfl rfl (Nat.le_of_ble_eq_true rfl) dX11_init_87 (fun H locs hP hD hS => ?_)
  have hP : va_P (dC, dI) vwCl [(a0, .inr (11, [.ref q_1, .int 0, .ref q_2, .ref q_5, .ref q_6, .ref q_33, .ref q_46, .ref q_66, .int 0, .ref q_79, .null, .null, .int 0, .int 0, .null, .int 0, .null, .null, .int 0])), (q_1, .inl (cI, 600, .inl z0)), (q_2, .inr (3, [.ref q_5, .ref q_6, .ref q_7, .ref q_8, .ref q_9, .int 0, .int 0, .int 0, .int 0, .int 0, .int 0, .int (-1), .ref q_10, .ref q_11, .ref q_12, .int 0, .ref q_13, .ref q_14])), (q_5, .inr (7, [.ref q_15, .int 0, .ref q_16, .ref q_17, .ref q_18, .ref q_19, .int 0, .ref q_20, .ref q_21, .ref q_22, .ref q_23, .ref q_24, .int 0, .ref q_25, .ref q_26, .ref q_27])), (q_15, .inl (cI, 26, .inl z0)), (q_16, .inl (cI, 6, .inl z0)), (q_17, .inl (cI, 81, .inl z0)), (q_18, .inl (cI, 20, .inl z0)), (q_19, .inl (cI, 20, .inl z0)), (q_20, .inl (cI, 9, .inl z0)), (q_21, .inl (cI, 9, .inl z0)), (q_22, .inl (cI, 36, .inl z0)), (q_23, .inl (cI, 36, .inl z0)), (q_25, .inr (9, [.ref q_28, .ref q_29, .int 0])), (q_28, .inl (cI, 96, .inl z0)), (q_29, .inl (cI, 12, .inl z0)), (q_26, .inr (9, [.ref q_30, .ref q_31, .int 0])), (q_30, .inl (cI, 64, .inl z0)), (q_31, .inl (cI, 8, .inl z0)), (q_6, .inr (10, [.ref q_32, .int 0, .int 0])), (q_14, .inl (cI, 256, .inl z0)), (q_33, .inr (6, [.int 0, .int 1, .ref q_36, .ref q_37, .ref q_38, .int 0, .ref q_39, .ref q_40, .ref q_41])), (q_36, .inl (cI, 8, .inl z0)), (q_37, .inr (9, [.ref q_42, .ref q_43, .int 0])), (q_42, .inl (cI, 96, .inl z0)), (q_43, .inl (cI, 12, .inl z0)), (q_38, .inr (9, [.ref q_44, .ref q_45, .int 0])), (q_44, .inl (cI, 96, .inl z0)), (q_45, .inl (cI, 12, .inl z0)), (q_46, .inr (7, [.ref q_49, .int 0, .ref q_50, .ref q_51, .ref q_52, .ref q_53, .int 0, .ref q_54, .ref q_55, .ref q_56, .ref q_57, .ref q_58, .int 0, .ref q_59, .ref q_60, .ref q_61])), (q_49, .inl (cI, 26, .inl z0)), (q_50, .inl (cI, 6, .inl z0)), (q_51, .inl (cI, 81, .inl z0)), (q_52, .inl (cI, 20, .inl z0)), (q_53, .inl (cI, 20, .inl z0)), (q_54, .inl (cI, 9, .inl z0)), (q_55, .inl (cI, 9, .inl z0)), (q_56, .inl (cI, 36, .inl z0)), (q_57, .inl (cI, 36, .inl z0)), (q_59, .inr (9, [.ref q_62, .ref q_63, .int 0])), (q_62, .inl (cI, 96, .inl z0)), (q_63, .inl (cI, 12, .inl z0)), (q_60, .inr (9, [.ref q_64, .ref q_65, .int 0])), (q_64, .inl (cI, 64, .inl z0)), (q_65, .inl (cI, 8, .inl z0)), (q_66, .inr (6, [.int 0, .int 1, .ref q_69, .ref q_70, .ref q_71, .int 0, .ref q_72, .ref q_73, .ref q_74])), (q_69, .inl (cI, 8, .inl z0)), (q_70, .inr (9, [.ref q_75, .ref q_76, .int 0])), (q_75, .inl (cI, 96, .inl z0)), (q_76, .inl (cI, 12, .inl z0)), (q_71, .inr (9, [.ref q_77, .ref q_78, .int 0])), (q_77, .inl (cI, 96, .inl z0)), (q_78, .inl (cI, 12, .inl z0)), (q_79, .inr (2, [.ref q_82, .int 0, .int (-1), .ref q_83, .int 0, .int 0, .int 0, .int 0, .int 0, .int 0])), (q_82, .inr (7, [.ref q_84, .int 0, .ref q_85, .ref q_86, .ref q_87, .ref q_88, .int 0, .ref q_89, .ref q_90, .ref q_91, .ref q_92, .ref q_93, .int 0, .ref q_94, .ref q_95, .ref q_96])), (q_84, .inl (cI, 26, .inl z0)), (q_85, .inl (cI, 6, .inl z0)), (q_86, .inl (cI, 81, .inl z0)), (q_87, .inl (cI, 20, .inl z0)), (q_88, .inl (cI, 20, .inl z0)), (q_89, .inl (cI, 9, .inl z0)), (q_90, .inl (cI, 9, .inl z0)), (q_91, .inl (cI, 36, .inl z0)), (q_92, .inl (cI, 36, .inl z0)), (q_94, .inr (9, [.ref q_97, .ref q_98, .int 0])), (q_97, .inl (cI, 96, .inl z0)), (q_98, .inl (cI, 12, .inl z0)), (q_95, .inr (9, [.ref q_99, .ref q_100, .int 0])), (q_99, .inl (cI, 64, .inl z0)), (q_100, .inl (cI, 8, .inl z0)), (q_83, .inl (cI, 600, .inl z0))] H := hP
  have hD : va_D A [(a0, .inr (11, [.ref q_1, .int 0, .ref q_2, .ref q_5, .ref q_6, .ref q_33, .ref q_46, .ref q_66, .int 0, .ref q_79, .null, .null, .int 0, .int 0, .null, .int 0, .null, .null, .int 0])), (q_1, .inl (cI, 600, .inl z0)), (q_2, .inr (3, [.ref q_5, .ref q_6, .ref q_7, .ref q_8, .ref q_9, .int 0, .int 0, .int 0, .int 0, .int 0, .int 0, .int (-1), .ref q_10, .ref q_11, .ref q_12, .int 0, .ref q_13, .ref q_14])), (q_5, .inr (7, [.ref q_15, .int 0, .ref q_16, .ref q_17, .ref q_18, .ref q_19, .int 0, .ref q_20, .ref q_21, .ref q_22, .ref q_23, .ref q_24, .int 0, .ref q_25, .ref q_26, .ref q_27])), (q_15, .inl (cI, 26, .inl z0)), (q_16, .inl (cI, 6, .inl z0)), (q_17, .inl (cI, 81, .inl z0)), (q_18, .inl (cI, 20, .inl z0)), (q_19, .inl (cI, 20, .inl z0)), (q_20, .inl (cI, 9, .inl z0)), (q_21, .inl (cI, 9, .inl z0)), (q_22, .inl (cI, 36, .inl z0)), (q_23, .inl (cI, 36, .inl z0)), (q_25, .inr (9, [.ref q_28, .ref q_29, .int 0])), (q_28, .inl (cI, 96, .inl z0)), (q_29, .inl (cI, 12, .inl z0)), (q_26, .inr (9, [.ref q_30, .ref q_31, .int 0])), (q_30, .inl (cI, 64, .inl z0)), (q_31, .inl (cI, 8, .inl z0)), (q_6, .inr (10, [.ref q_32, .int 0, .int 0])), (q_14, .inl (cI, 256, .inl z0)), (q_33, .inr (6, [.int 0, .int 1, .ref q_36, .ref q_37, .ref q_38, .int 0, .ref q_39, .ref q_40, .ref q_41])), (q_36, .inl (cI, 8, .inl z0)), (q_37, .inr (9, [.ref q_42, .ref q_43, .int 0])), (q_42, .inl (cI, 96, .inl z0)), (q_43, .inl (cI, 12, .inl z0)), (q_38, .inr (9, [.ref q_44, .ref q_45, .int 0])), (q_44, .inl (cI, 96, .inl z0)), (q_45, .inl (cI, 12, .inl z0)), (q_46, .inr (7, [.ref q_49, .int 0, .ref q_50, .ref q_51, .ref q_52, .ref q_53, .int 0, .ref q_54, .ref q_55, .ref q_56, .ref q_57, .ref q_58, .int 0, .ref q_59, .ref q_60, .ref q_61])), (q_49, .inl (cI, 26, .inl z0)), (q_50, .inl (cI, 6, .inl z0)), (q_51, .inl (cI, 81, .inl z0)), (q_52, .inl (cI, 20, .inl z0)), (q_53, .inl (cI, 20, .inl z0)), (q_54, .inl (cI, 9, .inl z0)), (q_55, .inl (cI, 9, .inl z0)), (q_56, .inl (cI, 36, .inl z0)), (q_57, .inl (cI, 36, .inl z0)), (q_59, .inr (9, [.ref q_62, .ref q_63, .int 0])), (q_62, .inl (cI, 96, .inl z0)), (q_63, .inl (cI, 12, .inl z0)), (q_60, .inr (9, [.ref q_64, .ref q_65, .int 0])), (q_64, .inl (cI, 64, .inl z0)), (q_65, .inl (cI, 8, .inl z0)), (q_66, .inr (6, [.int 0, .int 1, .ref q_69, .ref q_70, .ref q_71, .int 0, .ref q_72, .ref q_73, .ref q_74])), (q_69, .inl (cI, 8, .inl z0)), (q_70, .inr (9, [.ref q_75, .ref q_76, .int 0])), (q_75, .inl (cI, 96, .inl z0)), (q_76, .inl (cI, 12, .inl z0)), (q_71, .inr (9, [.ref q_77, .ref q_78, .int 0])), (q_77, .inl (cI, 96, .inl z0)), (q_78, .inl (cI, 12, .inl z0)), (q_79, .inr (2, [.ref q_82, .int 0, .int (-1), .ref q_83, .int 0, .int 0, .int 0, .int 0, .int 0, .int 0])), (q_82, .inr (7, [.ref q_84, .int 0, .ref q_85, .ref q_86, .ref q_87, .ref q_88, .int 0, .ref q_89, .ref q_90, .ref q_91, .ref q_92, .ref q_93, .int 0, .ref q_94, .ref q_95, .ref q_96])), (q_84, .inl (cI, 26, .inl z0)), (q_85, .inl (cI, 6, .inl z0)), (q_86, .inl (cI, 81, .inl z0)), (q_87, .inl (cI, 20, .inl z0)), (q_88, .inl (cI, 20, .inl z0)), (q_89, .inl (cI, 9, .inl z0)), (q_90, .inl (cI, 9, .inl z0)), (q_91, .inl (cI, 36, .inl z0)), (q_92, .inl (cI, 36, .inl z0)), (q_94, .inr (9, [.ref q_97, .ref q_98, .int 0])), (q_97, .inl (cI, 96, .inl z0)), (q_98, .inl (cI, 12, .inl z0)), (q_95, .inr (9, [.ref q_99, .ref q_100, .int 0])), (q_99, .inl (cI, 64, .inl z0)), (q_100, .inl (cI, 8, .inl z0)), (q_83, .inl (cI, 600, .inl z0))] := hD
  refine lv_aload_n hx hb dX11_init_90 rfl (lv_at hl 0 rfl) ?_
  refine va_new (ci := 0) (fs := [.null, .null, .null, .int 0, .null, .null, .null, .int 0, .null, .int 0, .int 0]) (C := RX0) (T := TX0) (N := 11) hx hb hU inlX0 tyX0 tyX0_ok hown (hU _ wd_35) (hU _ wd_36) (hU _ wd_37) hK hP hD hS hA rfl dvX0 (Nat.le_of_ble_eq_true rfl) (Nat.le_of_ble_eq_true rfl) dX11_init_91 (fun q_101 H hP hD hS => ?_)
  have hP : va_P (dC, dI) vwCl [(a0, .inr (11, [.ref q_1, .int 0, .ref q_2, .ref q_5, .ref q_6, .ref q_33, .ref q_46, .ref q_66, .int 0, .ref q_79, .null, .null, .int 0, .int 0, .null, .int 0, .null, .null, .int 0])), (q_1, .inl (cI, 600, .inl z0)), (q_2, .inr (3, [.ref q_5, .ref q_6, .ref q_7, .ref q_8, .ref q_9, .int 0, .int 0, .int 0, .int 0, .int 0, .int 0, .int (-1), .ref q_10, .ref q_11, .ref q_12, .int 0, .ref q_13, .ref q_14])), (q_5, .inr (7, [.ref q_15, .int 0, .ref q_16, .ref q_17, .ref q_18, .ref q_19, .int 0, .ref q_20, .ref q_21, .ref q_22, .ref q_23, .ref q_24, .int 0, .ref q_25, .ref q_26, .ref q_27])), (q_15, .inl (cI, 26, .inl z0)), (q_16, .inl (cI, 6, .inl z0)), (q_17, .inl (cI, 81, .inl z0)), (q_18, .inl (cI, 20, .inl z0)), (q_19, .inl (cI, 20, .inl z0)), (q_20, .inl (cI, 9, .inl z0)), (q_21, .inl (cI, 9, .inl z0)), (q_22, .inl (cI, 36, .inl z0)), (q_23, .inl (cI, 36, .inl z0)), (q_25, .inr (9, [.ref q_28, .ref q_29, .int 0])), (q_28, .inl (cI, 96, .inl z0)), (q_29, .inl (cI, 12, .inl z0)), (q_26, .inr (9, [.ref q_30, .ref q_31, .int 0])), (q_30, .inl (cI, 64, .inl z0)), (q_31, .inl (cI, 8, .inl z0)), (q_6, .inr (10, [.ref q_32, .int 0, .int 0])), (q_14, .inl (cI, 256, .inl z0)), (q_33, .inr (6, [.int 0, .int 1, .ref q_36, .ref q_37, .ref q_38, .int 0, .ref q_39, .ref q_40, .ref q_41])), (q_36, .inl (cI, 8, .inl z0)), (q_37, .inr (9, [.ref q_42, .ref q_43, .int 0])), (q_42, .inl (cI, 96, .inl z0)), (q_43, .inl (cI, 12, .inl z0)), (q_38, .inr (9, [.ref q_44, .ref q_45, .int 0])), (q_44, .inl (cI, 96, .inl z0)), (q_45, .inl (cI, 12, .inl z0)), (q_46, .inr (7, [.ref q_49, .int 0, .ref q_50, .ref q_51, .ref q_52, .ref q_53, .int 0, .ref q_54, .ref q_55, .ref q_56, .ref q_57, .ref q_58, .int 0, .ref q_59, .ref q_60, .ref q_61])), (q_49, .inl (cI, 26, .inl z0)), (q_50, .inl (cI, 6, .inl z0)), (q_51, .inl (cI, 81, .inl z0)), (q_52, .inl (cI, 20, .inl z0)), (q_53, .inl (cI, 20, .inl z0)), (q_54, .inl (cI, 9, .inl z0)), (q_55, .inl (cI, 9, .inl z0)), (q_56, .inl (cI, 36, .inl z0)), (q_57, .inl (cI, 36, .inl z0)), (q_59, .inr (9, [.ref q_62, .ref q_63, .int 0])), (q_62, .inl (cI, 96, .inl z0)), (q_63, .inl (cI, 12, .inl z0)), (q_60, .inr (9, [.ref q_64, .ref q_65, .int 0])), (q_64, .inl (cI, 64, .inl z0)), (q_65, .inl (cI, 8, .inl z0)), (q_66, .inr (6, [.int 0, .int 1, .ref q_69, .ref q_70, .ref q_71, .int 0, .ref q_72, .ref q_73, .ref q_74])), (q_69, .inl (cI, 8, .inl z0)), (q_70, .inr (9, [.ref q_75, .ref q_76, .int 0])), (q_75, .inl (cI, 96, .inl z0)), (q_76, .inl (cI, 12, .inl z0)), (q_71, .inr (9, [.ref q_77, .ref q_78, .int 0])), (q_77, .inl (cI, 96, .inl z0)), (q_78, .inl (cI, 12, .inl z0)), (q_79, .inr (2, [.ref q_82, .int 0, .int (-1), .ref q_83, .int 0, .int 0, .int 0, .int 0, .int 0, .int 0])), (q_82, .inr (7, [.ref q_84, .int 0, .ref q_85, .ref q_86, .ref q_87, .ref q_88, .int 0, .ref q_89, .ref q_90, .ref q_91, .ref q_92, .ref q_93, .int 0, .ref q_94, .ref q_95, .ref q_96])), (q_84, .inl (cI, 26, .inl z0)), (q_85, .inl (cI, 6, .inl z0)), (q_86, .inl (cI, 81, .inl z0)), (q_87, .inl (cI, 20, .inl z0)), (q_88, .inl (cI, 20, .inl z0)), (q_89, .inl (cI, 9, .inl z0)), (q_90, .inl (cI, 9, .inl z0)), (q_91, .inl (cI, 36, .inl z0)), (q_92, .inl (cI, 36, .inl z0)), (q_94, .inr (9, [.ref q_97, .ref q_98, .int 0])), (q_97, .inl (cI, 96, .inl z0)), (q_98, .inl (cI, 12, .inl z0)), (q_95, .inr (9, [.ref q_99, .ref q_100, .int 0])), (q_99, .inl (cI, 64, .inl z0)), (q_100, .inl (cI, 8, .inl z0)), (q_83, .inl (cI, 600, .inl z0)), (q_101, .inr (0, [.null, .null, .null, .int 0, .null, .null, .null, .int 0, .null, .int 0, .int 0]))] H := hP
  have hD : va_D A [(a0, .inr (11, [.ref q_1, .int 0, .ref q_2, .ref q_5, .ref q_6, .ref q_33, .ref q_46, .ref q_66, .int 0, .ref q_79, .null, .null, .int 0, .int 0, .null, .int 0, .null, .null, .int 0])), (q_1, .inl (cI, 600, .inl z0)), (q_2, .inr (3, [.ref q_5, .ref q_6, .ref q_7, .ref q_8, .ref q_9, .int 0, .int 0, .int 0, .int 0, .int 0, .int 0, .int (-1), .ref q_10, .ref q_11, .ref q_12, .int 0, .ref q_13, .ref q_14])), (q_5, .inr (7, [.ref q_15, .int 0, .ref q_16, .ref q_17, .ref q_18, .ref q_19, .int 0, .ref q_20, .ref q_21, .ref q_22, .ref q_23, .ref q_24, .int 0, .ref q_25, .ref q_26, .ref q_27])), (q_15, .inl (cI, 26, .inl z0)), (q_16, .inl (cI, 6, .inl z0)), (q_17, .inl (cI, 81, .inl z0)), (q_18, .inl (cI, 20, .inl z0)), (q_19, .inl (cI, 20, .inl z0)), (q_20, .inl (cI, 9, .inl z0)), (q_21, .inl (cI, 9, .inl z0)), (q_22, .inl (cI, 36, .inl z0)), (q_23, .inl (cI, 36, .inl z0)), (q_25, .inr (9, [.ref q_28, .ref q_29, .int 0])), (q_28, .inl (cI, 96, .inl z0)), (q_29, .inl (cI, 12, .inl z0)), (q_26, .inr (9, [.ref q_30, .ref q_31, .int 0])), (q_30, .inl (cI, 64, .inl z0)), (q_31, .inl (cI, 8, .inl z0)), (q_6, .inr (10, [.ref q_32, .int 0, .int 0])), (q_14, .inl (cI, 256, .inl z0)), (q_33, .inr (6, [.int 0, .int 1, .ref q_36, .ref q_37, .ref q_38, .int 0, .ref q_39, .ref q_40, .ref q_41])), (q_36, .inl (cI, 8, .inl z0)), (q_37, .inr (9, [.ref q_42, .ref q_43, .int 0])), (q_42, .inl (cI, 96, .inl z0)), (q_43, .inl (cI, 12, .inl z0)), (q_38, .inr (9, [.ref q_44, .ref q_45, .int 0])), (q_44, .inl (cI, 96, .inl z0)), (q_45, .inl (cI, 12, .inl z0)), (q_46, .inr (7, [.ref q_49, .int 0, .ref q_50, .ref q_51, .ref q_52, .ref q_53, .int 0, .ref q_54, .ref q_55, .ref q_56, .ref q_57, .ref q_58, .int 0, .ref q_59, .ref q_60, .ref q_61])), (q_49, .inl (cI, 26, .inl z0)), (q_50, .inl (cI, 6, .inl z0)), (q_51, .inl (cI, 81, .inl z0)), (q_52, .inl (cI, 20, .inl z0)), (q_53, .inl (cI, 20, .inl z0)), (q_54, .inl (cI, 9, .inl z0)), (q_55, .inl (cI, 9, .inl z0)), (q_56, .inl (cI, 36, .inl z0)), (q_57, .inl (cI, 36, .inl z0)), (q_59, .inr (9, [.ref q_62, .ref q_63, .int 0])), (q_62, .inl (cI, 96, .inl z0)), (q_63, .inl (cI, 12, .inl z0)), (q_60, .inr (9, [.ref q_64, .ref q_65, .int 0])), (q_64, .inl (cI, 64, .inl z0)), (q_65, .inl (cI, 8, .inl z0)), (q_66, .inr (6, [.int 0, .int 1, .ref q_69, .ref q_70, .ref q_71, .int 0, .ref q_72, .ref q_73, .ref q_74])), (q_69, .inl (cI, 8, .inl z0)), (q_70, .inr (9, [.ref q_75, .ref q_76, .int 0])), (q_75, .inl (cI, 96, .inl z0)), (q_76, .inl (cI, 12, .inl z0)), (q_71, .inr (9, [.ref q_77, .ref q_78, .int 0])), (q_77, .inl (cI, 96, .inl z0)), (q_78, .inl (cI, 12, .inl z0)), (q_79, .inr (2, [.ref q_82, .int 0, .int (-1), .ref q_83, .int 0, .int 0, .int 0, .int 0, .int 0, .int 0])), (q_82, .inr (7, [.ref q_84, .int 0, .ref q_85, .ref q_86, .ref q_87, .ref q_88, .int 0, .ref q_89, .ref q_90, .ref q_91, .ref q_92, .ref q_93, .int 0, .ref q_94, .ref q_95, .ref q_96])), (q_84, .inl (cI, 26, .inl z0)), (q_85, .inl (cI, 6, .inl z0)), (q_86, .inl (cI, 81, .inl z0)), (q_87, .inl (cI, 20, .inl z0)), (q_88, .inl (cI, 20, .inl z0)), (q_89, .inl (cI, 9, .inl z0)), (q_90, .inl (cI, 9, .inl z0)), (q_91, .inl (cI, 36, .inl z0)), (q_92, .inl (cI, 36, .inl z0)), (q_94, .inr (9, [.ref q_97, .ref q_98, .int 0])), (q_97, .inl (cI, 96, .inl z0)), (q_98, .inl (cI, 12, .inl z0)), (q_95, .inr (9, [.ref q_99, .ref q_100, .int 0])), (q_99, .inl (cI, 64, .inl z0)), (q_100, .inl (cI, 8, .inl z0)), (q_83, .inl (cI, 600, .inl z0)), (q_101, .inr (0, [.null, .null, .null, .int 0, .null, .null, .null, .int 0, .null, .int 0, .int 0]))] := hD
  refine W.widen (k := 363) (n := 54367) (Nat.le_of_ble_eq_true rfl) (Nat.le_of_ble_eq_true rfl) ?_
  refine lv_dup hx hb dX11_init_94 rfl ?_
  refine tk_rv (wr := [(a0, .inr (11, [.ref q_1, .int 0, .ref q_2, .ref q_5, .ref q_6, .ref q_33, .ref q_46, .ref q_66, .int 0, .ref q_79, .null, .null, .int 0, .int 0, .null, .int 0, .null, .null, .int 0])), (q_1, .inl (cI, 600, .inl z0)), (q_2, .inr (3, [.ref q_5, .ref q_6, .ref q_7, .ref q_8, .ref q_9, .int 0, .int 0, .int 0, .int 0, .int 0, .int 0, .int (-1), .ref q_10, .ref q_11, .ref q_12, .int 0, .ref q_13, .ref q_14])), (q_5, .inr (7, [.ref q_15, .int 0, .ref q_16, .ref q_17, .ref q_18, .ref q_19, .int 0, .ref q_20, .ref q_21, .ref q_22, .ref q_23, .ref q_24, .int 0, .ref q_25, .ref q_26, .ref q_27])), (q_15, .inl (cI, 26, .inl z0)), (q_16, .inl (cI, 6, .inl z0)), (q_17, .inl (cI, 81, .inl z0)), (q_18, .inl (cI, 20, .inl z0)), (q_19, .inl (cI, 20, .inl z0)), (q_20, .inl (cI, 9, .inl z0)), (q_21, .inl (cI, 9, .inl z0)), (q_22, .inl (cI, 36, .inl z0)), (q_23, .inl (cI, 36, .inl z0)), (q_25, .inr (9, [.ref q_28, .ref q_29, .int 0])), (q_28, .inl (cI, 96, .inl z0)), (q_29, .inl (cI, 12, .inl z0)), (q_26, .inr (9, [.ref q_30, .ref q_31, .int 0])), (q_30, .inl (cI, 64, .inl z0)), (q_31, .inl (cI, 8, .inl z0)), (q_6, .inr (10, [.ref q_32, .int 0, .int 0])), (q_14, .inl (cI, 256, .inl z0)), (q_33, .inr (6, [.int 0, .int 1, .ref q_36, .ref q_37, .ref q_38, .int 0, .ref q_39, .ref q_40, .ref q_41])), (q_36, .inl (cI, 8, .inl z0)), (q_37, .inr (9, [.ref q_42, .ref q_43, .int 0])), (q_42, .inl (cI, 96, .inl z0)), (q_43, .inl (cI, 12, .inl z0)), (q_38, .inr (9, [.ref q_44, .ref q_45, .int 0])), (q_44, .inl (cI, 96, .inl z0)), (q_45, .inl (cI, 12, .inl z0)), (q_46, .inr (7, [.ref q_49, .int 0, .ref q_50, .ref q_51, .ref q_52, .ref q_53, .int 0, .ref q_54, .ref q_55, .ref q_56, .ref q_57, .ref q_58, .int 0, .ref q_59, .ref q_60, .ref q_61])), (q_49, .inl (cI, 26, .inl z0)), (q_50, .inl (cI, 6, .inl z0)), (q_51, .inl (cI, 81, .inl z0)), (q_52, .inl (cI, 20, .inl z0)), (q_53, .inl (cI, 20, .inl z0)), (q_54, .inl (cI, 9, .inl z0)), (q_55, .inl (cI, 9, .inl z0)), (q_56, .inl (cI, 36, .inl z0)), (q_57, .inl (cI, 36, .inl z0)), (q_59, .inr (9, [.ref q_62, .ref q_63, .int 0])), (q_62, .inl (cI, 96, .inl z0)), (q_63, .inl (cI, 12, .inl z0)), (q_60, .inr (9, [.ref q_64, .ref q_65, .int 0])), (q_64, .inl (cI, 64, .inl z0)), (q_65, .inl (cI, 8, .inl z0)), (q_66, .inr (6, [.int 0, .int 1, .ref q_69, .ref q_70, .ref q_71, .int 0, .ref q_72, .ref q_73, .ref q_74])), (q_69, .inl (cI, 8, .inl z0)), (q_70, .inr (9, [.ref q_75, .ref q_76, .int 0])), (q_75, .inl (cI, 96, .inl z0)), (q_76, .inl (cI, 12, .inl z0)), (q_71, .inr (9, [.ref q_77, .ref q_78, .int 0])), (q_77, .inl (cI, 96, .inl z0)), (q_78, .inl (cI, 12, .inl z0)), (q_79, .inr (2, [.ref q_82, .int 0, .int (-1), .ref q_83, .int 0, .int 0, .int 0, .int 0, .int 0, .int 0])), (q_82, .inr (7, [.ref q_84, .int 0, .ref q_85, .ref q_86, .ref q_87, .ref q_88, .int 0, .ref q_89, .ref q_90, .ref q_91, .ref q_92, .ref q_93, .int 0, .ref q_94, .ref q_95, .ref q_96])), (q_84, .inl (cI, 26, .inl z0)), (q_85, .inl (cI, 6, .inl z0)), (q_86, .inl (cI, 81, .inl z0)), (q_87, .inl (cI, 20, .inl z0)), (q_88, .inl (cI, 20, .inl z0)), (q_89, .inl (cI, 9, .inl z0)), (q_90, .inl (cI, 9, .inl z0)), (q_91, .inl (cI, 36, .inl z0)), (q_92, .inl (cI, 36, .inl z0)), (q_94, .inr (9, [.ref q_97, .ref q_98, .int 0])), (q_97, .inl (cI, 96, .inl z0)), (q_98, .inl (cI, 12, .inl z0)), (q_95, .inr (9, [.ref q_99, .ref q_100, .int 0])), (q_99, .inl (cI, 64, .inl z0)), (q_100, .inl (cI, 8, .inl z0)), (q_83, .inl (cI, 600, .inl z0))]) (tk_IN (As := []) (rest := [.ref q_101, .ref a0]) (n := 0) hx hb hml hown hU hN (cc_X0_init_0 l (dC, dI) cI cL cZ H.size q_101) hN.2.2.2.2.2.2.2.2.1 wd_154 wd_37 wd_155 rfl (by decide +kernel) ⟨Nat.le_of_ble_eq_true rfl, Nat.le_of_ble_eq_true rfl⟩ hK hP hD [71] (by decide) rfl rfl hl.1 rfl (Nat.le_of_ble_eq_true rfl) dX11_init_95 ⟨Nat.le_of_ble_eq_true rfl, Nat.le_of_ble_eq_true rfl⟩) hP hD hS hA [71] [0, 1, 2, 3, 4, 5, 6, 7, 8, 9, 10, 11, 12, 13, 14, 15, 16, 17, 18, 19, 20, 21, 22, 23, 24, 25, 26, 27, 28, 29, 30, 31, 32, 33, 34, 35, 36, 37, 38, 39, 40, 41, 42, 43, 44, 45, 46, 47, 48, 49, 50, 51, 52, 53, 54, 55, 56, 57, 58, 59, 60, 61, 62, 63, 64, 65, 66, 67, 68, 69, 70] rfl rfl (by decide) (by decide) (fun w_103 H locs hw hP hD hS => ?_)
  obtain ⟨q_104, q_105, q_106, q_107, q_108, q_109, q_110, rfl⟩ := hw
  have hP : va_P (dC, dI) vwCl [(a0, .inr (11, [.ref q_1, .int 0, .ref q_2, .ref q_5, .ref q_6, .ref q_33, .ref q_46, .ref q_66, .int 0, .ref q_79, .null, .null, .int 0, .int 0, .null, .int 0, .null, .null, .int 0])), (q_1, .inl (cI, 600, .inl z0)), (q_2, .inr (3, [.ref q_5, .ref q_6, .ref q_7, .ref q_8, .ref q_9, .int 0, .int 0, .int 0, .int 0, .int 0, .int 0, .int (-1), .ref q_10, .ref q_11, .ref q_12, .int 0, .ref q_13, .ref q_14])), (q_5, .inr (7, [.ref q_15, .int 0, .ref q_16, .ref q_17, .ref q_18, .ref q_19, .int 0, .ref q_20, .ref q_21, .ref q_22, .ref q_23, .ref q_24, .int 0, .ref q_25, .ref q_26, .ref q_27])), (q_15, .inl (cI, 26, .inl z0)), (q_16, .inl (cI, 6, .inl z0)), (q_17, .inl (cI, 81, .inl z0)), (q_18, .inl (cI, 20, .inl z0)), (q_19, .inl (cI, 20, .inl z0)), (q_20, .inl (cI, 9, .inl z0)), (q_21, .inl (cI, 9, .inl z0)), (q_22, .inl (cI, 36, .inl z0)), (q_23, .inl (cI, 36, .inl z0)), (q_25, .inr (9, [.ref q_28, .ref q_29, .int 0])), (q_28, .inl (cI, 96, .inl z0)), (q_29, .inl (cI, 12, .inl z0)), (q_26, .inr (9, [.ref q_30, .ref q_31, .int 0])), (q_30, .inl (cI, 64, .inl z0)), (q_31, .inl (cI, 8, .inl z0)), (q_6, .inr (10, [.ref q_32, .int 0, .int 0])), (q_14, .inl (cI, 256, .inl z0)), (q_33, .inr (6, [.int 0, .int 1, .ref q_36, .ref q_37, .ref q_38, .int 0, .ref q_39, .ref q_40, .ref q_41])), (q_36, .inl (cI, 8, .inl z0)), (q_37, .inr (9, [.ref q_42, .ref q_43, .int 0])), (q_42, .inl (cI, 96, .inl z0)), (q_43, .inl (cI, 12, .inl z0)), (q_38, .inr (9, [.ref q_44, .ref q_45, .int 0])), (q_44, .inl (cI, 96, .inl z0)), (q_45, .inl (cI, 12, .inl z0)), (q_46, .inr (7, [.ref q_49, .int 0, .ref q_50, .ref q_51, .ref q_52, .ref q_53, .int 0, .ref q_54, .ref q_55, .ref q_56, .ref q_57, .ref q_58, .int 0, .ref q_59, .ref q_60, .ref q_61])), (q_49, .inl (cI, 26, .inl z0)), (q_50, .inl (cI, 6, .inl z0)), (q_51, .inl (cI, 81, .inl z0)), (q_52, .inl (cI, 20, .inl z0)), (q_53, .inl (cI, 20, .inl z0)), (q_54, .inl (cI, 9, .inl z0)), (q_55, .inl (cI, 9, .inl z0)), (q_56, .inl (cI, 36, .inl z0)), (q_57, .inl (cI, 36, .inl z0)), (q_59, .inr (9, [.ref q_62, .ref q_63, .int 0])), (q_62, .inl (cI, 96, .inl z0)), (q_63, .inl (cI, 12, .inl z0)), (q_60, .inr (9, [.ref q_64, .ref q_65, .int 0])), (q_64, .inl (cI, 64, .inl z0)), (q_65, .inl (cI, 8, .inl z0)), (q_66, .inr (6, [.int 0, .int 1, .ref q_69, .ref q_70, .ref q_71, .int 0, .ref q_72, .ref q_73, .ref q_74])), (q_69, .inl (cI, 8, .inl z0)), (q_70, .inr (9, [.ref q_75, .ref q_76, .int 0])), (q_75, .inl (cI, 96, .inl z0)), (q_76, .inl (cI, 12, .inl z0)), (q_71, .inr (9, [.ref q_77, .ref q_78, .int 0])), (q_77, .inl (cI, 96, .inl z0)), (q_78, .inl (cI, 12, .inl z0)), (q_79, .inr (2, [.ref q_82, .int 0, .int (-1), .ref q_83, .int 0, .int 0, .int 0, .int 0, .int 0, .int 0])), (q_82, .inr (7, [.ref q_84, .int 0, .ref q_85, .ref q_86, .ref q_87, .ref q_88, .int 0, .ref q_89, .ref q_90, .ref q_91, .ref q_92, .ref q_93, .int 0, .ref q_94, .ref q_95, .ref q_96])), (q_84, .inl (cI, 26, .inl z0)), (q_85, .inl (cI, 6, .inl z0)), (q_86, .inl (cI, 81, .inl z0)), (q_87, .inl (cI, 20, .inl z0)), (q_88, .inl (cI, 20, .inl z0)), (q_89, .inl (cI, 9, .inl z0)), (q_90, .inl (cI, 9, .inl z0)), (q_91, .inl (cI, 36, .inl z0)), (q_92, .inl (cI, 36, .inl z0)), (q_94, .inr (9, [.ref q_97, .ref q_98, .int 0])), (q_97, .inl (cI, 96, .inl z0)), (q_98, .inl (cI, 12, .inl z0)), (q_95, .inr (9, [.ref q_99, .ref q_100, .int 0])), (q_99, .inl (cI, 64, .inl z0)), (q_100, .inl (cI, 8, .inl z0)), (q_83, .inl (cI, 600, .inl z0)), (q_101, .inr (0, [.ref q_104, .ref q_105, .ref q_106, .int 0, .ref q_107, .ref q_108, .ref q_109, .int 0, .ref q_110, .int 0, .int (-1)])), (q_105, .inl (cI, 5329, .inl z0)), (q_108, .inl (cI, 511, .inl z0)), (q_107, .inl (cI, 6, .inl z0)), (q_109, .inl (cI, 6, .inl z0))] H := hP
  have hD : va_D A [(a0, .inr (11, [.ref q_1, .int 0, .ref q_2, .ref q_5, .ref q_6, .ref q_33, .ref q_46, .ref q_66, .int 0, .ref q_79, .null, .null, .int 0, .int 0, .null, .int 0, .null, .null, .int 0])), (q_1, .inl (cI, 600, .inl z0)), (q_2, .inr (3, [.ref q_5, .ref q_6, .ref q_7, .ref q_8, .ref q_9, .int 0, .int 0, .int 0, .int 0, .int 0, .int 0, .int (-1), .ref q_10, .ref q_11, .ref q_12, .int 0, .ref q_13, .ref q_14])), (q_5, .inr (7, [.ref q_15, .int 0, .ref q_16, .ref q_17, .ref q_18, .ref q_19, .int 0, .ref q_20, .ref q_21, .ref q_22, .ref q_23, .ref q_24, .int 0, .ref q_25, .ref q_26, .ref q_27])), (q_15, .inl (cI, 26, .inl z0)), (q_16, .inl (cI, 6, .inl z0)), (q_17, .inl (cI, 81, .inl z0)), (q_18, .inl (cI, 20, .inl z0)), (q_19, .inl (cI, 20, .inl z0)), (q_20, .inl (cI, 9, .inl z0)), (q_21, .inl (cI, 9, .inl z0)), (q_22, .inl (cI, 36, .inl z0)), (q_23, .inl (cI, 36, .inl z0)), (q_25, .inr (9, [.ref q_28, .ref q_29, .int 0])), (q_28, .inl (cI, 96, .inl z0)), (q_29, .inl (cI, 12, .inl z0)), (q_26, .inr (9, [.ref q_30, .ref q_31, .int 0])), (q_30, .inl (cI, 64, .inl z0)), (q_31, .inl (cI, 8, .inl z0)), (q_6, .inr (10, [.ref q_32, .int 0, .int 0])), (q_14, .inl (cI, 256, .inl z0)), (q_33, .inr (6, [.int 0, .int 1, .ref q_36, .ref q_37, .ref q_38, .int 0, .ref q_39, .ref q_40, .ref q_41])), (q_36, .inl (cI, 8, .inl z0)), (q_37, .inr (9, [.ref q_42, .ref q_43, .int 0])), (q_42, .inl (cI, 96, .inl z0)), (q_43, .inl (cI, 12, .inl z0)), (q_38, .inr (9, [.ref q_44, .ref q_45, .int 0])), (q_44, .inl (cI, 96, .inl z0)), (q_45, .inl (cI, 12, .inl z0)), (q_46, .inr (7, [.ref q_49, .int 0, .ref q_50, .ref q_51, .ref q_52, .ref q_53, .int 0, .ref q_54, .ref q_55, .ref q_56, .ref q_57, .ref q_58, .int 0, .ref q_59, .ref q_60, .ref q_61])), (q_49, .inl (cI, 26, .inl z0)), (q_50, .inl (cI, 6, .inl z0)), (q_51, .inl (cI, 81, .inl z0)), (q_52, .inl (cI, 20, .inl z0)), (q_53, .inl (cI, 20, .inl z0)), (q_54, .inl (cI, 9, .inl z0)), (q_55, .inl (cI, 9, .inl z0)), (q_56, .inl (cI, 36, .inl z0)), (q_57, .inl (cI, 36, .inl z0)), (q_59, .inr (9, [.ref q_62, .ref q_63, .int 0])), (q_62, .inl (cI, 96, .inl z0)), (q_63, .inl (cI, 12, .inl z0)), (q_60, .inr (9, [.ref q_64, .ref q_65, .int 0])), (q_64, .inl (cI, 64, .inl z0)), (q_65, .inl (cI, 8, .inl z0)), (q_66, .inr (6, [.int 0, .int 1, .ref q_69, .ref q_70, .ref q_71, .int 0, .ref q_72, .ref q_73, .ref q_74])), (q_69, .inl (cI, 8, .inl z0)), (q_70, .inr (9, [.ref q_75, .ref q_76, .int 0])), (q_75, .inl (cI, 96, .inl z0)), (q_76, .inl (cI, 12, .inl z0)), (q_71, .inr (9, [.ref q_77, .ref q_78, .int 0])), (q_77, .inl (cI, 96, .inl z0)), (q_78, .inl (cI, 12, .inl z0)), (q_79, .inr (2, [.ref q_82, .int 0, .int (-1), .ref q_83, .int 0, .int 0, .int 0, .int 0, .int 0, .int 0])), (q_82, .inr (7, [.ref q_84, .int 0, .ref q_85, .ref q_86, .ref q_87, .ref q_88, .int 0, .ref q_89, .ref q_90, .ref q_91, .ref q_92, .ref q_93, .int 0, .ref q_94, .ref q_95, .ref q_96])), (q_84, .inl (cI, 26, .inl z0)), (q_85, .inl (cI, 6, .inl z0)), (q_86, .inl (cI, 81, .inl z0)), (q_87, .inl (cI, 20, .inl z0)), (q_88, .inl (cI, 20, .inl z0)), (q_89, .inl (cI, 9, .inl z0)), (q_90, .inl (cI, 9, .inl z0)), (q_91, .inl (cI, 36, .inl z0)), (q_92, .inl (cI, 36, .inl z0)), (q_94, .inr (9, [.ref q_97, .ref q_98, .int 0])), (q_97, .inl (cI, 96, .inl z0)), (q_98, .inl (cI, 12, .inl z0)), (q_95, .inr (9, [.ref q_99, .ref q_100, .int 0])), (q_99, .inl (cI, 64, .inl z0)), (q_100, .inl (cI, 8, .inl z0)), (q_83, .inl (cI, 600, .inl z0)), (q_101, .inr (0, [.ref q_104, .ref q_105, .ref q_106, .int 0, .ref q_107, .ref q_108, .ref q_109, .int 0, .ref q_110, .int 0, .int (-1)])), (q_105, .inl (cI, 5329, .inl z0)), (q_108, .inl (cI, 511, .inl z0)), (q_107, .inl (cI, 6, .inl z0)), (q_109, .inl (cI, 6, .inl z0))] := hD
  refine W.widen (k := 370) (n := 60811) (Nat.le_of_ble_eq_true rfl) (Nat.le_of_ble_eq_true rfl) ?_
  refine va_putF (D := (dC, dI)) (ci := 11) (v := .ref q_101) (ty := .object "SaidShallow$BestOrder") (C := RX11) (T := TX11) (N := 19) hx hb hU inlX11 tyX11 tyX11_ok nmX11 hown hK hP hD hS 0 rfl rfl 10 (by decide) (hU _ wd_38) (fun _ h9 => h9) rfl hin rfl (by decide +kernel) rfl rfl (Nat.le_of_ble_eq_true rfl) dX11_init_98 (fun H locs hP hD hS => ?_)
  have hP : va_P (dC, dI) vwCl [(a0, .inr (11, [.ref q_1, .int 0, .ref q_2, .ref q_5, .ref q_6, .ref q_33, .ref q_46, .ref q_66, .int 0, .ref q_79, .ref q_101, .null, .int 0, .int 0, .null, .int 0, .null, .null, .int 0])), (q_1, .inl (cI, 600, .inl z0)), (q_2, .inr (3, [.ref q_5, .ref q_6, .ref q_7, .ref q_8, .ref q_9, .int 0, .int 0, .int 0, .int 0, .int 0, .int 0, .int (-1), .ref q_10, .ref q_11, .ref q_12, .int 0, .ref q_13, .ref q_14])), (q_5, .inr (7, [.ref q_15, .int 0, .ref q_16, .ref q_17, .ref q_18, .ref q_19, .int 0, .ref q_20, .ref q_21, .ref q_22, .ref q_23, .ref q_24, .int 0, .ref q_25, .ref q_26, .ref q_27])), (q_15, .inl (cI, 26, .inl z0)), (q_16, .inl (cI, 6, .inl z0)), (q_17, .inl (cI, 81, .inl z0)), (q_18, .inl (cI, 20, .inl z0)), (q_19, .inl (cI, 20, .inl z0)), (q_20, .inl (cI, 9, .inl z0)), (q_21, .inl (cI, 9, .inl z0)), (q_22, .inl (cI, 36, .inl z0)), (q_23, .inl (cI, 36, .inl z0)), (q_25, .inr (9, [.ref q_28, .ref q_29, .int 0])), (q_28, .inl (cI, 96, .inl z0)), (q_29, .inl (cI, 12, .inl z0)), (q_26, .inr (9, [.ref q_30, .ref q_31, .int 0])), (q_30, .inl (cI, 64, .inl z0)), (q_31, .inl (cI, 8, .inl z0)), (q_6, .inr (10, [.ref q_32, .int 0, .int 0])), (q_14, .inl (cI, 256, .inl z0)), (q_33, .inr (6, [.int 0, .int 1, .ref q_36, .ref q_37, .ref q_38, .int 0, .ref q_39, .ref q_40, .ref q_41])), (q_36, .inl (cI, 8, .inl z0)), (q_37, .inr (9, [.ref q_42, .ref q_43, .int 0])), (q_42, .inl (cI, 96, .inl z0)), (q_43, .inl (cI, 12, .inl z0)), (q_38, .inr (9, [.ref q_44, .ref q_45, .int 0])), (q_44, .inl (cI, 96, .inl z0)), (q_45, .inl (cI, 12, .inl z0)), (q_46, .inr (7, [.ref q_49, .int 0, .ref q_50, .ref q_51, .ref q_52, .ref q_53, .int 0, .ref q_54, .ref q_55, .ref q_56, .ref q_57, .ref q_58, .int 0, .ref q_59, .ref q_60, .ref q_61])), (q_49, .inl (cI, 26, .inl z0)), (q_50, .inl (cI, 6, .inl z0)), (q_51, .inl (cI, 81, .inl z0)), (q_52, .inl (cI, 20, .inl z0)), (q_53, .inl (cI, 20, .inl z0)), (q_54, .inl (cI, 9, .inl z0)), (q_55, .inl (cI, 9, .inl z0)), (q_56, .inl (cI, 36, .inl z0)), (q_57, .inl (cI, 36, .inl z0)), (q_59, .inr (9, [.ref q_62, .ref q_63, .int 0])), (q_62, .inl (cI, 96, .inl z0)), (q_63, .inl (cI, 12, .inl z0)), (q_60, .inr (9, [.ref q_64, .ref q_65, .int 0])), (q_64, .inl (cI, 64, .inl z0)), (q_65, .inl (cI, 8, .inl z0)), (q_66, .inr (6, [.int 0, .int 1, .ref q_69, .ref q_70, .ref q_71, .int 0, .ref q_72, .ref q_73, .ref q_74])), (q_69, .inl (cI, 8, .inl z0)), (q_70, .inr (9, [.ref q_75, .ref q_76, .int 0])), (q_75, .inl (cI, 96, .inl z0)), (q_76, .inl (cI, 12, .inl z0)), (q_71, .inr (9, [.ref q_77, .ref q_78, .int 0])), (q_77, .inl (cI, 96, .inl z0)), (q_78, .inl (cI, 12, .inl z0)), (q_79, .inr (2, [.ref q_82, .int 0, .int (-1), .ref q_83, .int 0, .int 0, .int 0, .int 0, .int 0, .int 0])), (q_82, .inr (7, [.ref q_84, .int 0, .ref q_85, .ref q_86, .ref q_87, .ref q_88, .int 0, .ref q_89, .ref q_90, .ref q_91, .ref q_92, .ref q_93, .int 0, .ref q_94, .ref q_95, .ref q_96])), (q_84, .inl (cI, 26, .inl z0)), (q_85, .inl (cI, 6, .inl z0)), (q_86, .inl (cI, 81, .inl z0)), (q_87, .inl (cI, 20, .inl z0)), (q_88, .inl (cI, 20, .inl z0)), (q_89, .inl (cI, 9, .inl z0)), (q_90, .inl (cI, 9, .inl z0)), (q_91, .inl (cI, 36, .inl z0)), (q_92, .inl (cI, 36, .inl z0)), (q_94, .inr (9, [.ref q_97, .ref q_98, .int 0])), (q_97, .inl (cI, 96, .inl z0)), (q_98, .inl (cI, 12, .inl z0)), (q_95, .inr (9, [.ref q_99, .ref q_100, .int 0])), (q_99, .inl (cI, 64, .inl z0)), (q_100, .inl (cI, 8, .inl z0)), (q_83, .inl (cI, 600, .inl z0)), (q_101, .inr (0, [.ref q_104, .ref q_105, .ref q_106, .int 0, .ref q_107, .ref q_108, .ref q_109, .int 0, .ref q_110, .int 0, .int (-1)])), (q_105, .inl (cI, 5329, .inl z0)), (q_108, .inl (cI, 511, .inl z0)), (q_107, .inl (cI, 6, .inl z0)), (q_109, .inl (cI, 6, .inl z0))] H := hP
  have hD : va_D A [(a0, .inr (11, [.ref q_1, .int 0, .ref q_2, .ref q_5, .ref q_6, .ref q_33, .ref q_46, .ref q_66, .int 0, .ref q_79, .ref q_101, .null, .int 0, .int 0, .null, .int 0, .null, .null, .int 0])), (q_1, .inl (cI, 600, .inl z0)), (q_2, .inr (3, [.ref q_5, .ref q_6, .ref q_7, .ref q_8, .ref q_9, .int 0, .int 0, .int 0, .int 0, .int 0, .int 0, .int (-1), .ref q_10, .ref q_11, .ref q_12, .int 0, .ref q_13, .ref q_14])), (q_5, .inr (7, [.ref q_15, .int 0, .ref q_16, .ref q_17, .ref q_18, .ref q_19, .int 0, .ref q_20, .ref q_21, .ref q_22, .ref q_23, .ref q_24, .int 0, .ref q_25, .ref q_26, .ref q_27])), (q_15, .inl (cI, 26, .inl z0)), (q_16, .inl (cI, 6, .inl z0)), (q_17, .inl (cI, 81, .inl z0)), (q_18, .inl (cI, 20, .inl z0)), (q_19, .inl (cI, 20, .inl z0)), (q_20, .inl (cI, 9, .inl z0)), (q_21, .inl (cI, 9, .inl z0)), (q_22, .inl (cI, 36, .inl z0)), (q_23, .inl (cI, 36, .inl z0)), (q_25, .inr (9, [.ref q_28, .ref q_29, .int 0])), (q_28, .inl (cI, 96, .inl z0)), (q_29, .inl (cI, 12, .inl z0)), (q_26, .inr (9, [.ref q_30, .ref q_31, .int 0])), (q_30, .inl (cI, 64, .inl z0)), (q_31, .inl (cI, 8, .inl z0)), (q_6, .inr (10, [.ref q_32, .int 0, .int 0])), (q_14, .inl (cI, 256, .inl z0)), (q_33, .inr (6, [.int 0, .int 1, .ref q_36, .ref q_37, .ref q_38, .int 0, .ref q_39, .ref q_40, .ref q_41])), (q_36, .inl (cI, 8, .inl z0)), (q_37, .inr (9, [.ref q_42, .ref q_43, .int 0])), (q_42, .inl (cI, 96, .inl z0)), (q_43, .inl (cI, 12, .inl z0)), (q_38, .inr (9, [.ref q_44, .ref q_45, .int 0])), (q_44, .inl (cI, 96, .inl z0)), (q_45, .inl (cI, 12, .inl z0)), (q_46, .inr (7, [.ref q_49, .int 0, .ref q_50, .ref q_51, .ref q_52, .ref q_53, .int 0, .ref q_54, .ref q_55, .ref q_56, .ref q_57, .ref q_58, .int 0, .ref q_59, .ref q_60, .ref q_61])), (q_49, .inl (cI, 26, .inl z0)), (q_50, .inl (cI, 6, .inl z0)), (q_51, .inl (cI, 81, .inl z0)), (q_52, .inl (cI, 20, .inl z0)), (q_53, .inl (cI, 20, .inl z0)), (q_54, .inl (cI, 9, .inl z0)), (q_55, .inl (cI, 9, .inl z0)), (q_56, .inl (cI, 36, .inl z0)), (q_57, .inl (cI, 36, .inl z0)), (q_59, .inr (9, [.ref q_62, .ref q_63, .int 0])), (q_62, .inl (cI, 96, .inl z0)), (q_63, .inl (cI, 12, .inl z0)), (q_60, .inr (9, [.ref q_64, .ref q_65, .int 0])), (q_64, .inl (cI, 64, .inl z0)), (q_65, .inl (cI, 8, .inl z0)), (q_66, .inr (6, [.int 0, .int 1, .ref q_69, .ref q_70, .ref q_71, .int 0, .ref q_72, .ref q_73, .ref q_74])), (q_69, .inl (cI, 8, .inl z0)), (q_70, .inr (9, [.ref q_75, .ref q_76, .int 0])), (q_75, .inl (cI, 96, .inl z0)), (q_76, .inl (cI, 12, .inl z0)), (q_71, .inr (9, [.ref q_77, .ref q_78, .int 0])), (q_77, .inl (cI, 96, .inl z0)), (q_78, .inl (cI, 12, .inl z0)), (q_79, .inr (2, [.ref q_82, .int 0, .int (-1), .ref q_83, .int 0, .int 0, .int 0, .int 0, .int 0, .int 0])), (q_82, .inr (7, [.ref q_84, .int 0, .ref q_85, .ref q_86, .ref q_87, .ref q_88, .int 0, .ref q_89, .ref q_90, .ref q_91, .ref q_92, .ref q_93, .int 0, .ref q_94, .ref q_95, .ref q_96])), (q_84, .inl (cI, 26, .inl z0)), (q_85, .inl (cI, 6, .inl z0)), (q_86, .inl (cI, 81, .inl z0)), (q_87, .inl (cI, 20, .inl z0)), (q_88, .inl (cI, 20, .inl z0)), (q_89, .inl (cI, 9, .inl z0)), (q_90, .inl (cI, 9, .inl z0)), (q_91, .inl (cI, 36, .inl z0)), (q_92, .inl (cI, 36, .inl z0)), (q_94, .inr (9, [.ref q_97, .ref q_98, .int 0])), (q_97, .inl (cI, 96, .inl z0)), (q_98, .inl (cI, 12, .inl z0)), (q_95, .inr (9, [.ref q_99, .ref q_100, .int 0])), (q_99, .inl (cI, 64, .inl z0)), (q_100, .inl (cI, 8, .inl z0)), (q_83, .inl (cI, 600, .inl z0)), (q_101, .inr (0, [.ref q_104, .ref q_105, .ref q_106, .int 0, .ref q_107, .ref q_108, .ref q_109, .int 0, .ref q_110, .int 0, .int (-1)])), (q_105, .inl (cI, 5329, .inl z0)), (q_108, .inl (cI, 511, .inl z0)), (q_107, .inl (cI, 6, .inl z0)), (q_109, .inl (cI, 6, .inl z0))] := hD
  refine lv_aload_n hx hb dX11_init_101 rfl (lv_at hl 0 rfl) ?_
  refine lv_bipush (v := 96) hx hb dX11_init_102 (by decide) ?_
  refine tk_newa (atype := .int) (ty := .int) (a0 := (96, .inl z0)) hx hb 0 (hU (.arrayClass .int) wd_12) rfl (fun _ => Iff.rfl) hK rfl hP hD hS hA (fun _ => rfl) (by decide) (by decide) (Nat.le_of_ble_eq_true rfl) (Nat.le_of_ble_eq_true rfl) (Nat.le_of_ble_eq_true rfl) dX11_init_104 (fun q_111 H hP hD hS => ?_)
  have hP : va_P (dC, dI) vwCl [(a0, .inr (11, [.ref q_1, .int 0, .ref q_2, .ref q_5, .ref q_6, .ref q_33, .ref q_46, .ref q_66, .int 0, .ref q_79, .ref q_101, .null, .int 0, .int 0, .null, .int 0, .null, .null, .int 0])), (q_1, .inl (cI, 600, .inl z0)), (q_2, .inr (3, [.ref q_5, .ref q_6, .ref q_7, .ref q_8, .ref q_9, .int 0, .int 0, .int 0, .int 0, .int 0, .int 0, .int (-1), .ref q_10, .ref q_11, .ref q_12, .int 0, .ref q_13, .ref q_14])), (q_5, .inr (7, [.ref q_15, .int 0, .ref q_16, .ref q_17, .ref q_18, .ref q_19, .int 0, .ref q_20, .ref q_21, .ref q_22, .ref q_23, .ref q_24, .int 0, .ref q_25, .ref q_26, .ref q_27])), (q_15, .inl (cI, 26, .inl z0)), (q_16, .inl (cI, 6, .inl z0)), (q_17, .inl (cI, 81, .inl z0)), (q_18, .inl (cI, 20, .inl z0)), (q_19, .inl (cI, 20, .inl z0)), (q_20, .inl (cI, 9, .inl z0)), (q_21, .inl (cI, 9, .inl z0)), (q_22, .inl (cI, 36, .inl z0)), (q_23, .inl (cI, 36, .inl z0)), (q_25, .inr (9, [.ref q_28, .ref q_29, .int 0])), (q_28, .inl (cI, 96, .inl z0)), (q_29, .inl (cI, 12, .inl z0)), (q_26, .inr (9, [.ref q_30, .ref q_31, .int 0])), (q_30, .inl (cI, 64, .inl z0)), (q_31, .inl (cI, 8, .inl z0)), (q_6, .inr (10, [.ref q_32, .int 0, .int 0])), (q_14, .inl (cI, 256, .inl z0)), (q_33, .inr (6, [.int 0, .int 1, .ref q_36, .ref q_37, .ref q_38, .int 0, .ref q_39, .ref q_40, .ref q_41])), (q_36, .inl (cI, 8, .inl z0)), (q_37, .inr (9, [.ref q_42, .ref q_43, .int 0])), (q_42, .inl (cI, 96, .inl z0)), (q_43, .inl (cI, 12, .inl z0)), (q_38, .inr (9, [.ref q_44, .ref q_45, .int 0])), (q_44, .inl (cI, 96, .inl z0)), (q_45, .inl (cI, 12, .inl z0)), (q_46, .inr (7, [.ref q_49, .int 0, .ref q_50, .ref q_51, .ref q_52, .ref q_53, .int 0, .ref q_54, .ref q_55, .ref q_56, .ref q_57, .ref q_58, .int 0, .ref q_59, .ref q_60, .ref q_61])), (q_49, .inl (cI, 26, .inl z0)), (q_50, .inl (cI, 6, .inl z0)), (q_51, .inl (cI, 81, .inl z0)), (q_52, .inl (cI, 20, .inl z0)), (q_53, .inl (cI, 20, .inl z0)), (q_54, .inl (cI, 9, .inl z0)), (q_55, .inl (cI, 9, .inl z0)), (q_56, .inl (cI, 36, .inl z0)), (q_57, .inl (cI, 36, .inl z0)), (q_59, .inr (9, [.ref q_62, .ref q_63, .int 0])), (q_62, .inl (cI, 96, .inl z0)), (q_63, .inl (cI, 12, .inl z0)), (q_60, .inr (9, [.ref q_64, .ref q_65, .int 0])), (q_64, .inl (cI, 64, .inl z0)), (q_65, .inl (cI, 8, .inl z0)), (q_66, .inr (6, [.int 0, .int 1, .ref q_69, .ref q_70, .ref q_71, .int 0, .ref q_72, .ref q_73, .ref q_74])), (q_69, .inl (cI, 8, .inl z0)), (q_70, .inr (9, [.ref q_75, .ref q_76, .int 0])), (q_75, .inl (cI, 96, .inl z0)), (q_76, .inl (cI, 12, .inl z0)), (q_71, .inr (9, [.ref q_77, .ref q_78, .int 0])), (q_77, .inl (cI, 96, .inl z0)), (q_78, .inl (cI, 12, .inl z0)), (q_79, .inr (2, [.ref q_82, .int 0, .int (-1), .ref q_83, .int 0, .int 0, .int 0, .int 0, .int 0, .int 0])), (q_82, .inr (7, [.ref q_84, .int 0, .ref q_85, .ref q_86, .ref q_87, .ref q_88, .int 0, .ref q_89, .ref q_90, .ref q_91, .ref q_92, .ref q_93, .int 0, .ref q_94, .ref q_95, .ref q_96])), (q_84, .inl (cI, 26, .inl z0)), (q_85, .inl (cI, 6, .inl z0)), (q_86, .inl (cI, 81, .inl z0)), (q_87, .inl (cI, 20, .inl z0)), (q_88, .inl (cI, 20, .inl z0)), (q_89, .inl (cI, 9, .inl z0)), (q_90, .inl (cI, 9, .inl z0)), (q_91, .inl (cI, 36, .inl z0)), (q_92, .inl (cI, 36, .inl z0)), (q_94, .inr (9, [.ref q_97, .ref q_98, .int 0])), (q_97, .inl (cI, 96, .inl z0)), (q_98, .inl (cI, 12, .inl z0)), (q_95, .inr (9, [.ref q_99, .ref q_100, .int 0])), (q_99, .inl (cI, 64, .inl z0)), (q_100, .inl (cI, 8, .inl z0)), (q_83, .inl (cI, 600, .inl z0)), (q_101, .inr (0, [.ref q_104, .ref q_105, .ref q_106, .int 0, .ref q_107, .ref q_108, .ref q_109, .int 0, .ref q_110, .int 0, .int (-1)])), (q_105, .inl (cI, 5329, .inl z0)), (q_108, .inl (cI, 511, .inl z0)), (q_107, .inl (cI, 6, .inl z0)), (q_109, .inl (cI, 6, .inl z0)), (q_111, .inl (cI, 96, .inl z0))] H := hP
  have hD : va_D A [(a0, .inr (11, [.ref q_1, .int 0, .ref q_2, .ref q_5, .ref q_6, .ref q_33, .ref q_46, .ref q_66, .int 0, .ref q_79, .ref q_101, .null, .int 0, .int 0, .null, .int 0, .null, .null, .int 0])), (q_1, .inl (cI, 600, .inl z0)), (q_2, .inr (3, [.ref q_5, .ref q_6, .ref q_7, .ref q_8, .ref q_9, .int 0, .int 0, .int 0, .int 0, .int 0, .int 0, .int (-1), .ref q_10, .ref q_11, .ref q_12, .int 0, .ref q_13, .ref q_14])), (q_5, .inr (7, [.ref q_15, .int 0, .ref q_16, .ref q_17, .ref q_18, .ref q_19, .int 0, .ref q_20, .ref q_21, .ref q_22, .ref q_23, .ref q_24, .int 0, .ref q_25, .ref q_26, .ref q_27])), (q_15, .inl (cI, 26, .inl z0)), (q_16, .inl (cI, 6, .inl z0)), (q_17, .inl (cI, 81, .inl z0)), (q_18, .inl (cI, 20, .inl z0)), (q_19, .inl (cI, 20, .inl z0)), (q_20, .inl (cI, 9, .inl z0)), (q_21, .inl (cI, 9, .inl z0)), (q_22, .inl (cI, 36, .inl z0)), (q_23, .inl (cI, 36, .inl z0)), (q_25, .inr (9, [.ref q_28, .ref q_29, .int 0])), (q_28, .inl (cI, 96, .inl z0)), (q_29, .inl (cI, 12, .inl z0)), (q_26, .inr (9, [.ref q_30, .ref q_31, .int 0])), (q_30, .inl (cI, 64, .inl z0)), (q_31, .inl (cI, 8, .inl z0)), (q_6, .inr (10, [.ref q_32, .int 0, .int 0])), (q_14, .inl (cI, 256, .inl z0)), (q_33, .inr (6, [.int 0, .int 1, .ref q_36, .ref q_37, .ref q_38, .int 0, .ref q_39, .ref q_40, .ref q_41])), (q_36, .inl (cI, 8, .inl z0)), (q_37, .inr (9, [.ref q_42, .ref q_43, .int 0])), (q_42, .inl (cI, 96, .inl z0)), (q_43, .inl (cI, 12, .inl z0)), (q_38, .inr (9, [.ref q_44, .ref q_45, .int 0])), (q_44, .inl (cI, 96, .inl z0)), (q_45, .inl (cI, 12, .inl z0)), (q_46, .inr (7, [.ref q_49, .int 0, .ref q_50, .ref q_51, .ref q_52, .ref q_53, .int 0, .ref q_54, .ref q_55, .ref q_56, .ref q_57, .ref q_58, .int 0, .ref q_59, .ref q_60, .ref q_61])), (q_49, .inl (cI, 26, .inl z0)), (q_50, .inl (cI, 6, .inl z0)), (q_51, .inl (cI, 81, .inl z0)), (q_52, .inl (cI, 20, .inl z0)), (q_53, .inl (cI, 20, .inl z0)), (q_54, .inl (cI, 9, .inl z0)), (q_55, .inl (cI, 9, .inl z0)), (q_56, .inl (cI, 36, .inl z0)), (q_57, .inl (cI, 36, .inl z0)), (q_59, .inr (9, [.ref q_62, .ref q_63, .int 0])), (q_62, .inl (cI, 96, .inl z0)), (q_63, .inl (cI, 12, .inl z0)), (q_60, .inr (9, [.ref q_64, .ref q_65, .int 0])), (q_64, .inl (cI, 64, .inl z0)), (q_65, .inl (cI, 8, .inl z0)), (q_66, .inr (6, [.int 0, .int 1, .ref q_69, .ref q_70, .ref q_71, .int 0, .ref q_72, .ref q_73, .ref q_74])), (q_69, .inl (cI, 8, .inl z0)), (q_70, .inr (9, [.ref q_75, .ref q_76, .int 0])), (q_75, .inl (cI, 96, .inl z0)), (q_76, .inl (cI, 12, .inl z0)), (q_71, .inr (9, [.ref q_77, .ref q_78, .int 0])), (q_77, .inl (cI, 96, .inl z0)), (q_78, .inl (cI, 12, .inl z0)), (q_79, .inr (2, [.ref q_82, .int 0, .int (-1), .ref q_83, .int 0, .int 0, .int 0, .int 0, .int 0, .int 0])), (q_82, .inr (7, [.ref q_84, .int 0, .ref q_85, .ref q_86, .ref q_87, .ref q_88, .int 0, .ref q_89, .ref q_90, .ref q_91, .ref q_92, .ref q_93, .int 0, .ref q_94, .ref q_95, .ref q_96])), (q_84, .inl (cI, 26, .inl z0)), (q_85, .inl (cI, 6, .inl z0)), (q_86, .inl (cI, 81, .inl z0)), (q_87, .inl (cI, 20, .inl z0)), (q_88, .inl (cI, 20, .inl z0)), (q_89, .inl (cI, 9, .inl z0)), (q_90, .inl (cI, 9, .inl z0)), (q_91, .inl (cI, 36, .inl z0)), (q_92, .inl (cI, 36, .inl z0)), (q_94, .inr (9, [.ref q_97, .ref q_98, .int 0])), (q_97, .inl (cI, 96, .inl z0)), (q_98, .inl (cI, 12, .inl z0)), (q_95, .inr (9, [.ref q_99, .ref q_100, .int 0])), (q_99, .inl (cI, 64, .inl z0)), (q_100, .inl (cI, 8, .inl z0)), (q_83, .inl (cI, 600, .inl z0)), (q_101, .inr (0, [.ref q_104, .ref q_105, .ref q_106, .int 0, .ref q_107, .ref q_108, .ref q_109, .int 0, .ref q_110, .int 0, .int (-1)])), (q_105, .inl (cI, 5329, .inl z0)), (q_108, .inl (cI, 511, .inl z0)), (q_107, .inl (cI, 6, .inl z0)), (q_109, .inl (cI, 6, .inl z0)), (q_111, .inl (cI, 96, .inl z0))] := hD
  refine W.widen (k := 371) (n := 60907) (Nat.le_of_ble_eq_true rfl) (Nat.le_of_ble_eq_true rfl) ?_
  refine va_putF (D := (dC, dI)) (ci := 11) (v := .ref q_111) (ty := .array .int) (C := RX11) (T := TX11) (N := 19) hx hb hU inlX11 tyX11 tyX11_ok nmX11 hown hK hP hD hS 0 rfl rfl 11 (by decide) (hU _ wd_39) (fun _ h9 => h9) rfl hin rfl (by decide +kernel) rfl rfl (Nat.le_of_ble_eq_true rfl) dX11_init_106 (fun H locs hP hD hS => ?_)
  have hP : va_P (dC, dI) vwCl [(a0, .inr (11, [.ref q_1, .int 0, .ref q_2, .ref q_5, .ref q_6, .ref q_33, .ref q_46, .ref q_66, .int 0, .ref q_79, .ref q_101, .ref q_111, .int 0, .int 0, .null, .int 0, .null, .null, .int 0])), (q_1, .inl (cI, 600, .inl z0)), (q_2, .inr (3, [.ref q_5, .ref q_6, .ref q_7, .ref q_8, .ref q_9, .int 0, .int 0, .int 0, .int 0, .int 0, .int 0, .int (-1), .ref q_10, .ref q_11, .ref q_12, .int 0, .ref q_13, .ref q_14])), (q_5, .inr (7, [.ref q_15, .int 0, .ref q_16, .ref q_17, .ref q_18, .ref q_19, .int 0, .ref q_20, .ref q_21, .ref q_22, .ref q_23, .ref q_24, .int 0, .ref q_25, .ref q_26, .ref q_27])), (q_15, .inl (cI, 26, .inl z0)), (q_16, .inl (cI, 6, .inl z0)), (q_17, .inl (cI, 81, .inl z0)), (q_18, .inl (cI, 20, .inl z0)), (q_19, .inl (cI, 20, .inl z0)), (q_20, .inl (cI, 9, .inl z0)), (q_21, .inl (cI, 9, .inl z0)), (q_22, .inl (cI, 36, .inl z0)), (q_23, .inl (cI, 36, .inl z0)), (q_25, .inr (9, [.ref q_28, .ref q_29, .int 0])), (q_28, .inl (cI, 96, .inl z0)), (q_29, .inl (cI, 12, .inl z0)), (q_26, .inr (9, [.ref q_30, .ref q_31, .int 0])), (q_30, .inl (cI, 64, .inl z0)), (q_31, .inl (cI, 8, .inl z0)), (q_6, .inr (10, [.ref q_32, .int 0, .int 0])), (q_14, .inl (cI, 256, .inl z0)), (q_33, .inr (6, [.int 0, .int 1, .ref q_36, .ref q_37, .ref q_38, .int 0, .ref q_39, .ref q_40, .ref q_41])), (q_36, .inl (cI, 8, .inl z0)), (q_37, .inr (9, [.ref q_42, .ref q_43, .int 0])), (q_42, .inl (cI, 96, .inl z0)), (q_43, .inl (cI, 12, .inl z0)), (q_38, .inr (9, [.ref q_44, .ref q_45, .int 0])), (q_44, .inl (cI, 96, .inl z0)), (q_45, .inl (cI, 12, .inl z0)), (q_46, .inr (7, [.ref q_49, .int 0, .ref q_50, .ref q_51, .ref q_52, .ref q_53, .int 0, .ref q_54, .ref q_55, .ref q_56, .ref q_57, .ref q_58, .int 0, .ref q_59, .ref q_60, .ref q_61])), (q_49, .inl (cI, 26, .inl z0)), (q_50, .inl (cI, 6, .inl z0)), (q_51, .inl (cI, 81, .inl z0)), (q_52, .inl (cI, 20, .inl z0)), (q_53, .inl (cI, 20, .inl z0)), (q_54, .inl (cI, 9, .inl z0)), (q_55, .inl (cI, 9, .inl z0)), (q_56, .inl (cI, 36, .inl z0)), (q_57, .inl (cI, 36, .inl z0)), (q_59, .inr (9, [.ref q_62, .ref q_63, .int 0])), (q_62, .inl (cI, 96, .inl z0)), (q_63, .inl (cI, 12, .inl z0)), (q_60, .inr (9, [.ref q_64, .ref q_65, .int 0])), (q_64, .inl (cI, 64, .inl z0)), (q_65, .inl (cI, 8, .inl z0)), (q_66, .inr (6, [.int 0, .int 1, .ref q_69, .ref q_70, .ref q_71, .int 0, .ref q_72, .ref q_73, .ref q_74])), (q_69, .inl (cI, 8, .inl z0)), (q_70, .inr (9, [.ref q_75, .ref q_76, .int 0])), (q_75, .inl (cI, 96, .inl z0)), (q_76, .inl (cI, 12, .inl z0)), (q_71, .inr (9, [.ref q_77, .ref q_78, .int 0])), (q_77, .inl (cI, 96, .inl z0)), (q_78, .inl (cI, 12, .inl z0)), (q_79, .inr (2, [.ref q_82, .int 0, .int (-1), .ref q_83, .int 0, .int 0, .int 0, .int 0, .int 0, .int 0])), (q_82, .inr (7, [.ref q_84, .int 0, .ref q_85, .ref q_86, .ref q_87, .ref q_88, .int 0, .ref q_89, .ref q_90, .ref q_91, .ref q_92, .ref q_93, .int 0, .ref q_94, .ref q_95, .ref q_96])), (q_84, .inl (cI, 26, .inl z0)), (q_85, .inl (cI, 6, .inl z0)), (q_86, .inl (cI, 81, .inl z0)), (q_87, .inl (cI, 20, .inl z0)), (q_88, .inl (cI, 20, .inl z0)), (q_89, .inl (cI, 9, .inl z0)), (q_90, .inl (cI, 9, .inl z0)), (q_91, .inl (cI, 36, .inl z0)), (q_92, .inl (cI, 36, .inl z0)), (q_94, .inr (9, [.ref q_97, .ref q_98, .int 0])), (q_97, .inl (cI, 96, .inl z0)), (q_98, .inl (cI, 12, .inl z0)), (q_95, .inr (9, [.ref q_99, .ref q_100, .int 0])), (q_99, .inl (cI, 64, .inl z0)), (q_100, .inl (cI, 8, .inl z0)), (q_83, .inl (cI, 600, .inl z0)), (q_101, .inr (0, [.ref q_104, .ref q_105, .ref q_106, .int 0, .ref q_107, .ref q_108, .ref q_109, .int 0, .ref q_110, .int 0, .int (-1)])), (q_105, .inl (cI, 5329, .inl z0)), (q_108, .inl (cI, 511, .inl z0)), (q_107, .inl (cI, 6, .inl z0)), (q_109, .inl (cI, 6, .inl z0)), (q_111, .inl (cI, 96, .inl z0))] H := hP
  have hD : va_D A [(a0, .inr (11, [.ref q_1, .int 0, .ref q_2, .ref q_5, .ref q_6, .ref q_33, .ref q_46, .ref q_66, .int 0, .ref q_79, .ref q_101, .ref q_111, .int 0, .int 0, .null, .int 0, .null, .null, .int 0])), (q_1, .inl (cI, 600, .inl z0)), (q_2, .inr (3, [.ref q_5, .ref q_6, .ref q_7, .ref q_8, .ref q_9, .int 0, .int 0, .int 0, .int 0, .int 0, .int 0, .int (-1), .ref q_10, .ref q_11, .ref q_12, .int 0, .ref q_13, .ref q_14])), (q_5, .inr (7, [.ref q_15, .int 0, .ref q_16, .ref q_17, .ref q_18, .ref q_19, .int 0, .ref q_20, .ref q_21, .ref q_22, .ref q_23, .ref q_24, .int 0, .ref q_25, .ref q_26, .ref q_27])), (q_15, .inl (cI, 26, .inl z0)), (q_16, .inl (cI, 6, .inl z0)), (q_17, .inl (cI, 81, .inl z0)), (q_18, .inl (cI, 20, .inl z0)), (q_19, .inl (cI, 20, .inl z0)), (q_20, .inl (cI, 9, .inl z0)), (q_21, .inl (cI, 9, .inl z0)), (q_22, .inl (cI, 36, .inl z0)), (q_23, .inl (cI, 36, .inl z0)), (q_25, .inr (9, [.ref q_28, .ref q_29, .int 0])), (q_28, .inl (cI, 96, .inl z0)), (q_29, .inl (cI, 12, .inl z0)), (q_26, .inr (9, [.ref q_30, .ref q_31, .int 0])), (q_30, .inl (cI, 64, .inl z0)), (q_31, .inl (cI, 8, .inl z0)), (q_6, .inr (10, [.ref q_32, .int 0, .int 0])), (q_14, .inl (cI, 256, .inl z0)), (q_33, .inr (6, [.int 0, .int 1, .ref q_36, .ref q_37, .ref q_38, .int 0, .ref q_39, .ref q_40, .ref q_41])), (q_36, .inl (cI, 8, .inl z0)), (q_37, .inr (9, [.ref q_42, .ref q_43, .int 0])), (q_42, .inl (cI, 96, .inl z0)), (q_43, .inl (cI, 12, .inl z0)), (q_38, .inr (9, [.ref q_44, .ref q_45, .int 0])), (q_44, .inl (cI, 96, .inl z0)), (q_45, .inl (cI, 12, .inl z0)), (q_46, .inr (7, [.ref q_49, .int 0, .ref q_50, .ref q_51, .ref q_52, .ref q_53, .int 0, .ref q_54, .ref q_55, .ref q_56, .ref q_57, .ref q_58, .int 0, .ref q_59, .ref q_60, .ref q_61])), (q_49, .inl (cI, 26, .inl z0)), (q_50, .inl (cI, 6, .inl z0)), (q_51, .inl (cI, 81, .inl z0)), (q_52, .inl (cI, 20, .inl z0)), (q_53, .inl (cI, 20, .inl z0)), (q_54, .inl (cI, 9, .inl z0)), (q_55, .inl (cI, 9, .inl z0)), (q_56, .inl (cI, 36, .inl z0)), (q_57, .inl (cI, 36, .inl z0)), (q_59, .inr (9, [.ref q_62, .ref q_63, .int 0])), (q_62, .inl (cI, 96, .inl z0)), (q_63, .inl (cI, 12, .inl z0)), (q_60, .inr (9, [.ref q_64, .ref q_65, .int 0])), (q_64, .inl (cI, 64, .inl z0)), (q_65, .inl (cI, 8, .inl z0)), (q_66, .inr (6, [.int 0, .int 1, .ref q_69, .ref q_70, .ref q_71, .int 0, .ref q_72, .ref q_73, .ref q_74])), (q_69, .inl (cI, 8, .inl z0)), (q_70, .inr (9, [.ref q_75, .ref q_76, .int 0])), (q_75, .inl (cI, 96, .inl z0)), (q_76, .inl (cI, 12, .inl z0)), (q_71, .inr (9, [.ref q_77, .ref q_78, .int 0])), (q_77, .inl (cI, 96, .inl z0)), (q_78, .inl (cI, 12, .inl z0)), (q_79, .inr (2, [.ref q_82, .int 0, .int (-1), .ref q_83, .int 0, .int 0, .int 0, .int 0, .int 0, .int 0])), (q_82, .inr (7, [.ref q_84, .int 0, .ref q_85, .ref q_86, .ref q_87, .ref q_88, .int 0, .ref q_89, .ref q_90, .ref q_91, .ref q_92, .ref q_93, .int 0, .ref q_94, .ref q_95, .ref q_96])), (q_84, .inl (cI, 26, .inl z0)), (q_85, .inl (cI, 6, .inl z0)), (q_86, .inl (cI, 81, .inl z0)), (q_87, .inl (cI, 20, .inl z0)), (q_88, .inl (cI, 20, .inl z0)), (q_89, .inl (cI, 9, .inl z0)), (q_90, .inl (cI, 9, .inl z0)), (q_91, .inl (cI, 36, .inl z0)), (q_92, .inl (cI, 36, .inl z0)), (q_94, .inr (9, [.ref q_97, .ref q_98, .int 0])), (q_97, .inl (cI, 96, .inl z0)), (q_98, .inl (cI, 12, .inl z0)), (q_95, .inr (9, [.ref q_99, .ref q_100, .int 0])), (q_99, .inl (cI, 64, .inl z0)), (q_100, .inl (cI, 8, .inl z0)), (q_83, .inl (cI, 600, .inl z0)), (q_101, .inr (0, [.ref q_104, .ref q_105, .ref q_106, .int 0, .ref q_107, .ref q_108, .ref q_109, .int 0, .ref q_110, .int 0, .int (-1)])), (q_105, .inl (cI, 5329, .inl z0)), (q_108, .inl (cI, 511, .inl z0)), (q_107, .inl (cI, 6, .inl z0)), (q_109, .inl (cI, 6, .inl z0)), (q_111, .inl (cI, 96, .inl z0))] := hD
  refine lv_aload_n hx hb dX11_init_109 rfl (lv_at hl 0 rfl) ?_
  refine lv_iconst (v := (-1)) hx hb dX11_init_110 (by decide) ?_
  refine va_put (D := (dC, dI)) (ci := 11) (v := .int (-1)) (ty := .int) (C := RX11) (T := TX11) (N := 19) hx hb hU inlX11 tyX11 tyX11_ok nmX11 hown hK hP hD hS 0 rfl rfl 13 (by decide) (hU _ wd_40) (fun _ h9 => h9) rfl (by decide +kernel) rfl rfl (Nat.le_of_ble_eq_true rfl) dX11_init_111 (fun H locs hP hD hS => ?_)
  have hP : va_P (dC, dI) vwCl [(a0, .inr (11, [.ref q_1, .int 0, .ref q_2, .ref q_5, .ref q_6, .ref q_33, .ref q_46, .ref q_66, .int 0, .ref q_79, .ref q_101, .ref q_111, .int 0, .int (-1), .null, .int 0, .null, .null, .int 0])), (q_1, .inl (cI, 600, .inl z0)), (q_2, .inr (3, [.ref q_5, .ref q_6, .ref q_7, .ref q_8, .ref q_9, .int 0, .int 0, .int 0, .int 0, .int 0, .int 0, .int (-1), .ref q_10, .ref q_11, .ref q_12, .int 0, .ref q_13, .ref q_14])), (q_5, .inr (7, [.ref q_15, .int 0, .ref q_16, .ref q_17, .ref q_18, .ref q_19, .int 0, .ref q_20, .ref q_21, .ref q_22, .ref q_23, .ref q_24, .int 0, .ref q_25, .ref q_26, .ref q_27])), (q_15, .inl (cI, 26, .inl z0)), (q_16, .inl (cI, 6, .inl z0)), (q_17, .inl (cI, 81, .inl z0)), (q_18, .inl (cI, 20, .inl z0)), (q_19, .inl (cI, 20, .inl z0)), (q_20, .inl (cI, 9, .inl z0)), (q_21, .inl (cI, 9, .inl z0)), (q_22, .inl (cI, 36, .inl z0)), (q_23, .inl (cI, 36, .inl z0)), (q_25, .inr (9, [.ref q_28, .ref q_29, .int 0])), (q_28, .inl (cI, 96, .inl z0)), (q_29, .inl (cI, 12, .inl z0)), (q_26, .inr (9, [.ref q_30, .ref q_31, .int 0])), (q_30, .inl (cI, 64, .inl z0)), (q_31, .inl (cI, 8, .inl z0)), (q_6, .inr (10, [.ref q_32, .int 0, .int 0])), (q_14, .inl (cI, 256, .inl z0)), (q_33, .inr (6, [.int 0, .int 1, .ref q_36, .ref q_37, .ref q_38, .int 0, .ref q_39, .ref q_40, .ref q_41])), (q_36, .inl (cI, 8, .inl z0)), (q_37, .inr (9, [.ref q_42, .ref q_43, .int 0])), (q_42, .inl (cI, 96, .inl z0)), (q_43, .inl (cI, 12, .inl z0)), (q_38, .inr (9, [.ref q_44, .ref q_45, .int 0])), (q_44, .inl (cI, 96, .inl z0)), (q_45, .inl (cI, 12, .inl z0)), (q_46, .inr (7, [.ref q_49, .int 0, .ref q_50, .ref q_51, .ref q_52, .ref q_53, .int 0, .ref q_54, .ref q_55, .ref q_56, .ref q_57, .ref q_58, .int 0, .ref q_59, .ref q_60, .ref q_61])), (q_49, .inl (cI, 26, .inl z0)), (q_50, .inl (cI, 6, .inl z0)), (q_51, .inl (cI, 81, .inl z0)), (q_52, .inl (cI, 20, .inl z0)), (q_53, .inl (cI, 20, .inl z0)), (q_54, .inl (cI, 9, .inl z0)), (q_55, .inl (cI, 9, .inl z0)), (q_56, .inl (cI, 36, .inl z0)), (q_57, .inl (cI, 36, .inl z0)), (q_59, .inr (9, [.ref q_62, .ref q_63, .int 0])), (q_62, .inl (cI, 96, .inl z0)), (q_63, .inl (cI, 12, .inl z0)), (q_60, .inr (9, [.ref q_64, .ref q_65, .int 0])), (q_64, .inl (cI, 64, .inl z0)), (q_65, .inl (cI, 8, .inl z0)), (q_66, .inr (6, [.int 0, .int 1, .ref q_69, .ref q_70, .ref q_71, .int 0, .ref q_72, .ref q_73, .ref q_74])), (q_69, .inl (cI, 8, .inl z0)), (q_70, .inr (9, [.ref q_75, .ref q_76, .int 0])), (q_75, .inl (cI, 96, .inl z0)), (q_76, .inl (cI, 12, .inl z0)), (q_71, .inr (9, [.ref q_77, .ref q_78, .int 0])), (q_77, .inl (cI, 96, .inl z0)), (q_78, .inl (cI, 12, .inl z0)), (q_79, .inr (2, [.ref q_82, .int 0, .int (-1), .ref q_83, .int 0, .int 0, .int 0, .int 0, .int 0, .int 0])), (q_82, .inr (7, [.ref q_84, .int 0, .ref q_85, .ref q_86, .ref q_87, .ref q_88, .int 0, .ref q_89, .ref q_90, .ref q_91, .ref q_92, .ref q_93, .int 0, .ref q_94, .ref q_95, .ref q_96])), (q_84, .inl (cI, 26, .inl z0)), (q_85, .inl (cI, 6, .inl z0)), (q_86, .inl (cI, 81, .inl z0)), (q_87, .inl (cI, 20, .inl z0)), (q_88, .inl (cI, 20, .inl z0)), (q_89, .inl (cI, 9, .inl z0)), (q_90, .inl (cI, 9, .inl z0)), (q_91, .inl (cI, 36, .inl z0)), (q_92, .inl (cI, 36, .inl z0)), (q_94, .inr (9, [.ref q_97, .ref q_98, .int 0])), (q_97, .inl (cI, 96, .inl z0)), (q_98, .inl (cI, 12, .inl z0)), (q_95, .inr (9, [.ref q_99, .ref q_100, .int 0])), (q_99, .inl (cI, 64, .inl z0)), (q_100, .inl (cI, 8, .inl z0)), (q_83, .inl (cI, 600, .inl z0)), (q_101, .inr (0, [.ref q_104, .ref q_105, .ref q_106, .int 0, .ref q_107, .ref q_108, .ref q_109, .int 0, .ref q_110, .int 0, .int (-1)])), (q_105, .inl (cI, 5329, .inl z0)), (q_108, .inl (cI, 511, .inl z0)), (q_107, .inl (cI, 6, .inl z0)), (q_109, .inl (cI, 6, .inl z0)), (q_111, .inl (cI, 96, .inl z0))] H := hP
  have hD : va_D A [(a0, .inr (11, [.ref q_1, .int 0, .ref q_2, .ref q_5, .ref q_6, .ref q_33, .ref q_46, .ref q_66, .int 0, .ref q_79, .ref q_101, .ref q_111, .int 0, .int (-1), .null, .int 0, .null, .null, .int 0])), (q_1, .inl (cI, 600, .inl z0)), (q_2, .inr (3, [.ref q_5, .ref q_6, .ref q_7, .ref q_8, .ref q_9, .int 0, .int 0, .int 0, .int 0, .int 0, .int 0, .int (-1), .ref q_10, .ref q_11, .ref q_12, .int 0, .ref q_13, .ref q_14])), (q_5, .inr (7, [.ref q_15, .int 0, .ref q_16, .ref q_17, .ref q_18, .ref q_19, .int 0, .ref q_20, .ref q_21, .ref q_22, .ref q_23, .ref q_24, .int 0, .ref q_25, .ref q_26, .ref q_27])), (q_15, .inl (cI, 26, .inl z0)), (q_16, .inl (cI, 6, .inl z0)), (q_17, .inl (cI, 81, .inl z0)), (q_18, .inl (cI, 20, .inl z0)), (q_19, .inl (cI, 20, .inl z0)), (q_20, .inl (cI, 9, .inl z0)), (q_21, .inl (cI, 9, .inl z0)), (q_22, .inl (cI, 36, .inl z0)), (q_23, .inl (cI, 36, .inl z0)), (q_25, .inr (9, [.ref q_28, .ref q_29, .int 0])), (q_28, .inl (cI, 96, .inl z0)), (q_29, .inl (cI, 12, .inl z0)), (q_26, .inr (9, [.ref q_30, .ref q_31, .int 0])), (q_30, .inl (cI, 64, .inl z0)), (q_31, .inl (cI, 8, .inl z0)), (q_6, .inr (10, [.ref q_32, .int 0, .int 0])), (q_14, .inl (cI, 256, .inl z0)), (q_33, .inr (6, [.int 0, .int 1, .ref q_36, .ref q_37, .ref q_38, .int 0, .ref q_39, .ref q_40, .ref q_41])), (q_36, .inl (cI, 8, .inl z0)), (q_37, .inr (9, [.ref q_42, .ref q_43, .int 0])), (q_42, .inl (cI, 96, .inl z0)), (q_43, .inl (cI, 12, .inl z0)), (q_38, .inr (9, [.ref q_44, .ref q_45, .int 0])), (q_44, .inl (cI, 96, .inl z0)), (q_45, .inl (cI, 12, .inl z0)), (q_46, .inr (7, [.ref q_49, .int 0, .ref q_50, .ref q_51, .ref q_52, .ref q_53, .int 0, .ref q_54, .ref q_55, .ref q_56, .ref q_57, .ref q_58, .int 0, .ref q_59, .ref q_60, .ref q_61])), (q_49, .inl (cI, 26, .inl z0)), (q_50, .inl (cI, 6, .inl z0)), (q_51, .inl (cI, 81, .inl z0)), (q_52, .inl (cI, 20, .inl z0)), (q_53, .inl (cI, 20, .inl z0)), (q_54, .inl (cI, 9, .inl z0)), (q_55, .inl (cI, 9, .inl z0)), (q_56, .inl (cI, 36, .inl z0)), (q_57, .inl (cI, 36, .inl z0)), (q_59, .inr (9, [.ref q_62, .ref q_63, .int 0])), (q_62, .inl (cI, 96, .inl z0)), (q_63, .inl (cI, 12, .inl z0)), (q_60, .inr (9, [.ref q_64, .ref q_65, .int 0])), (q_64, .inl (cI, 64, .inl z0)), (q_65, .inl (cI, 8, .inl z0)), (q_66, .inr (6, [.int 0, .int 1, .ref q_69, .ref q_70, .ref q_71, .int 0, .ref q_72, .ref q_73, .ref q_74])), (q_69, .inl (cI, 8, .inl z0)), (q_70, .inr (9, [.ref q_75, .ref q_76, .int 0])), (q_75, .inl (cI, 96, .inl z0)), (q_76, .inl (cI, 12, .inl z0)), (q_71, .inr (9, [.ref q_77, .ref q_78, .int 0])), (q_77, .inl (cI, 96, .inl z0)), (q_78, .inl (cI, 12, .inl z0)), (q_79, .inr (2, [.ref q_82, .int 0, .int (-1), .ref q_83, .int 0, .int 0, .int 0, .int 0, .int 0, .int 0])), (q_82, .inr (7, [.ref q_84, .int 0, .ref q_85, .ref q_86, .ref q_87, .ref q_88, .int 0, .ref q_89, .ref q_90, .ref q_91, .ref q_92, .ref q_93, .int 0, .ref q_94, .ref q_95, .ref q_96])), (q_84, .inl (cI, 26, .inl z0)), (q_85, .inl (cI, 6, .inl z0)), (q_86, .inl (cI, 81, .inl z0)), (q_87, .inl (cI, 20, .inl z0)), (q_88, .inl (cI, 20, .inl z0)), (q_89, .inl (cI, 9, .inl z0)), (q_90, .inl (cI, 9, .inl z0)), (q_91, .inl (cI, 36, .inl z0)), (q_92, .inl (cI, 36, .inl z0)), (q_94, .inr (9, [.ref q_97, .ref q_98, .int 0])), (q_97, .inl (cI, 96, .inl z0)), (q_98, .inl (cI, 12, .inl z0)), (q_95, .inr (9, [.ref q_99, .ref q_100, .int 0])), (q_99, .inl (cI, 64, .inl z0)), (q_100, .inl (cI, 8, .inl z0)), (q_83, .inl (cI, 600, .inl z0)), (q_101, .inr (0, [.ref q_104, .ref q_105, .ref q_106, .int 0, .ref q_107, .ref q_108, .ref q_109, .int 0, .ref q_110, .int 0, .int (-1)])), (q_105, .inl (cI, 5329, .inl z0)), (q_108, .inl (cI, 511, .inl z0)), (q_107, .inl (cI, 6, .inl z0)), (q_109, .inl (cI, 6, .inl z0)), (q_111, .inl (cI, 96, .inl z0))] := hD
  refine lv_aload_n hx hb dX11_init_114 rfl (lv_at hl 0 rfl) ?_
  refine lv_bipush (v := 8) hx hb dX11_init_115 (by decide) ?_
  refine tk_newa (atype := .int) (ty := .int) (a0 := (8, .inl z0)) hx hb 0 (hU (.arrayClass .int) wd_12) rfl (fun _ => Iff.rfl) hK rfl hP hD hS hA (fun _ => rfl) (by decide) (by decide) (Nat.le_of_ble_eq_true rfl) (Nat.le_of_ble_eq_true rfl) (Nat.le_of_ble_eq_true rfl) dX11_init_117 (fun q_112 H hP hD hS => ?_)
  have hP : va_P (dC, dI) vwCl [(a0, .inr (11, [.ref q_1, .int 0, .ref q_2, .ref q_5, .ref q_6, .ref q_33, .ref q_46, .ref q_66, .int 0, .ref q_79, .ref q_101, .ref q_111, .int 0, .int (-1), .null, .int 0, .null, .null, .int 0])), (q_1, .inl (cI, 600, .inl z0)), (q_2, .inr (3, [.ref q_5, .ref q_6, .ref q_7, .ref q_8, .ref q_9, .int 0, .int 0, .int 0, .int 0, .int 0, .int 0, .int (-1), .ref q_10, .ref q_11, .ref q_12, .int 0, .ref q_13, .ref q_14])), (q_5, .inr (7, [.ref q_15, .int 0, .ref q_16, .ref q_17, .ref q_18, .ref q_19, .int 0, .ref q_20, .ref q_21, .ref q_22, .ref q_23, .ref q_24, .int 0, .ref q_25, .ref q_26, .ref q_27])), (q_15, .inl (cI, 26, .inl z0)), (q_16, .inl (cI, 6, .inl z0)), (q_17, .inl (cI, 81, .inl z0)), (q_18, .inl (cI, 20, .inl z0)), (q_19, .inl (cI, 20, .inl z0)), (q_20, .inl (cI, 9, .inl z0)), (q_21, .inl (cI, 9, .inl z0)), (q_22, .inl (cI, 36, .inl z0)), (q_23, .inl (cI, 36, .inl z0)), (q_25, .inr (9, [.ref q_28, .ref q_29, .int 0])), (q_28, .inl (cI, 96, .inl z0)), (q_29, .inl (cI, 12, .inl z0)), (q_26, .inr (9, [.ref q_30, .ref q_31, .int 0])), (q_30, .inl (cI, 64, .inl z0)), (q_31, .inl (cI, 8, .inl z0)), (q_6, .inr (10, [.ref q_32, .int 0, .int 0])), (q_14, .inl (cI, 256, .inl z0)), (q_33, .inr (6, [.int 0, .int 1, .ref q_36, .ref q_37, .ref q_38, .int 0, .ref q_39, .ref q_40, .ref q_41])), (q_36, .inl (cI, 8, .inl z0)), (q_37, .inr (9, [.ref q_42, .ref q_43, .int 0])), (q_42, .inl (cI, 96, .inl z0)), (q_43, .inl (cI, 12, .inl z0)), (q_38, .inr (9, [.ref q_44, .ref q_45, .int 0])), (q_44, .inl (cI, 96, .inl z0)), (q_45, .inl (cI, 12, .inl z0)), (q_46, .inr (7, [.ref q_49, .int 0, .ref q_50, .ref q_51, .ref q_52, .ref q_53, .int 0, .ref q_54, .ref q_55, .ref q_56, .ref q_57, .ref q_58, .int 0, .ref q_59, .ref q_60, .ref q_61])), (q_49, .inl (cI, 26, .inl z0)), (q_50, .inl (cI, 6, .inl z0)), (q_51, .inl (cI, 81, .inl z0)), (q_52, .inl (cI, 20, .inl z0)), (q_53, .inl (cI, 20, .inl z0)), (q_54, .inl (cI, 9, .inl z0)), (q_55, .inl (cI, 9, .inl z0)), (q_56, .inl (cI, 36, .inl z0)), (q_57, .inl (cI, 36, .inl z0)), (q_59, .inr (9, [.ref q_62, .ref q_63, .int 0])), (q_62, .inl (cI, 96, .inl z0)), (q_63, .inl (cI, 12, .inl z0)), (q_60, .inr (9, [.ref q_64, .ref q_65, .int 0])), (q_64, .inl (cI, 64, .inl z0)), (q_65, .inl (cI, 8, .inl z0)), (q_66, .inr (6, [.int 0, .int 1, .ref q_69, .ref q_70, .ref q_71, .int 0, .ref q_72, .ref q_73, .ref q_74])), (q_69, .inl (cI, 8, .inl z0)), (q_70, .inr (9, [.ref q_75, .ref q_76, .int 0])), (q_75, .inl (cI, 96, .inl z0)), (q_76, .inl (cI, 12, .inl z0)), (q_71, .inr (9, [.ref q_77, .ref q_78, .int 0])), (q_77, .inl (cI, 96, .inl z0)), (q_78, .inl (cI, 12, .inl z0)), (q_79, .inr (2, [.ref q_82, .int 0, .int (-1), .ref q_83, .int 0, .int 0, .int 0, .int 0, .int 0, .int 0])), (q_82, .inr (7, [.ref q_84, .int 0, .ref q_85, .ref q_86, .ref q_87, .ref q_88, .int 0, .ref q_89, .ref q_90, .ref q_91, .ref q_92, .ref q_93, .int 0, .ref q_94, .ref q_95, .ref q_96])), (q_84, .inl (cI, 26, .inl z0)), (q_85, .inl (cI, 6, .inl z0)), (q_86, .inl (cI, 81, .inl z0)), (q_87, .inl (cI, 20, .inl z0)), (q_88, .inl (cI, 20, .inl z0)), (q_89, .inl (cI, 9, .inl z0)), (q_90, .inl (cI, 9, .inl z0)), (q_91, .inl (cI, 36, .inl z0)), (q_92, .inl (cI, 36, .inl z0)), (q_94, .inr (9, [.ref q_97, .ref q_98, .int 0])), (q_97, .inl (cI, 96, .inl z0)), (q_98, .inl (cI, 12, .inl z0)), (q_95, .inr (9, [.ref q_99, .ref q_100, .int 0])), (q_99, .inl (cI, 64, .inl z0)), (q_100, .inl (cI, 8, .inl z0)), (q_83, .inl (cI, 600, .inl z0)), (q_101, .inr (0, [.ref q_104, .ref q_105, .ref q_106, .int 0, .ref q_107, .ref q_108, .ref q_109, .int 0, .ref q_110, .int 0, .int (-1)])), (q_105, .inl (cI, 5329, .inl z0)), (q_108, .inl (cI, 511, .inl z0)), (q_107, .inl (cI, 6, .inl z0)), (q_109, .inl (cI, 6, .inl z0)), (q_111, .inl (cI, 96, .inl z0)), (q_112, .inl (cI, 8, .inl z0))] H := hP
  have hD : va_D A [(a0, .inr (11, [.ref q_1, .int 0, .ref q_2, .ref q_5, .ref q_6, .ref q_33, .ref q_46, .ref q_66, .int 0, .ref q_79, .ref q_101, .ref q_111, .int 0, .int (-1), .null, .int 0, .null, .null, .int 0])), (q_1, .inl (cI, 600, .inl z0)), (q_2, .inr (3, [.ref q_5, .ref q_6, .ref q_7, .ref q_8, .ref q_9, .int 0, .int 0, .int 0, .int 0, .int 0, .int 0, .int (-1), .ref q_10, .ref q_11, .ref q_12, .int 0, .ref q_13, .ref q_14])), (q_5, .inr (7, [.ref q_15, .int 0, .ref q_16, .ref q_17, .ref q_18, .ref q_19, .int 0, .ref q_20, .ref q_21, .ref q_22, .ref q_23, .ref q_24, .int 0, .ref q_25, .ref q_26, .ref q_27])), (q_15, .inl (cI, 26, .inl z0)), (q_16, .inl (cI, 6, .inl z0)), (q_17, .inl (cI, 81, .inl z0)), (q_18, .inl (cI, 20, .inl z0)), (q_19, .inl (cI, 20, .inl z0)), (q_20, .inl (cI, 9, .inl z0)), (q_21, .inl (cI, 9, .inl z0)), (q_22, .inl (cI, 36, .inl z0)), (q_23, .inl (cI, 36, .inl z0)), (q_25, .inr (9, [.ref q_28, .ref q_29, .int 0])), (q_28, .inl (cI, 96, .inl z0)), (q_29, .inl (cI, 12, .inl z0)), (q_26, .inr (9, [.ref q_30, .ref q_31, .int 0])), (q_30, .inl (cI, 64, .inl z0)), (q_31, .inl (cI, 8, .inl z0)), (q_6, .inr (10, [.ref q_32, .int 0, .int 0])), (q_14, .inl (cI, 256, .inl z0)), (q_33, .inr (6, [.int 0, .int 1, .ref q_36, .ref q_37, .ref q_38, .int 0, .ref q_39, .ref q_40, .ref q_41])), (q_36, .inl (cI, 8, .inl z0)), (q_37, .inr (9, [.ref q_42, .ref q_43, .int 0])), (q_42, .inl (cI, 96, .inl z0)), (q_43, .inl (cI, 12, .inl z0)), (q_38, .inr (9, [.ref q_44, .ref q_45, .int 0])), (q_44, .inl (cI, 96, .inl z0)), (q_45, .inl (cI, 12, .inl z0)), (q_46, .inr (7, [.ref q_49, .int 0, .ref q_50, .ref q_51, .ref q_52, .ref q_53, .int 0, .ref q_54, .ref q_55, .ref q_56, .ref q_57, .ref q_58, .int 0, .ref q_59, .ref q_60, .ref q_61])), (q_49, .inl (cI, 26, .inl z0)), (q_50, .inl (cI, 6, .inl z0)), (q_51, .inl (cI, 81, .inl z0)), (q_52, .inl (cI, 20, .inl z0)), (q_53, .inl (cI, 20, .inl z0)), (q_54, .inl (cI, 9, .inl z0)), (q_55, .inl (cI, 9, .inl z0)), (q_56, .inl (cI, 36, .inl z0)), (q_57, .inl (cI, 36, .inl z0)), (q_59, .inr (9, [.ref q_62, .ref q_63, .int 0])), (q_62, .inl (cI, 96, .inl z0)), (q_63, .inl (cI, 12, .inl z0)), (q_60, .inr (9, [.ref q_64, .ref q_65, .int 0])), (q_64, .inl (cI, 64, .inl z0)), (q_65, .inl (cI, 8, .inl z0)), (q_66, .inr (6, [.int 0, .int 1, .ref q_69, .ref q_70, .ref q_71, .int 0, .ref q_72, .ref q_73, .ref q_74])), (q_69, .inl (cI, 8, .inl z0)), (q_70, .inr (9, [.ref q_75, .ref q_76, .int 0])), (q_75, .inl (cI, 96, .inl z0)), (q_76, .inl (cI, 12, .inl z0)), (q_71, .inr (9, [.ref q_77, .ref q_78, .int 0])), (q_77, .inl (cI, 96, .inl z0)), (q_78, .inl (cI, 12, .inl z0)), (q_79, .inr (2, [.ref q_82, .int 0, .int (-1), .ref q_83, .int 0, .int 0, .int 0, .int 0, .int 0, .int 0])), (q_82, .inr (7, [.ref q_84, .int 0, .ref q_85, .ref q_86, .ref q_87, .ref q_88, .int 0, .ref q_89, .ref q_90, .ref q_91, .ref q_92, .ref q_93, .int 0, .ref q_94, .ref q_95, .ref q_96])), (q_84, .inl (cI, 26, .inl z0)), (q_85, .inl (cI, 6, .inl z0)), (q_86, .inl (cI, 81, .inl z0)), (q_87, .inl (cI, 20, .inl z0)), (q_88, .inl (cI, 20, .inl z0)), (q_89, .inl (cI, 9, .inl z0)), (q_90, .inl (cI, 9, .inl z0)), (q_91, .inl (cI, 36, .inl z0)), (q_92, .inl (cI, 36, .inl z0)), (q_94, .inr (9, [.ref q_97, .ref q_98, .int 0])), (q_97, .inl (cI, 96, .inl z0)), (q_98, .inl (cI, 12, .inl z0)), (q_95, .inr (9, [.ref q_99, .ref q_100, .int 0])), (q_99, .inl (cI, 64, .inl z0)), (q_100, .inl (cI, 8, .inl z0)), (q_83, .inl (cI, 600, .inl z0)), (q_101, .inr (0, [.ref q_104, .ref q_105, .ref q_106, .int 0, .ref q_107, .ref q_108, .ref q_109, .int 0, .ref q_110, .int 0, .int (-1)])), (q_105, .inl (cI, 5329, .inl z0)), (q_108, .inl (cI, 511, .inl z0)), (q_107, .inl (cI, 6, .inl z0)), (q_109, .inl (cI, 6, .inl z0)), (q_111, .inl (cI, 96, .inl z0)), (q_112, .inl (cI, 8, .inl z0))] := hD
  refine W.widen (k := 372) (n := 60915) (Nat.le_of_ble_eq_true rfl) (Nat.le_of_ble_eq_true rfl) ?_
  refine va_putF (D := (dC, dI)) (ci := 11) (v := .ref q_112) (ty := .array .int) (C := RX11) (T := TX11) (N := 19) hx hb hU inlX11 tyX11 tyX11_ok nmX11 hown hK hP hD hS 0 rfl rfl 14 (by decide) (hU _ wd_41) (fun _ h9 => h9) rfl hin rfl (by decide +kernel) rfl rfl (Nat.le_of_ble_eq_true rfl) dX11_init_119 (fun H locs hP hD hS => ?_)
  have hP : va_P (dC, dI) vwCl [(a0, .inr (11, [.ref q_1, .int 0, .ref q_2, .ref q_5, .ref q_6, .ref q_33, .ref q_46, .ref q_66, .int 0, .ref q_79, .ref q_101, .ref q_111, .int 0, .int (-1), .ref q_112, .int 0, .null, .null, .int 0])), (q_1, .inl (cI, 600, .inl z0)), (q_2, .inr (3, [.ref q_5, .ref q_6, .ref q_7, .ref q_8, .ref q_9, .int 0, .int 0, .int 0, .int 0, .int 0, .int 0, .int (-1), .ref q_10, .ref q_11, .ref q_12, .int 0, .ref q_13, .ref q_14])), (q_5, .inr (7, [.ref q_15, .int 0, .ref q_16, .ref q_17, .ref q_18, .ref q_19, .int 0, .ref q_20, .ref q_21, .ref q_22, .ref q_23, .ref q_24, .int 0, .ref q_25, .ref q_26, .ref q_27])), (q_15, .inl (cI, 26, .inl z0)), (q_16, .inl (cI, 6, .inl z0)), (q_17, .inl (cI, 81, .inl z0)), (q_18, .inl (cI, 20, .inl z0)), (q_19, .inl (cI, 20, .inl z0)), (q_20, .inl (cI, 9, .inl z0)), (q_21, .inl (cI, 9, .inl z0)), (q_22, .inl (cI, 36, .inl z0)), (q_23, .inl (cI, 36, .inl z0)), (q_25, .inr (9, [.ref q_28, .ref q_29, .int 0])), (q_28, .inl (cI, 96, .inl z0)), (q_29, .inl (cI, 12, .inl z0)), (q_26, .inr (9, [.ref q_30, .ref q_31, .int 0])), (q_30, .inl (cI, 64, .inl z0)), (q_31, .inl (cI, 8, .inl z0)), (q_6, .inr (10, [.ref q_32, .int 0, .int 0])), (q_14, .inl (cI, 256, .inl z0)), (q_33, .inr (6, [.int 0, .int 1, .ref q_36, .ref q_37, .ref q_38, .int 0, .ref q_39, .ref q_40, .ref q_41])), (q_36, .inl (cI, 8, .inl z0)), (q_37, .inr (9, [.ref q_42, .ref q_43, .int 0])), (q_42, .inl (cI, 96, .inl z0)), (q_43, .inl (cI, 12, .inl z0)), (q_38, .inr (9, [.ref q_44, .ref q_45, .int 0])), (q_44, .inl (cI, 96, .inl z0)), (q_45, .inl (cI, 12, .inl z0)), (q_46, .inr (7, [.ref q_49, .int 0, .ref q_50, .ref q_51, .ref q_52, .ref q_53, .int 0, .ref q_54, .ref q_55, .ref q_56, .ref q_57, .ref q_58, .int 0, .ref q_59, .ref q_60, .ref q_61])), (q_49, .inl (cI, 26, .inl z0)), (q_50, .inl (cI, 6, .inl z0)), (q_51, .inl (cI, 81, .inl z0)), (q_52, .inl (cI, 20, .inl z0)), (q_53, .inl (cI, 20, .inl z0)), (q_54, .inl (cI, 9, .inl z0)), (q_55, .inl (cI, 9, .inl z0)), (q_56, .inl (cI, 36, .inl z0)), (q_57, .inl (cI, 36, .inl z0)), (q_59, .inr (9, [.ref q_62, .ref q_63, .int 0])), (q_62, .inl (cI, 96, .inl z0)), (q_63, .inl (cI, 12, .inl z0)), (q_60, .inr (9, [.ref q_64, .ref q_65, .int 0])), (q_64, .inl (cI, 64, .inl z0)), (q_65, .inl (cI, 8, .inl z0)), (q_66, .inr (6, [.int 0, .int 1, .ref q_69, .ref q_70, .ref q_71, .int 0, .ref q_72, .ref q_73, .ref q_74])), (q_69, .inl (cI, 8, .inl z0)), (q_70, .inr (9, [.ref q_75, .ref q_76, .int 0])), (q_75, .inl (cI, 96, .inl z0)), (q_76, .inl (cI, 12, .inl z0)), (q_71, .inr (9, [.ref q_77, .ref q_78, .int 0])), (q_77, .inl (cI, 96, .inl z0)), (q_78, .inl (cI, 12, .inl z0)), (q_79, .inr (2, [.ref q_82, .int 0, .int (-1), .ref q_83, .int 0, .int 0, .int 0, .int 0, .int 0, .int 0])), (q_82, .inr (7, [.ref q_84, .int 0, .ref q_85, .ref q_86, .ref q_87, .ref q_88, .int 0, .ref q_89, .ref q_90, .ref q_91, .ref q_92, .ref q_93, .int 0, .ref q_94, .ref q_95, .ref q_96])), (q_84, .inl (cI, 26, .inl z0)), (q_85, .inl (cI, 6, .inl z0)), (q_86, .inl (cI, 81, .inl z0)), (q_87, .inl (cI, 20, .inl z0)), (q_88, .inl (cI, 20, .inl z0)), (q_89, .inl (cI, 9, .inl z0)), (q_90, .inl (cI, 9, .inl z0)), (q_91, .inl (cI, 36, .inl z0)), (q_92, .inl (cI, 36, .inl z0)), (q_94, .inr (9, [.ref q_97, .ref q_98, .int 0])), (q_97, .inl (cI, 96, .inl z0)), (q_98, .inl (cI, 12, .inl z0)), (q_95, .inr (9, [.ref q_99, .ref q_100, .int 0])), (q_99, .inl (cI, 64, .inl z0)), (q_100, .inl (cI, 8, .inl z0)), (q_83, .inl (cI, 600, .inl z0)), (q_101, .inr (0, [.ref q_104, .ref q_105, .ref q_106, .int 0, .ref q_107, .ref q_108, .ref q_109, .int 0, .ref q_110, .int 0, .int (-1)])), (q_105, .inl (cI, 5329, .inl z0)), (q_108, .inl (cI, 511, .inl z0)), (q_107, .inl (cI, 6, .inl z0)), (q_109, .inl (cI, 6, .inl z0)), (q_111, .inl (cI, 96, .inl z0)), (q_112, .inl (cI, 8, .inl z0))] H := hP
  have hD : va_D A [(a0, .inr (11, [.ref q_1, .int 0, .ref q_2, .ref q_5, .ref q_6, .ref q_33, .ref q_46, .ref q_66, .int 0, .ref q_79, .ref q_101, .ref q_111, .int 0, .int (-1), .ref q_112, .int 0, .null, .null, .int 0])), (q_1, .inl (cI, 600, .inl z0)), (q_2, .inr (3, [.ref q_5, .ref q_6, .ref q_7, .ref q_8, .ref q_9, .int 0, .int 0, .int 0, .int 0, .int 0, .int 0, .int (-1), .ref q_10, .ref q_11, .ref q_12, .int 0, .ref q_13, .ref q_14])), (q_5, .inr (7, [.ref q_15, .int 0, .ref q_16, .ref q_17, .ref q_18, .ref q_19, .int 0, .ref q_20, .ref q_21, .ref q_22, .ref q_23, .ref q_24, .int 0, .ref q_25, .ref q_26, .ref q_27])), (q_15, .inl (cI, 26, .inl z0)), (q_16, .inl (cI, 6, .inl z0)), (q_17, .inl (cI, 81, .inl z0)), (q_18, .inl (cI, 20, .inl z0)), (q_19, .inl (cI, 20, .inl z0)), (q_20, .inl (cI, 9, .inl z0)), (q_21, .inl (cI, 9, .inl z0)), (q_22, .inl (cI, 36, .inl z0)), (q_23, .inl (cI, 36, .inl z0)), (q_25, .inr (9, [.ref q_28, .ref q_29, .int 0])), (q_28, .inl (cI, 96, .inl z0)), (q_29, .inl (cI, 12, .inl z0)), (q_26, .inr (9, [.ref q_30, .ref q_31, .int 0])), (q_30, .inl (cI, 64, .inl z0)), (q_31, .inl (cI, 8, .inl z0)), (q_6, .inr (10, [.ref q_32, .int 0, .int 0])), (q_14, .inl (cI, 256, .inl z0)), (q_33, .inr (6, [.int 0, .int 1, .ref q_36, .ref q_37, .ref q_38, .int 0, .ref q_39, .ref q_40, .ref q_41])), (q_36, .inl (cI, 8, .inl z0)), (q_37, .inr (9, [.ref q_42, .ref q_43, .int 0])), (q_42, .inl (cI, 96, .inl z0)), (q_43, .inl (cI, 12, .inl z0)), (q_38, .inr (9, [.ref q_44, .ref q_45, .int 0])), (q_44, .inl (cI, 96, .inl z0)), (q_45, .inl (cI, 12, .inl z0)), (q_46, .inr (7, [.ref q_49, .int 0, .ref q_50, .ref q_51, .ref q_52, .ref q_53, .int 0, .ref q_54, .ref q_55, .ref q_56, .ref q_57, .ref q_58, .int 0, .ref q_59, .ref q_60, .ref q_61])), (q_49, .inl (cI, 26, .inl z0)), (q_50, .inl (cI, 6, .inl z0)), (q_51, .inl (cI, 81, .inl z0)), (q_52, .inl (cI, 20, .inl z0)), (q_53, .inl (cI, 20, .inl z0)), (q_54, .inl (cI, 9, .inl z0)), (q_55, .inl (cI, 9, .inl z0)), (q_56, .inl (cI, 36, .inl z0)), (q_57, .inl (cI, 36, .inl z0)), (q_59, .inr (9, [.ref q_62, .ref q_63, .int 0])), (q_62, .inl (cI, 96, .inl z0)), (q_63, .inl (cI, 12, .inl z0)), (q_60, .inr (9, [.ref q_64, .ref q_65, .int 0])), (q_64, .inl (cI, 64, .inl z0)), (q_65, .inl (cI, 8, .inl z0)), (q_66, .inr (6, [.int 0, .int 1, .ref q_69, .ref q_70, .ref q_71, .int 0, .ref q_72, .ref q_73, .ref q_74])), (q_69, .inl (cI, 8, .inl z0)), (q_70, .inr (9, [.ref q_75, .ref q_76, .int 0])), (q_75, .inl (cI, 96, .inl z0)), (q_76, .inl (cI, 12, .inl z0)), (q_71, .inr (9, [.ref q_77, .ref q_78, .int 0])), (q_77, .inl (cI, 96, .inl z0)), (q_78, .inl (cI, 12, .inl z0)), (q_79, .inr (2, [.ref q_82, .int 0, .int (-1), .ref q_83, .int 0, .int 0, .int 0, .int 0, .int 0, .int 0])), (q_82, .inr (7, [.ref q_84, .int 0, .ref q_85, .ref q_86, .ref q_87, .ref q_88, .int 0, .ref q_89, .ref q_90, .ref q_91, .ref q_92, .ref q_93, .int 0, .ref q_94, .ref q_95, .ref q_96])), (q_84, .inl (cI, 26, .inl z0)), (q_85, .inl (cI, 6, .inl z0)), (q_86, .inl (cI, 81, .inl z0)), (q_87, .inl (cI, 20, .inl z0)), (q_88, .inl (cI, 20, .inl z0)), (q_89, .inl (cI, 9, .inl z0)), (q_90, .inl (cI, 9, .inl z0)), (q_91, .inl (cI, 36, .inl z0)), (q_92, .inl (cI, 36, .inl z0)), (q_94, .inr (9, [.ref q_97, .ref q_98, .int 0])), (q_97, .inl (cI, 96, .inl z0)), (q_98, .inl (cI, 12, .inl z0)), (q_95, .inr (9, [.ref q_99, .ref q_100, .int 0])), (q_99, .inl (cI, 64, .inl z0)), (q_100, .inl (cI, 8, .inl z0)), (q_83, .inl (cI, 600, .inl z0)), (q_101, .inr (0, [.ref q_104, .ref q_105, .ref q_106, .int 0, .ref q_107, .ref q_108, .ref q_109, .int 0, .ref q_110, .int 0, .int (-1)])), (q_105, .inl (cI, 5329, .inl z0)), (q_108, .inl (cI, 511, .inl z0)), (q_107, .inl (cI, 6, .inl z0)), (q_109, .inl (cI, 6, .inl z0)), (q_111, .inl (cI, 96, .inl z0)), (q_112, .inl (cI, 8, .inl z0))] := hD
  refine lv_aload_n hx hb dX11_init_122 rfl (lv_at hl 0 rfl) ?_
  refine lv_bipush (v := 16) hx hb dX11_init_123 (by decide) ?_
  refine tk_newa (atype := .int) (ty := .int) (a0 := (16, .inl z0)) hx hb 0 (hU (.arrayClass .int) wd_12) rfl (fun _ => Iff.rfl) hK rfl hP hD hS hA (fun _ => rfl) (by decide) (by decide) (Nat.le_of_ble_eq_true rfl) (Nat.le_of_ble_eq_true rfl) (Nat.le_of_ble_eq_true rfl) dX11_init_125 (fun q_113 H hP hD hS => ?_)
  have hP : va_P (dC, dI) vwCl [(a0, .inr (11, [.ref q_1, .int 0, .ref q_2, .ref q_5, .ref q_6, .ref q_33, .ref q_46, .ref q_66, .int 0, .ref q_79, .ref q_101, .ref q_111, .int 0, .int (-1), .ref q_112, .int 0, .null, .null, .int 0])), (q_1, .inl (cI, 600, .inl z0)), (q_2, .inr (3, [.ref q_5, .ref q_6, .ref q_7, .ref q_8, .ref q_9, .int 0, .int 0, .int 0, .int 0, .int 0, .int 0, .int (-1), .ref q_10, .ref q_11, .ref q_12, .int 0, .ref q_13, .ref q_14])), (q_5, .inr (7, [.ref q_15, .int 0, .ref q_16, .ref q_17, .ref q_18, .ref q_19, .int 0, .ref q_20, .ref q_21, .ref q_22, .ref q_23, .ref q_24, .int 0, .ref q_25, .ref q_26, .ref q_27])), (q_15, .inl (cI, 26, .inl z0)), (q_16, .inl (cI, 6, .inl z0)), (q_17, .inl (cI, 81, .inl z0)), (q_18, .inl (cI, 20, .inl z0)), (q_19, .inl (cI, 20, .inl z0)), (q_20, .inl (cI, 9, .inl z0)), (q_21, .inl (cI, 9, .inl z0)), (q_22, .inl (cI, 36, .inl z0)), (q_23, .inl (cI, 36, .inl z0)), (q_25, .inr (9, [.ref q_28, .ref q_29, .int 0])), (q_28, .inl (cI, 96, .inl z0)), (q_29, .inl (cI, 12, .inl z0)), (q_26, .inr (9, [.ref q_30, .ref q_31, .int 0])), (q_30, .inl (cI, 64, .inl z0)), (q_31, .inl (cI, 8, .inl z0)), (q_6, .inr (10, [.ref q_32, .int 0, .int 0])), (q_14, .inl (cI, 256, .inl z0)), (q_33, .inr (6, [.int 0, .int 1, .ref q_36, .ref q_37, .ref q_38, .int 0, .ref q_39, .ref q_40, .ref q_41])), (q_36, .inl (cI, 8, .inl z0)), (q_37, .inr (9, [.ref q_42, .ref q_43, .int 0])), (q_42, .inl (cI, 96, .inl z0)), (q_43, .inl (cI, 12, .inl z0)), (q_38, .inr (9, [.ref q_44, .ref q_45, .int 0])), (q_44, .inl (cI, 96, .inl z0)), (q_45, .inl (cI, 12, .inl z0)), (q_46, .inr (7, [.ref q_49, .int 0, .ref q_50, .ref q_51, .ref q_52, .ref q_53, .int 0, .ref q_54, .ref q_55, .ref q_56, .ref q_57, .ref q_58, .int 0, .ref q_59, .ref q_60, .ref q_61])), (q_49, .inl (cI, 26, .inl z0)), (q_50, .inl (cI, 6, .inl z0)), (q_51, .inl (cI, 81, .inl z0)), (q_52, .inl (cI, 20, .inl z0)), (q_53, .inl (cI, 20, .inl z0)), (q_54, .inl (cI, 9, .inl z0)), (q_55, .inl (cI, 9, .inl z0)), (q_56, .inl (cI, 36, .inl z0)), (q_57, .inl (cI, 36, .inl z0)), (q_59, .inr (9, [.ref q_62, .ref q_63, .int 0])), (q_62, .inl (cI, 96, .inl z0)), (q_63, .inl (cI, 12, .inl z0)), (q_60, .inr (9, [.ref q_64, .ref q_65, .int 0])), (q_64, .inl (cI, 64, .inl z0)), (q_65, .inl (cI, 8, .inl z0)), (q_66, .inr (6, [.int 0, .int 1, .ref q_69, .ref q_70, .ref q_71, .int 0, .ref q_72, .ref q_73, .ref q_74])), (q_69, .inl (cI, 8, .inl z0)), (q_70, .inr (9, [.ref q_75, .ref q_76, .int 0])), (q_75, .inl (cI, 96, .inl z0)), (q_76, .inl (cI, 12, .inl z0)), (q_71, .inr (9, [.ref q_77, .ref q_78, .int 0])), (q_77, .inl (cI, 96, .inl z0)), (q_78, .inl (cI, 12, .inl z0)), (q_79, .inr (2, [.ref q_82, .int 0, .int (-1), .ref q_83, .int 0, .int 0, .int 0, .int 0, .int 0, .int 0])), (q_82, .inr (7, [.ref q_84, .int 0, .ref q_85, .ref q_86, .ref q_87, .ref q_88, .int 0, .ref q_89, .ref q_90, .ref q_91, .ref q_92, .ref q_93, .int 0, .ref q_94, .ref q_95, .ref q_96])), (q_84, .inl (cI, 26, .inl z0)), (q_85, .inl (cI, 6, .inl z0)), (q_86, .inl (cI, 81, .inl z0)), (q_87, .inl (cI, 20, .inl z0)), (q_88, .inl (cI, 20, .inl z0)), (q_89, .inl (cI, 9, .inl z0)), (q_90, .inl (cI, 9, .inl z0)), (q_91, .inl (cI, 36, .inl z0)), (q_92, .inl (cI, 36, .inl z0)), (q_94, .inr (9, [.ref q_97, .ref q_98, .int 0])), (q_97, .inl (cI, 96, .inl z0)), (q_98, .inl (cI, 12, .inl z0)), (q_95, .inr (9, [.ref q_99, .ref q_100, .int 0])), (q_99, .inl (cI, 64, .inl z0)), (q_100, .inl (cI, 8, .inl z0)), (q_83, .inl (cI, 600, .inl z0)), (q_101, .inr (0, [.ref q_104, .ref q_105, .ref q_106, .int 0, .ref q_107, .ref q_108, .ref q_109, .int 0, .ref q_110, .int 0, .int (-1)])), (q_105, .inl (cI, 5329, .inl z0)), (q_108, .inl (cI, 511, .inl z0)), (q_107, .inl (cI, 6, .inl z0)), (q_109, .inl (cI, 6, .inl z0)), (q_111, .inl (cI, 96, .inl z0)), (q_112, .inl (cI, 8, .inl z0)), (q_113, .inl (cI, 16, .inl z0))] H := hP
  have hD : va_D A [(a0, .inr (11, [.ref q_1, .int 0, .ref q_2, .ref q_5, .ref q_6, .ref q_33, .ref q_46, .ref q_66, .int 0, .ref q_79, .ref q_101, .ref q_111, .int 0, .int (-1), .ref q_112, .int 0, .null, .null, .int 0])), (q_1, .inl (cI, 600, .inl z0)), (q_2, .inr (3, [.ref q_5, .ref q_6, .ref q_7, .ref q_8, .ref q_9, .int 0, .int 0, .int 0, .int 0, .int 0, .int 0, .int (-1), .ref q_10, .ref q_11, .ref q_12, .int 0, .ref q_13, .ref q_14])), (q_5, .inr (7, [.ref q_15, .int 0, .ref q_16, .ref q_17, .ref q_18, .ref q_19, .int 0, .ref q_20, .ref q_21, .ref q_22, .ref q_23, .ref q_24, .int 0, .ref q_25, .ref q_26, .ref q_27])), (q_15, .inl (cI, 26, .inl z0)), (q_16, .inl (cI, 6, .inl z0)), (q_17, .inl (cI, 81, .inl z0)), (q_18, .inl (cI, 20, .inl z0)), (q_19, .inl (cI, 20, .inl z0)), (q_20, .inl (cI, 9, .inl z0)), (q_21, .inl (cI, 9, .inl z0)), (q_22, .inl (cI, 36, .inl z0)), (q_23, .inl (cI, 36, .inl z0)), (q_25, .inr (9, [.ref q_28, .ref q_29, .int 0])), (q_28, .inl (cI, 96, .inl z0)), (q_29, .inl (cI, 12, .inl z0)), (q_26, .inr (9, [.ref q_30, .ref q_31, .int 0])), (q_30, .inl (cI, 64, .inl z0)), (q_31, .inl (cI, 8, .inl z0)), (q_6, .inr (10, [.ref q_32, .int 0, .int 0])), (q_14, .inl (cI, 256, .inl z0)), (q_33, .inr (6, [.int 0, .int 1, .ref q_36, .ref q_37, .ref q_38, .int 0, .ref q_39, .ref q_40, .ref q_41])), (q_36, .inl (cI, 8, .inl z0)), (q_37, .inr (9, [.ref q_42, .ref q_43, .int 0])), (q_42, .inl (cI, 96, .inl z0)), (q_43, .inl (cI, 12, .inl z0)), (q_38, .inr (9, [.ref q_44, .ref q_45, .int 0])), (q_44, .inl (cI, 96, .inl z0)), (q_45, .inl (cI, 12, .inl z0)), (q_46, .inr (7, [.ref q_49, .int 0, .ref q_50, .ref q_51, .ref q_52, .ref q_53, .int 0, .ref q_54, .ref q_55, .ref q_56, .ref q_57, .ref q_58, .int 0, .ref q_59, .ref q_60, .ref q_61])), (q_49, .inl (cI, 26, .inl z0)), (q_50, .inl (cI, 6, .inl z0)), (q_51, .inl (cI, 81, .inl z0)), (q_52, .inl (cI, 20, .inl z0)), (q_53, .inl (cI, 20, .inl z0)), (q_54, .inl (cI, 9, .inl z0)), (q_55, .inl (cI, 9, .inl z0)), (q_56, .inl (cI, 36, .inl z0)), (q_57, .inl (cI, 36, .inl z0)), (q_59, .inr (9, [.ref q_62, .ref q_63, .int 0])), (q_62, .inl (cI, 96, .inl z0)), (q_63, .inl (cI, 12, .inl z0)), (q_60, .inr (9, [.ref q_64, .ref q_65, .int 0])), (q_64, .inl (cI, 64, .inl z0)), (q_65, .inl (cI, 8, .inl z0)), (q_66, .inr (6, [.int 0, .int 1, .ref q_69, .ref q_70, .ref q_71, .int 0, .ref q_72, .ref q_73, .ref q_74])), (q_69, .inl (cI, 8, .inl z0)), (q_70, .inr (9, [.ref q_75, .ref q_76, .int 0])), (q_75, .inl (cI, 96, .inl z0)), (q_76, .inl (cI, 12, .inl z0)), (q_71, .inr (9, [.ref q_77, .ref q_78, .int 0])), (q_77, .inl (cI, 96, .inl z0)), (q_78, .inl (cI, 12, .inl z0)), (q_79, .inr (2, [.ref q_82, .int 0, .int (-1), .ref q_83, .int 0, .int 0, .int 0, .int 0, .int 0, .int 0])), (q_82, .inr (7, [.ref q_84, .int 0, .ref q_85, .ref q_86, .ref q_87, .ref q_88, .int 0, .ref q_89, .ref q_90, .ref q_91, .ref q_92, .ref q_93, .int 0, .ref q_94, .ref q_95, .ref q_96])), (q_84, .inl (cI, 26, .inl z0)), (q_85, .inl (cI, 6, .inl z0)), (q_86, .inl (cI, 81, .inl z0)), (q_87, .inl (cI, 20, .inl z0)), (q_88, .inl (cI, 20, .inl z0)), (q_89, .inl (cI, 9, .inl z0)), (q_90, .inl (cI, 9, .inl z0)), (q_91, .inl (cI, 36, .inl z0)), (q_92, .inl (cI, 36, .inl z0)), (q_94, .inr (9, [.ref q_97, .ref q_98, .int 0])), (q_97, .inl (cI, 96, .inl z0)), (q_98, .inl (cI, 12, .inl z0)), (q_95, .inr (9, [.ref q_99, .ref q_100, .int 0])), (q_99, .inl (cI, 64, .inl z0)), (q_100, .inl (cI, 8, .inl z0)), (q_83, .inl (cI, 600, .inl z0)), (q_101, .inr (0, [.ref q_104, .ref q_105, .ref q_106, .int 0, .ref q_107, .ref q_108, .ref q_109, .int 0, .ref q_110, .int 0, .int (-1)])), (q_105, .inl (cI, 5329, .inl z0)), (q_108, .inl (cI, 511, .inl z0)), (q_107, .inl (cI, 6, .inl z0)), (q_109, .inl (cI, 6, .inl z0)), (q_111, .inl (cI, 96, .inl z0)), (q_112, .inl (cI, 8, .inl z0)), (q_113, .inl (cI, 16, .inl z0))] := hD
  refine W.widen (k := 373) (n := 60931) (Nat.le_of_ble_eq_true rfl) (Nat.le_of_ble_eq_true rfl) ?_
  refine va_putF (D := (dC, dI)) (ci := 11) (v := .ref q_113) (ty := .array .int) (C := RX11) (T := TX11) (N := 19) hx hb hU inlX11 tyX11 tyX11_ok nmX11 hown hK hP hD hS 0 rfl rfl 16 (by decide) (hU _ wd_42) (fun _ h9 => h9) rfl hin rfl (by decide +kernel) rfl rfl (Nat.le_of_ble_eq_true rfl) dX11_init_127 (fun H locs hP hD hS => ?_)
  have hP : va_P (dC, dI) vwCl [(a0, .inr (11, [.ref q_1, .int 0, .ref q_2, .ref q_5, .ref q_6, .ref q_33, .ref q_46, .ref q_66, .int 0, .ref q_79, .ref q_101, .ref q_111, .int 0, .int (-1), .ref q_112, .int 0, .ref q_113, .null, .int 0])), (q_1, .inl (cI, 600, .inl z0)), (q_2, .inr (3, [.ref q_5, .ref q_6, .ref q_7, .ref q_8, .ref q_9, .int 0, .int 0, .int 0, .int 0, .int 0, .int 0, .int (-1), .ref q_10, .ref q_11, .ref q_12, .int 0, .ref q_13, .ref q_14])), (q_5, .inr (7, [.ref q_15, .int 0, .ref q_16, .ref q_17, .ref q_18, .ref q_19, .int 0, .ref q_20, .ref q_21, .ref q_22, .ref q_23, .ref q_24, .int 0, .ref q_25, .ref q_26, .ref q_27])), (q_15, .inl (cI, 26, .inl z0)), (q_16, .inl (cI, 6, .inl z0)), (q_17, .inl (cI, 81, .inl z0)), (q_18, .inl (cI, 20, .inl z0)), (q_19, .inl (cI, 20, .inl z0)), (q_20, .inl (cI, 9, .inl z0)), (q_21, .inl (cI, 9, .inl z0)), (q_22, .inl (cI, 36, .inl z0)), (q_23, .inl (cI, 36, .inl z0)), (q_25, .inr (9, [.ref q_28, .ref q_29, .int 0])), (q_28, .inl (cI, 96, .inl z0)), (q_29, .inl (cI, 12, .inl z0)), (q_26, .inr (9, [.ref q_30, .ref q_31, .int 0])), (q_30, .inl (cI, 64, .inl z0)), (q_31, .inl (cI, 8, .inl z0)), (q_6, .inr (10, [.ref q_32, .int 0, .int 0])), (q_14, .inl (cI, 256, .inl z0)), (q_33, .inr (6, [.int 0, .int 1, .ref q_36, .ref q_37, .ref q_38, .int 0, .ref q_39, .ref q_40, .ref q_41])), (q_36, .inl (cI, 8, .inl z0)), (q_37, .inr (9, [.ref q_42, .ref q_43, .int 0])), (q_42, .inl (cI, 96, .inl z0)), (q_43, .inl (cI, 12, .inl z0)), (q_38, .inr (9, [.ref q_44, .ref q_45, .int 0])), (q_44, .inl (cI, 96, .inl z0)), (q_45, .inl (cI, 12, .inl z0)), (q_46, .inr (7, [.ref q_49, .int 0, .ref q_50, .ref q_51, .ref q_52, .ref q_53, .int 0, .ref q_54, .ref q_55, .ref q_56, .ref q_57, .ref q_58, .int 0, .ref q_59, .ref q_60, .ref q_61])), (q_49, .inl (cI, 26, .inl z0)), (q_50, .inl (cI, 6, .inl z0)), (q_51, .inl (cI, 81, .inl z0)), (q_52, .inl (cI, 20, .inl z0)), (q_53, .inl (cI, 20, .inl z0)), (q_54, .inl (cI, 9, .inl z0)), (q_55, .inl (cI, 9, .inl z0)), (q_56, .inl (cI, 36, .inl z0)), (q_57, .inl (cI, 36, .inl z0)), (q_59, .inr (9, [.ref q_62, .ref q_63, .int 0])), (q_62, .inl (cI, 96, .inl z0)), (q_63, .inl (cI, 12, .inl z0)), (q_60, .inr (9, [.ref q_64, .ref q_65, .int 0])), (q_64, .inl (cI, 64, .inl z0)), (q_65, .inl (cI, 8, .inl z0)), (q_66, .inr (6, [.int 0, .int 1, .ref q_69, .ref q_70, .ref q_71, .int 0, .ref q_72, .ref q_73, .ref q_74])), (q_69, .inl (cI, 8, .inl z0)), (q_70, .inr (9, [.ref q_75, .ref q_76, .int 0])), (q_75, .inl (cI, 96, .inl z0)), (q_76, .inl (cI, 12, .inl z0)), (q_71, .inr (9, [.ref q_77, .ref q_78, .int 0])), (q_77, .inl (cI, 96, .inl z0)), (q_78, .inl (cI, 12, .inl z0)), (q_79, .inr (2, [.ref q_82, .int 0, .int (-1), .ref q_83, .int 0, .int 0, .int 0, .int 0, .int 0, .int 0])), (q_82, .inr (7, [.ref q_84, .int 0, .ref q_85, .ref q_86, .ref q_87, .ref q_88, .int 0, .ref q_89, .ref q_90, .ref q_91, .ref q_92, .ref q_93, .int 0, .ref q_94, .ref q_95, .ref q_96])), (q_84, .inl (cI, 26, .inl z0)), (q_85, .inl (cI, 6, .inl z0)), (q_86, .inl (cI, 81, .inl z0)), (q_87, .inl (cI, 20, .inl z0)), (q_88, .inl (cI, 20, .inl z0)), (q_89, .inl (cI, 9, .inl z0)), (q_90, .inl (cI, 9, .inl z0)), (q_91, .inl (cI, 36, .inl z0)), (q_92, .inl (cI, 36, .inl z0)), (q_94, .inr (9, [.ref q_97, .ref q_98, .int 0])), (q_97, .inl (cI, 96, .inl z0)), (q_98, .inl (cI, 12, .inl z0)), (q_95, .inr (9, [.ref q_99, .ref q_100, .int 0])), (q_99, .inl (cI, 64, .inl z0)), (q_100, .inl (cI, 8, .inl z0)), (q_83, .inl (cI, 600, .inl z0)), (q_101, .inr (0, [.ref q_104, .ref q_105, .ref q_106, .int 0, .ref q_107, .ref q_108, .ref q_109, .int 0, .ref q_110, .int 0, .int (-1)])), (q_105, .inl (cI, 5329, .inl z0)), (q_108, .inl (cI, 511, .inl z0)), (q_107, .inl (cI, 6, .inl z0)), (q_109, .inl (cI, 6, .inl z0)), (q_111, .inl (cI, 96, .inl z0)), (q_112, .inl (cI, 8, .inl z0)), (q_113, .inl (cI, 16, .inl z0))] H := hP
  have hD : va_D A [(a0, .inr (11, [.ref q_1, .int 0, .ref q_2, .ref q_5, .ref q_6, .ref q_33, .ref q_46, .ref q_66, .int 0, .ref q_79, .ref q_101, .ref q_111, .int 0, .int (-1), .ref q_112, .int 0, .ref q_113, .null, .int 0])), (q_1, .inl (cI, 600, .inl z0)), (q_2, .inr (3, [.ref q_5, .ref q_6, .ref q_7, .ref q_8, .ref q_9, .int 0, .int 0, .int 0, .int 0, .int 0, .int 0, .int (-1), .ref q_10, .ref q_11, .ref q_12, .int 0, .ref q_13, .ref q_14])), (q_5, .inr (7, [.ref q_15, .int 0, .ref q_16, .ref q_17, .ref q_18, .ref q_19, .int 0, .ref q_20, .ref q_21, .ref q_22, .ref q_23, .ref q_24, .int 0, .ref q_25, .ref q_26, .ref q_27])), (q_15, .inl (cI, 26, .inl z0)), (q_16, .inl (cI, 6, .inl z0)), (q_17, .inl (cI, 81, .inl z0)), (q_18, .inl (cI, 20, .inl z0)), (q_19, .inl (cI, 20, .inl z0)), (q_20, .inl (cI, 9, .inl z0)), (q_21, .inl (cI, 9, .inl z0)), (q_22, .inl (cI, 36, .inl z0)), (q_23, .inl (cI, 36, .inl z0)), (q_25, .inr (9, [.ref q_28, .ref q_29, .int 0])), (q_28, .inl (cI, 96, .inl z0)), (q_29, .inl (cI, 12, .inl z0)), (q_26, .inr (9, [.ref q_30, .ref q_31, .int 0])), (q_30, .inl (cI, 64, .inl z0)), (q_31, .inl (cI, 8, .inl z0)), (q_6, .inr (10, [.ref q_32, .int 0, .int 0])), (q_14, .inl (cI, 256, .inl z0)), (q_33, .inr (6, [.int 0, .int 1, .ref q_36, .ref q_37, .ref q_38, .int 0, .ref q_39, .ref q_40, .ref q_41])), (q_36, .inl (cI, 8, .inl z0)), (q_37, .inr (9, [.ref q_42, .ref q_43, .int 0])), (q_42, .inl (cI, 96, .inl z0)), (q_43, .inl (cI, 12, .inl z0)), (q_38, .inr (9, [.ref q_44, .ref q_45, .int 0])), (q_44, .inl (cI, 96, .inl z0)), (q_45, .inl (cI, 12, .inl z0)), (q_46, .inr (7, [.ref q_49, .int 0, .ref q_50, .ref q_51, .ref q_52, .ref q_53, .int 0, .ref q_54, .ref q_55, .ref q_56, .ref q_57, .ref q_58, .int 0, .ref q_59, .ref q_60, .ref q_61])), (q_49, .inl (cI, 26, .inl z0)), (q_50, .inl (cI, 6, .inl z0)), (q_51, .inl (cI, 81, .inl z0)), (q_52, .inl (cI, 20, .inl z0)), (q_53, .inl (cI, 20, .inl z0)), (q_54, .inl (cI, 9, .inl z0)), (q_55, .inl (cI, 9, .inl z0)), (q_56, .inl (cI, 36, .inl z0)), (q_57, .inl (cI, 36, .inl z0)), (q_59, .inr (9, [.ref q_62, .ref q_63, .int 0])), (q_62, .inl (cI, 96, .inl z0)), (q_63, .inl (cI, 12, .inl z0)), (q_60, .inr (9, [.ref q_64, .ref q_65, .int 0])), (q_64, .inl (cI, 64, .inl z0)), (q_65, .inl (cI, 8, .inl z0)), (q_66, .inr (6, [.int 0, .int 1, .ref q_69, .ref q_70, .ref q_71, .int 0, .ref q_72, .ref q_73, .ref q_74])), (q_69, .inl (cI, 8, .inl z0)), (q_70, .inr (9, [.ref q_75, .ref q_76, .int 0])), (q_75, .inl (cI, 96, .inl z0)), (q_76, .inl (cI, 12, .inl z0)), (q_71, .inr (9, [.ref q_77, .ref q_78, .int 0])), (q_77, .inl (cI, 96, .inl z0)), (q_78, .inl (cI, 12, .inl z0)), (q_79, .inr (2, [.ref q_82, .int 0, .int (-1), .ref q_83, .int 0, .int 0, .int 0, .int 0, .int 0, .int 0])), (q_82, .inr (7, [.ref q_84, .int 0, .ref q_85, .ref q_86, .ref q_87, .ref q_88, .int 0, .ref q_89, .ref q_90, .ref q_91, .ref q_92, .ref q_93, .int 0, .ref q_94, .ref q_95, .ref q_96])), (q_84, .inl (cI, 26, .inl z0)), (q_85, .inl (cI, 6, .inl z0)), (q_86, .inl (cI, 81, .inl z0)), (q_87, .inl (cI, 20, .inl z0)), (q_88, .inl (cI, 20, .inl z0)), (q_89, .inl (cI, 9, .inl z0)), (q_90, .inl (cI, 9, .inl z0)), (q_91, .inl (cI, 36, .inl z0)), (q_92, .inl (cI, 36, .inl z0)), (q_94, .inr (9, [.ref q_97, .ref q_98, .int 0])), (q_97, .inl (cI, 96, .inl z0)), (q_98, .inl (cI, 12, .inl z0)), (q_95, .inr (9, [.ref q_99, .ref q_100, .int 0])), (q_99, .inl (cI, 64, .inl z0)), (q_100, .inl (cI, 8, .inl z0)), (q_83, .inl (cI, 600, .inl z0)), (q_101, .inr (0, [.ref q_104, .ref q_105, .ref q_106, .int 0, .ref q_107, .ref q_108, .ref q_109, .int 0, .ref q_110, .int 0, .int (-1)])), (q_105, .inl (cI, 5329, .inl z0)), (q_108, .inl (cI, 511, .inl z0)), (q_107, .inl (cI, 6, .inl z0)), (q_109, .inl (cI, 6, .inl z0)), (q_111, .inl (cI, 96, .inl z0)), (q_112, .inl (cI, 8, .inl z0)), (q_113, .inl (cI, 16, .inl z0))] := hD
  refine lv_aload_n hx hb dX11_init_130 rfl (lv_at hl 0 rfl) ?_
  refine lv_bipush (v := 12) hx hb dX11_init_131 (by decide) ?_
  refine tk_newa (atype := .int) (ty := .int) (a0 := (12, .inl z0)) hx hb 0 (hU (.arrayClass .int) wd_12) rfl (fun _ => Iff.rfl) hK rfl hP hD hS hA (fun _ => rfl) (by decide) (by decide) (Nat.le_of_ble_eq_true rfl) (Nat.le_of_ble_eq_true rfl) (Nat.le_of_ble_eq_true rfl) dX11_init_133 (fun q_114 H hP hD hS => ?_)
  have hP : va_P (dC, dI) vwCl [(a0, .inr (11, [.ref q_1, .int 0, .ref q_2, .ref q_5, .ref q_6, .ref q_33, .ref q_46, .ref q_66, .int 0, .ref q_79, .ref q_101, .ref q_111, .int 0, .int (-1), .ref q_112, .int 0, .ref q_113, .null, .int 0])), (q_1, .inl (cI, 600, .inl z0)), (q_2, .inr (3, [.ref q_5, .ref q_6, .ref q_7, .ref q_8, .ref q_9, .int 0, .int 0, .int 0, .int 0, .int 0, .int 0, .int (-1), .ref q_10, .ref q_11, .ref q_12, .int 0, .ref q_13, .ref q_14])), (q_5, .inr (7, [.ref q_15, .int 0, .ref q_16, .ref q_17, .ref q_18, .ref q_19, .int 0, .ref q_20, .ref q_21, .ref q_22, .ref q_23, .ref q_24, .int 0, .ref q_25, .ref q_26, .ref q_27])), (q_15, .inl (cI, 26, .inl z0)), (q_16, .inl (cI, 6, .inl z0)), (q_17, .inl (cI, 81, .inl z0)), (q_18, .inl (cI, 20, .inl z0)), (q_19, .inl (cI, 20, .inl z0)), (q_20, .inl (cI, 9, .inl z0)), (q_21, .inl (cI, 9, .inl z0)), (q_22, .inl (cI, 36, .inl z0)), (q_23, .inl (cI, 36, .inl z0)), (q_25, .inr (9, [.ref q_28, .ref q_29, .int 0])), (q_28, .inl (cI, 96, .inl z0)), (q_29, .inl (cI, 12, .inl z0)), (q_26, .inr (9, [.ref q_30, .ref q_31, .int 0])), (q_30, .inl (cI, 64, .inl z0)), (q_31, .inl (cI, 8, .inl z0)), (q_6, .inr (10, [.ref q_32, .int 0, .int 0])), (q_14, .inl (cI, 256, .inl z0)), (q_33, .inr (6, [.int 0, .int 1, .ref q_36, .ref q_37, .ref q_38, .int 0, .ref q_39, .ref q_40, .ref q_41])), (q_36, .inl (cI, 8, .inl z0)), (q_37, .inr (9, [.ref q_42, .ref q_43, .int 0])), (q_42, .inl (cI, 96, .inl z0)), (q_43, .inl (cI, 12, .inl z0)), (q_38, .inr (9, [.ref q_44, .ref q_45, .int 0])), (q_44, .inl (cI, 96, .inl z0)), (q_45, .inl (cI, 12, .inl z0)), (q_46, .inr (7, [.ref q_49, .int 0, .ref q_50, .ref q_51, .ref q_52, .ref q_53, .int 0, .ref q_54, .ref q_55, .ref q_56, .ref q_57, .ref q_58, .int 0, .ref q_59, .ref q_60, .ref q_61])), (q_49, .inl (cI, 26, .inl z0)), (q_50, .inl (cI, 6, .inl z0)), (q_51, .inl (cI, 81, .inl z0)), (q_52, .inl (cI, 20, .inl z0)), (q_53, .inl (cI, 20, .inl z0)), (q_54, .inl (cI, 9, .inl z0)), (q_55, .inl (cI, 9, .inl z0)), (q_56, .inl (cI, 36, .inl z0)), (q_57, .inl (cI, 36, .inl z0)), (q_59, .inr (9, [.ref q_62, .ref q_63, .int 0])), (q_62, .inl (cI, 96, .inl z0)), (q_63, .inl (cI, 12, .inl z0)), (q_60, .inr (9, [.ref q_64, .ref q_65, .int 0])), (q_64, .inl (cI, 64, .inl z0)), (q_65, .inl (cI, 8, .inl z0)), (q_66, .inr (6, [.int 0, .int 1, .ref q_69, .ref q_70, .ref q_71, .int 0, .ref q_72, .ref q_73, .ref q_74])), (q_69, .inl (cI, 8, .inl z0)), (q_70, .inr (9, [.ref q_75, .ref q_76, .int 0])), (q_75, .inl (cI, 96, .inl z0)), (q_76, .inl (cI, 12, .inl z0)), (q_71, .inr (9, [.ref q_77, .ref q_78, .int 0])), (q_77, .inl (cI, 96, .inl z0)), (q_78, .inl (cI, 12, .inl z0)), (q_79, .inr (2, [.ref q_82, .int 0, .int (-1), .ref q_83, .int 0, .int 0, .int 0, .int 0, .int 0, .int 0])), (q_82, .inr (7, [.ref q_84, .int 0, .ref q_85, .ref q_86, .ref q_87, .ref q_88, .int 0, .ref q_89, .ref q_90, .ref q_91, .ref q_92, .ref q_93, .int 0, .ref q_94, .ref q_95, .ref q_96])), (q_84, .inl (cI, 26, .inl z0)), (q_85, .inl (cI, 6, .inl z0)), (q_86, .inl (cI, 81, .inl z0)), (q_87, .inl (cI, 20, .inl z0)), (q_88, .inl (cI, 20, .inl z0)), (q_89, .inl (cI, 9, .inl z0)), (q_90, .inl (cI, 9, .inl z0)), (q_91, .inl (cI, 36, .inl z0)), (q_92, .inl (cI, 36, .inl z0)), (q_94, .inr (9, [.ref q_97, .ref q_98, .int 0])), (q_97, .inl (cI, 96, .inl z0)), (q_98, .inl (cI, 12, .inl z0)), (q_95, .inr (9, [.ref q_99, .ref q_100, .int 0])), (q_99, .inl (cI, 64, .inl z0)), (q_100, .inl (cI, 8, .inl z0)), (q_83, .inl (cI, 600, .inl z0)), (q_101, .inr (0, [.ref q_104, .ref q_105, .ref q_106, .int 0, .ref q_107, .ref q_108, .ref q_109, .int 0, .ref q_110, .int 0, .int (-1)])), (q_105, .inl (cI, 5329, .inl z0)), (q_108, .inl (cI, 511, .inl z0)), (q_107, .inl (cI, 6, .inl z0)), (q_109, .inl (cI, 6, .inl z0)), (q_111, .inl (cI, 96, .inl z0)), (q_112, .inl (cI, 8, .inl z0)), (q_113, .inl (cI, 16, .inl z0)), (q_114, .inl (cI, 12, .inl z0))] H := hP
  have hD : va_D A [(a0, .inr (11, [.ref q_1, .int 0, .ref q_2, .ref q_5, .ref q_6, .ref q_33, .ref q_46, .ref q_66, .int 0, .ref q_79, .ref q_101, .ref q_111, .int 0, .int (-1), .ref q_112, .int 0, .ref q_113, .null, .int 0])), (q_1, .inl (cI, 600, .inl z0)), (q_2, .inr (3, [.ref q_5, .ref q_6, .ref q_7, .ref q_8, .ref q_9, .int 0, .int 0, .int 0, .int 0, .int 0, .int 0, .int (-1), .ref q_10, .ref q_11, .ref q_12, .int 0, .ref q_13, .ref q_14])), (q_5, .inr (7, [.ref q_15, .int 0, .ref q_16, .ref q_17, .ref q_18, .ref q_19, .int 0, .ref q_20, .ref q_21, .ref q_22, .ref q_23, .ref q_24, .int 0, .ref q_25, .ref q_26, .ref q_27])), (q_15, .inl (cI, 26, .inl z0)), (q_16, .inl (cI, 6, .inl z0)), (q_17, .inl (cI, 81, .inl z0)), (q_18, .inl (cI, 20, .inl z0)), (q_19, .inl (cI, 20, .inl z0)), (q_20, .inl (cI, 9, .inl z0)), (q_21, .inl (cI, 9, .inl z0)), (q_22, .inl (cI, 36, .inl z0)), (q_23, .inl (cI, 36, .inl z0)), (q_25, .inr (9, [.ref q_28, .ref q_29, .int 0])), (q_28, .inl (cI, 96, .inl z0)), (q_29, .inl (cI, 12, .inl z0)), (q_26, .inr (9, [.ref q_30, .ref q_31, .int 0])), (q_30, .inl (cI, 64, .inl z0)), (q_31, .inl (cI, 8, .inl z0)), (q_6, .inr (10, [.ref q_32, .int 0, .int 0])), (q_14, .inl (cI, 256, .inl z0)), (q_33, .inr (6, [.int 0, .int 1, .ref q_36, .ref q_37, .ref q_38, .int 0, .ref q_39, .ref q_40, .ref q_41])), (q_36, .inl (cI, 8, .inl z0)), (q_37, .inr (9, [.ref q_42, .ref q_43, .int 0])), (q_42, .inl (cI, 96, .inl z0)), (q_43, .inl (cI, 12, .inl z0)), (q_38, .inr (9, [.ref q_44, .ref q_45, .int 0])), (q_44, .inl (cI, 96, .inl z0)), (q_45, .inl (cI, 12, .inl z0)), (q_46, .inr (7, [.ref q_49, .int 0, .ref q_50, .ref q_51, .ref q_52, .ref q_53, .int 0, .ref q_54, .ref q_55, .ref q_56, .ref q_57, .ref q_58, .int 0, .ref q_59, .ref q_60, .ref q_61])), (q_49, .inl (cI, 26, .inl z0)), (q_50, .inl (cI, 6, .inl z0)), (q_51, .inl (cI, 81, .inl z0)), (q_52, .inl (cI, 20, .inl z0)), (q_53, .inl (cI, 20, .inl z0)), (q_54, .inl (cI, 9, .inl z0)), (q_55, .inl (cI, 9, .inl z0)), (q_56, .inl (cI, 36, .inl z0)), (q_57, .inl (cI, 36, .inl z0)), (q_59, .inr (9, [.ref q_62, .ref q_63, .int 0])), (q_62, .inl (cI, 96, .inl z0)), (q_63, .inl (cI, 12, .inl z0)), (q_60, .inr (9, [.ref q_64, .ref q_65, .int 0])), (q_64, .inl (cI, 64, .inl z0)), (q_65, .inl (cI, 8, .inl z0)), (q_66, .inr (6, [.int 0, .int 1, .ref q_69, .ref q_70, .ref q_71, .int 0, .ref q_72, .ref q_73, .ref q_74])), (q_69, .inl (cI, 8, .inl z0)), (q_70, .inr (9, [.ref q_75, .ref q_76, .int 0])), (q_75, .inl (cI, 96, .inl z0)), (q_76, .inl (cI, 12, .inl z0)), (q_71, .inr (9, [.ref q_77, .ref q_78, .int 0])), (q_77, .inl (cI, 96, .inl z0)), (q_78, .inl (cI, 12, .inl z0)), (q_79, .inr (2, [.ref q_82, .int 0, .int (-1), .ref q_83, .int 0, .int 0, .int 0, .int 0, .int 0, .int 0])), (q_82, .inr (7, [.ref q_84, .int 0, .ref q_85, .ref q_86, .ref q_87, .ref q_88, .int 0, .ref q_89, .ref q_90, .ref q_91, .ref q_92, .ref q_93, .int 0, .ref q_94, .ref q_95, .ref q_96])), (q_84, .inl (cI, 26, .inl z0)), (q_85, .inl (cI, 6, .inl z0)), (q_86, .inl (cI, 81, .inl z0)), (q_87, .inl (cI, 20, .inl z0)), (q_88, .inl (cI, 20, .inl z0)), (q_89, .inl (cI, 9, .inl z0)), (q_90, .inl (cI, 9, .inl z0)), (q_91, .inl (cI, 36, .inl z0)), (q_92, .inl (cI, 36, .inl z0)), (q_94, .inr (9, [.ref q_97, .ref q_98, .int 0])), (q_97, .inl (cI, 96, .inl z0)), (q_98, .inl (cI, 12, .inl z0)), (q_95, .inr (9, [.ref q_99, .ref q_100, .int 0])), (q_99, .inl (cI, 64, .inl z0)), (q_100, .inl (cI, 8, .inl z0)), (q_83, .inl (cI, 600, .inl z0)), (q_101, .inr (0, [.ref q_104, .ref q_105, .ref q_106, .int 0, .ref q_107, .ref q_108, .ref q_109, .int 0, .ref q_110, .int 0, .int (-1)])), (q_105, .inl (cI, 5329, .inl z0)), (q_108, .inl (cI, 511, .inl z0)), (q_107, .inl (cI, 6, .inl z0)), (q_109, .inl (cI, 6, .inl z0)), (q_111, .inl (cI, 96, .inl z0)), (q_112, .inl (cI, 8, .inl z0)), (q_113, .inl (cI, 16, .inl z0)), (q_114, .inl (cI, 12, .inl z0))] := hD
  refine W.widen (k := 374) (n := 60943) (Nat.le_of_ble_eq_true rfl) (Nat.le_of_ble_eq_true rfl) ?_
  refine va_putF (D := (dC, dI)) (ci := 11) (v := .ref q_114) (ty := .array .int) (C := RX11) (T := TX11) (N := 19) hx hb hU inlX11 tyX11 tyX11_ok nmX11 hown hK hP hD hS 0 rfl rfl 17 (by decide) (hU _ wd_43) (fun _ h9 => h9) rfl hin rfl (by decide +kernel) rfl rfl (Nat.le_of_ble_eq_true rfl) dX11_init_135 (fun H locs hP hD hS => ?_)
  have hP : va_P (dC, dI) vwCl [(a0, .inr (11, [.ref q_1, .int 0, .ref q_2, .ref q_5, .ref q_6, .ref q_33, .ref q_46, .ref q_66, .int 0, .ref q_79, .ref q_101, .ref q_111, .int 0, .int (-1), .ref q_112, .int 0, .ref q_113, .ref q_114, .int 0])), (q_1, .inl (cI, 600, .inl z0)), (q_2, .inr (3, [.ref q_5, .ref q_6, .ref q_7, .ref q_8, .ref q_9, .int 0, .int 0, .int 0, .int 0, .int 0, .int 0, .int (-1), .ref q_10, .ref q_11, .ref q_12, .int 0, .ref q_13, .ref q_14])), (q_5, .inr (7, [.ref q_15, .int 0, .ref q_16, .ref q_17, .ref q_18, .ref q_19, .int 0, .ref q_20, .ref q_21, .ref q_22, .ref q_23, .ref q_24, .int 0, .ref q_25, .ref q_26, .ref q_27])), (q_15, .inl (cI, 26, .inl z0)), (q_16, .inl (cI, 6, .inl z0)), (q_17, .inl (cI, 81, .inl z0)), (q_18, .inl (cI, 20, .inl z0)), (q_19, .inl (cI, 20, .inl z0)), (q_20, .inl (cI, 9, .inl z0)), (q_21, .inl (cI, 9, .inl z0)), (q_22, .inl (cI, 36, .inl z0)), (q_23, .inl (cI, 36, .inl z0)), (q_25, .inr (9, [.ref q_28, .ref q_29, .int 0])), (q_28, .inl (cI, 96, .inl z0)), (q_29, .inl (cI, 12, .inl z0)), (q_26, .inr (9, [.ref q_30, .ref q_31, .int 0])), (q_30, .inl (cI, 64, .inl z0)), (q_31, .inl (cI, 8, .inl z0)), (q_6, .inr (10, [.ref q_32, .int 0, .int 0])), (q_14, .inl (cI, 256, .inl z0)), (q_33, .inr (6, [.int 0, .int 1, .ref q_36, .ref q_37, .ref q_38, .int 0, .ref q_39, .ref q_40, .ref q_41])), (q_36, .inl (cI, 8, .inl z0)), (q_37, .inr (9, [.ref q_42, .ref q_43, .int 0])), (q_42, .inl (cI, 96, .inl z0)), (q_43, .inl (cI, 12, .inl z0)), (q_38, .inr (9, [.ref q_44, .ref q_45, .int 0])), (q_44, .inl (cI, 96, .inl z0)), (q_45, .inl (cI, 12, .inl z0)), (q_46, .inr (7, [.ref q_49, .int 0, .ref q_50, .ref q_51, .ref q_52, .ref q_53, .int 0, .ref q_54, .ref q_55, .ref q_56, .ref q_57, .ref q_58, .int 0, .ref q_59, .ref q_60, .ref q_61])), (q_49, .inl (cI, 26, .inl z0)), (q_50, .inl (cI, 6, .inl z0)), (q_51, .inl (cI, 81, .inl z0)), (q_52, .inl (cI, 20, .inl z0)), (q_53, .inl (cI, 20, .inl z0)), (q_54, .inl (cI, 9, .inl z0)), (q_55, .inl (cI, 9, .inl z0)), (q_56, .inl (cI, 36, .inl z0)), (q_57, .inl (cI, 36, .inl z0)), (q_59, .inr (9, [.ref q_62, .ref q_63, .int 0])), (q_62, .inl (cI, 96, .inl z0)), (q_63, .inl (cI, 12, .inl z0)), (q_60, .inr (9, [.ref q_64, .ref q_65, .int 0])), (q_64, .inl (cI, 64, .inl z0)), (q_65, .inl (cI, 8, .inl z0)), (q_66, .inr (6, [.int 0, .int 1, .ref q_69, .ref q_70, .ref q_71, .int 0, .ref q_72, .ref q_73, .ref q_74])), (q_69, .inl (cI, 8, .inl z0)), (q_70, .inr (9, [.ref q_75, .ref q_76, .int 0])), (q_75, .inl (cI, 96, .inl z0)), (q_76, .inl (cI, 12, .inl z0)), (q_71, .inr (9, [.ref q_77, .ref q_78, .int 0])), (q_77, .inl (cI, 96, .inl z0)), (q_78, .inl (cI, 12, .inl z0)), (q_79, .inr (2, [.ref q_82, .int 0, .int (-1), .ref q_83, .int 0, .int 0, .int 0, .int 0, .int 0, .int 0])), (q_82, .inr (7, [.ref q_84, .int 0, .ref q_85, .ref q_86, .ref q_87, .ref q_88, .int 0, .ref q_89, .ref q_90, .ref q_91, .ref q_92, .ref q_93, .int 0, .ref q_94, .ref q_95, .ref q_96])), (q_84, .inl (cI, 26, .inl z0)), (q_85, .inl (cI, 6, .inl z0)), (q_86, .inl (cI, 81, .inl z0)), (q_87, .inl (cI, 20, .inl z0)), (q_88, .inl (cI, 20, .inl z0)), (q_89, .inl (cI, 9, .inl z0)), (q_90, .inl (cI, 9, .inl z0)), (q_91, .inl (cI, 36, .inl z0)), (q_92, .inl (cI, 36, .inl z0)), (q_94, .inr (9, [.ref q_97, .ref q_98, .int 0])), (q_97, .inl (cI, 96, .inl z0)), (q_98, .inl (cI, 12, .inl z0)), (q_95, .inr (9, [.ref q_99, .ref q_100, .int 0])), (q_99, .inl (cI, 64, .inl z0)), (q_100, .inl (cI, 8, .inl z0)), (q_83, .inl (cI, 600, .inl z0)), (q_101, .inr (0, [.ref q_104, .ref q_105, .ref q_106, .int 0, .ref q_107, .ref q_108, .ref q_109, .int 0, .ref q_110, .int 0, .int (-1)])), (q_105, .inl (cI, 5329, .inl z0)), (q_108, .inl (cI, 511, .inl z0)), (q_107, .inl (cI, 6, .inl z0)), (q_109, .inl (cI, 6, .inl z0)), (q_111, .inl (cI, 96, .inl z0)), (q_112, .inl (cI, 8, .inl z0)), (q_113, .inl (cI, 16, .inl z0)), (q_114, .inl (cI, 12, .inl z0))] H := hP
  have hD : va_D A [(a0, .inr (11, [.ref q_1, .int 0, .ref q_2, .ref q_5, .ref q_6, .ref q_33, .ref q_46, .ref q_66, .int 0, .ref q_79, .ref q_101, .ref q_111, .int 0, .int (-1), .ref q_112, .int 0, .ref q_113, .ref q_114, .int 0])), (q_1, .inl (cI, 600, .inl z0)), (q_2, .inr (3, [.ref q_5, .ref q_6, .ref q_7, .ref q_8, .ref q_9, .int 0, .int 0, .int 0, .int 0, .int 0, .int 0, .int (-1), .ref q_10, .ref q_11, .ref q_12, .int 0, .ref q_13, .ref q_14])), (q_5, .inr (7, [.ref q_15, .int 0, .ref q_16, .ref q_17, .ref q_18, .ref q_19, .int 0, .ref q_20, .ref q_21, .ref q_22, .ref q_23, .ref q_24, .int 0, .ref q_25, .ref q_26, .ref q_27])), (q_15, .inl (cI, 26, .inl z0)), (q_16, .inl (cI, 6, .inl z0)), (q_17, .inl (cI, 81, .inl z0)), (q_18, .inl (cI, 20, .inl z0)), (q_19, .inl (cI, 20, .inl z0)), (q_20, .inl (cI, 9, .inl z0)), (q_21, .inl (cI, 9, .inl z0)), (q_22, .inl (cI, 36, .inl z0)), (q_23, .inl (cI, 36, .inl z0)), (q_25, .inr (9, [.ref q_28, .ref q_29, .int 0])), (q_28, .inl (cI, 96, .inl z0)), (q_29, .inl (cI, 12, .inl z0)), (q_26, .inr (9, [.ref q_30, .ref q_31, .int 0])), (q_30, .inl (cI, 64, .inl z0)), (q_31, .inl (cI, 8, .inl z0)), (q_6, .inr (10, [.ref q_32, .int 0, .int 0])), (q_14, .inl (cI, 256, .inl z0)), (q_33, .inr (6, [.int 0, .int 1, .ref q_36, .ref q_37, .ref q_38, .int 0, .ref q_39, .ref q_40, .ref q_41])), (q_36, .inl (cI, 8, .inl z0)), (q_37, .inr (9, [.ref q_42, .ref q_43, .int 0])), (q_42, .inl (cI, 96, .inl z0)), (q_43, .inl (cI, 12, .inl z0)), (q_38, .inr (9, [.ref q_44, .ref q_45, .int 0])), (q_44, .inl (cI, 96, .inl z0)), (q_45, .inl (cI, 12, .inl z0)), (q_46, .inr (7, [.ref q_49, .int 0, .ref q_50, .ref q_51, .ref q_52, .ref q_53, .int 0, .ref q_54, .ref q_55, .ref q_56, .ref q_57, .ref q_58, .int 0, .ref q_59, .ref q_60, .ref q_61])), (q_49, .inl (cI, 26, .inl z0)), (q_50, .inl (cI, 6, .inl z0)), (q_51, .inl (cI, 81, .inl z0)), (q_52, .inl (cI, 20, .inl z0)), (q_53, .inl (cI, 20, .inl z0)), (q_54, .inl (cI, 9, .inl z0)), (q_55, .inl (cI, 9, .inl z0)), (q_56, .inl (cI, 36, .inl z0)), (q_57, .inl (cI, 36, .inl z0)), (q_59, .inr (9, [.ref q_62, .ref q_63, .int 0])), (q_62, .inl (cI, 96, .inl z0)), (q_63, .inl (cI, 12, .inl z0)), (q_60, .inr (9, [.ref q_64, .ref q_65, .int 0])), (q_64, .inl (cI, 64, .inl z0)), (q_65, .inl (cI, 8, .inl z0)), (q_66, .inr (6, [.int 0, .int 1, .ref q_69, .ref q_70, .ref q_71, .int 0, .ref q_72, .ref q_73, .ref q_74])), (q_69, .inl (cI, 8, .inl z0)), (q_70, .inr (9, [.ref q_75, .ref q_76, .int 0])), (q_75, .inl (cI, 96, .inl z0)), (q_76, .inl (cI, 12, .inl z0)), (q_71, .inr (9, [.ref q_77, .ref q_78, .int 0])), (q_77, .inl (cI, 96, .inl z0)), (q_78, .inl (cI, 12, .inl z0)), (q_79, .inr (2, [.ref q_82, .int 0, .int (-1), .ref q_83, .int 0, .int 0, .int 0, .int 0, .int 0, .int 0])), (q_82, .inr (7, [.ref q_84, .int 0, .ref q_85, .ref q_86, .ref q_87, .ref q_88, .int 0, .ref q_89, .ref q_90, .ref q_91, .ref q_92, .ref q_93, .int 0, .ref q_94, .ref q_95, .ref q_96])), (q_84, .inl (cI, 26, .inl z0)), (q_85, .inl (cI, 6, .inl z0)), (q_86, .inl (cI, 81, .inl z0)), (q_87, .inl (cI, 20, .inl z0)), (q_88, .inl (cI, 20, .inl z0)), (q_89, .inl (cI, 9, .inl z0)), (q_90, .inl (cI, 9, .inl z0)), (q_91, .inl (cI, 36, .inl z0)), (q_92, .inl (cI, 36, .inl z0)), (q_94, .inr (9, [.ref q_97, .ref q_98, .int 0])), (q_97, .inl (cI, 96, .inl z0)), (q_98, .inl (cI, 12, .inl z0)), (q_95, .inr (9, [.ref q_99, .ref q_100, .int 0])), (q_99, .inl (cI, 64, .inl z0)), (q_100, .inl (cI, 8, .inl z0)), (q_83, .inl (cI, 600, .inl z0)), (q_101, .inr (0, [.ref q_104, .ref q_105, .ref q_106, .int 0, .ref q_107, .ref q_108, .ref q_109, .int 0, .ref q_110, .int 0, .int (-1)])), (q_105, .inl (cI, 5329, .inl z0)), (q_108, .inl (cI, 511, .inl z0)), (q_107, .inl (cI, 6, .inl z0)), (q_109, .inl (cI, 6, .inl z0)), (q_111, .inl (cI, 96, .inl z0)), (q_112, .inl (cI, 8, .inl z0)), (q_113, .inl (cI, 16, .inl z0)), (q_114, .inl (cI, 12, .inl z0))] := hD
  have hP9 := hP.sub (ws' := [(a0, .inr (11, [.ref q_1, .int 0, .ref q_2, .ref q_5, .ref q_6, .ref q_33, .ref q_46, .ref q_66, .int 0, .ref q_79, .ref q_101, .ref q_111, .int 0, .int (-1), .ref q_112, .int 0, .ref q_113, .ref q_114, .int 0])), (q_1, .inl (cI, 600, .inl z0)), (q_2, .inr (3, [.ref q_5, .ref q_6, .ref q_7, .ref q_8, .ref q_9, .int 0, .int 0, .int 0, .int 0, .int 0, .int 0, .int (-1), .ref q_10, .ref q_11, .ref q_12, .int 0, .ref q_13, .ref q_14])), (q_5, .inr (7, [.ref q_15, .int 0, .ref q_16, .ref q_17, .ref q_18, .ref q_19, .int 0, .ref q_20, .ref q_21, .ref q_22, .ref q_23, .ref q_24, .int 0, .ref q_25, .ref q_26, .ref q_27])), (q_15, .inl (cI, 26, .inl z0)), (q_16, .inl (cI, 6, .inl z0)), (q_17, .inl (cI, 81, .inl z0)), (q_18, .inl (cI, 20, .inl z0)), (q_19, .inl (cI, 20, .inl z0)), (q_20, .inl (cI, 9, .inl z0)), (q_21, .inl (cI, 9, .inl z0)), (q_22, .inl (cI, 36, .inl z0)), (q_23, .inl (cI, 36, .inl z0)), (q_25, .inr (9, [.ref q_28, .ref q_29, .int 0])), (q_28, .inl (cI, 96, .inl z0)), (q_29, .inl (cI, 12, .inl z0)), (q_26, .inr (9, [.ref q_30, .ref q_31, .int 0])), (q_30, .inl (cI, 64, .inl z0)), (q_31, .inl (cI, 8, .inl z0)), (q_6, .inr (10, [.ref q_32, .int 0, .int 0])), (q_14, .inl (cI, 256, .inl z0)), (q_33, .inr (6, [.int 0, .int 1, .ref q_36, .ref q_37, .ref q_38, .int 0, .ref q_39, .ref q_40, .ref q_41])), (q_36, .inl (cI, 8, .inl z0)), (q_37, .inr (9, [.ref q_42, .ref q_43, .int 0])), (q_42, .inl (cI, 96, .inl z0)), (q_43, .inl (cI, 12, .inl z0)), (q_38, .inr (9, [.ref q_44, .ref q_45, .int 0])), (q_44, .inl (cI, 96, .inl z0)), (q_45, .inl (cI, 12, .inl z0)), (q_46, .inr (7, [.ref q_49, .int 0, .ref q_50, .ref q_51, .ref q_52, .ref q_53, .int 0, .ref q_54, .ref q_55, .ref q_56, .ref q_57, .ref q_58, .int 0, .ref q_59, .ref q_60, .ref q_61])), (q_49, .inl (cI, 26, .inl z0)), (q_50, .inl (cI, 6, .inl z0)), (q_51, .inl (cI, 81, .inl z0)), (q_52, .inl (cI, 20, .inl z0)), (q_53, .inl (cI, 20, .inl z0)), (q_54, .inl (cI, 9, .inl z0)), (q_55, .inl (cI, 9, .inl z0)), (q_56, .inl (cI, 36, .inl z0)), (q_57, .inl (cI, 36, .inl z0)), (q_59, .inr (9, [.ref q_62, .ref q_63, .int 0])), (q_62, .inl (cI, 96, .inl z0)), (q_63, .inl (cI, 12, .inl z0)), (q_60, .inr (9, [.ref q_64, .ref q_65, .int 0])), (q_64, .inl (cI, 64, .inl z0)), (q_65, .inl (cI, 8, .inl z0)), (q_66, .inr (6, [.int 0, .int 1, .ref q_69, .ref q_70, .ref q_71, .int 0, .ref q_72, .ref q_73, .ref q_74])), (q_69, .inl (cI, 8, .inl z0)), (q_70, .inr (9, [.ref q_75, .ref q_76, .int 0])), (q_75, .inl (cI, 96, .inl z0)), (q_76, .inl (cI, 12, .inl z0)), (q_71, .inr (9, [.ref q_77, .ref q_78, .int 0])), (q_77, .inl (cI, 96, .inl z0)), (q_78, .inl (cI, 12, .inl z0)), (q_79, .inr (2, [.ref q_82, .int 0, .int (-1), .ref q_83, .int 0, .int 0, .int 0, .int 0, .int 0, .int 0])), (q_82, .inr (7, [.ref q_84, .int 0, .ref q_85, .ref q_86, .ref q_87, .ref q_88, .int 0, .ref q_89, .ref q_90, .ref q_91, .ref q_92, .ref q_93, .int 0, .ref q_94, .ref q_95, .ref q_96])), (q_84, .inl (cI, 26, .inl z0)), (q_85, .inl (cI, 6, .inl z0)), (q_86, .inl (cI, 81, .inl z0)), (q_87, .inl (cI, 20, .inl z0)), (q_88, .inl (cI, 20, .inl z0)), (q_89, .inl (cI, 9, .inl z0)), (q_90, .inl (cI, 9, .inl z0)), (q_91, .inl (cI, 36, .inl z0)), (q_92, .inl (cI, 36, .inl z0)), (q_94, .inr (9, [.ref q_97, .ref q_98, .int 0])), (q_97, .inl (cI, 96, .inl z0)), (q_98, .inl (cI, 12, .inl z0)), (q_95, .inr (9, [.ref q_99, .ref q_100, .int 0])), (q_99, .inl (cI, 64, .inl z0)), (q_100, .inl (cI, 8, .inl z0)), (q_83, .inl (cI, 600, .inl z0)), (q_101, .inr (0, [.ref q_104, .ref q_105, .ref q_106, .int 0, .ref q_107, .ref q_108, .ref q_109, .int 0, .ref q_110, .int 0, .int (-1)])), (q_105, .inl (cI, 5329, .inl z0)), (q_107, .inl (cI, 6, .inl z0)), (q_108, .inl (cI, 511, .inl z0)), (q_109, .inl (cI, 6, .inl z0))]) [0, 1, 2, 3, 4, 5, 6, 7, 8, 9, 10, 11, 12, 13, 14, 15, 16, 17, 18, 19, 20, 21, 22, 23, 24, 25, 26, 27, 28, 29, 30, 31, 32, 33, 34, 35, 36, 37, 38, 39, 40, 41, 42, 43, 44, 45, 46, 47, 48, 49, 50, 51, 52, 53, 54, 55, 56, 57, 58, 59, 60, 61, 62, 63, 64, 65, 66, 67, 68, 69, 70, 71, 72, 74, 73, 75] rfl
  have hD9 := hD.sub (ws' := [(a0, .inr (11, [.ref q_1, .int 0, .ref q_2, .ref q_5, .ref q_6, .ref q_33, .ref q_46, .ref q_66, .int 0, .ref q_79, .ref q_101, .ref q_111, .int 0, .int (-1), .ref q_112, .int 0, .ref q_113, .ref q_114, .int 0])), (q_1, .inl (cI, 600, .inl z0)), (q_2, .inr (3, [.ref q_5, .ref q_6, .ref q_7, .ref q_8, .ref q_9, .int 0, .int 0, .int 0, .int 0, .int 0, .int 0, .int (-1), .ref q_10, .ref q_11, .ref q_12, .int 0, .ref q_13, .ref q_14])), (q_5, .inr (7, [.ref q_15, .int 0, .ref q_16, .ref q_17, .ref q_18, .ref q_19, .int 0, .ref q_20, .ref q_21, .ref q_22, .ref q_23, .ref q_24, .int 0, .ref q_25, .ref q_26, .ref q_27])), (q_15, .inl (cI, 26, .inl z0)), (q_16, .inl (cI, 6, .inl z0)), (q_17, .inl (cI, 81, .inl z0)), (q_18, .inl (cI, 20, .inl z0)), (q_19, .inl (cI, 20, .inl z0)), (q_20, .inl (cI, 9, .inl z0)), (q_21, .inl (cI, 9, .inl z0)), (q_22, .inl (cI, 36, .inl z0)), (q_23, .inl (cI, 36, .inl z0)), (q_25, .inr (9, [.ref q_28, .ref q_29, .int 0])), (q_28, .inl (cI, 96, .inl z0)), (q_29, .inl (cI, 12, .inl z0)), (q_26, .inr (9, [.ref q_30, .ref q_31, .int 0])), (q_30, .inl (cI, 64, .inl z0)), (q_31, .inl (cI, 8, .inl z0)), (q_6, .inr (10, [.ref q_32, .int 0, .int 0])), (q_14, .inl (cI, 256, .inl z0)), (q_33, .inr (6, [.int 0, .int 1, .ref q_36, .ref q_37, .ref q_38, .int 0, .ref q_39, .ref q_40, .ref q_41])), (q_36, .inl (cI, 8, .inl z0)), (q_37, .inr (9, [.ref q_42, .ref q_43, .int 0])), (q_42, .inl (cI, 96, .inl z0)), (q_43, .inl (cI, 12, .inl z0)), (q_38, .inr (9, [.ref q_44, .ref q_45, .int 0])), (q_44, .inl (cI, 96, .inl z0)), (q_45, .inl (cI, 12, .inl z0)), (q_46, .inr (7, [.ref q_49, .int 0, .ref q_50, .ref q_51, .ref q_52, .ref q_53, .int 0, .ref q_54, .ref q_55, .ref q_56, .ref q_57, .ref q_58, .int 0, .ref q_59, .ref q_60, .ref q_61])), (q_49, .inl (cI, 26, .inl z0)), (q_50, .inl (cI, 6, .inl z0)), (q_51, .inl (cI, 81, .inl z0)), (q_52, .inl (cI, 20, .inl z0)), (q_53, .inl (cI, 20, .inl z0)), (q_54, .inl (cI, 9, .inl z0)), (q_55, .inl (cI, 9, .inl z0)), (q_56, .inl (cI, 36, .inl z0)), (q_57, .inl (cI, 36, .inl z0)), (q_59, .inr (9, [.ref q_62, .ref q_63, .int 0])), (q_62, .inl (cI, 96, .inl z0)), (q_63, .inl (cI, 12, .inl z0)), (q_60, .inr (9, [.ref q_64, .ref q_65, .int 0])), (q_64, .inl (cI, 64, .inl z0)), (q_65, .inl (cI, 8, .inl z0)), (q_66, .inr (6, [.int 0, .int 1, .ref q_69, .ref q_70, .ref q_71, .int 0, .ref q_72, .ref q_73, .ref q_74])), (q_69, .inl (cI, 8, .inl z0)), (q_70, .inr (9, [.ref q_75, .ref q_76, .int 0])), (q_75, .inl (cI, 96, .inl z0)), (q_76, .inl (cI, 12, .inl z0)), (q_71, .inr (9, [.ref q_77, .ref q_78, .int 0])), (q_77, .inl (cI, 96, .inl z0)), (q_78, .inl (cI, 12, .inl z0)), (q_79, .inr (2, [.ref q_82, .int 0, .int (-1), .ref q_83, .int 0, .int 0, .int 0, .int 0, .int 0, .int 0])), (q_82, .inr (7, [.ref q_84, .int 0, .ref q_85, .ref q_86, .ref q_87, .ref q_88, .int 0, .ref q_89, .ref q_90, .ref q_91, .ref q_92, .ref q_93, .int 0, .ref q_94, .ref q_95, .ref q_96])), (q_84, .inl (cI, 26, .inl z0)), (q_85, .inl (cI, 6, .inl z0)), (q_86, .inl (cI, 81, .inl z0)), (q_87, .inl (cI, 20, .inl z0)), (q_88, .inl (cI, 20, .inl z0)), (q_89, .inl (cI, 9, .inl z0)), (q_90, .inl (cI, 9, .inl z0)), (q_91, .inl (cI, 36, .inl z0)), (q_92, .inl (cI, 36, .inl z0)), (q_94, .inr (9, [.ref q_97, .ref q_98, .int 0])), (q_97, .inl (cI, 96, .inl z0)), (q_98, .inl (cI, 12, .inl z0)), (q_95, .inr (9, [.ref q_99, .ref q_100, .int 0])), (q_99, .inl (cI, 64, .inl z0)), (q_100, .inl (cI, 8, .inl z0)), (q_83, .inl (cI, 600, .inl z0)), (q_101, .inr (0, [.ref q_104, .ref q_105, .ref q_106, .int 0, .ref q_107, .ref q_108, .ref q_109, .int 0, .ref q_110, .int 0, .int (-1)])), (q_105, .inl (cI, 5329, .inl z0)), (q_107, .inl (cI, 6, .inl z0)), (q_108, .inl (cI, 511, .inl z0)), (q_109, .inl (cI, 6, .inl z0))]) [0, 1, 2, 3, 4, 5, 6, 7, 8, 9, 10, 11, 12, 13, 14, 15, 16, 17, 18, 19, 20, 21, 22, 23, 24, 25, 26, 27, 28, 29, 30, 31, 32, 33, 34, 35, 36, 37, 38, 39, 40, 41, 42, 43, 44, 45, 46, 47, 48, 49, 50, 51, 52, 53, 54, 55, 56, 57, 58, 59, 60, 61, 62, 63, 64, 65, 66, 67, 68, 69, 70, 71, 72, 74, 73, 75] (by decide) rfl
  refine W.widen (k := 374) (n := 60943) (Nat.le_of_ble_eq_true rfl) (Nat.le_of_ble_eq_true rfl) ?_
  exact W.vret hx hb hr (fun t ht hW => ⟨⟨[(a0, .inr (11, [.ref q_1, .int 0, .ref q_2, .ref q_5, .ref q_6, .ref q_33, .ref q_46, .ref q_66, .int 0, .ref q_79, .ref q_101, .ref q_111, .int 0, .int (-1), .ref q_112, .int 0, .ref q_113, .ref q_114, .int 0])), (q_1, .inl (cI, 600, .inl z0)), (q_2, .inr (3, [.ref q_5, .ref q_6, .ref q_7, .ref q_8, .ref q_9, .int 0, .int 0, .int 0, .int 0, .int 0, .int 0, .int (-1), .ref q_10, .ref q_11, .ref q_12, .int 0, .ref q_13, .ref q_14])), (q_5, .inr (7, [.ref q_15, .int 0, .ref q_16, .ref q_17, .ref q_18, .ref q_19, .int 0, .ref q_20, .ref q_21, .ref q_22, .ref q_23, .ref q_24, .int 0, .ref q_25, .ref q_26, .ref q_27])), (q_15, .inl (cI, 26, .inl z0)), (q_16, .inl (cI, 6, .inl z0)), (q_17, .inl (cI, 81, .inl z0)), (q_18, .inl (cI, 20, .inl z0)), (q_19, .inl (cI, 20, .inl z0)), (q_20, .inl (cI, 9, .inl z0)), (q_21, .inl (cI, 9, .inl z0)), (q_22, .inl (cI, 36, .inl z0)), (q_23, .inl (cI, 36, .inl z0)), (q_25, .inr (9, [.ref q_28, .ref q_29, .int 0])), (q_28, .inl (cI, 96, .inl z0)), (q_29, .inl (cI, 12, .inl z0)), (q_26, .inr (9, [.ref q_30, .ref q_31, .int 0])), (q_30, .inl (cI, 64, .inl z0)), (q_31, .inl (cI, 8, .inl z0)), (q_6, .inr (10, [.ref q_32, .int 0, .int 0])), (q_14, .inl (cI, 256, .inl z0)), (q_33, .inr (6, [.int 0, .int 1, .ref q_36, .ref q_37, .ref q_38, .int 0, .ref q_39, .ref q_40, .ref q_41])), (q_36, .inl (cI, 8, .inl z0)), (q_37, .inr (9, [.ref q_42, .ref q_43, .int 0])), (q_42, .inl (cI, 96, .inl z0)), (q_43, .inl (cI, 12, .inl z0)), (q_38, .inr (9, [.ref q_44, .ref q_45, .int 0])), (q_44, .inl (cI, 96, .inl z0)), (q_45, .inl (cI, 12, .inl z0)), (q_46, .inr (7, [.ref q_49, .int 0, .ref q_50, .ref q_51, .ref q_52, .ref q_53, .int 0, .ref q_54, .ref q_55, .ref q_56, .ref q_57, .ref q_58, .int 0, .ref q_59, .ref q_60, .ref q_61])), (q_49, .inl (cI, 26, .inl z0)), (q_50, .inl (cI, 6, .inl z0)), (q_51, .inl (cI, 81, .inl z0)), (q_52, .inl (cI, 20, .inl z0)), (q_53, .inl (cI, 20, .inl z0)), (q_54, .inl (cI, 9, .inl z0)), (q_55, .inl (cI, 9, .inl z0)), (q_56, .inl (cI, 36, .inl z0)), (q_57, .inl (cI, 36, .inl z0)), (q_59, .inr (9, [.ref q_62, .ref q_63, .int 0])), (q_62, .inl (cI, 96, .inl z0)), (q_63, .inl (cI, 12, .inl z0)), (q_60, .inr (9, [.ref q_64, .ref q_65, .int 0])), (q_64, .inl (cI, 64, .inl z0)), (q_65, .inl (cI, 8, .inl z0)), (q_66, .inr (6, [.int 0, .int 1, .ref q_69, .ref q_70, .ref q_71, .int 0, .ref q_72, .ref q_73, .ref q_74])), (q_69, .inl (cI, 8, .inl z0)), (q_70, .inr (9, [.ref q_75, .ref q_76, .int 0])), (q_75, .inl (cI, 96, .inl z0)), (q_76, .inl (cI, 12, .inl z0)), (q_71, .inr (9, [.ref q_77, .ref q_78, .int 0])), (q_77, .inl (cI, 96, .inl z0)), (q_78, .inl (cI, 12, .inl z0)), (q_79, .inr (2, [.ref q_82, .int 0, .int (-1), .ref q_83, .int 0, .int 0, .int 0, .int 0, .int 0, .int 0])), (q_82, .inr (7, [.ref q_84, .int 0, .ref q_85, .ref q_86, .ref q_87, .ref q_88, .int 0, .ref q_89, .ref q_90, .ref q_91, .ref q_92, .ref q_93, .int 0, .ref q_94, .ref q_95, .ref q_96])), (q_84, .inl (cI, 26, .inl z0)), (q_85, .inl (cI, 6, .inl z0)), (q_86, .inl (cI, 81, .inl z0)), (q_87, .inl (cI, 20, .inl z0)), (q_88, .inl (cI, 20, .inl z0)), (q_89, .inl (cI, 9, .inl z0)), (q_90, .inl (cI, 9, .inl z0)), (q_91, .inl (cI, 36, .inl z0)), (q_92, .inl (cI, 36, .inl z0)), (q_94, .inr (9, [.ref q_97, .ref q_98, .int 0])), (q_97, .inl (cI, 96, .inl z0)), (q_98, .inl (cI, 12, .inl z0)), (q_95, .inr (9, [.ref q_99, .ref q_100, .int 0])), (q_99, .inl (cI, 64, .inl z0)), (q_100, .inl (cI, 8, .inl z0)), (q_83, .inl (cI, 600, .inl z0)), (q_101, .inr (0, [.ref q_104, .ref q_105, .ref q_106, .int 0, .ref q_107, .ref q_108, .ref q_109, .int 0, .ref q_110, .int 0, .int (-1)])), (q_105, .inl (cI, 5329, .inl z0)), (q_107, .inl (cI, 6, .inl z0)), (q_108, .inl (cI, 511, .inl z0)), (q_109, .inl (cI, 6, .inl z0))], rfl, ⟨q_1, q_2, q_5, q_6, q_33, q_46, q_66, q_79, q_101, q_111, q_112, q_113, q_114, q_7, q_8, q_9, q_10, q_11, q_12, q_13, q_14, q_15, q_16, q_17, q_18, q_19, q_20, q_21, q_22, q_23, q_24, q_25, q_26, q_27, q_28, q_29, q_30, q_31, q_32, q_36, q_37, q_38, q_39, q_40, q_41, q_42, q_43, q_44, q_45, q_49, q_50, q_51, q_52, q_53, q_54, q_55, q_56, q_57, q_58, q_59, q_60, q_61, q_62, q_63, q_64, q_65, q_69, q_70, q_71, q_72, q_73, q_74, q_75, q_76, q_77, q_78, q_82, q_83, q_84, q_85, q_86, q_87, q_88, q_89, q_90, q_91, q_92, q_93, q_94, q_95, q_96, q_97, q_98, q_99, q_100, q_104, q_105, q_106, q_107, q_108, q_109, q_110, rfl⟩, by rw [ht]; exact hP9, va_K.moved hW.alike hK, hD9⟩, hS.F ht⟩) hS.2.2 dX11_init_138
end
