theorem dX12_numberOf_0 : decode cX12_numberOf 0 = .ok (.iconst 0, 1) := by decide +kernel
theorem dX12_numberOf_1 : decode cX12_numberOf 1 = .ok (.istore_n 2, 1) := by decide +kernel
theorem dX12_numberOf_2 : decode cX12_numberOf 2 = .ok (.iconst 0, 1) := by decide +kernel
theorem dX12_numberOf_3 : decode cX12_numberOf 3 = .ok (.istore_n 3, 1) := by decide +kernel
theorem dX12_numberOf_4 : decode cX12_numberOf 4 = .ok (.iload_n 3, 1) := by decide +kernel
theorem dX12_numberOf_5 : decode cX12_numberOf 5 = .ok (.iload_n 1, 1) := by decide +kernel
theorem dX12_numberOf_6 : decode cX12_numberOf 6 = .ok (.if_icmp .ge 21, 3) := by decide +kernel
theorem dX12_numberOf_9 : decode cX12_numberOf 9 = .ok (.bipush 9, 2) := by decide +kernel
theorem dX12_numberOf_11 : decode cX12_numberOf 11 = .ok (.iload_n 2, 1) := by decide +kernel
theorem dX12_numberOf_12 : decode cX12_numberOf 12 = .ok (.imul, 1) := by decide +kernel
theorem dX12_numberOf_13 : decode cX12_numberOf 13 = .ok (.aload_n 0, 1) := by decide +kernel
theorem dX12_numberOf_14 : decode cX12_numberOf 14 = .ok (.getfield 49, 3) := by decide +kernel
theorem dX12_numberOf_17 : decode cX12_numberOf 17 = .ok (.iload_n 3, 1) := by decide +kernel
theorem dX12_numberOf_18 : decode cX12_numberOf 18 = .ok (.iaload, 1) := by decide +kernel
theorem dX12_numberOf_19 : decode cX12_numberOf 19 = .ok (.iadd, 1) := by decide +kernel
theorem dX12_numberOf_20 : decode cX12_numberOf 20 = .ok (.istore_n 2, 1) := by decide +kernel
theorem dX12_numberOf_21 : decode cX12_numberOf 21 = .ok (.iinc 3 1, 3) := by decide +kernel
theorem dX12_numberOf_24 : decode cX12_numberOf 24 = .ok (.goto (-20), 3) := by decide +kernel
theorem dX12_numberOf_27 : decode cX12_numberOf 27 = .ok (.iload_n 2, 1) := by decide +kernel
theorem dX12_numberOf_28 : decode cX12_numberOf 28 = .ok (.ireturn, 1) := by decide +kernel
theorem dX12_padded_0 : decode cX12_padded 0 = .ok (.lconst 0, 1) := by decide +kernel
theorem dX12_padded_1 : decode cX12_padded 1 = .ok (.lstore_n 2, 1) := by decide +kernel
theorem dX12_padded_2 : decode cX12_padded 2 = .ok (.iconst 0, 1) := by decide +kernel
theorem dX12_padded_3 : decode cX12_padded 3 = .ok (.istore 4, 2) := by decide +kernel
theorem dX12_padded_5 : decode cX12_padded 5 = .ok (.iload 4, 2) := by decide +kernel
theorem dX12_padded_7 : decode cX12_padded 7 = .ok (.bipush 10, 2) := by decide +kernel
theorem dX12_padded_9 : decode cX12_padded 9 = .ok (.if_icmp .ge 34, 3) := by decide +kernel
theorem dX12_padded_12 : decode cX12_padded 12 = .ok (.ldc2_w 315, 3) := by decide +kernel
theorem dX12_padded_15 : decode cX12_padded 15 = .ok (.lload_n 2, 1) := by decide +kernel
theorem dX12_padded_16 : decode cX12_padded 16 = .ok (.lmul, 1) := by decide +kernel
theorem dX12_padded_17 : decode cX12_padded 17 = .ok (.iload 4, 2) := by decide +kernel
theorem dX12_padded_19 : decode cX12_padded 19 = .ok (.iload_n 1, 1) := by decide +kernel
theorem dX12_padded_20 : decode cX12_padded 20 = .ok (.if_icmp .ge 13, 3) := by decide +kernel
theorem dX12_padded_23 : decode cX12_padded 23 = .ok (.aload_n 0, 1) := by decide +kernel
theorem dX12_padded_24 : decode cX12_padded 24 = .ok (.getfield 49, 3) := by decide +kernel
theorem dX12_padded_27 : decode cX12_padded 27 = .ok (.iload 4, 2) := by decide +kernel
theorem dX12_padded_29 : decode cX12_padded 29 = .ok (.iaload, 1) := by decide +kernel
theorem dX12_padded_30 : decode cX12_padded 30 = .ok (.goto 4, 3) := by decide +kernel
theorem dX12_padded_33 : decode cX12_padded 33 = .ok (.iconst 0, 1) := by decide +kernel
theorem dX12_padded_34 : decode cX12_padded 34 = .ok (.i2l, 1) := by decide +kernel
theorem dX12_padded_35 : decode cX12_padded 35 = .ok (.ladd, 1) := by decide +kernel
theorem dX12_padded_36 : decode cX12_padded 36 = .ok (.lstore_n 2, 1) := by decide +kernel
theorem dX12_padded_37 : decode cX12_padded 37 = .ok (.iinc 4 1, 3) := by decide +kernel
theorem dX12_padded_40 : decode cX12_padded 40 = .ok (.goto (-35), 3) := by decide +kernel
theorem dX12_padded_43 : decode cX12_padded 43 = .ok (.lload_n 2, 1) := by decide +kernel
theorem dX12_padded_44 : decode cX12_padded 44 = .ok (.lreturn, 1) := by decide +kernel
theorem dX12_finds_0 : decode cX12_finds 0 = .ok (.aload_n 0, 1) := by decide +kernel
theorem dX12_finds_1 : decode cX12_finds 1 = .ok (.iload_n 1, 1) := by decide +kernel
theorem dX12_finds_2 : decode cX12_finds 2 = .ok (.invokevirtual 317, 3) := by decide +kernel
theorem dX12_finds_5 : decode cX12_finds 5 = .ok (.lstore_n 2, 1) := by decide +kernel
theorem dX12_finds_6 : decode cX12_finds 6 = .ok (.aload_n 0, 1) := by decide +kernel
theorem dX12_finds_7 : decode cX12_finds 7 = .ok (.getfield 242, 3) := by decide +kernel
theorem dX12_finds_10 : decode cX12_finds 10 = .ok (.istore 4, 2) := by decide +kernel
theorem dX12_finds_12 : decode cX12_finds 12 = .ok (.iload 4, 2) := by decide +kernel
theorem dX12_finds_14 : decode cX12_finds 14 = .ok (.ifCond .le 23, 3) := by decide +kernel
theorem dX12_finds_17 : decode cX12_finds 17 = .ok (.aload_n 0, 1) := by decide +kernel
theorem dX12_finds_18 : decode cX12_finds 18 = .ok (.getfield 52, 3) := by decide +kernel
theorem dX12_finds_21 : decode cX12_finds 21 = .ok (.iload 4, 2) := by decide +kernel
theorem dX12_finds_23 : decode cX12_finds 23 = .ok (.iconst 1, 1) := by decide +kernel
theorem dX12_finds_24 : decode cX12_finds 24 = .ok (.isub, 1) := by decide +kernel
theorem dX12_finds_25 : decode cX12_finds 25 = .ok (.laload, 1) := by decide +kernel
theorem dX12_finds_26 : decode cX12_finds 26 = .ok (.lload_n 2, 1) := by decide +kernel
theorem dX12_finds_27 : decode cX12_finds 27 = .ok (.lcmp, 1) := by decide +kernel
theorem dX12_finds_28 : decode cX12_finds 28 = .ok (.ifCond .le 9, 3) := by decide +kernel
theorem dX12_finds_31 : decode cX12_finds 31 = .ok (.iinc 4 (-1), 3) := by decide +kernel
theorem dX12_finds_34 : decode cX12_finds 34 = .ok (.goto (-22), 3) := by decide +kernel
theorem dX12_finds_37 : decode cX12_finds 37 = .ok (.iload 4, 2) := by decide +kernel
theorem dX12_finds_39 : decode cX12_finds 39 = .ok (.ifCond .le 18, 3) := by decide +kernel
theorem dX12_finds_42 : decode cX12_finds 42 = .ok (.aload_n 0, 1) := by decide +kernel
theorem dX12_finds_43 : decode cX12_finds 43 = .ok (.getfield 52, 3) := by decide +kernel
theorem dX12_finds_46 : decode cX12_finds 46 = .ok (.iload 4, 2) := by decide +kernel
theorem dX12_finds_48 : decode cX12_finds 48 = .ok (.iconst 1, 1) := by decide +kernel
theorem dX12_finds_49 : decode cX12_finds 49 = .ok (.isub, 1) := by decide +kernel
theorem dX12_finds_50 : decode cX12_finds 50 = .ok (.laload, 1) := by decide +kernel
theorem dX12_finds_51 : decode cX12_finds 51 = .ok (.lload_n 2, 1) := by decide +kernel
theorem dX12_finds_52 : decode cX12_finds 52 = .ok (.lcmp, 1) := by decide +kernel
theorem dX12_finds_53 : decode cX12_finds 53 = .ok (.ifCond .ne 4, 3) := by decide +kernel
theorem dX12_finds_56 : decode cX12_finds 56 = .ok (.return_, 1) := by decide +kernel
theorem dX12_finds_57 : decode cX12_finds 57 = .ok (.aload_n 0, 1) := by decide +kernel
theorem dX12_finds_58 : decode cX12_finds 58 = .ok (.getfield 242, 3) := by decide +kernel
theorem dX12_finds_61 : decode cX12_finds 61 = .ok (.istore 5, 2) := by decide +kernel
theorem dX12_finds_63 : decode cX12_finds 63 = .ok (.iload 5, 2) := by decide +kernel
theorem dX12_finds_65 : decode cX12_finds 65 = .ok (.iload 4, 2) := by decide +kernel
theorem dX12_finds_67 : decode cX12_finds 67 = .ok (.if_icmp .le 25, 3) := by decide +kernel
theorem dX12_finds_70 : decode cX12_finds 70 = .ok (.aload_n 0, 1) := by decide +kernel
theorem dX12_finds_71 : decode cX12_finds 71 = .ok (.getfield 52, 3) := by decide +kernel
theorem dX12_finds_74 : decode cX12_finds 74 = .ok (.iload 5, 2) := by decide +kernel
theorem dX12_finds_76 : decode cX12_finds 76 = .ok (.aload_n 0, 1) := by decide +kernel
theorem dX12_finds_77 : decode cX12_finds 77 = .ok (.getfield 52, 3) := by decide +kernel
theorem dX12_finds_80 : decode cX12_finds 80 = .ok (.iload 5, 2) := by decide +kernel
theorem dX12_finds_82 : decode cX12_finds 82 = .ok (.iconst 1, 1) := by decide +kernel
theorem dX12_finds_83 : decode cX12_finds 83 = .ok (.isub, 1) := by decide +kernel
theorem dX12_finds_84 : decode cX12_finds 84 = .ok (.laload, 1) := by decide +kernel
theorem dX12_finds_85 : decode cX12_finds 85 = .ok (.lastore, 1) := by decide +kernel
theorem dX12_finds_86 : decode cX12_finds 86 = .ok (.iinc 5 (-1), 3) := by decide +kernel
theorem dX12_finds_89 : decode cX12_finds 89 = .ok (.goto (-26), 3) := by decide +kernel
theorem dX12_finds_92 : decode cX12_finds 92 = .ok (.aload_n 0, 1) := by decide +kernel
theorem dX12_finds_93 : decode cX12_finds 93 = .ok (.getfield 52, 3) := by decide +kernel
theorem dX12_finds_96 : decode cX12_finds 96 = .ok (.iload 4, 2) := by decide +kernel
theorem dX12_finds_98 : decode cX12_finds 98 = .ok (.lload_n 2, 1) := by decide +kernel
theorem dX12_finds_99 : decode cX12_finds 99 = .ok (.lastore, 1) := by decide +kernel
theorem dX12_finds_100 : decode cX12_finds 100 = .ok (.aload_n 0, 1) := by decide +kernel
theorem dX12_finds_101 : decode cX12_finds 101 = .ok (.dup, 1) := by decide +kernel
theorem dX12_finds_102 : decode cX12_finds 102 = .ok (.getfield 242, 3) := by decide +kernel
theorem dX12_finds_105 : decode cX12_finds 105 = .ok (.iconst 1, 1) := by decide +kernel
theorem dX12_finds_106 : decode cX12_finds 106 = .ok (.iadd, 1) := by decide +kernel
theorem dX12_finds_107 : decode cX12_finds 107 = .ok (.putfield 242, 3) := by decide +kernel
theorem dX12_finds_110 : decode cX12_finds 110 = .ok (.aload_n 0, 1) := by decide +kernel
theorem dX12_finds_111 : decode cX12_finds 111 = .ok (.aload_n 0, 1) := by decide +kernel
theorem dX12_finds_112 : decode cX12_finds 112 = .ok (.getfield 242, 3) := by decide +kernel
theorem dX12_finds_115 : decode cX12_finds 115 = .ok (.sipush 200, 3) := by decide +kernel
theorem dX12_finds_118 : decode cX12_finds 118 = .ok (.if_icmp .le 7, 3) := by decide +kernel
theorem dX12_finds_121 : decode cX12_finds 121 = .ok (.iconst 1, 1) := by decide +kernel
theorem dX12_finds_122 : decode cX12_finds 122 = .ok (.goto 4, 3) := by decide +kernel
theorem dX12_finds_125 : decode cX12_finds 125 = .ok (.iconst 0, 1) := by decide +kernel
theorem dX12_finds_126 : decode cX12_finds 126 = .ok (.putfield 301, 3) := by decide +kernel
theorem dX12_finds_129 : decode cX12_finds 129 = .ok (.return_, 1) := by decide +kernel
theorem dX12_marks_0 : decode cX12_marks 0 = .ok (.aload_n 0, 1) := by decide +kernel
theorem dX12_marks_1 : decode cX12_marks 1 = .ok (.iload_n 1, 1) := by decide +kernel
theorem dX12_marks_2 : decode cX12_marks 2 = .ok (.invokevirtual 321, 3) := by decide +kernel
theorem dX12_marks_5 : decode cX12_marks 5 = .ok (.istore_n 2, 1) := by decide +kernel
theorem dX12_marks_6 : decode cX12_marks 6 = .ok (.aload_n 0, 1) := by decide +kernel
theorem dX12_marks_7 : decode cX12_marks 7 = .ok (.getfield 56, 3) := by decide +kernel
theorem dX12_marks_10 : decode cX12_marks 10 = .ok (.iload_n 2, 1) := by decide +kernel
theorem dX12_marks_11 : decode cX12_marks 11 = .ok (.iaload, 1) := by decide +kernel
theorem dX12_marks_12 : decode cX12_marks 12 = .ok (.aload_n 0, 1) := by decide +kernel
theorem dX12_marks_13 : decode cX12_marks 13 = .ok (.getfield 324, 3) := by decide +kernel
theorem dX12_marks_16 : decode cX12_marks 16 = .ok (.if_icmp .ne 4, 3) := by decide +kernel
theorem dX12_marks_19 : decode cX12_marks 19 = .ok (.return_, 1) := by decide +kernel
theorem dX12_marks_20 : decode cX12_marks 20 = .ok (.aload_n 0, 1) := by decide +kernel
theorem dX12_marks_21 : decode cX12_marks 21 = .ok (.getfield 56, 3) := by decide +kernel
theorem dX12_marks_24 : decode cX12_marks 24 = .ok (.iload_n 2, 1) := by decide +kernel
theorem dX12_marks_25 : decode cX12_marks 25 = .ok (.aload_n 0, 1) := by decide +kernel
theorem dX12_marks_26 : decode cX12_marks 26 = .ok (.getfield 324, 3) := by decide +kernel
theorem dX12_marks_29 : decode cX12_marks 29 = .ok (.iastore, 1) := by decide +kernel
theorem dX12_marks_30 : decode cX12_marks 30 = .ok (.aload_n 0, 1) := by decide +kernel
theorem dX12_marks_31 : decode cX12_marks 31 = .ok (.getfield 59, 3) := by decide +kernel
theorem dX12_marks_34 : decode cX12_marks 34 = .ok (.aload_n 0, 1) := by decide +kernel
theorem dX12_marks_35 : decode cX12_marks 35 = .ok (.getfield 327, 3) := by decide +kernel
theorem dX12_marks_38 : decode cX12_marks 38 = .ok (.iload_n 2, 1) := by decide +kernel
theorem dX12_marks_39 : decode cX12_marks 39 = .ok (.iastore, 1) := by decide +kernel
theorem dX12_marks_40 : decode cX12_marks 40 = .ok (.aload_n 0, 1) := by decide +kernel
theorem dX12_marks_41 : decode cX12_marks 41 = .ok (.dup, 1) := by decide +kernel
theorem dX12_marks_42 : decode cX12_marks 42 = .ok (.getfield 327, 3) := by decide +kernel
theorem dX12_marks_45 : decode cX12_marks 45 = .ok (.iconst 1, 1) := by decide +kernel
theorem dX12_marks_46 : decode cX12_marks 46 = .ok (.iadd, 1) := by decide +kernel
theorem dX12_marks_47 : decode cX12_marks 47 = .ok (.putfield 327, 3) := by decide +kernel
theorem dX12_marks_50 : decode cX12_marks 50 = .ok (.return_, 1) := by decide +kernel
theorem dX12_breaks_0 : decode cX12_breaks 0 = .ok (.aload_n 0, 1) := by decide +kernel
theorem dX12_breaks_1 : decode cX12_breaks 1 = .ok (.getfield 56, 3) := by decide +kernel
theorem dX12_breaks_4 : decode cX12_breaks 4 = .ok (.aload_n 0, 1) := by decide +kernel
theorem dX12_breaks_5 : decode cX12_breaks 5 = .ok (.iload_n 2, 1) := by decide +kernel
theorem dX12_breaks_6 : decode cX12_breaks 6 = .ok (.invokevirtual 321, 3) := by decide +kernel
theorem dX12_breaks_9 : decode cX12_breaks 9 = .ok (.iaload, 1) := by decide +kernel
theorem dX12_breaks_10 : decode cX12_breaks 10 = .ok (.aload_n 0, 1) := by decide +kernel
theorem dX12_breaks_11 : decode cX12_breaks 11 = .ok (.getfield 324, 3) := by decide +kernel
theorem dX12_breaks_14 : decode cX12_breaks 14 = .ok (.if_icmp .ne 4, 3) := by decide +kernel
theorem dX12_breaks_17 : decode cX12_breaks 17 = .ok (.return_, 1) := by decide +kernel
theorem dX12_breaks_18 : decode cX12_breaks 18 = .ok (.iconst 0, 1) := by decide +kernel
theorem dX12_breaks_19 : decode cX12_breaks 19 = .ok (.istore_n 3, 1) := by decide +kernel
theorem dX12_breaks_20 : decode cX12_breaks 20 = .ok (.iconst 0, 1) := by decide +kernel
theorem dX12_breaks_21 : decode cX12_breaks 21 = .ok (.istore 4, 2) := by decide +kernel
theorem dX12_breaks_23 : decode cX12_breaks 23 = .ok (.iload 4, 2) := by decide +kernel
theorem dX12_breaks_25 : decode cX12_breaks 25 = .ok (.aload_n 0, 1) := by decide +kernel
theorem dX12_breaks_26 : decode cX12_breaks 26 = .ok (.getfield 7, 3) := by decide +kernel
theorem dX12_breaks_29 : decode cX12_breaks 29 = .ok (.bipush 17, 2) := by decide +kernel
theorem dX12_breaks_31 : decode cX12_breaks 31 = .ok (.iaload, 1) := by decide +kernel
theorem dX12_breaks_32 : decode cX12_breaks 32 = .ok (.if_icmp .ge 72, 3) := by decide +kernel
theorem dX12_breaks_35 : decode cX12_breaks 35 = .ok (.iconst 0, 1) := by decide +kernel
theorem dX12_breaks_36 : decode cX12_breaks 36 = .ok (.istore 5, 2) := by decide +kernel
theorem dX12_breaks_38 : decode cX12_breaks 38 = .ok (.iload 5, 2) := by decide +kernel
theorem dX12_breaks_40 : decode cX12_breaks 40 = .ok (.iload_n 1, 1) := by decide +kernel
theorem dX12_breaks_41 : decode cX12_breaks 41 = .ok (.if_icmp .ge 57, 3) := by decide +kernel
theorem dX12_breaks_44 : decode cX12_breaks 44 = .ok (.aload_n 0, 1) := by decide +kernel
theorem dX12_breaks_45 : decode cX12_breaks 45 = .ok (.getfield 7, 3) := by decide +kernel
theorem dX12_breaks_48 : decode cX12_breaks 48 = .ok (.bipush 40, 2) := by decide +kernel
theorem dX12_breaks_50 : decode cX12_breaks 50 = .ok (.iaload, 1) := by decide +kernel
theorem dX12_breaks_51 : decode cX12_breaks 51 = .ok (.iload 4, 2) := by decide +kernel
theorem dX12_breaks_53 : decode cX12_breaks 53 = .ok (.ishr, 1) := by decide +kernel
theorem dX12_breaks_54 : decode cX12_breaks 54 = .ok (.iconst 1, 1) := by decide +kernel
theorem dX12_breaks_55 : decode cX12_breaks 55 = .ok (.iand, 1) := by decide +kernel
theorem dX12_breaks_56 : decode cX12_breaks 56 = .ok (.iconst 1, 1) := by decide +kernel
theorem dX12_breaks_57 : decode cX12_breaks 57 = .ok (.if_icmp .ne 41, 3) := by decide +kernel
theorem dX12_breaks_60 : decode cX12_breaks 60 = .ok (.iload_n 3, 1) := by decide +kernel
theorem dX12_breaks_61 : decode cX12_breaks 61 = .ok (.iload 4, 2) := by decide +kernel
theorem dX12_breaks_63 : decode cX12_breaks 63 = .ok (.ishr, 1) := by decide +kernel
theorem dX12_breaks_64 : decode cX12_breaks 64 = .ok (.iconst 1, 1) := by decide +kernel
theorem dX12_breaks_65 : decode cX12_breaks 65 = .ok (.iand, 1) := by decide +kernel
theorem dX12_breaks_66 : decode cX12_breaks 66 = .ok (.ifCond .ne 32, 3) := by decide +kernel
theorem dX12_breaks_69 : decode cX12_breaks 69 = .ok (.aload_n 0, 1) := by decide +kernel
theorem dX12_breaks_70 : decode cX12_breaks 70 = .ok (.iload 4, 2) := by decide +kernel
theorem dX12_breaks_72 : decode cX12_breaks 72 = .ok (.iload 5, 2) := by decide +kernel
theorem dX12_breaks_74 : decode cX12_breaks 74 = .ok (.aload_n 0, 1) := by decide +kernel
theorem dX12_breaks_75 : decode cX12_breaks 75 = .ok (.getfield 43, 3) := by decide +kernel
theorem dX12_breaks_78 : decode cX12_breaks 78 = .ok (.iload_n 1, 1) := by decide +kernel
theorem dX12_breaks_79 : decode cX12_breaks 79 = .ok (.invokevirtual 368, 3) := by decide +kernel
theorem dX12_breaks_82 : decode cX12_breaks 82 = .ok (.ifCond .eq 10, 3) := by decide +kernel
theorem dX12_breaks_85 : decode cX12_breaks 85 = .ok (.iload_n 3, 1) := by decide +kernel
theorem dX12_breaks_86 : decode cX12_breaks 86 = .ok (.iconst 1, 1) := by decide +kernel
theorem dX12_breaks_87 : decode cX12_breaks 87 = .ok (.iload 4, 2) := by decide +kernel
theorem dX12_breaks_89 : decode cX12_breaks 89 = .ok (.ishl, 1) := by decide +kernel
theorem dX12_breaks_90 : decode cX12_breaks 90 = .ok (.ior, 1) := by decide +kernel
theorem dX12_breaks_91 : decode cX12_breaks 91 = .ok (.istore_n 3, 1) := by decide +kernel
theorem dX12_breaks_92 : decode cX12_breaks 92 = .ok (.iinc 5 1, 3) := by decide +kernel
theorem dX12_breaks_95 : decode cX12_breaks 95 = .ok (.goto (-57), 3) := by decide +kernel
theorem dX12_breaks_98 : decode cX12_breaks 98 = .ok (.iinc 4 1, 3) := by decide +kernel
theorem dX12_breaks_101 : decode cX12_breaks 101 = .ok (.goto (-78), 3) := by decide +kernel
theorem dX12_breaks_104 : decode cX12_breaks 104 = .ok (.iconst 0, 1) := by decide +kernel
theorem dX12_breaks_105 : decode cX12_breaks 105 = .ok (.istore 4, 2) := by decide +kernel
theorem dX12_breaks_107 : decode cX12_breaks 107 = .ok (.iload 4, 2) := by decide +kernel
theorem dX12_breaks_109 : decode cX12_breaks 109 = .ok (.aload_n 0, 1) := by decide +kernel
theorem dX12_breaks_110 : decode cX12_breaks 110 = .ok (.getfield 7, 3) := by decide +kernel
theorem dX12_breaks_113 : decode cX12_breaks 113 = .ok (.bipush 40, 2) := by decide +kernel
theorem dX12_breaks_115 : decode cX12_breaks 115 = .ok (.iaload, 1) := by decide +kernel
theorem dX12_breaks_116 : decode cX12_breaks 116 = .ok (.if_icmp .gt 24, 3) := by decide +kernel
theorem dX12_breaks_119 : decode cX12_breaks 119 = .ok (.iload 4, 2) := by decide +kernel
theorem dX12_breaks_121 : decode cX12_breaks 121 = .ok (.iload_n 3, 1) := by decide +kernel
theorem dX12_breaks_122 : decode cX12_breaks 122 = .ok (.iand, 1) := by decide +kernel
theorem dX12_breaks_123 : decode cX12_breaks 123 = .ok (.ifCond .ne 11, 3) := by decide +kernel
theorem dX12_breaks_126 : decode cX12_breaks 126 = .ok (.aload_n 0, 1) := by decide +kernel
theorem dX12_breaks_127 : decode cX12_breaks 127 = .ok (.getfield 92, 3) := by decide +kernel
theorem dX12_breaks_130 : decode cX12_breaks 130 = .ok (.iload 4, 2) := by decide +kernel
theorem dX12_breaks_132 : decode cX12_breaks 132 = .ok (.iconst 1, 1) := by decide +kernel
theorem dX12_breaks_133 : decode cX12_breaks 133 = .ok (.bastore, 1) := by decide +kernel
theorem dX12_breaks_134 : decode cX12_breaks 134 = .ok (.iinc 4 1, 3) := by decide +kernel
theorem dX12_breaks_137 : decode cX12_breaks 137 = .ok (.goto (-30), 3) := by decide +kernel
theorem dX12_breaks_140 : decode cX12_breaks 140 = .ok (.return_, 1) := by decide +kernel
theorem dX12_completes_0 : decode cX12_completes 0 = .ok (.aload_n 0, 1) := by decide +kernel
theorem dX12_completes_1 : decode cX12_completes 1 = .ok (.getfield 305, 3) := by decide +kernel
theorem dX12_completes_4 : decode cX12_completes 4 = .ok (.tableswitch 93 0 3 #[32, 32, 40, 48], 32) := by decide +kernel
theorem dX12_completes_36 : decode cX12_completes 36 = .ok (.aload_n 0, 1) := by decide +kernel
theorem dX12_completes_37 : decode cX12_completes 37 = .ok (.iload_n 2, 1) := by decide +kernel
theorem dX12_completes_38 : decode cX12_completes 38 = .ok (.invokevirtual 330, 3) := by decide +kernel
theorem dX12_completes_41 : decode cX12_completes 41 = .ok (.goto 62, 3) := by decide +kernel
theorem dX12_completes_44 : decode cX12_completes 44 = .ok (.aload_n 0, 1) := by decide +kernel
theorem dX12_completes_45 : decode cX12_completes 45 = .ok (.iload_n 2, 1) := by decide +kernel
theorem dX12_completes_46 : decode cX12_completes 46 = .ok (.invokevirtual 334, 3) := by decide +kernel
theorem dX12_completes_49 : decode cX12_completes 49 = .ok (.goto 54, 3) := by decide +kernel
theorem dX12_completes_52 : decode cX12_completes 52 = .ok (.iconst 0, 1) := by decide +kernel
theorem dX12_completes_53 : decode cX12_completes 53 = .ok (.istore_n 3, 1) := by decide +kernel
theorem dX12_completes_54 : decode cX12_completes 54 = .ok (.iload_n 3, 1) := by decide +kernel
theorem dX12_completes_55 : decode cX12_completes 55 = .ok (.iload_n 1, 1) := by decide +kernel
theorem dX12_completes_56 : decode cX12_completes 56 = .ok (.if_icmp .ge 38, 3) := by decide +kernel
theorem dX12_completes_59 : decode cX12_completes 59 = .ok (.aload_n 0, 1) := by decide +kernel
theorem dX12_completes_60 : decode cX12_completes 60 = .ok (.getfield 301, 3) := by decide +kernel
theorem dX12_completes_63 : decode cX12_completes 63 = .ok (.ifCond .ne 31, 3) := by decide +kernel
theorem dX12_completes_66 : decode cX12_completes 66 = .ok (.aload_n 0, 1) := by decide +kernel
theorem dX12_completes_67 : decode cX12_completes 67 = .ok (.aload_n 0, 1) := by decide +kernel
theorem dX12_completes_68 : decode cX12_completes 68 = .ok (.getfield 43, 3) := by decide +kernel
theorem dX12_completes_71 : decode cX12_completes 71 = .ok (.iload_n 3, 1) := by decide +kernel
theorem dX12_completes_72 : decode cX12_completes 72 = .ok (.iaload, 1) := by decide +kernel
theorem dX12_completes_73 : decode cX12_completes 73 = .ok (.aload_n 0, 1) := by decide +kernel
theorem dX12_completes_74 : decode cX12_completes 74 = .ok (.getfield 337, 3) := by decide +kernel
theorem dX12_completes_77 : decode cX12_completes 77 = .ok (.if_icmp .ne 7, 3) := by decide +kernel
theorem dX12_completes_80 : decode cX12_completes 80 = .ok (.iconst 1, 1) := by decide +kernel
theorem dX12_completes_81 : decode cX12_completes 81 = .ok (.goto 4, 3) := by decide +kernel
theorem dX12_completes_84 : decode cX12_completes 84 = .ok (.iconst 0, 1) := by decide +kernel
theorem dX12_completes_85 : decode cX12_completes 85 = .ok (.putfield 301, 3) := by decide +kernel
theorem dX12_completes_88 : decode cX12_completes 88 = .ok (.iinc 3 1, 3) := by decide +kernel
theorem dX12_completes_91 : decode cX12_completes 91 = .ok (.goto (-37), 3) := by decide +kernel
theorem dX12_completes_94 : decode cX12_completes 94 = .ok (.goto 9, 3) := by decide +kernel
theorem dX12_completes_97 : decode cX12_completes 97 = .ok (.aload_n 0, 1) := by decide +kernel
theorem dX12_completes_98 : decode cX12_completes 98 = .ok (.iload_n 1, 1) := by decide +kernel
theorem dX12_completes_99 : decode cX12_completes 99 = .ok (.iload_n 2, 1) := by decide +kernel
theorem dX12_completes_100 : decode cX12_completes 100 = .ok (.invokevirtual 340, 3) := by decide +kernel
theorem dX12_completes_103 : decode cX12_completes 103 = .ok (.return_, 1) := by decide +kernel
theorem dX12_sets_0 : decode cX12_sets 0 = .ok (.aload_n 0, 1) := by decide +kernel
theorem dX12_sets_1 : decode cX12_sets 1 = .ok (.iload_n 1, 1) := by decide +kernel
theorem dX12_sets_2 : decode cX12_sets 2 = .ok (.putfield 305, 3) := by decide +kernel
theorem dX12_sets_5 : decode cX12_sets 5 = .ok (.aload_n 0, 1) := by decide +kernel
theorem dX12_sets_6 : decode cX12_sets 6 = .ok (.iconst 0, 1) := by decide +kernel
theorem dX12_sets_7 : decode cX12_sets 7 = .ok (.putfield 301, 3) := by decide +kernel
theorem dX12_sets_10 : decode cX12_sets 10 = .ok (.aload_n 0, 1) := by decide +kernel
theorem dX12_sets_11 : decode cX12_sets 11 = .ok (.invokevirtual 343, 3) := by decide +kernel
theorem dX12_sets_14 : decode cX12_sets 14 = .ok (.return_, 1) := by decide +kernel
theorem dX12_goes_0 : decode cX12_goes 0 = .ok (.iload_n 1, 1) := by decide +kernel
theorem dX12_goes_1 : decode cX12_goes 1 = .ok (.aload_n 0, 1) := by decide +kernel
theorem dX12_goes_2 : decode cX12_goes 2 = .ok (.getfield 291, 3) := by decide +kernel
theorem dX12_goes_5 : decode cX12_goes 5 = .ok (.if_icmp .ne 20, 3) := by decide +kernel
theorem dX12_goes_8 : decode cX12_goes 8 = .ok (.aload_n 0, 1) := by decide +kernel
theorem dX12_goes_9 : decode cX12_goes 9 = .ok (.iload_n 3, 1) := by decide +kernel
theorem dX12_goes_10 : decode cX12_goes 10 = .ok (.iload 5, 2) := by decide +kernel
theorem dX12_goes_12 : decode cX12_goes 12 = .ok (.invokevirtual 294, 3) := by decide +kernel
theorem dX12_goes_15 : decode cX12_goes 15 = .ok (.ifCond .eq 10, 3) := by decide +kernel
theorem dX12_goes_18 : decode cX12_goes 18 = .ok (.aload_n 0, 1) := by decide +kernel
theorem dX12_goes_19 : decode cX12_goes 19 = .ok (.iload_n 3, 1) := by decide +kernel
theorem dX12_goes_20 : decode cX12_goes 20 = .ok (.iload 4, 2) := by decide +kernel
theorem dX12_goes_22 : decode cX12_goes 22 = .ok (.invokevirtual 297, 3) := by decide +kernel
theorem dX12_goes_25 : decode cX12_goes 25 = .ok (.iconst 0, 1) := by decide +kernel
theorem dX12_goes_26 : decode cX12_goes 26 = .ok (.istore 6, 2) := by decide +kernel
theorem dX12_goes_28 : decode cX12_goes 28 = .ok (.iload 6, 2) := by decide +kernel
theorem dX12_goes_30 : decode cX12_goes 30 = .ok (.aload_n 0, 1) := by decide +kernel
theorem dX12_goes_31 : decode cX12_goes 31 = .ok (.getfield 7, 3) := by decide +kernel
theorem dX12_goes_34 : decode cX12_goes 34 = .ok (.bipush 16, 2) := by decide +kernel
theorem dX12_goes_36 : decode cX12_goes 36 = .ok (.iaload, 1) := by decide +kernel
theorem dX12_goes_37 : decode cX12_goes 37 = .ok (.if_icmp .ge 209, 3) := by decide +kernel
theorem dX12_goes_40 : decode cX12_goes 40 = .ok (.aload_n 0, 1) := by decide +kernel
theorem dX12_goes_41 : decode cX12_goes 41 = .ok (.getfield 301, 3) := by decide +kernel
theorem dX12_goes_44 : decode cX12_goes 44 = .ok (.ifCond .ne 202, 3) := by decide +kernel
theorem dX12_goes_47 : decode cX12_goes 47 = .ok (.aload_n 0, 1) := by decide +kernel
theorem dX12_goes_48 : decode cX12_goes 48 = .ok (.getfield 7, 3) := by decide +kernel
theorem dX12_goes_51 : decode cX12_goes 51 = .ok (.bipush 20, 2) := by decide +kernel
theorem dX12_goes_53 : decode cX12_goes 53 = .ok (.iload 6, 2) := by decide +kernel
theorem dX12_goes_55 : decode cX12_goes 55 = .ok (.iadd, 1) := by decide +kernel
theorem dX12_goes_56 : decode cX12_goes 56 = .ok (.iaload, 1) := by decide +kernel
theorem dX12_goes_57 : decode cX12_goes 57 = .ok (.istore 7, 2) := by decide +kernel
theorem dX12_goes_59 : decode cX12_goes 59 = .ok (.aload_n 0, 1) := by decide +kernel
theorem dX12_goes_60 : decode cX12_goes 60 = .ok (.getfield 305, 3) := by decide +kernel
theorem dX12_goes_63 : decode cX12_goes 63 = .ok (.iconst 1, 1) := by decide +kernel
theorem dX12_goes_64 : decode cX12_goes 64 = .ok (.if_icmp .ne 11, 3) := by decide +kernel
theorem dX12_goes_67 : decode cX12_goes 67 = .ok (.iload 7, 2) := by decide +kernel
theorem dX12_goes_69 : decode cX12_goes 69 = .ok (.bipush 9, 2) := by decide +kernel
theorem dX12_goes_71 : decode cX12_goes 71 = .ok (.irem, 1) := by decide +kernel
theorem dX12_goes_72 : decode cX12_goes 72 = .ok (.goto 8, 3) := by decide +kernel
theorem dX12_goes_75 : decode cX12_goes 75 = .ok (.iload 7, 2) := by decide +kernel
theorem dX12_goes_77 : decode cX12_goes 77 = .ok (.bipush 9, 2) := by decide +kernel
theorem dX12_goes_79 : decode cX12_goes 79 = .ok (.idiv, 1) := by decide +kernel
theorem dX12_goes_80 : decode cX12_goes 80 = .ok (.istore 8, 2) := by decide +kernel
theorem dX12_goes_82 : decode cX12_goes 82 = .ok (.aload_n 0, 1) := by decide +kernel
theorem dX12_goes_83 : decode cX12_goes 83 = .ok (.getfield 305, 3) := by decide +kernel
theorem dX12_goes_86 : decode cX12_goes 86 = .ok (.iconst 1, 1) := by decide +kernel
theorem dX12_goes_87 : decode cX12_goes 87 = .ok (.if_icmp .ne 11, 3) := by decide +kernel
theorem dX12_goes_90 : decode cX12_goes 90 = .ok (.iload 7, 2) := by decide +kernel
theorem dX12_goes_92 : decode cX12_goes 92 = .ok (.bipush 9, 2) := by decide +kernel
theorem dX12_goes_94 : decode cX12_goes 94 = .ok (.idiv, 1) := by decide +kernel
theorem dX12_goes_95 : decode cX12_goes 95 = .ok (.goto 8, 3) := by decide +kernel
theorem dX12_goes_98 : decode cX12_goes 98 = .ok (.iload 7, 2) := by decide +kernel
theorem dX12_goes_100 : decode cX12_goes 100 = .ok (.bipush 9, 2) := by decide +kernel
theorem dX12_goes_102 : decode cX12_goes 102 = .ok (.irem, 1) := by decide +kernel
theorem dX12_goes_103 : decode cX12_goes 103 = .ok (.istore 9, 2) := by decide +kernel
theorem dX12_goes_105 : decode cX12_goes 105 = .ok (.iload 7, 2) := by decide +kernel
theorem dX12_goes_107 : decode cX12_goes 107 = .ok (.bipush 9, 2) := by decide +kernel
theorem dX12_goes_109 : decode cX12_goes 109 = .ok (.idiv, 1) := by decide +kernel
theorem dX12_goes_110 : decode cX12_goes 110 = .ok (.ifCond .eq 11, 3) := by decide +kernel
theorem dX12_goes_113 : decode cX12_goes 113 = .ok (.iload 7, 2) := by decide +kernel
theorem dX12_goes_115 : decode cX12_goes 115 = .ok (.bipush 9, 2) := by decide +kernel
theorem dX12_goes_117 : decode cX12_goes 117 = .ok (.irem, 1) := by decide +kernel
theorem dX12_goes_118 : decode cX12_goes 118 = .ok (.ifCond .ne 7, 3) := by decide +kernel
theorem dX12_goes_121 : decode cX12_goes 121 = .ok (.iconst 1, 1) := by decide +kernel
theorem dX12_goes_122 : decode cX12_goes 122 = .ok (.goto 4, 3) := by decide +kernel
theorem dX12_goes_125 : decode cX12_goes 125 = .ok (.iconst 0, 1) := by decide +kernel
theorem dX12_goes_126 : decode cX12_goes 126 = .ok (.istore 10, 2) := by decide +kernel
theorem dX12_goes_128 : decode cX12_goes 128 = .ok (.iload 10, 2) := by decide +kernel
theorem dX12_goes_130 : decode cX12_goes 130 = .ok (.ifCond .eq 7, 3) := by decide +kernel
theorem dX12_goes_133 : decode cX12_goes 133 = .ok (.iload_n 2, 1) := by decide +kernel
theorem dX12_goes_134 : decode cX12_goes 134 = .ok (.ifCond .eq 106, 3) := by decide +kernel
theorem dX12_goes_137 : decode cX12_goes 137 = .ok (.iload 8, 2) := by decide +kernel
theorem dX12_goes_139 : decode cX12_goes 139 = .ok (.ifCond .eq 25, 3) := by decide +kernel
theorem dX12_goes_142 : decode cX12_goes 142 = .ok (.iload_n 1, 1) := by decide +kernel
theorem dX12_goes_143 : decode cX12_goes 143 = .ok (.aload_n 0, 1) := by decide +kernel
theorem dX12_goes_144 : decode cX12_goes 144 = .ok (.getfield 291, 3) := by decide +kernel
theorem dX12_goes_147 : decode cX12_goes 147 = .ok (.if_icmp .eq 93, 3) := by decide +kernel
theorem dX12_goes_150 : decode cX12_goes 150 = .ok (.aload_n 0, 1) := by decide +kernel
theorem dX12_goes_151 : decode cX12_goes 151 = .ok (.getfield 46, 3) := by decide +kernel
theorem dX12_goes_154 : decode cX12_goes 154 = .ok (.iload_n 1, 1) := by decide +kernel
theorem dX12_goes_155 : decode cX12_goes 155 = .ok (.iaload, 1) := by decide +kernel
theorem dX12_goes_156 : decode cX12_goes 156 = .ok (.iload 8, 2) := by decide +kernel
theorem dX12_goes_158 : decode cX12_goes 158 = .ok (.if_icmp .eq 6, 3) := by decide +kernel
theorem dX12_goes_161 : decode cX12_goes 161 = .ok (.goto 79, 3) := by decide +kernel
theorem dX12_goes_164 : decode cX12_goes 164 = .ok (.aload_n 0, 1) := by decide +kernel
theorem dX12_goes_165 : decode cX12_goes 165 = .ok (.iload_n 3, 1) := by decide +kernel
theorem dX12_goes_166 : decode cX12_goes 166 = .ok (.iload 7, 2) := by decide +kernel
theorem dX12_goes_168 : decode cX12_goes 168 = .ok (.iload 5, 2) := by decide +kernel
theorem dX12_goes_170 : decode cX12_goes 170 = .ok (.invokevirtual 308, 3) := by decide +kernel
theorem dX12_goes_173 : decode cX12_goes 173 = .ok (.ifCond .ne 6, 3) := by decide +kernel
theorem dX12_goes_176 : decode cX12_goes 176 = .ok (.goto 64, 3) := by decide +kernel
theorem dX12_goes_179 : decode cX12_goes 179 = .ok (.iload 9, 2) := by decide +kernel
theorem dX12_goes_181 : decode cX12_goes 181 = .ok (.ifCond .eq 12, 3) := by decide +kernel
theorem dX12_goes_184 : decode cX12_goes 184 = .ok (.aload_n 0, 1) := by decide +kernel
theorem dX12_goes_185 : decode cX12_goes 185 = .ok (.getfield 49, 3) := by decide +kernel
theorem dX12_goes_188 : decode cX12_goes 188 = .ok (.iload 4, 2) := by decide +kernel
theorem dX12_goes_190 : decode cX12_goes 190 = .ok (.iload 9, 2) := by decide +kernel
theorem dX12_goes_192 : decode cX12_goes 192 = .ok (.iastore, 1) := by decide +kernel
theorem dX12_goes_193 : decode cX12_goes 193 = .ok (.aload_n 0, 1) := by decide +kernel
theorem dX12_goes_194 : decode cX12_goes 194 = .ok (.iload 8, 2) := by decide +kernel
theorem dX12_goes_196 : decode cX12_goes 196 = .ok (.ifCond .ne 7, 3) := by decide +kernel
theorem dX12_goes_199 : decode cX12_goes 199 = .ok (.iload_n 1, 1) := by decide +kernel
theorem dX12_goes_200 : decode cX12_goes 200 = .ok (.goto 6, 3) := by decide +kernel
theorem dX12_goes_203 : decode cX12_goes 203 = .ok (.iload_n 1, 1) := by decide +kernel
theorem dX12_goes_204 : decode cX12_goes 204 = .ok (.iconst 1, 1) := by decide +kernel
theorem dX12_goes_205 : decode cX12_goes 205 = .ok (.iadd, 1) := by decide +kernel
theorem dX12_goes_206 : decode cX12_goes 206 = .ok (.iload 10, 2) := by decide +kernel
theorem dX12_goes_208 : decode cX12_goes 208 = .ok (.ifCond .eq 9, 3) := by decide +kernel
theorem dX12_goes_211 : decode cX12_goes 211 = .ok (.iload_n 2, 1) := by decide +kernel
theorem dX12_goes_212 : decode cX12_goes 212 = .ok (.iconst 1, 1) := by decide +kernel
theorem dX12_goes_213 : decode cX12_goes 213 = .ok (.isub, 1) := by decide +kernel
theorem dX12_goes_214 : decode cX12_goes 214 = .ok (.goto 4, 3) := by decide +kernel
theorem dX12_goes_217 : decode cX12_goes 217 = .ok (.iload_n 2, 1) := by decide +kernel
theorem dX12_goes_218 : decode cX12_goes 218 = .ok (.iload_n 3, 1) := by decide +kernel
theorem dX12_goes_219 : decode cX12_goes 219 = .ok (.iconst 1, 1) := by decide +kernel
theorem dX12_goes_220 : decode cX12_goes 220 = .ok (.iadd, 1) := by decide +kernel
theorem dX12_goes_221 : decode cX12_goes 221 = .ok (.iload 9, 2) := by decide +kernel
theorem dX12_goes_223 : decode cX12_goes 223 = .ok (.ifCond .ne 8, 3) := by decide +kernel
theorem dX12_goes_226 : decode cX12_goes 226 = .ok (.iload 4, 2) := by decide +kernel
theorem dX12_goes_228 : decode cX12_goes 228 = .ok (.goto 7, 3) := by decide +kernel
theorem dX12_goes_231 : decode cX12_goes 231 = .ok (.iload 4, 2) := by decide +kernel
theorem dX12_goes_233 : decode cX12_goes 233 = .ok (.iconst 1, 1) := by decide +kernel
theorem dX12_goes_234 : decode cX12_goes 234 = .ok (.iadd, 1) := by decide +kernel
theorem dX12_goes_235 : decode cX12_goes 235 = .ok (.iload 5, 2) := by decide +kernel
theorem dX12_goes_237 : decode cX12_goes 237 = .ok (.invokevirtual 311, 3) := by decide +kernel
theorem dX12_goes_240 : decode cX12_goes 240 = .ok (.iinc 6 1, 3) := by decide +kernel
theorem dX12_goes_243 : decode cX12_goes 243 = .ok (.goto (-215), 3) := by decide +kernel
theorem dX12_goes_246 : decode cX12_goes 246 = .ok (.return_, 1) := by decide +kernel
