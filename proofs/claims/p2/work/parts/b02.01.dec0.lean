theorem dX7_keepPair_0 : decode cX7_keepPair 0 = .ok (.aload_n 0, 1) := by decide +kernel
theorem dX7_keepPair_1 : decode cX7_keepPair 1 = .ok (.getfield 21, 3) := by decide +kernel
theorem dX7_keepPair_4 : decode cX7_keepPair 4 = .ok (.aload_n 0, 1) := by decide +kernel
theorem dX7_keepPair_5 : decode cX7_keepPair 5 = .ok (.getfield 71, 3) := by decide +kernel
theorem dX7_keepPair_8 : decode cX7_keepPair 8 = .ok (.iload_n 1, 1) := by decide +kernel
theorem dX7_keepPair_9 : decode cX7_keepPair 9 = .ok (.iastore, 1) := by decide +kernel
theorem dX7_keepPair_10 : decode cX7_keepPair 10 = .ok (.aload_n 0, 1) := by decide +kernel
theorem dX7_keepPair_11 : decode cX7_keepPair 11 = .ok (.getfield 24, 3) := by decide +kernel
theorem dX7_keepPair_14 : decode cX7_keepPair 14 = .ok (.aload_n 0, 1) := by decide +kernel
theorem dX7_keepPair_15 : decode cX7_keepPair 15 = .ok (.getfield 71, 3) := by decide +kernel
theorem dX7_keepPair_18 : decode cX7_keepPair 18 = .ok (.iload_n 2, 1) := by decide +kernel
theorem dX7_keepPair_19 : decode cX7_keepPair 19 = .ok (.iastore, 1) := by decide +kernel
theorem dX7_keepPair_20 : decode cX7_keepPair 20 = .ok (.aload_n 0, 1) := by decide +kernel
theorem dX7_keepPair_21 : decode cX7_keepPair 21 = .ok (.dup, 1) := by decide +kernel
theorem dX7_keepPair_22 : decode cX7_keepPair 22 = .ok (.getfield 71, 3) := by decide +kernel
theorem dX7_keepPair_25 : decode cX7_keepPair 25 = .ok (.iconst 1, 1) := by decide +kernel
theorem dX7_keepPair_26 : decode cX7_keepPair 26 = .ok (.iadd, 1) := by decide +kernel
theorem dX7_keepPair_27 : decode cX7_keepPair 27 = .ok (.putfield 71, 3) := by decide +kernel
theorem dX7_keepPair_30 : decode cX7_keepPair 30 = .ok (.aload_n 0, 1) := by decide +kernel
theorem dX7_keepPair_31 : decode cX7_keepPair 31 = .ok (.getfield 18, 3) := by decide +kernel
theorem dX7_keepPair_34 : decode cX7_keepPair 34 = .ok (.iload_n 1, 1) := by decide +kernel
theorem dX7_keepPair_35 : decode cX7_keepPair 35 = .ok (.bipush 9, 2) := by decide +kernel
theorem dX7_keepPair_37 : decode cX7_keepPair 37 = .ok (.imul, 1) := by decide +kernel
theorem dX7_keepPair_38 : decode cX7_keepPair 38 = .ok (.iload_n 2, 1) := by decide +kernel
theorem dX7_keepPair_39 : decode cX7_keepPair 39 = .ok (.iadd, 1) := by decide +kernel
theorem dX7_keepPair_40 : decode cX7_keepPair 40 = .ok (.aload_n 0, 1) := by decide +kernel
theorem dX7_keepPair_41 : decode cX7_keepPair 41 = .ok (.getfield 71, 3) := by decide +kernel
theorem dX7_keepPair_44 : decode cX7_keepPair 44 = .ok (.iastore, 1) := by decide +kernel
theorem dX7_keepPair_45 : decode cX7_keepPair 45 = .ok (.aload_n 0, 1) := by decide +kernel
theorem dX7_keepPair_46 : decode cX7_keepPair 46 = .ok (.getfield 33, 3) := by decide +kernel
theorem dX7_keepPair_49 : decode cX7_keepPair 49 = .ok (.iload_n 1, 1) := by decide +kernel
theorem dX7_keepPair_50 : decode cX7_keepPair 50 = .ok (.iconst 4, 1) := by decide +kernel
theorem dX7_keepPair_51 : decode cX7_keepPair 51 = .ok (.imul, 1) := by decide +kernel
theorem dX7_keepPair_52 : decode cX7_keepPair 52 = .ok (.iload_n 3, 1) := by decide +kernel
theorem dX7_keepPair_53 : decode cX7_keepPair 53 = .ok (.iadd, 1) := by decide +kernel
theorem dX7_keepPair_54 : decode cX7_keepPair 54 = .ok (.aload_n 0, 1) := by decide +kernel
theorem dX7_keepPair_55 : decode cX7_keepPair 55 = .ok (.getfield 71, 3) := by decide +kernel
theorem dX7_keepPair_58 : decode cX7_keepPair 58 = .ok (.iastore, 1) := by decide +kernel
theorem dX7_keepPair_59 : decode cX7_keepPair 59 = .ok (.aload_n 0, 1) := by decide +kernel
theorem dX7_keepPair_60 : decode cX7_keepPair 60 = .ok (.getfield 36, 3) := by decide +kernel
theorem dX7_keepPair_63 : decode cX7_keepPair 63 = .ok (.iload_n 2, 1) := by decide +kernel
theorem dX7_keepPair_64 : decode cX7_keepPair 64 = .ok (.iconst 4, 1) := by decide +kernel
theorem dX7_keepPair_65 : decode cX7_keepPair 65 = .ok (.imul, 1) := by decide +kernel
theorem dX7_keepPair_66 : decode cX7_keepPair 66 = .ok (.iload 4, 2) := by decide +kernel
theorem dX7_keepPair_68 : decode cX7_keepPair 68 = .ok (.iadd, 1) := by decide +kernel
theorem dX7_keepPair_69 : decode cX7_keepPair 69 = .ok (.aload_n 0, 1) := by decide +kernel
theorem dX7_keepPair_70 : decode cX7_keepPair 70 = .ok (.getfield 71, 3) := by decide +kernel
theorem dX7_keepPair_73 : decode cX7_keepPair 73 = .ok (.iastore, 1) := by decide +kernel
theorem dX7_keepPair_74 : decode cX7_keepPair 74 = .ok (.return_, 1) := by decide +kernel
theorem dX7_addLetter_0 : decode cX7_addLetter 0 = .ok (.aload_n 0, 1) := by decide +kernel
theorem dX7_addLetter_1 : decode cX7_addLetter 1 = .ok (.getfield 67, 3) := by decide +kernel
theorem dX7_addLetter_4 : decode cX7_addLetter 4 = .ok (.bipush 8, 2) := by decide +kernel
theorem dX7_addLetter_6 : decode cX7_addLetter 6 = .ok (.if_icmp .ge 40, 3) := by decide +kernel
theorem dX7_addLetter_9 : decode cX7_addLetter 9 = .ok (.aload_n 0, 1) := by decide +kernel
theorem dX7_addLetter_10 : decode cX7_addLetter 10 = .ok (.dup, 1) := by decide +kernel
theorem dX7_addLetter_11 : decode cX7_addLetter 11 = .ok (.getfield 67, 3) := by decide +kernel
theorem dX7_addLetter_14 : decode cX7_addLetter 14 = .ok (.iconst 1, 1) := by decide +kernel
theorem dX7_addLetter_15 : decode cX7_addLetter 15 = .ok (.iadd, 1) := by decide +kernel
theorem dX7_addLetter_16 : decode cX7_addLetter 16 = .ok (.putfield 67, 3) := by decide +kernel
theorem dX7_addLetter_19 : decode cX7_addLetter 19 = .ok (.aload_n 0, 1) := by decide +kernel
theorem dX7_addLetter_20 : decode cX7_addLetter 20 = .ok (.getfield 9, 3) := by decide +kernel
theorem dX7_addLetter_23 : decode cX7_addLetter 23 = .ok (.iload_n 1, 1) := by decide +kernel
theorem dX7_addLetter_24 : decode cX7_addLetter 24 = .ok (.bipush 97, 2) := by decide +kernel
theorem dX7_addLetter_26 : decode cX7_addLetter 26 = .ok (.isub, 1) := by decide +kernel
theorem dX7_addLetter_27 : decode cX7_addLetter 27 = .ok (.aload_n 0, 1) := by decide +kernel
theorem dX7_addLetter_28 : decode cX7_addLetter 28 = .ok (.getfield 67, 3) := by decide +kernel
theorem dX7_addLetter_31 : decode cX7_addLetter 31 = .ok (.iastore, 1) := by decide +kernel
theorem dX7_addLetter_32 : decode cX7_addLetter 32 = .ok (.aload_n 0, 1) := by decide +kernel
theorem dX7_addLetter_33 : decode cX7_addLetter 33 = .ok (.aload_n 0, 1) := by decide +kernel
theorem dX7_addLetter_34 : decode cX7_addLetter 34 = .ok (.getfield 67, 3) := by decide +kernel
theorem dX7_addLetter_37 : decode cX7_addLetter 37 = .ok (.aload_n 0, 1) := by decide +kernel
theorem dX7_addLetter_38 : decode cX7_addLetter 38 = .ok (.getfield 67, 3) := by decide +kernel
theorem dX7_addLetter_41 : decode cX7_addLetter 41 = .ok (.iconst 0, 1) := by decide +kernel
theorem dX7_addLetter_42 : decode cX7_addLetter 42 = .ok (.iconst 0, 1) := by decide +kernel
theorem dX7_addLetter_43 : decode cX7_addLetter 43 = .ok (.invokevirtual 93, 3) := by decide +kernel
theorem dX7_addLetter_46 : decode cX7_addLetter 46 = .ok (.return_, 1) := by decide +kernel
theorem dX7_addPair_0 : decode cX7_addPair 0 = .ok (.aload_n 0, 1) := by decide +kernel
theorem dX7_addPair_1 : decode cX7_addPair 1 = .ok (.iload_n 1, 1) := by decide +kernel
theorem dX7_addPair_2 : decode cX7_addPair 2 = .ok (.iload_n 2, 1) := by decide +kernel
theorem dX7_addPair_3 : decode cX7_addPair 3 = .ok (.invokevirtual 97, 3) := by decide +kernel
theorem dX7_addPair_6 : decode cX7_addPair 6 = .ok (.iconst (-1), 1) := by decide +kernel
theorem dX7_addPair_7 : decode cX7_addPair 7 = .ok (.if_icmp .eq 5, 3) := by decide +kernel
theorem dX7_addPair_10 : decode cX7_addPair 10 = .ok (.iconst 1, 1) := by decide +kernel
theorem dX7_addPair_11 : decode cX7_addPair 11 = .ok (.ireturn, 1) := by decide +kernel
theorem dX7_addPair_12 : decode cX7_addPair 12 = .ok (.aload_n 0, 1) := by decide +kernel
theorem dX7_addPair_13 : decode cX7_addPair 13 = .ok (.getfield 71, 3) := by decide +kernel
theorem dX7_addPair_16 : decode cX7_addPair 16 = .ok (.aload_n 0, 1) := by decide +kernel
theorem dX7_addPair_17 : decode cX7_addPair 17 = .ok (.getfield 67, 3) := by decide +kernel
theorem dX7_addPair_20 : decode cX7_addPair 20 = .ok (.isub, 1) := by decide +kernel
theorem dX7_addPair_21 : decode cX7_addPair 21 = .ok (.bipush 12, 2) := by decide +kernel
theorem dX7_addPair_23 : decode cX7_addPair 23 = .ok (.if_icmp .lt 7, 3) := by decide +kernel
theorem dX7_addPair_26 : decode cX7_addPair 26 = .ok (.iconst 1, 1) := by decide +kernel
theorem dX7_addPair_27 : decode cX7_addPair 27 = .ok (.goto 4, 3) := by decide +kernel
theorem dX7_addPair_30 : decode cX7_addPair 30 = .ok (.iconst 0, 1) := by decide +kernel
theorem dX7_addPair_31 : decode cX7_addPair 31 = .ok (.istore_n 3, 1) := by decide +kernel
theorem dX7_addPair_32 : decode cX7_addPair 32 = .ok (.iload_n 3, 1) := by decide +kernel
theorem dX7_addPair_33 : decode cX7_addPair 33 = .ok (.ifCond .ne 23, 3) := by decide +kernel
theorem dX7_addPair_36 : decode cX7_addPair 36 = .ok (.aload_n 0, 1) := by decide +kernel
theorem dX7_addPair_37 : decode cX7_addPair 37 = .ok (.getfield 27, 3) := by decide +kernel
theorem dX7_addPair_40 : decode cX7_addPair 40 = .ok (.iload_n 1, 1) := by decide +kernel
theorem dX7_addPair_41 : decode cX7_addPair 41 = .ok (.iaload, 1) := by decide +kernel
theorem dX7_addPair_42 : decode cX7_addPair 42 = .ok (.iconst 3, 1) := by decide +kernel
theorem dX7_addPair_43 : decode cX7_addPair 43 = .ok (.if_icmp .ge 13, 3) := by decide +kernel
theorem dX7_addPair_46 : decode cX7_addPair 46 = .ok (.aload_n 0, 1) := by decide +kernel
theorem dX7_addPair_47 : decode cX7_addPair 47 = .ok (.getfield 30, 3) := by decide +kernel
theorem dX7_addPair_50 : decode cX7_addPair 50 = .ok (.iload_n 2, 1) := by decide +kernel
theorem dX7_addPair_51 : decode cX7_addPair 51 = .ok (.iaload, 1) := by decide +kernel
theorem dX7_addPair_52 : decode cX7_addPair 52 = .ok (.iconst 3, 1) := by decide +kernel
theorem dX7_addPair_53 : decode cX7_addPair 53 = .ok (.if_icmp .lt 5, 3) := by decide +kernel
theorem dX7_addPair_56 : decode cX7_addPair 56 = .ok (.iconst 0, 1) := by decide +kernel
theorem dX7_addPair_57 : decode cX7_addPair 57 = .ok (.ireturn, 1) := by decide +kernel
theorem dX7_addPair_58 : decode cX7_addPair 58 = .ok (.aload_n 0, 1) := by decide +kernel
theorem dX7_addPair_59 : decode cX7_addPair 59 = .ok (.getfield 27, 3) := by decide +kernel
theorem dX7_addPair_62 : decode cX7_addPair 62 = .ok (.iload_n 1, 1) := by decide +kernel
theorem dX7_addPair_63 : decode cX7_addPair 63 = .ok (.dup2, 1) := by decide +kernel
theorem dX7_addPair_64 : decode cX7_addPair 64 = .ok (.iaload, 1) := by decide +kernel
theorem dX7_addPair_65 : decode cX7_addPair 65 = .ok (.iconst 1, 1) := by decide +kernel
theorem dX7_addPair_66 : decode cX7_addPair 66 = .ok (.iadd, 1) := by decide +kernel
theorem dX7_addPair_67 : decode cX7_addPair 67 = .ok (.iastore, 1) := by decide +kernel
theorem dX7_addPair_68 : decode cX7_addPair 68 = .ok (.aload_n 0, 1) := by decide +kernel
theorem dX7_addPair_69 : decode cX7_addPair 69 = .ok (.getfield 30, 3) := by decide +kernel
theorem dX7_addPair_72 : decode cX7_addPair 72 = .ok (.iload_n 2, 1) := by decide +kernel
theorem dX7_addPair_73 : decode cX7_addPair 73 = .ok (.dup2, 1) := by decide +kernel
theorem dX7_addPair_74 : decode cX7_addPair 74 = .ok (.iaload, 1) := by decide +kernel
theorem dX7_addPair_75 : decode cX7_addPair 75 = .ok (.iconst 1, 1) := by decide +kernel
theorem dX7_addPair_76 : decode cX7_addPair 76 = .ok (.iadd, 1) := by decide +kernel
theorem dX7_addPair_77 : decode cX7_addPair 77 = .ok (.iastore, 1) := by decide +kernel
theorem dX7_addPair_78 : decode cX7_addPair 78 = .ok (.aload_n 0, 1) := by decide +kernel
theorem dX7_addPair_79 : decode cX7_addPair 79 = .ok (.iload_n 1, 1) := by decide +kernel
theorem dX7_addPair_80 : decode cX7_addPair 80 = .ok (.iload_n 2, 1) := by decide +kernel
theorem dX7_addPair_81 : decode cX7_addPair 81 = .ok (.aload_n 0, 1) := by decide +kernel
theorem dX7_addPair_82 : decode cX7_addPair 82 = .ok (.getfield 27, 3) := by decide +kernel
theorem dX7_addPair_85 : decode cX7_addPair 85 = .ok (.iload_n 1, 1) := by decide +kernel
theorem dX7_addPair_86 : decode cX7_addPair 86 = .ok (.iaload, 1) := by decide +kernel
theorem dX7_addPair_87 : decode cX7_addPair 87 = .ok (.aload_n 0, 1) := by decide +kernel
theorem dX7_addPair_88 : decode cX7_addPair 88 = .ok (.getfield 30, 3) := by decide +kernel
theorem dX7_addPair_91 : decode cX7_addPair 91 = .ok (.iload_n 2, 1) := by decide +kernel
theorem dX7_addPair_92 : decode cX7_addPair 92 = .ok (.iaload, 1) := by decide +kernel
theorem dX7_addPair_93 : decode cX7_addPair 93 = .ok (.invokevirtual 93, 3) := by decide +kernel
theorem dX7_addPair_96 : decode cX7_addPair 96 = .ok (.iconst 1, 1) := by decide +kernel
theorem dX7_addPair_97 : decode cX7_addPair 97 = .ok (.ireturn, 1) := by decide +kernel
theorem dX2_readLetters_0 : decode cX2_readLetters 0 = .ok (.iconst 0, 1) := by decide +kernel
theorem dX2_readLetters_1 : decode cX2_readLetters 1 = .ok (.istore_n 1, 1) := by decide +kernel
theorem dX2_readLetters_2 : decode cX2_readLetters 2 = .ok (.aload_n 0, 1) := by decide +kernel
theorem dX2_readLetters_3 : decode cX2_readLetters 3 = .ok (.getfield 41, 3) := by decide +kernel
theorem dX2_readLetters_6 : decode cX2_readLetters 6 = .ok (.aload_n 0, 1) := by decide +kernel
theorem dX2_readLetters_7 : decode cX2_readLetters 7 = .ok (.getfield 32, 3) := by decide +kernel
theorem dX2_readLetters_10 : decode cX2_readLetters 10 = .ok (.if_icmp .ge 96, 3) := by decide +kernel
theorem dX2_readLetters_13 : decode cX2_readLetters 13 = .ok (.aload_n 0, 1) := by decide +kernel
theorem dX2_readLetters_14 : decode cX2_readLetters 14 = .ok (.invokevirtual 50, 3) := by decide +kernel
theorem dX2_readLetters_17 : decode cX2_readLetters 17 = .ok (.invokestatic 69, 3) := by decide +kernel
theorem dX2_readLetters_20 : decode cX2_readLetters 20 = .ok (.ifCond .eq 86, 3) := by decide +kernel
theorem dX2_readLetters_23 : decode cX2_readLetters 23 = .ok (.aload_n 0, 1) := by decide +kernel
theorem dX2_readLetters_24 : decode cX2_readLetters 24 = .ok (.getfield 12, 3) := by decide +kernel
theorem dX2_readLetters_27 : decode cX2_readLetters 27 = .ok (.aload_n 0, 1) := by decide +kernel
theorem dX2_readLetters_28 : decode cX2_readLetters 28 = .ok (.getfield 22, 3) := by decide +kernel
theorem dX2_readLetters_31 : decode cX2_readLetters 31 = .ok (.aload_n 0, 1) := by decide +kernel
theorem dX2_readLetters_32 : decode cX2_readLetters 32 = .ok (.getfield 41, 3) := by decide +kernel
theorem dX2_readLetters_35 : decode cX2_readLetters 35 = .ok (.iaload, 1) := by decide +kernel
theorem dX2_readLetters_36 : decode cX2_readLetters 36 = .ok (.invokevirtual 125, 3) := by decide +kernel
theorem dX2_readLetters_39 : decode cX2_readLetters 39 = .ok (.ifCond .eq 13, 3) := by decide +kernel
theorem dX2_readLetters_42 : decode cX2_readLetters 42 = .ok (.aload_n 0, 1) := by decide +kernel
theorem dX2_readLetters_43 : decode cX2_readLetters 43 = .ok (.iconst 2, 1) := by decide +kernel
theorem dX2_readLetters_44 : decode cX2_readLetters 44 = .ok (.aload_n 0, 1) := by decide +kernel
theorem dX2_readLetters_45 : decode cX2_readLetters 45 = .ok (.getfield 41, 3) := by decide +kernel
theorem dX2_readLetters_48 : decode cX2_readLetters 48 = .ok (.invokevirtual 65, 3) := by decide +kernel
theorem dX2_readLetters_51 : decode cX2_readLetters 51 = .ok (.ireturn, 1) := by decide +kernel
theorem dX2_readLetters_52 : decode cX2_readLetters 52 = .ok (.aload_n 0, 1) := by decide +kernel
theorem dX2_readLetters_53 : decode cX2_readLetters 53 = .ok (.getfield 12, 3) := by decide +kernel
theorem dX2_readLetters_56 : decode cX2_readLetters 56 = .ok (.getfield 129, 3) := by decide +kernel
theorem dX2_readLetters_59 : decode cX2_readLetters 59 = .ok (.bipush 8, 2) := by decide +kernel
theorem dX2_readLetters_61 : decode cX2_readLetters 61 = .ok (.if_icmp .ne 13, 3) := by decide +kernel
theorem dX2_readLetters_64 : decode cX2_readLetters 64 = .ok (.aload_n 0, 1) := by decide +kernel
theorem dX2_readLetters_65 : decode cX2_readLetters 65 = .ok (.iconst 3, 1) := by decide +kernel
theorem dX2_readLetters_66 : decode cX2_readLetters 66 = .ok (.aload_n 0, 1) := by decide +kernel
theorem dX2_readLetters_67 : decode cX2_readLetters 67 = .ok (.getfield 41, 3) := by decide +kernel
theorem dX2_readLetters_70 : decode cX2_readLetters 70 = .ok (.invokevirtual 65, 3) := by decide +kernel
theorem dX2_readLetters_73 : decode cX2_readLetters 73 = .ok (.ireturn, 1) := by decide +kernel
theorem dX2_readLetters_74 : decode cX2_readLetters 74 = .ok (.aload_n 0, 1) := by decide +kernel
theorem dX2_readLetters_75 : decode cX2_readLetters 75 = .ok (.getfield 12, 3) := by decide +kernel
theorem dX2_readLetters_78 : decode cX2_readLetters 78 = .ok (.aload_n 0, 1) := by decide +kernel
theorem dX2_readLetters_79 : decode cX2_readLetters 79 = .ok (.getfield 22, 3) := by decide +kernel
theorem dX2_readLetters_82 : decode cX2_readLetters 82 = .ok (.aload_n 0, 1) := by decide +kernel
theorem dX2_readLetters_83 : decode cX2_readLetters 83 = .ok (.getfield 41, 3) := by decide +kernel
theorem dX2_readLetters_86 : decode cX2_readLetters 86 = .ok (.iaload, 1) := by decide +kernel
theorem dX2_readLetters_87 : decode cX2_readLetters 87 = .ok (.invokevirtual 132, 3) := by decide +kernel
theorem dX2_readLetters_90 : decode cX2_readLetters 90 = .ok (.aload_n 0, 1) := by decide +kernel
theorem dX2_readLetters_91 : decode cX2_readLetters 91 = .ok (.dup, 1) := by decide +kernel
theorem dX2_readLetters_92 : decode cX2_readLetters 92 = .ok (.getfield 41, 3) := by decide +kernel
theorem dX2_readLetters_95 : decode cX2_readLetters 95 = .ok (.iconst 1, 1) := by decide +kernel
theorem dX2_readLetters_96 : decode cX2_readLetters 96 = .ok (.iadd, 1) := by decide +kernel
theorem dX2_readLetters_97 : decode cX2_readLetters 97 = .ok (.putfield 41, 3) := by decide +kernel
theorem dX2_readLetters_100 : decode cX2_readLetters 100 = .ok (.iinc 1 1, 3) := by decide +kernel
theorem dX2_readLetters_103 : decode cX2_readLetters 103 = .ok (.goto (-101), 3) := by decide +kernel
theorem dX2_readLetters_106 : decode cX2_readLetters 106 = .ok (.iload_n 1, 1) := by decide +kernel
theorem dX2_readLetters_107 : decode cX2_readLetters 107 = .ok (.ifCond .gt 15, 3) := by decide +kernel
theorem dX2_readLetters_110 : decode cX2_readLetters 110 = .ok (.aload_n 0, 1) := by decide +kernel
theorem dX2_readLetters_111 : decode cX2_readLetters 111 = .ok (.iconst 1, 1) := by decide +kernel
theorem dX2_readLetters_112 : decode cX2_readLetters 112 = .ok (.aload_n 0, 1) := by decide +kernel
theorem dX2_readLetters_113 : decode cX2_readLetters 113 = .ok (.getfield 41, 3) := by decide +kernel
theorem dX2_readLetters_116 : decode cX2_readLetters 116 = .ok (.invokevirtual 65, 3) := by decide +kernel
theorem dX2_readLetters_119 : decode cX2_readLetters 119 = .ok (.ifCond .eq 7, 3) := by decide +kernel
theorem dX2_readLetters_122 : decode cX2_readLetters 122 = .ok (.iconst 1, 1) := by decide +kernel
theorem dX2_readLetters_123 : decode cX2_readLetters 123 = .ok (.goto 4, 3) := by decide +kernel
theorem dX2_readLetters_126 : decode cX2_readLetters 126 = .ok (.iconst 0, 1) := by decide +kernel
theorem dX2_readLetters_127 : decode cX2_readLetters 127 = .ok (.ireturn, 1) := by decide +kernel
theorem dX2_readClass_0 : decode cX2_readClass 0 = .ok (.aload_n 0, 1) := by decide +kernel
theorem dX2_readClass_1 : decode cX2_readClass 1 = .ok (.invokevirtual 50, 3) := by decide +kernel
theorem dX2_readClass_4 : decode cX2_readClass 4 = .ok (.invokestatic 72, 3) := by decide +kernel
theorem dX2_readClass_7 : decode cX2_readClass 7 = .ok (.ifCond .ne 13, 3) := by decide +kernel
theorem dX2_readClass_10 : decode cX2_readClass 10 = .ok (.aload_n 0, 1) := by decide +kernel
theorem dX2_readClass_11 : decode cX2_readClass 11 = .ok (.iconst 1, 1) := by decide +kernel
theorem dX2_readClass_12 : decode cX2_readClass 12 = .ok (.aload_n 0, 1) := by decide +kernel
theorem dX2_readClass_13 : decode cX2_readClass 13 = .ok (.getfield 41, 3) := by decide +kernel
theorem dX2_readClass_16 : decode cX2_readClass 16 = .ok (.invokevirtual 65, 3) := by decide +kernel
theorem dX2_readClass_19 : decode cX2_readClass 19 = .ok (.ireturn, 1) := by decide +kernel
theorem dX2_readClass_20 : decode cX2_readClass 20 = .ok (.aload_n 0, 1) := by decide +kernel
theorem dX2_readClass_21 : decode cX2_readClass 21 = .ok (.getfield 22, 3) := by decide +kernel
theorem dX2_readClass_24 : decode cX2_readClass 24 = .ok (.aload_n 0, 1) := by decide +kernel
theorem dX2_readClass_25 : decode cX2_readClass 25 = .ok (.getfield 41, 3) := by decide +kernel
theorem dX2_readClass_28 : decode cX2_readClass 28 = .ok (.iaload, 1) := by decide +kernel
theorem dX2_readClass_29 : decode cX2_readClass 29 = .ok (.bipush 65, 2) := by decide +kernel
theorem dX2_readClass_31 : decode cX2_readClass 31 = .ok (.isub, 1) := by decide +kernel
theorem dX2_readClass_32 : decode cX2_readClass 32 = .ok (.istore_n 1, 1) := by decide +kernel
theorem dX2_readClass_33 : decode cX2_readClass 33 = .ok (.iconst 0, 1) := by decide +kernel
theorem dX2_readClass_34 : decode cX2_readClass 34 = .ok (.istore_n 2, 1) := by decide +kernel
theorem dX2_readClass_35 : decode cX2_readClass 35 = .ok (.aload_n 0, 1) := by decide +kernel
theorem dX2_readClass_36 : decode cX2_readClass 36 = .ok (.dup, 1) := by decide +kernel
theorem dX2_readClass_37 : decode cX2_readClass 37 = .ok (.getfield 41, 3) := by decide +kernel
theorem dX2_readClass_40 : decode cX2_readClass 40 = .ok (.iconst 1, 1) := by decide +kernel
theorem dX2_readClass_41 : decode cX2_readClass 41 = .ok (.iadd, 1) := by decide +kernel
theorem dX2_readClass_42 : decode cX2_readClass 42 = .ok (.putfield 41, 3) := by decide +kernel
theorem dX2_readClass_45 : decode cX2_readClass 45 = .ok (.aload_n 0, 1) := by decide +kernel
theorem dX2_readClass_46 : decode cX2_readClass 46 = .ok (.getfield 41, 3) := by decide +kernel
theorem dX2_readClass_49 : decode cX2_readClass 49 = .ok (.aload_n 0, 1) := by decide +kernel
theorem dX2_readClass_50 : decode cX2_readClass 50 = .ok (.getfield 32, 3) := by decide +kernel
theorem dX2_readClass_53 : decode cX2_readClass 53 = .ok (.if_icmp .ge 63, 3) := by decide +kernel
theorem dX2_readClass_56 : decode cX2_readClass 56 = .ok (.aload_n 0, 1) := by decide +kernel
theorem dX2_readClass_57 : decode cX2_readClass 57 = .ok (.invokevirtual 50, 3) := by decide +kernel
theorem dX2_readClass_60 : decode cX2_readClass 60 = .ok (.invokestatic 69, 3) := by decide +kernel
theorem dX2_readClass_63 : decode cX2_readClass 63 = .ok (.ifCond .eq 53, 3) := by decide +kernel
theorem dX2_readClass_66 : decode cX2_readClass 66 = .ok (.aload_n 0, 1) := by decide +kernel
theorem dX2_readClass_67 : decode cX2_readClass 67 = .ok (.getfield 12, 3) := by decide +kernel
theorem dX2_readClass_70 : decode cX2_readClass 70 = .ok (.aload_n 0, 1) := by decide +kernel
theorem dX2_readClass_71 : decode cX2_readClass 71 = .ok (.getfield 22, 3) := by decide +kernel
theorem dX2_readClass_74 : decode cX2_readClass 74 = .ok (.aload_n 0, 1) := by decide +kernel
theorem dX2_readClass_75 : decode cX2_readClass 75 = .ok (.getfield 41, 3) := by decide +kernel
theorem dX2_readClass_78 : decode cX2_readClass 78 = .ok (.iaload, 1) := by decide +kernel
theorem dX2_readClass_79 : decode cX2_readClass 79 = .ok (.invokevirtual 125, 3) := by decide +kernel
theorem dX2_readClass_82 : decode cX2_readClass 82 = .ok (.istore_n 3, 1) := by decide +kernel
theorem dX2_readClass_83 : decode cX2_readClass 83 = .ok (.iload_n 3, 1) := by decide +kernel
theorem dX2_readClass_84 : decode cX2_readClass 84 = .ok (.ifCond .ne 13, 3) := by decide +kernel
theorem dX2_readClass_87 : decode cX2_readClass 87 = .ok (.aload_n 0, 1) := by decide +kernel
theorem dX2_readClass_88 : decode cX2_readClass 88 = .ok (.iconst 2, 1) := by decide +kernel
theorem dX2_readClass_89 : decode cX2_readClass 89 = .ok (.aload_n 0, 1) := by decide +kernel
theorem dX2_readClass_90 : decode cX2_readClass 90 = .ok (.getfield 41, 3) := by decide +kernel
theorem dX2_readClass_93 : decode cX2_readClass 93 = .ok (.invokevirtual 65, 3) := by decide +kernel
theorem dX2_readClass_96 : decode cX2_readClass 96 = .ok (.ireturn, 1) := by decide +kernel
theorem dX2_readClass_97 : decode cX2_readClass 97 = .ok (.iload_n 2, 1) := by decide +kernel
theorem dX2_readClass_98 : decode cX2_readClass 98 = .ok (.iconst 1, 1) := by decide +kernel
theorem dX2_readClass_99 : decode cX2_readClass 99 = .ok (.iload_n 3, 1) := by decide +kernel
theorem dX2_readClass_100 : decode cX2_readClass 100 = .ok (.ishl, 1) := by decide +kernel
theorem dX2_readClass_101 : decode cX2_readClass 101 = .ok (.ior, 1) := by decide +kernel
theorem dX2_readClass_102 : decode cX2_readClass 102 = .ok (.istore_n 2, 1) := by decide +kernel
theorem dX2_readClass_103 : decode cX2_readClass 103 = .ok (.aload_n 0, 1) := by decide +kernel
theorem dX2_readClass_104 : decode cX2_readClass 104 = .ok (.dup, 1) := by decide +kernel
theorem dX2_readClass_105 : decode cX2_readClass 105 = .ok (.getfield 41, 3) := by decide +kernel
theorem dX2_readClass_108 : decode cX2_readClass 108 = .ok (.iconst 1, 1) := by decide +kernel
theorem dX2_readClass_109 : decode cX2_readClass 109 = .ok (.iadd, 1) := by decide +kernel
theorem dX2_readClass_110 : decode cX2_readClass 110 = .ok (.putfield 41, 3) := by decide +kernel
theorem dX2_readClass_113 : decode cX2_readClass 113 = .ok (.goto (-68), 3) := by decide +kernel
theorem dX2_readClass_116 : decode cX2_readClass 116 = .ok (.aload_n 0, 1) := by decide +kernel
theorem dX2_readClass_117 : decode cX2_readClass 117 = .ok (.getfield 12, 3) := by decide +kernel
theorem dX2_readClass_120 : decode cX2_readClass 120 = .ok (.getfield 136, 3) := by decide +kernel
theorem dX2_readClass_123 : decode cX2_readClass 123 = .ok (.iload_n 1, 1) := by decide +kernel
theorem dX2_readClass_124 : decode cX2_readClass 124 = .ok (.iload_n 2, 1) := by decide +kernel
theorem dX2_readClass_125 : decode cX2_readClass 125 = .ok (.iastore, 1) := by decide +kernel
theorem dX2_readClass_126 : decode cX2_readClass 126 = .ok (.iload_n 2, 1) := by decide +kernel
theorem dX2_readClass_127 : decode cX2_readClass 127 = .ok (.ifCond .ne 15, 3) := by decide +kernel
theorem dX2_readClass_130 : decode cX2_readClass 130 = .ok (.aload_n 0, 1) := by decide +kernel
theorem dX2_readClass_131 : decode cX2_readClass 131 = .ok (.iconst 1, 1) := by decide +kernel
theorem dX2_readClass_132 : decode cX2_readClass 132 = .ok (.aload_n 0, 1) := by decide +kernel
theorem dX2_readClass_133 : decode cX2_readClass 133 = .ok (.getfield 41, 3) := by decide +kernel
theorem dX2_readClass_136 : decode cX2_readClass 136 = .ok (.invokevirtual 65, 3) := by decide +kernel
theorem dX2_readClass_139 : decode cX2_readClass 139 = .ok (.ifCond .eq 7, 3) := by decide +kernel
theorem dX2_readClass_142 : decode cX2_readClass 142 = .ok (.iconst 1, 1) := by decide +kernel
theorem dX2_readClass_143 : decode cX2_readClass 143 = .ok (.goto 4, 3) := by decide +kernel
theorem dX2_readClass_146 : decode cX2_readClass 146 = .ok (.iconst 0, 1) := by decide +kernel
theorem dX2_readClass_147 : decode cX2_readClass 147 = .ok (.ireturn, 1) := by decide +kernel
theorem dX2_readS_0 : decode cX2_readS 0 = .ok (.aload_n 0, 1) := by decide +kernel
theorem dX2_readS_1 : decode cX2_readS 1 = .ok (.invokevirtual 50, 3) := by decide +kernel
theorem dX2_readS_4 : decode cX2_readS 4 = .ok (.istore_n 1, 1) := by decide +kernel
theorem dX2_readS_5 : decode cX2_readS 5 = .ok (.iload_n 1, 1) := by decide +kernel
theorem dX2_readS_6 : decode cX2_readS 6 = .ok (.invokestatic 69, 3) := by decide +kernel
theorem dX2_readS_9 : decode cX2_readS 9 = .ok (.ifCond .ne 19, 3) := by decide +kernel
theorem dX2_readS_12 : decode cX2_readS 12 = .ok (.iload_n 1, 1) := by decide +kernel
theorem dX2_readS_13 : decode cX2_readS 13 = .ok (.bipush 48, 2) := by decide +kernel
theorem dX2_readS_15 : decode cX2_readS 15 = .ok (.if_icmp .eq 13, 3) := by decide +kernel
theorem dX2_readS_18 : decode cX2_readS 18 = .ok (.aload_n 0, 1) := by decide +kernel
theorem dX2_readS_19 : decode cX2_readS 19 = .ok (.iconst 1, 1) := by decide +kernel
theorem dX2_readS_20 : decode cX2_readS 20 = .ok (.aload_n 0, 1) := by decide +kernel
theorem dX2_readS_21 : decode cX2_readS 21 = .ok (.getfield 41, 3) := by decide +kernel
theorem dX2_readS_24 : decode cX2_readS 24 = .ok (.invokevirtual 65, 3) := by decide +kernel
theorem dX2_readS_27 : decode cX2_readS 27 = .ok (.ireturn, 1) := by decide +kernel
theorem dX2_readS_28 : decode cX2_readS 28 = .ok (.aload_n 0, 1) := by decide +kernel
theorem dX2_readS_29 : decode cX2_readS 29 = .ok (.aload_n 0, 1) := by decide +kernel
theorem dX2_readS_30 : decode cX2_readS 30 = .ok (.getfield 12, 3) := by decide +kernel
theorem dX2_readS_33 : decode cX2_readS 33 = .ok (.iload_n 1, 1) := by decide +kernel
theorem dX2_readS_34 : decode cX2_readS 34 = .ok (.invokevirtual 125, 3) := by decide +kernel
theorem dX2_readS_37 : decode cX2_readS 37 = .ok (.putfield 139, 3) := by decide +kernel
theorem dX2_readS_40 : decode cX2_readS 40 = .ok (.aload_n 0, 1) := by decide +kernel
theorem dX2_readS_41 : decode cX2_readS 41 = .ok (.getfield 139, 3) := by decide +kernel
theorem dX2_readS_44 : decode cX2_readS 44 = .ok (.ifCond .ne 19, 3) := by decide +kernel
theorem dX2_readS_47 : decode cX2_readS 47 = .ok (.iload_n 1, 1) := by decide +kernel
theorem dX2_readS_48 : decode cX2_readS 48 = .ok (.bipush 48, 2) := by decide +kernel
theorem dX2_readS_50 : decode cX2_readS 50 = .ok (.if_icmp .eq 13, 3) := by decide +kernel
theorem dX2_readS_53 : decode cX2_readS 53 = .ok (.aload_n 0, 1) := by decide +kernel
theorem dX2_readS_54 : decode cX2_readS 54 = .ok (.iconst 2, 1) := by decide +kernel
theorem dX2_readS_55 : decode cX2_readS 55 = .ok (.aload_n 0, 1) := by decide +kernel
theorem dX2_readS_56 : decode cX2_readS 56 = .ok (.getfield 41, 3) := by decide +kernel
theorem dX2_readS_59 : decode cX2_readS 59 = .ok (.invokevirtual 65, 3) := by decide +kernel
theorem dX2_readS_62 : decode cX2_readS 62 = .ok (.ireturn, 1) := by decide +kernel
theorem dX2_readS_63 : decode cX2_readS 63 = .ok (.aload_n 0, 1) := by decide +kernel
theorem dX2_readS_64 : decode cX2_readS 64 = .ok (.dup, 1) := by decide +kernel
theorem dX2_readS_65 : decode cX2_readS 65 = .ok (.getfield 41, 3) := by decide +kernel
theorem dX2_readS_68 : decode cX2_readS 68 = .ok (.iconst 1, 1) := by decide +kernel
theorem dX2_readS_69 : decode cX2_readS 69 = .ok (.iadd, 1) := by decide +kernel
theorem dX2_readS_70 : decode cX2_readS 70 = .ok (.putfield 41, 3) := by decide +kernel
theorem dX2_readS_73 : decode cX2_readS 73 = .ok (.iconst 1, 1) := by decide +kernel
theorem dX2_readS_74 : decode cX2_readS 74 = .ok (.ireturn, 1) := by decide +kernel
theorem dX2_readPair_0 : decode cX2_readPair 0 = .ok (.aload_n 0, 1) := by decide +kernel
theorem dX2_readPair_1 : decode cX2_readPair 1 = .ok (.invokevirtual 50, 3) := by decide +kernel
theorem dX2_readPair_4 : decode cX2_readPair 4 = .ok (.pop, 1) := by decide +kernel
theorem dX2_readPair_5 : decode cX2_readPair 5 = .ok (.aload_n 0, 1) := by decide +kernel
theorem dX2_readPair_6 : decode cX2_readPair 6 = .ok (.getfield 41, 3) := by decide +kernel
theorem dX2_readPair_9 : decode cX2_readPair 9 = .ok (.istore_n 1, 1) := by decide +kernel
theorem dX2_readPair_10 : decode cX2_readPair 10 = .ok (.aload_n 0, 1) := by decide +kernel
theorem dX2_readPair_11 : decode cX2_readPair 11 = .ok (.invokevirtual 142, 3) := by decide +kernel
theorem dX2_readPair_14 : decode cX2_readPair 14 = .ok (.ifCond .ne 5, 3) := by decide +kernel
theorem dX2_readPair_17 : decode cX2_readPair 17 = .ok (.iconst 0, 1) := by decide +kernel
theorem dX2_readPair_18 : decode cX2_readPair 18 = .ok (.ireturn, 1) := by decide +kernel
theorem dX2_readPair_19 : decode cX2_readPair 19 = .ok (.aload_n 0, 1) := by decide +kernel
theorem dX2_readPair_20 : decode cX2_readPair 20 = .ok (.aload_n 0, 1) := by decide +kernel
theorem dX2_readPair_21 : decode cX2_readPair 21 = .ok (.getfield 139, 3) := by decide +kernel
theorem dX2_readPair_24 : decode cX2_readPair 24 = .ok (.putfield 145, 3) := by decide +kernel
theorem dX2_readPair_27 : decode cX2_readPair 27 = .ok (.aload_n 0, 1) := by decide +kernel
theorem dX2_readPair_28 : decode cX2_readPair 28 = .ok (.bipush 58, 2) := by decide +kernel
theorem dX2_readPair_30 : decode cX2_readPair 30 = .ok (.invokevirtual 114, 3) := by decide +kernel
theorem dX2_readPair_33 : decode cX2_readPair 33 = .ok (.ifCond .eq 10, 3) := by decide +kernel
theorem dX2_readPair_36 : decode cX2_readPair 36 = .ok (.aload_n 0, 1) := by decide +kernel
theorem dX2_readPair_37 : decode cX2_readPair 37 = .ok (.invokevirtual 142, 3) := by decide +kernel
theorem dX2_readPair_40 : decode cX2_readPair 40 = .ok (.ifCond .ne 5, 3) := by decide +kernel
theorem dX2_readPair_43 : decode cX2_readPair 43 = .ok (.iconst 0, 1) := by decide +kernel
theorem dX2_readPair_44 : decode cX2_readPair 44 = .ok (.ireturn, 1) := by decide +kernel
theorem dX2_readPair_45 : decode cX2_readPair 45 = .ok (.aload_n 0, 1) := by decide +kernel
theorem dX2_readPair_46 : decode cX2_readPair 46 = .ok (.aload_n 0, 1) := by decide +kernel
theorem dX2_readPair_47 : decode cX2_readPair 47 = .ok (.getfield 139, 3) := by decide +kernel
theorem dX2_readPair_50 : decode cX2_readPair 50 = .ok (.putfield 148, 3) := by decide +kernel
theorem dX2_readPair_53 : decode cX2_readPair 53 = .ok (.aload_n 0, 1) := by decide +kernel
theorem dX2_readPair_54 : decode cX2_readPair 54 = .ok (.getfield 145, 3) := by decide +kernel
theorem dX2_readPair_57 : decode cX2_readPair 57 = .ok (.ifCond .ne 17, 3) := by decide +kernel
theorem dX2_readPair_60 : decode cX2_readPair 60 = .ok (.aload_n 0, 1) := by decide +kernel
theorem dX2_readPair_61 : decode cX2_readPair 61 = .ok (.getfield 148, 3) := by decide +kernel
theorem dX2_readPair_64 : decode cX2_readPair 64 = .ok (.ifCond .ne 10, 3) := by decide +kernel
theorem dX2_readPair_67 : decode cX2_readPair 67 = .ok (.aload_n 0, 1) := by decide +kernel
theorem dX2_readPair_68 : decode cX2_readPair 68 = .ok (.iconst 2, 1) := by decide +kernel
theorem dX2_readPair_69 : decode cX2_readPair 69 = .ok (.iload_n 1, 1) := by decide +kernel
theorem dX2_readPair_70 : decode cX2_readPair 70 = .ok (.invokevirtual 65, 3) := by decide +kernel
theorem dX2_readPair_73 : decode cX2_readPair 73 = .ok (.ireturn, 1) := by decide +kernel
theorem dX2_readPair_74 : decode cX2_readPair 74 = .ok (.aload_n 0, 1) := by decide +kernel
theorem dX2_readPair_75 : decode cX2_readPair 75 = .ok (.getfield 12, 3) := by decide +kernel
theorem dX2_readPair_78 : decode cX2_readPair 78 = .ok (.aload_n 0, 1) := by decide +kernel
theorem dX2_readPair_79 : decode cX2_readPair 79 = .ok (.getfield 145, 3) := by decide +kernel
theorem dX2_readPair_82 : decode cX2_readPair 82 = .ok (.aload_n 0, 1) := by decide +kernel
theorem dX2_readPair_83 : decode cX2_readPair 83 = .ok (.getfield 148, 3) := by decide +kernel
theorem dX2_readPair_86 : decode cX2_readPair 86 = .ok (.invokevirtual 151, 3) := by decide +kernel
theorem dX2_readPair_89 : decode cX2_readPair 89 = .ok (.ifCond .ne 12, 3) := by decide +kernel
theorem dX2_readPair_92 : decode cX2_readPair 92 = .ok (.aload_n 0, 1) := by decide +kernel
theorem dX2_readPair_93 : decode cX2_readPair 93 = .ok (.iconst 3, 1) := by decide +kernel
theorem dX2_readPair_94 : decode cX2_readPair 94 = .ok (.iload_n 1, 1) := by decide +kernel
theorem dX2_readPair_95 : decode cX2_readPair 95 = .ok (.invokevirtual 65, 3) := by decide +kernel
theorem dX2_readPair_98 : decode cX2_readPair 98 = .ok (.ifCond .eq 7, 3) := by decide +kernel
theorem dX2_readPair_101 : decode cX2_readPair 101 = .ok (.iconst 1, 1) := by decide +kernel
theorem dX2_readPair_102 : decode cX2_readPair 102 = .ok (.goto 4, 3) := by decide +kernel
theorem dX2_readPair_105 : decode cX2_readPair 105 = .ok (.iconst 0, 1) := by decide +kernel
theorem dX2_readPair_106 : decode cX2_readPair 106 = .ok (.ireturn, 1) := by decide +kernel
theorem dX2_standsHere_0 : decode cX2_standsHere 0 = .ok (.aload_n 0, 1) := by decide +kernel
theorem dX2_standsHere_1 : decode cX2_standsHere 1 = .ok (.getfield 41, 3) := by decide +kernel
theorem dX2_standsHere_4 : decode cX2_standsHere 4 = .ok (.aload_n 1, 1) := by decide +kernel
theorem dX2_standsHere_5 : decode cX2_standsHere 5 = .ok (.invokevirtual 117, 3) := by decide +kernel
theorem dX2_standsHere_8 : decode cX2_standsHere 8 = .ok (.iadd, 1) := by decide +kernel
theorem dX2_standsHere_9 : decode cX2_standsHere 9 = .ok (.aload_n 0, 1) := by decide +kernel
theorem dX2_standsHere_10 : decode cX2_standsHere 10 = .ok (.getfield 32, 3) := by decide +kernel
theorem dX2_standsHere_13 : decode cX2_standsHere 13 = .ok (.if_icmp .le 5, 3) := by decide +kernel
theorem dX2_standsHere_16 : decode cX2_standsHere 16 = .ok (.iconst 0, 1) := by decide +kernel
theorem dX2_standsHere_17 : decode cX2_standsHere 17 = .ok (.ireturn, 1) := by decide +kernel
theorem dX2_standsHere_18 : decode cX2_standsHere 18 = .ok (.iconst 0, 1) := by decide +kernel
theorem dX2_standsHere_19 : decode cX2_standsHere 19 = .ok (.istore_n 2, 1) := by decide +kernel
theorem dX2_standsHere_20 : decode cX2_standsHere 20 = .ok (.iload_n 2, 1) := by decide +kernel
theorem dX2_standsHere_21 : decode cX2_standsHere 21 = .ok (.aload_n 1, 1) := by decide +kernel
theorem dX2_standsHere_22 : decode cX2_standsHere 22 = .ok (.invokevirtual 117, 3) := by decide +kernel
theorem dX2_standsHere_25 : decode cX2_standsHere 25 = .ok (.if_icmp .ge 30, 3) := by decide +kernel
theorem dX2_standsHere_28 : decode cX2_standsHere 28 = .ok (.aload_n 0, 1) := by decide +kernel
theorem dX2_standsHere_29 : decode cX2_standsHere 29 = .ok (.getfield 22, 3) := by decide +kernel
theorem dX2_standsHere_32 : decode cX2_standsHere 32 = .ok (.aload_n 0, 1) := by decide +kernel
theorem dX2_standsHere_33 : decode cX2_standsHere 33 = .ok (.getfield 41, 3) := by decide +kernel
theorem dX2_standsHere_36 : decode cX2_standsHere 36 = .ok (.iload_n 2, 1) := by decide +kernel
theorem dX2_standsHere_37 : decode cX2_standsHere 37 = .ok (.iadd, 1) := by decide +kernel
theorem dX2_standsHere_38 : decode cX2_standsHere 38 = .ok (.iaload, 1) := by decide +kernel
theorem dX2_standsHere_39 : decode cX2_standsHere 39 = .ok (.aload_n 1, 1) := by decide +kernel
theorem dX2_standsHere_40 : decode cX2_standsHere 40 = .ok (.iload_n 2, 1) := by decide +kernel
theorem dX2_standsHere_41 : decode cX2_standsHere 41 = .ok (.invokevirtual 121, 3) := by decide +kernel
theorem dX2_standsHere_44 : decode cX2_standsHere 44 = .ok (.if_icmp .eq 5, 3) := by decide +kernel
theorem dX2_standsHere_47 : decode cX2_standsHere 47 = .ok (.iconst 0, 1) := by decide +kernel
theorem dX2_standsHere_48 : decode cX2_standsHere 48 = .ok (.ireturn, 1) := by decide +kernel
theorem dX2_standsHere_49 : decode cX2_standsHere 49 = .ok (.iinc 2 1, 3) := by decide +kernel
theorem dX2_standsHere_52 : decode cX2_standsHere 52 = .ok (.goto (-32), 3) := by decide +kernel
theorem dX2_standsHere_55 : decode cX2_standsHere 55 = .ok (.aload_n 0, 1) := by decide +kernel
theorem dX2_standsHere_56 : decode cX2_standsHere 56 = .ok (.dup, 1) := by decide +kernel
theorem dX2_standsHere_57 : decode cX2_standsHere 57 = .ok (.getfield 41, 3) := by decide +kernel
theorem dX2_standsHere_60 : decode cX2_standsHere 60 = .ok (.aload_n 1, 1) := by decide +kernel
theorem dX2_standsHere_61 : decode cX2_standsHere 61 = .ok (.invokevirtual 117, 3) := by decide +kernel
theorem dX2_standsHere_64 : decode cX2_standsHere 64 = .ok (.iadd, 1) := by decide +kernel
theorem dX2_standsHere_65 : decode cX2_standsHere 65 = .ok (.putfield 41, 3) := by decide +kernel
theorem dX2_standsHere_68 : decode cX2_standsHere 68 = .ok (.iconst 1, 1) := by decide +kernel
theorem dX2_standsHere_69 : decode cX2_standsHere 69 = .ok (.ireturn, 1) := by decide +kernel
theorem dX2_isKeyword_0 : decode cX2_isKeyword 0 = .ok (.aload_n 0, 1) := by decide +kernel
theorem dX2_isKeyword_1 : decode cX2_isKeyword 1 = .ok (.getfield 41, 3) := by decide +kernel
theorem dX2_isKeyword_4 : decode cX2_isKeyword 4 = .ok (.iload_n 2, 1) := by decide +kernel
theorem dX2_isKeyword_5 : decode cX2_isKeyword 5 = .ok (.isub, 1) := by decide +kernel
theorem dX2_isKeyword_6 : decode cX2_isKeyword 6 = .ok (.aload_n 1, 1) := by decide +kernel
theorem dX2_isKeyword_7 : decode cX2_isKeyword 7 = .ok (.invokevirtual 117, 3) := by decide +kernel
theorem dX2_isKeyword_10 : decode cX2_isKeyword 10 = .ok (.if_icmp .eq 5, 3) := by decide +kernel
theorem dX2_isKeyword_13 : decode cX2_isKeyword 13 = .ok (.iconst 0, 1) := by decide +kernel
theorem dX2_isKeyword_14 : decode cX2_isKeyword 14 = .ok (.ireturn, 1) := by decide +kernel
theorem dX2_isKeyword_15 : decode cX2_isKeyword 15 = .ok (.iconst 0, 1) := by decide +kernel
theorem dX2_isKeyword_16 : decode cX2_isKeyword 16 = .ok (.istore_n 3, 1) := by decide +kernel
theorem dX2_isKeyword_17 : decode cX2_isKeyword 17 = .ok (.iload_n 3, 1) := by decide +kernel
theorem dX2_isKeyword_18 : decode cX2_isKeyword 18 = .ok (.aload_n 1, 1) := by decide +kernel
theorem dX2_isKeyword_19 : decode cX2_isKeyword 19 = .ok (.invokevirtual 117, 3) := by decide +kernel
theorem dX2_isKeyword_22 : decode cX2_isKeyword 22 = .ok (.if_icmp .ge 27, 3) := by decide +kernel
theorem dX2_isKeyword_25 : decode cX2_isKeyword 25 = .ok (.aload_n 0, 1) := by decide +kernel
theorem dX2_isKeyword_26 : decode cX2_isKeyword 26 = .ok (.getfield 22, 3) := by decide +kernel
theorem dX2_isKeyword_29 : decode cX2_isKeyword 29 = .ok (.iload_n 2, 1) := by decide +kernel
theorem dX2_isKeyword_30 : decode cX2_isKeyword 30 = .ok (.iload_n 3, 1) := by decide +kernel
theorem dX2_isKeyword_31 : decode cX2_isKeyword 31 = .ok (.iadd, 1) := by decide +kernel
theorem dX2_isKeyword_32 : decode cX2_isKeyword 32 = .ok (.iaload, 1) := by decide +kernel
theorem dX2_isKeyword_33 : decode cX2_isKeyword 33 = .ok (.aload_n 1, 1) := by decide +kernel
theorem dX2_isKeyword_34 : decode cX2_isKeyword 34 = .ok (.iload_n 3, 1) := by decide +kernel
theorem dX2_isKeyword_35 : decode cX2_isKeyword 35 = .ok (.invokevirtual 121, 3) := by decide +kernel
theorem dX2_isKeyword_38 : decode cX2_isKeyword 38 = .ok (.if_icmp .eq 5, 3) := by decide +kernel
theorem dX2_isKeyword_41 : decode cX2_isKeyword 41 = .ok (.iconst 0, 1) := by decide +kernel
theorem dX2_isKeyword_42 : decode cX2_isKeyword 42 = .ok (.ireturn, 1) := by decide +kernel
theorem dX2_isKeyword_43 : decode cX2_isKeyword 43 = .ok (.iinc 3 1, 3) := by decide +kernel
theorem dX2_isKeyword_46 : decode cX2_isKeyword 46 = .ok (.goto (-29), 3) := by decide +kernel
theorem dX2_isKeyword_49 : decode cX2_isKeyword 49 = .ok (.iconst 1, 1) := by decide +kernel
theorem dX2_isKeyword_50 : decode cX2_isKeyword 50 = .ok (.ireturn, 1) := by decide +kernel
theorem dX2_readX_0 : decode cX2_readX 0 = .ok (.aload_n 0, 1) := by decide +kernel
theorem dX2_readX_1 : decode cX2_readX 1 = .ok (.invokevirtual 50, 3) := by decide +kernel
theorem dX2_readX_4 : decode cX2_readX 4 = .ok (.istore_n 1, 1) := by decide +kernel
theorem dX2_readX_5 : decode cX2_readX 5 = .ok (.iload_n 1, 1) := by decide +kernel
theorem dX2_readX_6 : decode cX2_readX 6 = .ok (.invokestatic 69, 3) := by decide +kernel
theorem dX2_readX_9 : decode cX2_readX 9 = .ok (.ifCond .eq 30, 3) := by decide +kernel
theorem dX2_readX_12 : decode cX2_readX 12 = .ok (.aload_n 0, 1) := by decide +kernel
theorem dX2_readX_13 : decode cX2_readX 13 = .ok (.getfield 12, 3) := by decide +kernel
theorem dX2_readX_16 : decode cX2_readX 16 = .ok (.iload_n 1, 1) := by decide +kernel
theorem dX2_readX_17 : decode cX2_readX 17 = .ok (.invokevirtual 125, 3) := by decide +kernel
theorem dX2_readX_20 : decode cX2_readX 20 = .ok (.istore_n 2, 1) := by decide +kernel
theorem dX2_readX_21 : decode cX2_readX 21 = .ok (.aload_n 0, 1) := by decide +kernel
theorem dX2_readX_22 : decode cX2_readX 22 = .ok (.iload_n 2, 1) := by decide +kernel
theorem dX2_readX_23 : decode cX2_readX 23 = .ok (.ifCond .ne 7, 3) := by decide +kernel
theorem dX2_readX_26 : decode cX2_readX 26 = .ok (.iconst 0, 1) := by decide +kernel
theorem dX2_readX_27 : decode cX2_readX 27 = .ok (.goto 6, 3) := by decide +kernel
theorem dX2_readX_30 : decode cX2_readX 30 = .ok (.iconst 1, 1) := by decide +kernel
theorem dX2_readX_31 : decode cX2_readX 31 = .ok (.iload_n 2, 1) := by decide +kernel
theorem dX2_readX_32 : decode cX2_readX 32 = .ok (.ishl, 1) := by decide +kernel
theorem dX2_readX_33 : decode cX2_readX 33 = .ok (.putfield 225, 3) := by decide +kernel
theorem dX2_readX_36 : decode cX2_readX 36 = .ok (.goto 71, 3) := by decide +kernel
theorem dX2_readX_39 : decode cX2_readX 39 = .ok (.iload_n 1, 1) := by decide +kernel
theorem dX2_readX_40 : decode cX2_readX 40 = .ok (.invokestatic 72, 3) := by decide +kernel
theorem dX2_readX_43 : decode cX2_readX 43 = .ok (.ifCond .eq 22, 3) := by decide +kernel
theorem dX2_readX_46 : decode cX2_readX 46 = .ok (.aload_n 0, 1) := by decide +kernel
theorem dX2_readX_47 : decode cX2_readX 47 = .ok (.aload_n 0, 1) := by decide +kernel
theorem dX2_readX_48 : decode cX2_readX 48 = .ok (.getfield 12, 3) := by decide +kernel
theorem dX2_readX_51 : decode cX2_readX 51 = .ok (.getfield 136, 3) := by decide +kernel
theorem dX2_readX_54 : decode cX2_readX 54 = .ok (.iload_n 1, 1) := by decide +kernel
theorem dX2_readX_55 : decode cX2_readX 55 = .ok (.bipush 65, 2) := by decide +kernel
theorem dX2_readX_57 : decode cX2_readX 57 = .ok (.isub, 1) := by decide +kernel
theorem dX2_readX_58 : decode cX2_readX 58 = .ok (.iaload, 1) := by decide +kernel
theorem dX2_readX_59 : decode cX2_readX 59 = .ok (.putfield 225, 3) := by decide +kernel
theorem dX2_readX_62 : decode cX2_readX 62 = .ok (.goto 45, 3) := by decide +kernel
theorem dX2_readX_65 : decode cX2_readX 65 = .ok (.iload_n 1, 1) := by decide +kernel
theorem dX2_readX_66 : decode cX2_readX 66 = .ok (.bipush 48, 2) := by decide +kernel
theorem dX2_readX_68 : decode cX2_readX 68 = .ok (.if_icmp .eq 9, 3) := by decide +kernel
theorem dX2_readX_71 : decode cX2_readX 71 = .ok (.iload_n 1, 1) := by decide +kernel
theorem dX2_readX_72 : decode cX2_readX 72 = .ok (.bipush 63, 2) := by decide +kernel
theorem dX2_readX_74 : decode cX2_readX 74 = .ok (.if_icmp .ne 23, 3) := by decide +kernel
theorem dX2_readX_77 : decode cX2_readX 77 = .ok (.aload_n 0, 1) := by decide +kernel
theorem dX2_readX_78 : decode cX2_readX 78 = .ok (.iload_n 1, 1) := by decide +kernel
theorem dX2_readX_79 : decode cX2_readX 79 = .ok (.bipush 48, 2) := by decide +kernel
theorem dX2_readX_81 : decode cX2_readX 81 = .ok (.if_icmp .ne 7, 3) := by decide +kernel
theorem dX2_readX_84 : decode cX2_readX 84 = .ok (.iconst 1, 1) := by decide +kernel
theorem dX2_readX_85 : decode cX2_readX 85 = .ok (.goto 6, 3) := by decide +kernel
theorem dX2_readX_88 : decode cX2_readX 88 = .ok (.sipush 511, 3) := by decide +kernel
theorem dX2_readX_91 : decode cX2_readX 91 = .ok (.putfield 225, 3) := by decide +kernel
theorem dX2_readX_94 : decode cX2_readX 94 = .ok (.goto 13, 3) := by decide +kernel
theorem dX2_readX_97 : decode cX2_readX 97 = .ok (.aload_n 0, 1) := by decide +kernel
theorem dX2_readX_98 : decode cX2_readX 98 = .ok (.iconst 1, 1) := by decide +kernel
theorem dX2_readX_99 : decode cX2_readX 99 = .ok (.aload_n 0, 1) := by decide +kernel
theorem dX2_readX_100 : decode cX2_readX 100 = .ok (.getfield 41, 3) := by decide +kernel
theorem dX2_readX_103 : decode cX2_readX 103 = .ok (.invokevirtual 65, 3) := by decide +kernel
theorem dX2_readX_106 : decode cX2_readX 106 = .ok (.ireturn, 1) := by decide +kernel
theorem dX2_readX_107 : decode cX2_readX 107 = .ok (.aload_n 0, 1) := by decide +kernel
theorem dX2_readX_108 : decode cX2_readX 108 = .ok (.getfield 225, 3) := by decide +kernel
theorem dX2_readX_111 : decode cX2_readX 111 = .ok (.ifCond .ne 13, 3) := by decide +kernel
theorem dX2_readX_114 : decode cX2_readX 114 = .ok (.aload_n 0, 1) := by decide +kernel
theorem dX2_readX_115 : decode cX2_readX 115 = .ok (.iconst 2, 1) := by decide +kernel
theorem dX2_readX_116 : decode cX2_readX 116 = .ok (.aload_n 0, 1) := by decide +kernel
theorem dX2_readX_117 : decode cX2_readX 117 = .ok (.getfield 41, 3) := by decide +kernel
theorem dX2_readX_120 : decode cX2_readX 120 = .ok (.invokevirtual 65, 3) := by decide +kernel
theorem dX2_readX_123 : decode cX2_readX 123 = .ok (.ireturn, 1) := by decide +kernel
theorem dX2_readX_124 : decode cX2_readX 124 = .ok (.aload_n 0, 1) := by decide +kernel
theorem dX2_readX_125 : decode cX2_readX 125 = .ok (.dup, 1) := by decide +kernel
theorem dX2_readX_126 : decode cX2_readX 126 = .ok (.getfield 41, 3) := by decide +kernel
theorem dX2_readX_129 : decode cX2_readX 129 = .ok (.iconst 1, 1) := by decide +kernel
theorem dX2_readX_130 : decode cX2_readX 130 = .ok (.iadd, 1) := by decide +kernel
theorem dX2_readX_131 : decode cX2_readX 131 = .ok (.putfield 41, 3) := by decide +kernel
theorem dX2_readX_134 : decode cX2_readX 134 = .ok (.iconst 1, 1) := by decide +kernel
theorem dX2_readX_135 : decode cX2_readX 135 = .ok (.ireturn, 1) := by decide +kernel
theorem dX2_readItems_0 : decode cX2_readItems 0 = .ok (.iconst 0, 1) := by decide +kernel
theorem dX2_readItems_1 : decode cX2_readItems 1 = .ok (.istore_n 3, 1) := by decide +kernel
theorem dX2_readItems_2 : decode cX2_readItems 2 = .ok (.iload_n 3, 1) := by decide +kernel
theorem dX2_readItems_3 : decode cX2_readItems 3 = .ok (.iconst 5, 1) := by decide +kernel
theorem dX2_readItems_4 : decode cX2_readItems 4 = .ok (.if_icmp .gt 161, 3) := by decide +kernel
theorem dX2_readItems_7 : decode cX2_readItems 7 = .ok (.aload_n 0, 1) := by decide +kernel
theorem dX2_readItems_8 : decode cX2_readItems 8 = .ok (.invokevirtual 50, 3) := by decide +kernel
theorem dX2_readItems_11 : decode cX2_readItems 11 = .ok (.invokestatic 219, 3) := by decide +kernel
theorem dX2_readItems_14 : decode cX2_readItems 14 = .ok (.ifCond .eq 151, 3) := by decide +kernel
theorem dX2_readItems_17 : decode cX2_readItems 17 = .ok (.aload_n 0, 1) := by decide +kernel
theorem dX2_readItems_18 : decode cX2_readItems 18 = .ok (.getfield 41, 3) := by decide +kernel
theorem dX2_readItems_21 : decode cX2_readItems 21 = .ok (.istore 4, 2) := by decide +kernel
theorem dX2_readItems_23 : decode cX2_readItems 23 = .ok (.aload_n 0, 1) := by decide +kernel
theorem dX2_readItems_24 : decode cX2_readItems 24 = .ok (.getfield 22, 3) := by decide +kernel
theorem dX2_readItems_27 : decode cX2_readItems 27 = .ok (.aload_n 0, 1) := by decide +kernel
theorem dX2_readItems_28 : decode cX2_readItems 28 = .ok (.getfield 41, 3) := by decide +kernel
theorem dX2_readItems_31 : decode cX2_readItems 31 = .ok (.iaload, 1) := by decide +kernel
theorem dX2_readItems_32 : decode cX2_readItems 32 = .ok (.istore 5, 2) := by decide +kernel
theorem dX2_readItems_34 : decode cX2_readItems 34 = .ok (.aload_n 0, 1) := by decide +kernel
theorem dX2_readItems_35 : decode cX2_readItems 35 = .ok (.invokevirtual 222, 3) := by decide +kernel
theorem dX2_readItems_38 : decode cX2_readItems 38 = .ok (.ifCond .ne 5, 3) := by decide +kernel
theorem dX2_readItems_41 : decode cX2_readItems 41 = .ok (.iconst 0, 1) := by decide +kernel
theorem dX2_readItems_42 : decode cX2_readItems 42 = .ok (.ireturn, 1) := by decide +kernel
theorem dX2_readItems_43 : decode cX2_readItems 43 = .ok (.aload_n 0, 1) := by decide +kernel
theorem dX2_readItems_44 : decode cX2_readItems 44 = .ok (.getfield 225, 3) := by decide +kernel
theorem dX2_readItems_47 : decode cX2_readItems 47 = .ok (.istore 6, 2) := by decide +kernel
theorem dX2_readItems_49 : decode cX2_readItems 49 = .ok (.iload 5, 2) := by decide +kernel
theorem dX2_readItems_51 : decode cX2_readItems 51 = .ok (.invokestatic 72, 3) := by decide +kernel
theorem dX2_readItems_54 : decode cX2_readItems 54 = .ok (.ifCond .eq 14, 3) := by decide +kernel
theorem dX2_readItems_57 : decode cX2_readItems 57 = .ok (.aload_n 0, 1) := by decide +kernel
theorem dX2_readItems_58 : decode cX2_readItems 58 = .ok (.getfield 225, 3) := by decide +kernel
theorem dX2_readItems_61 : decode cX2_readItems 61 = .ok (.sipush 512, 3) := by decide +kernel
theorem dX2_readItems_64 : decode cX2_readItems 64 = .ok (.ior, 1) := by decide +kernel
theorem dX2_readItems_65 : decode cX2_readItems 65 = .ok (.goto 7, 3) := by decide +kernel
theorem dX2_readItems_68 : decode cX2_readItems 68 = .ok (.aload_n 0, 1) := by decide +kernel
theorem dX2_readItems_69 : decode cX2_readItems 69 = .ok (.getfield 225, 3) := by decide +kernel
theorem dX2_readItems_72 : decode cX2_readItems 72 = .ok (.istore 7, 2) := by decide +kernel
theorem dX2_readItems_74 : decode cX2_readItems 74 = .ok (.aload_n 0, 1) := by decide +kernel
theorem dX2_readItems_75 : decode cX2_readItems 75 = .ok (.bipush 58, 2) := by decide +kernel
theorem dX2_readItems_77 : decode cX2_readItems 77 = .ok (.invokevirtual 61, 3) := by decide +kernel
theorem dX2_readItems_80 : decode cX2_readItems 80 = .ok (.istore 8, 2) := by decide +kernel
theorem dX2_readItems_82 : decode cX2_readItems 82 = .ok (.iload 8, 2) := by decide +kernel
theorem dX2_readItems_84 : decode cX2_readItems 84 = .ok (.ifCond .eq 27, 3) := by decide +kernel
theorem dX2_readItems_87 : decode cX2_readItems 87 = .ok (.iload 5, 2) := by decide +kernel
theorem dX2_readItems_89 : decode cX2_readItems 89 = .ok (.bipush 48, 2) := by decide +kernel
theorem dX2_readItems_91 : decode cX2_readItems 91 = .ok (.if_icmp .ne 20, 3) := by decide +kernel
theorem dX2_readItems_94 : decode cX2_readItems 94 = .ok (.aload_n 0, 1) := by decide +kernel
theorem dX2_readItems_95 : decode cX2_readItems 95 = .ok (.bipush 48, 2) := by decide +kernel
theorem dX2_readItems_97 : decode cX2_readItems 97 = .ok (.invokevirtual 173, 3) := by decide +kernel
theorem dX2_readItems_100 : decode cX2_readItems 100 = .ok (.ifCond .eq 11, 3) := by decide +kernel
theorem dX2_readItems_103 : decode cX2_readItems 103 = .ok (.aload_n 0, 1) := by decide +kernel
theorem dX2_readItems_104 : decode cX2_readItems 104 = .ok (.iconst 2, 1) := by decide +kernel
theorem dX2_readItems_105 : decode cX2_readItems 105 = .ok (.iload 4, 2) := by decide +kernel
theorem dX2_readItems_107 : decode cX2_readItems 107 = .ok (.invokevirtual 65, 3) := by decide +kernel
theorem dX2_readItems_110 : decode cX2_readItems 110 = .ok (.ireturn, 1) := by decide +kernel
theorem dX2_readItems_111 : decode cX2_readItems 111 = .ok (.iload_n 3, 1) := by decide +kernel
theorem dX2_readItems_112 : decode cX2_readItems 112 = .ok (.iconst 5, 1) := by decide +kernel
theorem dX2_readItems_113 : decode cX2_readItems 113 = .ok (.if_icmp .ne 11, 3) := by decide +kernel
theorem dX2_readItems_116 : decode cX2_readItems 116 = .ok (.aload_n 0, 1) := by decide +kernel
theorem dX2_readItems_117 : decode cX2_readItems 117 = .ok (.iconst 3, 1) := by decide +kernel
theorem dX2_readItems_118 : decode cX2_readItems 118 = .ok (.iload 4, 2) := by decide +kernel
theorem dX2_readItems_120 : decode cX2_readItems 120 = .ok (.invokevirtual 65, 3) := by decide +kernel
theorem dX2_readItems_123 : decode cX2_readItems 123 = .ok (.ireturn, 1) := by decide +kernel
theorem dX2_readItems_124 : decode cX2_readItems 124 = .ok (.iload 8, 2) := by decide +kernel
theorem dX2_readItems_126 : decode cX2_readItems 126 = .ok (.ifCond .eq 18, 3) := by decide +kernel
theorem dX2_readItems_129 : decode cX2_readItems 129 = .ok (.aload_n 0, 1) := by decide +kernel
theorem dX2_readItems_130 : decode cX2_readItems 130 = .ok (.invokevirtual 222, 3) := by decide +kernel
theorem dX2_readItems_133 : decode cX2_readItems 133 = .ok (.ifCond .ne 5, 3) := by decide +kernel
theorem dX2_readItems_136 : decode cX2_readItems 136 = .ok (.iconst 0, 1) := by decide +kernel
theorem dX2_readItems_137 : decode cX2_readItems 137 = .ok (.ireturn, 1) := by decide +kernel
theorem dX2_readItems_138 : decode cX2_readItems 138 = .ok (.aload_n 0, 1) := by decide +kernel
