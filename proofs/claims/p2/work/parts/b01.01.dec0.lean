theorem dX5_couplesOf_0 : decode cX5_couplesOf 0 = .ok (.lconst 0, 1) := by decide +kernel
theorem dX5_couplesOf_1 : decode cX5_couplesOf 1 = .ok (.lstore_n 2, 1) := by decide +kernel
theorem dX5_couplesOf_2 : decode cX5_couplesOf 2 = .ok (.iconst 0, 1) := by decide +kernel
theorem dX5_couplesOf_3 : decode cX5_couplesOf 3 = .ok (.istore 4, 2) := by decide +kernel
theorem dX5_couplesOf_5 : decode cX5_couplesOf 5 = .ok (.iload 4, 2) := by decide +kernel
theorem dX5_couplesOf_7 : decode cX5_couplesOf 7 = .ok (.bipush 6, 2) := by decide +kernel
theorem dX5_couplesOf_9 : decode cX5_couplesOf 9 = .ok (.if_icmp .ge 30, 3) := by decide +kernel
theorem dX5_couplesOf_12 : decode cX5_couplesOf 12 = .ok (.iload_n 0, 1) := by decide +kernel
theorem dX5_couplesOf_13 : decode cX5_couplesOf 13 = .ok (.iload 4, 2) := by decide +kernel
theorem dX5_couplesOf_15 : decode cX5_couplesOf 15 = .ok (.ishr, 1) := by decide +kernel
theorem dX5_couplesOf_16 : decode cX5_couplesOf 16 = .ok (.iconst 1, 1) := by decide +kernel
theorem dX5_couplesOf_17 : decode cX5_couplesOf 17 = .ok (.iand, 1) := by decide +kernel
theorem dX5_couplesOf_18 : decode cX5_couplesOf 18 = .ok (.iconst 1, 1) := by decide +kernel
theorem dX5_couplesOf_19 : decode cX5_couplesOf 19 = .ok (.if_icmp .ne 14, 3) := by decide +kernel
theorem dX5_couplesOf_22 : decode cX5_couplesOf 22 = .ok (.lload_n 2, 1) := by decide +kernel
theorem dX5_couplesOf_23 : decode cX5_couplesOf 23 = .ok (.iload_n 1, 1) := by decide +kernel
theorem dX5_couplesOf_24 : decode cX5_couplesOf 24 = .ok (.i2l, 1) := by decide +kernel
theorem dX5_couplesOf_25 : decode cX5_couplesOf 25 = .ok (.iload 4, 2) := by decide +kernel
theorem dX5_couplesOf_27 : decode cX5_couplesOf 27 = .ok (.bipush 6, 2) := by decide +kernel
theorem dX5_couplesOf_29 : decode cX5_couplesOf 29 = .ok (.imul, 1) := by decide +kernel
theorem dX5_couplesOf_30 : decode cX5_couplesOf 30 = .ok (.lshl, 1) := by decide +kernel
theorem dX5_couplesOf_31 : decode cX5_couplesOf 31 = .ok (.lor, 1) := by decide +kernel
theorem dX5_couplesOf_32 : decode cX5_couplesOf 32 = .ok (.lstore_n 2, 1) := by decide +kernel
theorem dX5_couplesOf_33 : decode cX5_couplesOf 33 = .ok (.iinc 4 1, 3) := by decide +kernel
theorem dX5_couplesOf_36 : decode cX5_couplesOf 36 = .ok (.goto (-31), 3) := by decide +kernel
theorem dX5_couplesOf_39 : decode cX5_couplesOf 39 = .ok (.lload_n 2, 1) := by decide +kernel
theorem dX5_couplesOf_40 : decode cX5_couplesOf 40 = .ok (.lreturn, 1) := by decide +kernel
theorem dX5_moveAlone_0 : decode cX5_moveAlone 0 = .ok (.iload_n 1, 1) := by decide +kernel
theorem dX5_moveAlone_1 : decode cX5_moveAlone 1 = .ok (.bipush 6, 2) := by decide +kernel
theorem dX5_moveAlone_3 : decode cX5_moveAlone 3 = .ok (.imul, 1) := by decide +kernel
theorem dX5_moveAlone_4 : decode cX5_moveAlone 4 = .ok (.istore 5, 2) := by decide +kernel
theorem dX5_moveAlone_6 : decode cX5_moveAlone 6 = .ok (.iload_n 2, 1) := by decide +kernel
theorem dX5_moveAlone_7 : decode cX5_moveAlone 7 = .ok (.iload 5, 2) := by decide +kernel
theorem dX5_moveAlone_9 : decode cX5_moveAlone 9 = .ok (.ishl, 1) := by decide +kernel
theorem dX5_moveAlone_10 : decode cX5_moveAlone 10 = .ok (.istore 6, 2) := by decide +kernel
theorem dX5_moveAlone_12 : decode cX5_moveAlone 12 = .ok (.aload_n 0, 1) := by decide +kernel
theorem dX5_moveAlone_13 : decode cX5_moveAlone 13 = .ok (.iload 6, 2) := by decide +kernel
theorem dX5_moveAlone_15 : decode cX5_moveAlone 15 = .ok (.iload_n 3, 1) := by decide +kernel
theorem dX5_moveAlone_16 : decode cX5_moveAlone 16 = .ok (.invokevirtual 77, 3) := by decide +kernel
theorem dX5_moveAlone_19 : decode cX5_moveAlone 19 = .ok (.istore 7, 2) := by decide +kernel
theorem dX5_moveAlone_21 : decode cX5_moveAlone 21 = .ok (.aload_n 0, 1) := by decide +kernel
theorem dX5_moveAlone_22 : decode cX5_moveAlone 22 = .ok (.getfield 34, 3) := by decide +kernel
theorem dX5_moveAlone_25 : decode cX5_moveAlone 25 = .ok (.iload_n 1, 1) := by decide +kernel
theorem dX5_moveAlone_26 : decode cX5_moveAlone 26 = .ok (.ishr, 1) := by decide +kernel
theorem dX5_moveAlone_27 : decode cX5_moveAlone 27 = .ok (.iconst 1, 1) := by decide +kernel
theorem dX5_moveAlone_28 : decode cX5_moveAlone 28 = .ok (.iand, 1) := by decide +kernel
theorem dX5_moveAlone_29 : decode cX5_moveAlone 29 = .ok (.ifCond .ne 32, 3) := by decide +kernel
theorem dX5_moveAlone_32 : decode cX5_moveAlone 32 = .ok (.iload 7, 2) := by decide +kernel
theorem dX5_moveAlone_34 : decode cX5_moveAlone 34 = .ok (.iload 4, 2) := by decide +kernel
theorem dX5_moveAlone_36 : decode cX5_moveAlone 36 = .ok (.ifCond .eq 17, 3) := by decide +kernel
theorem dX5_moveAlone_39 : decode cX5_moveAlone 39 = .ok (.aload_n 0, 1) := by decide +kernel
theorem dX5_moveAlone_40 : decode cX5_moveAlone 40 = .ok (.iload 6, 2) := by decide +kernel
theorem dX5_moveAlone_42 : decode cX5_moveAlone 42 = .ok (.aload_n 0, 1) := by decide +kernel
theorem dX5_moveAlone_43 : decode cX5_moveAlone 43 = .ok (.getfield 31, 3) := by decide +kernel
theorem dX5_moveAlone_46 : decode cX5_moveAlone 46 = .ok (.iand, 1) := by decide +kernel
theorem dX5_moveAlone_47 : decode cX5_moveAlone 47 = .ok (.invokevirtual 58, 3) := by decide +kernel
theorem dX5_moveAlone_50 : decode cX5_moveAlone 50 = .ok (.goto 8, 3) := by decide +kernel
theorem dX5_moveAlone_53 : decode cX5_moveAlone 53 = .ok (.iload 6, 2) := by decide +kernel
theorem dX5_moveAlone_55 : decode cX5_moveAlone 55 = .ok (.ldc 81, 2) := by decide +kernel
theorem dX5_moveAlone_57 : decode cX5_moveAlone 57 = .ok (.iand, 1) := by decide +kernel
theorem dX5_moveAlone_58 : decode cX5_moveAlone 58 = .ok (.ior, 1) := by decide +kernel
theorem dX5_moveAlone_59 : decode cX5_moveAlone 59 = .ok (.istore 7, 2) := by decide +kernel
theorem dX5_moveAlone_61 : decode cX5_moveAlone 61 = .ok (.iload 7, 2) := by decide +kernel
theorem dX5_moveAlone_63 : decode cX5_moveAlone 63 = .ok (.iload 5, 2) := by decide +kernel
theorem dX5_moveAlone_65 : decode cX5_moveAlone 65 = .ok (.ishr, 1) := by decide +kernel
theorem dX5_moveAlone_66 : decode cX5_moveAlone 66 = .ok (.bipush 63, 2) := by decide +kernel
theorem dX5_moveAlone_68 : decode cX5_moveAlone 68 = .ok (.iand, 1) := by decide +kernel
theorem dX5_moveAlone_69 : decode cX5_moveAlone 69 = .ok (.ireturn, 1) := by decide +kernel
theorem dX5_moveCouples_0 : decode cX5_moveCouples 0 = .ok (.lconst 0, 1) := by decide +kernel
theorem dX5_moveCouples_1 : decode cX5_moveCouples 1 = .ok (.lstore 8, 2) := by decide +kernel
theorem dX5_moveCouples_3 : decode cX5_moveCouples 3 = .ok (.iconst 0, 1) := by decide +kernel
theorem dX5_moveCouples_4 : decode cX5_moveCouples 4 = .ok (.istore 10, 2) := by decide +kernel
theorem dX5_moveCouples_6 : decode cX5_moveCouples 6 = .ok (.iload 10, 2) := by decide +kernel
theorem dX5_moveCouples_8 : decode cX5_moveCouples 8 = .ok (.bipush 6, 2) := by decide +kernel
theorem dX5_moveCouples_10 : decode cX5_moveCouples 10 = .ok (.if_icmp .ge 61, 3) := by decide +kernel
theorem dX5_moveCouples_13 : decode cX5_moveCouples 13 = .ok (.lload_n 1, 1) := by decide +kernel
theorem dX5_moveCouples_14 : decode cX5_moveCouples 14 = .ok (.iload 10, 2) := by decide +kernel
theorem dX5_moveCouples_16 : decode cX5_moveCouples 16 = .ok (.bipush 6, 2) := by decide +kernel
theorem dX5_moveCouples_18 : decode cX5_moveCouples 18 = .ok (.imul, 1) := by decide +kernel
theorem dX5_moveCouples_19 : decode cX5_moveCouples 19 = .ok (.lshr, 1) := by decide +kernel
theorem dX5_moveCouples_20 : decode cX5_moveCouples 20 = .ok (.l2i, 1) := by decide +kernel
theorem dX5_moveCouples_21 : decode cX5_moveCouples 21 = .ok (.bipush 63, 2) := by decide +kernel
theorem dX5_moveCouples_23 : decode cX5_moveCouples 23 = .ok (.iand, 1) := by decide +kernel
theorem dX5_moveCouples_24 : decode cX5_moveCouples 24 = .ok (.istore 11, 2) := by decide +kernel
theorem dX5_moveCouples_26 : decode cX5_moveCouples 26 = .ok (.iload 11, 2) := by decide +kernel
theorem dX5_moveCouples_28 : decode cX5_moveCouples 28 = .ok (.ifCond .eq 37, 3) := by decide +kernel
theorem dX5_moveCouples_31 : decode cX5_moveCouples 31 = .ok (.lload 8, 2) := by decide +kernel
theorem dX5_moveCouples_33 : decode cX5_moveCouples 33 = .ok (.aload_n 0, 1) := by decide +kernel
theorem dX5_moveCouples_34 : decode cX5_moveCouples 34 = .ok (.iload_n 3, 1) := by decide +kernel
theorem dX5_moveCouples_35 : decode cX5_moveCouples 35 = .ok (.iconst 1, 1) := by decide +kernel
theorem dX5_moveCouples_36 : decode cX5_moveCouples 36 = .ok (.iload 10, 2) := by decide +kernel
theorem dX5_moveCouples_38 : decode cX5_moveCouples 38 = .ok (.ishl, 1) := by decide +kernel
theorem dX5_moveCouples_39 : decode cX5_moveCouples 39 = .ok (.iload 6, 2) := by decide +kernel
theorem dX5_moveCouples_41 : decode cX5_moveCouples 41 = .ok (.iload 7, 2) := by decide +kernel
theorem dX5_moveCouples_43 : decode cX5_moveCouples 43 = .ok (.invokevirtual 73, 3) := by decide +kernel
theorem dX5_moveCouples_46 : decode cX5_moveCouples 46 = .ok (.aload 4, 2) := by decide +kernel
theorem dX5_moveCouples_48 : decode cX5_moveCouples 48 = .ok (.iload 5, 2) := by decide +kernel
theorem dX5_moveCouples_50 : decode cX5_moveCouples 50 = .ok (.iload 11, 2) := by decide +kernel
theorem dX5_moveCouples_52 : decode cX5_moveCouples 52 = .ok (.iload 6, 2) := by decide +kernel
theorem dX5_moveCouples_54 : decode cX5_moveCouples 54 = .ok (.iload 7, 2) := by decide +kernel
theorem dX5_moveCouples_56 : decode cX5_moveCouples 56 = .ok (.invokevirtual 73, 3) := by decide +kernel
theorem dX5_moveCouples_59 : decode cX5_moveCouples 59 = .ok (.invokestatic 65, 3) := by decide +kernel
theorem dX5_moveCouples_62 : decode cX5_moveCouples 62 = .ok (.lor, 1) := by decide +kernel
theorem dX5_moveCouples_63 : decode cX5_moveCouples 63 = .ok (.lstore 8, 2) := by decide +kernel
theorem dX5_moveCouples_65 : decode cX5_moveCouples 65 = .ok (.iinc 10 1, 3) := by decide +kernel
theorem dX5_moveCouples_68 : decode cX5_moveCouples 68 = .ok (.goto (-62), 3) := by decide +kernel
theorem dX5_moveCouples_71 : decode cX5_moveCouples 71 = .ok (.lload 8, 2) := by decide +kernel
theorem dX5_moveCouples_73 : decode cX5_moveCouples 73 = .ok (.lreturn, 1) := by decide +kernel
theorem dX5_shortestCommon_0 : decode cX5_shortestCommon 0 = .ok (.aload_n 0, 1) := by decide +kernel
theorem dX5_shortestCommon_1 : decode cX5_shortestCommon 1 = .ok (.iload_n 1, 1) := by decide +kernel
theorem dX5_shortestCommon_2 : decode cX5_shortestCommon 2 = .ok (.invokevirtual 62, 3) := by decide +kernel
theorem dX5_shortestCommon_5 : decode cX5_shortestCommon 5 = .ok (.iload_n 1, 1) := by decide +kernel
theorem dX5_shortestCommon_6 : decode cX5_shortestCommon 6 = .ok (.bipush 6, 2) := by decide +kernel
theorem dX5_shortestCommon_8 : decode cX5_shortestCommon 8 = .ok (.imul, 1) := by decide +kernel
theorem dX5_shortestCommon_9 : decode cX5_shortestCommon 9 = .ok (.ishr, 1) := by decide +kernel
theorem dX5_shortestCommon_10 : decode cX5_shortestCommon 10 = .ok (.bipush 63, 2) := by decide +kernel
theorem dX5_shortestCommon_12 : decode cX5_shortestCommon 12 = .ok (.iand, 1) := by decide +kernel
theorem dX5_shortestCommon_13 : decode cX5_shortestCommon 13 = .ok (.istore 6, 2) := by decide +kernel
theorem dX5_shortestCommon_15 : decode cX5_shortestCommon 15 = .ok (.aload_n 2, 1) := by decide +kernel
theorem dX5_shortestCommon_16 : decode cX5_shortestCommon 16 = .ok (.iload_n 3, 1) := by decide +kernel
theorem dX5_shortestCommon_17 : decode cX5_shortestCommon 17 = .ok (.invokevirtual 62, 3) := by decide +kernel
theorem dX5_shortestCommon_20 : decode cX5_shortestCommon 20 = .ok (.iload_n 3, 1) := by decide +kernel
theorem dX5_shortestCommon_21 : decode cX5_shortestCommon 21 = .ok (.bipush 6, 2) := by decide +kernel
theorem dX5_shortestCommon_23 : decode cX5_shortestCommon 23 = .ok (.imul, 1) := by decide +kernel
theorem dX5_shortestCommon_24 : decode cX5_shortestCommon 24 = .ok (.ishr, 1) := by decide +kernel
theorem dX5_shortestCommon_25 : decode cX5_shortestCommon 25 = .ok (.bipush 63, 2) := by decide +kernel
theorem dX5_shortestCommon_27 : decode cX5_shortestCommon 27 = .ok (.iand, 1) := by decide +kernel
theorem dX5_shortestCommon_28 : decode cX5_shortestCommon 28 = .ok (.istore 7, 2) := by decide +kernel
theorem dX5_shortestCommon_30 : decode cX5_shortestCommon 30 = .ok (.iload 6, 2) := by decide +kernel
theorem dX5_shortestCommon_32 : decode cX5_shortestCommon 32 = .ok (.iload 7, 2) := by decide +kernel
theorem dX5_shortestCommon_34 : decode cX5_shortestCommon 34 = .ok (.invokestatic 65, 3) := by decide +kernel
theorem dX5_shortestCommon_37 : decode cX5_shortestCommon 37 = .ok (.lstore 8, 2) := by decide +kernel
theorem dX5_shortestCommon_39 : decode cX5_shortestCommon 39 = .ok (.iconst 0, 1) := by decide +kernel
theorem dX5_shortestCommon_40 : decode cX5_shortestCommon 40 = .ok (.istore 10, 2) := by decide +kernel
theorem dX5_shortestCommon_42 : decode cX5_shortestCommon 42 = .ok (.iload 10, 2) := by decide +kernel
theorem dX5_shortestCommon_44 : decode cX5_shortestCommon 44 = .ok (.iconst 4, 1) := by decide +kernel
theorem dX5_shortestCommon_45 : decode cX5_shortestCommon 45 = .ok (.if_icmp .gt 65, 3) := by decide +kernel
theorem dX5_shortestCommon_48 : decode cX5_shortestCommon 48 = .ok (.lload 8, 2) := by decide +kernel
theorem dX5_shortestCommon_50 : decode cX5_shortestCommon 50 = .ok (.bipush 35, 2) := by decide +kernel
theorem dX5_shortestCommon_52 : decode cX5_shortestCommon 52 = .ok (.lshr, 1) := by decide +kernel
theorem dX5_shortestCommon_53 : decode cX5_shortestCommon 53 = .ok (.lconst 1, 1) := by decide +kernel
theorem dX5_shortestCommon_54 : decode cX5_shortestCommon 54 = .ok (.land, 1) := by decide +kernel
theorem dX5_shortestCommon_55 : decode cX5_shortestCommon 55 = .ok (.lconst 1, 1) := by decide +kernel
theorem dX5_shortestCommon_56 : decode cX5_shortestCommon 56 = .ok (.lcmp, 1) := by decide +kernel
theorem dX5_shortestCommon_57 : decode cX5_shortestCommon 57 = .ok (.ifCond .ne 6, 3) := by decide +kernel
theorem dX5_shortestCommon_60 : decode cX5_shortestCommon 60 = .ok (.iload 10, 2) := by decide +kernel
theorem dX5_shortestCommon_62 : decode cX5_shortestCommon 62 = .ok (.ireturn, 1) := by decide +kernel
theorem dX5_shortestCommon_63 : decode cX5_shortestCommon 63 = .ok (.lconst 0, 1) := by decide +kernel
theorem dX5_shortestCommon_64 : decode cX5_shortestCommon 64 = .ok (.lstore 11, 2) := by decide +kernel
theorem dX5_shortestCommon_66 : decode cX5_shortestCommon 66 = .ok (.iconst 0, 1) := by decide +kernel
theorem dX5_shortestCommon_67 : decode cX5_shortestCommon 67 = .ok (.istore 13, 2) := by decide +kernel
theorem dX5_shortestCommon_69 : decode cX5_shortestCommon 69 = .ok (.iload 13, 2) := by decide +kernel
theorem dX5_shortestCommon_71 : decode cX5_shortestCommon 71 = .ok (.iload 4, 2) := by decide +kernel
theorem dX5_shortestCommon_73 : decode cX5_shortestCommon 73 = .ok (.if_icmp .ge 27, 3) := by decide +kernel
theorem dX5_shortestCommon_76 : decode cX5_shortestCommon 76 = .ok (.lload 11, 2) := by decide +kernel
theorem dX5_shortestCommon_78 : decode cX5_shortestCommon 78 = .ok (.aload_n 0, 1) := by decide +kernel
theorem dX5_shortestCommon_79 : decode cX5_shortestCommon 79 = .ok (.lload 8, 2) := by decide +kernel
theorem dX5_shortestCommon_81 : decode cX5_shortestCommon 81 = .ok (.iload_n 1, 1) := by decide +kernel
theorem dX5_shortestCommon_82 : decode cX5_shortestCommon 82 = .ok (.aload_n 2, 1) := by decide +kernel
theorem dX5_shortestCommon_83 : decode cX5_shortestCommon 83 = .ok (.iload_n 3, 1) := by decide +kernel
theorem dX5_shortestCommon_84 : decode cX5_shortestCommon 84 = .ok (.iload 13, 2) := by decide +kernel
theorem dX5_shortestCommon_86 : decode cX5_shortestCommon 86 = .ok (.iload 5, 2) := by decide +kernel
theorem dX5_shortestCommon_88 : decode cX5_shortestCommon 88 = .ok (.invokevirtual 69, 3) := by decide +kernel
theorem dX5_shortestCommon_91 : decode cX5_shortestCommon 91 = .ok (.lor, 1) := by decide +kernel
theorem dX5_shortestCommon_92 : decode cX5_shortestCommon 92 = .ok (.lstore 11, 2) := by decide +kernel
theorem dX5_shortestCommon_94 : decode cX5_shortestCommon 94 = .ok (.iinc 13 1, 3) := by decide +kernel
theorem dX5_shortestCommon_97 : decode cX5_shortestCommon 97 = .ok (.goto (-28), 3) := by decide +kernel
theorem dX5_shortestCommon_100 : decode cX5_shortestCommon 100 = .ok (.lload 11, 2) := by decide +kernel
theorem dX5_shortestCommon_102 : decode cX5_shortestCommon 102 = .ok (.lstore 8, 2) := by decide +kernel
theorem dX5_shortestCommon_104 : decode cX5_shortestCommon 104 = .ok (.iinc 10 1, 3) := by decide +kernel
theorem dX5_shortestCommon_107 : decode cX5_shortestCommon 107 = .ok (.goto (-65), 3) := by decide +kernel
theorem dX5_shortestCommon_110 : decode cX5_shortestCommon 110 = .ok (.iconst (-1), 1) := by decide +kernel
theorem dX5_shortestCommon_111 : decode cX5_shortestCommon 111 = .ok (.ireturn, 1) := by decide +kernel
theorem dX4_shortestClash_0 : decode cX4_shortestClash 0 = .ok (.iconst (-1), 1) := by decide +kernel
theorem dX4_shortestClash_1 : decode cX4_shortestClash 1 = .ok (.istore_n 3, 1) := by decide +kernel
theorem dX4_shortestClash_2 : decode cX4_shortestClash 2 = .ok (.iconst 0, 1) := by decide +kernel
theorem dX4_shortestClash_3 : decode cX4_shortestClash 3 = .ok (.istore 4, 2) := by decide +kernel
theorem dX4_shortestClash_5 : decode cX4_shortestClash 5 = .ok (.iload 4, 2) := by decide +kernel
theorem dX4_shortestClash_7 : decode cX4_shortestClash 7 = .ok (.aload_n 0, 1) := by decide +kernel
theorem dX4_shortestClash_8 : decode cX4_shortestClash 8 = .ok (.getfield 38, 3) := by decide +kernel
theorem dX4_shortestClash_11 : decode cX4_shortestClash 11 = .ok (.if_icmp .ge 100, 3) := by decide +kernel
theorem dX4_shortestClash_14 : decode cX4_shortestClash 14 = .ok (.iconst 0, 1) := by decide +kernel
theorem dX4_shortestClash_15 : decode cX4_shortestClash 15 = .ok (.istore 5, 2) := by decide +kernel
theorem dX4_shortestClash_17 : decode cX4_shortestClash 17 = .ok (.iload 5, 2) := by decide +kernel
theorem dX4_shortestClash_19 : decode cX4_shortestClash 19 = .ok (.aload_n 1, 1) := by decide +kernel
theorem dX4_shortestClash_20 : decode cX4_shortestClash 20 = .ok (.getfield 38, 3) := by decide +kernel
theorem dX4_shortestClash_23 : decode cX4_shortestClash 23 = .ok (.if_icmp .ge 82, 3) := by decide +kernel
theorem dX4_shortestClash_26 : decode cX4_shortestClash 26 = .ok (.aload_n 0, 1) := by decide +kernel
theorem dX4_shortestClash_27 : decode cX4_shortestClash 27 = .ok (.getfield 12, 3) := by decide +kernel
theorem dX4_shortestClash_30 : decode cX4_shortestClash 30 = .ok (.iload 4, 2) := by decide +kernel
theorem dX4_shortestClash_32 : decode cX4_shortestClash 32 = .ok (.aload_n 1, 1) := by decide +kernel
theorem dX4_shortestClash_33 : decode cX4_shortestClash 33 = .ok (.getfield 12, 3) := by decide +kernel
theorem dX4_shortestClash_36 : decode cX4_shortestClash 36 = .ok (.iload 5, 2) := by decide +kernel
theorem dX4_shortestClash_38 : decode cX4_shortestClash 38 = .ok (.iload_n 2, 1) := by decide +kernel
theorem dX4_shortestClash_39 : decode cX4_shortestClash 39 = .ok (.iconst 1, 1) := by decide +kernel
theorem dX4_shortestClash_40 : decode cX4_shortestClash 40 = .ok (.invokevirtual 114, 3) := by decide +kernel
theorem dX4_shortestClash_43 : decode cX4_shortestClash 43 = .ok (.istore 6, 2) := by decide +kernel
theorem dX4_shortestClash_45 : decode cX4_shortestClash 45 = .ok (.aload_n 0, 1) := by decide +kernel
theorem dX4_shortestClash_46 : decode cX4_shortestClash 46 = .ok (.getfield 18, 3) := by decide +kernel
theorem dX4_shortestClash_49 : decode cX4_shortestClash 49 = .ok (.iload 4, 2) := by decide +kernel
theorem dX4_shortestClash_51 : decode cX4_shortestClash 51 = .ok (.aload_n 1, 1) := by decide +kernel
theorem dX4_shortestClash_52 : decode cX4_shortestClash 52 = .ok (.getfield 18, 3) := by decide +kernel
theorem dX4_shortestClash_55 : decode cX4_shortestClash 55 = .ok (.iload 5, 2) := by decide +kernel
theorem dX4_shortestClash_57 : decode cX4_shortestClash 57 = .ok (.iload_n 2, 1) := by decide +kernel
theorem dX4_shortestClash_58 : decode cX4_shortestClash 58 = .ok (.iconst 0, 1) := by decide +kernel
theorem dX4_shortestClash_59 : decode cX4_shortestClash 59 = .ok (.invokevirtual 114, 3) := by decide +kernel
theorem dX4_shortestClash_62 : decode cX4_shortestClash 62 = .ok (.istore 7, 2) := by decide +kernel
theorem dX4_shortestClash_64 : decode cX4_shortestClash 64 = .ok (.iload 6, 2) := by decide +kernel
theorem dX4_shortestClash_66 : decode cX4_shortestClash 66 = .ok (.iconst 1, 1) := by decide +kernel
theorem dX4_shortestClash_67 : decode cX4_shortestClash 67 = .ok (.iadd, 1) := by decide +kernel
theorem dX4_shortestClash_68 : decode cX4_shortestClash 68 = .ok (.iload 7, 2) := by decide +kernel
theorem dX4_shortestClash_70 : decode cX4_shortestClash 70 = .ok (.iadd, 1) := by decide +kernel
theorem dX4_shortestClash_71 : decode cX4_shortestClash 71 = .ok (.istore 8, 2) := by decide +kernel
theorem dX4_shortestClash_73 : decode cX4_shortestClash 73 = .ok (.iload 6, 2) := by decide +kernel
theorem dX4_shortestClash_75 : decode cX4_shortestClash 75 = .ok (.iconst (-1), 1) := by decide +kernel
theorem dX4_shortestClash_76 : decode cX4_shortestClash 76 = .ok (.if_icmp .eq 23, 3) := by decide +kernel
theorem dX4_shortestClash_79 : decode cX4_shortestClash 79 = .ok (.iload 7, 2) := by decide +kernel
theorem dX4_shortestClash_81 : decode cX4_shortestClash 81 = .ok (.iconst (-1), 1) := by decide +kernel
theorem dX4_shortestClash_82 : decode cX4_shortestClash 82 = .ok (.if_icmp .eq 17, 3) := by decide +kernel
theorem dX4_shortestClash_85 : decode cX4_shortestClash 85 = .ok (.iload_n 3, 1) := by decide +kernel
theorem dX4_shortestClash_86 : decode cX4_shortestClash 86 = .ok (.iconst (-1), 1) := by decide +kernel
theorem dX4_shortestClash_87 : decode cX4_shortestClash 87 = .ok (.if_icmp .eq 9, 3) := by decide +kernel
theorem dX4_shortestClash_90 : decode cX4_shortestClash 90 = .ok (.iload 8, 2) := by decide +kernel
theorem dX4_shortestClash_92 : decode cX4_shortestClash 92 = .ok (.iload_n 3, 1) := by decide +kernel
theorem dX4_shortestClash_93 : decode cX4_shortestClash 93 = .ok (.if_icmp .ge 6, 3) := by decide +kernel
theorem dX4_shortestClash_96 : decode cX4_shortestClash 96 = .ok (.iload 8, 2) := by decide +kernel
theorem dX4_shortestClash_98 : decode cX4_shortestClash 98 = .ok (.istore_n 3, 1) := by decide +kernel
theorem dX4_shortestClash_99 : decode cX4_shortestClash 99 = .ok (.iinc 5 1, 3) := by decide +kernel
theorem dX4_shortestClash_102 : decode cX4_shortestClash 102 = .ok (.goto (-85), 3) := by decide +kernel
theorem dX4_shortestClash_105 : decode cX4_shortestClash 105 = .ok (.iinc 4 1, 3) := by decide +kernel
theorem dX4_shortestClash_108 : decode cX4_shortestClash 108 = .ok (.goto (-103), 3) := by decide +kernel
theorem dX4_shortestClash_111 : decode cX4_shortestClash 111 = .ok (.iload_n 3, 1) := by decide +kernel
theorem dX4_shortestClash_112 : decode cX4_shortestClash 112 = .ok (.ireturn, 1) := by decide +kernel
theorem dJ0_coder_7d493_0 : decode cJ0_coder_7d493 0 = .ok (.getstatic 38, 3) := by decide +kernel
theorem dJ0_coder_7d493_3 : decode cJ0_coder_7d493 3 = .ok (.ifCond .eq 10, 3) := by decide +kernel
theorem dJ0_coder_7d493_6 : decode cJ0_coder_7d493 6 = .ok (.aload_n 0, 1) := by decide +kernel
theorem dJ0_coder_7d493_7 : decode cJ0_coder_7d493 7 = .ok (.getfield 15, 3) := by decide +kernel
theorem dJ0_coder_7d493_10 : decode cJ0_coder_7d493 10 = .ok (.goto 4, 3) := by decide +kernel
theorem dJ0_coder_7d493_14 : decode cJ0_coder_7d493 14 = .ok (.ireturn, 1) := by decide +kernel
theorem dJ0_isLatin1_aae02_0 : decode cJ0_isLatin1_aae02 0 = .ok (.getstatic 38, 3) := by decide +kernel
theorem dJ0_isLatin1_aae02_3 : decode cJ0_isLatin1_aae02 3 = .ok (.ifCond .eq 14, 3) := by decide +kernel
theorem dJ0_isLatin1_aae02_6 : decode cJ0_isLatin1_aae02 6 = .ok (.aload_n 0, 1) := by decide +kernel
theorem dJ0_isLatin1_aae02_7 : decode cJ0_isLatin1_aae02 7 = .ok (.getfield 15, 3) := by decide +kernel
theorem dJ0_isLatin1_aae02_10 : decode cJ0_isLatin1_aae02 10 = .ok (.ifCond .ne 7, 3) := by decide +kernel
theorem dJ0_isLatin1_aae02_13 : decode cJ0_isLatin1_aae02 13 = .ok (.iconst 1, 1) := by decide +kernel
theorem dJ0_isLatin1_aae02_14 : decode cJ0_isLatin1_aae02 14 = .ok (.goto 4, 3) := by decide +kernel
theorem dJ0_isLatin1_aae02_18 : decode cJ0_isLatin1_aae02 18 = .ok (.ireturn, 1) := by decide +kernel
theorem dJ0_length_8abf5_0 : decode cJ0_length_8abf5 0 = .ok (.aload_n 0, 1) := by decide +kernel
theorem dJ0_length_8abf5_1 : decode cJ0_length_8abf5 1 = .ok (.getfield 9, 3) := by decide +kernel
theorem dJ0_length_8abf5_4 : decode cJ0_length_8abf5 4 = .ok (.arraylength, 1) := by decide +kernel
theorem dJ0_length_8abf5_5 : decode cJ0_length_8abf5 5 = .ok (.aload_n 0, 1) := by decide +kernel
theorem dJ0_length_8abf5_6 : decode cJ0_length_8abf5 6 = .ok (.invokevirtual 335, 3) := by decide +kernel
theorem dJ0_length_8abf5_9 : decode cJ0_length_8abf5 9 = .ok (.ishr, 1) := by decide +kernel
theorem dJ0_length_8abf5_10 : decode cJ0_length_8abf5 10 = .ok (.ireturn, 1) := by decide +kernel
theorem dJ3_checkIndex_8e157_0 : decode cJ3_checkIndex_8e157 0 = .ok (.iload_n 0, 1) := by decide +kernel
theorem dJ3_checkIndex_8e157_1 : decode cJ3_checkIndex_8e157 1 = .ok (.ifCond .lt 8, 3) := by decide +kernel
theorem dJ3_checkIndex_8e157_4 : decode cJ3_checkIndex_8e157 4 = .ok (.iload_n 0, 1) := by decide +kernel
theorem dJ3_checkIndex_8e157_5 : decode cJ3_checkIndex_8e157 5 = .ok (.iload_n 1, 1) := by decide +kernel
theorem dJ3_checkIndex_8e157_6 : decode cJ3_checkIndex_8e157 6 = .ok (.if_icmp .lt 10, 3) := by decide +kernel
theorem dJ3_checkIndex_8e157_16 : decode cJ3_checkIndex_8e157 16 = .ok (.iload_n 0, 1) := by decide +kernel
theorem dJ3_checkIndex_8e157_17 : decode cJ3_checkIndex_8e157 17 = .ok (.ireturn, 1) := by decide +kernel
theorem dJ0_checkIndex_df160_0 : decode cJ0_checkIndex_df160 0 = .ok (.iload_n 0, 1) := by decide +kernel
theorem dJ0_checkIndex_df160_1 : decode cJ0_checkIndex_df160 1 = .ok (.iload_n 1, 1) := by decide +kernel
theorem dJ0_checkIndex_df160_2 : decode cJ0_checkIndex_df160 2 = .ok (.getstatic 1053, 3) := by decide +kernel
theorem dJ0_checkIndex_df160_5 : decode cJ0_checkIndex_df160 5 = .ok (.invokestatic 1059, 3) := by decide +kernel
theorem dJ0_checkIndex_df160_8 : decode cJ0_checkIndex_df160 8 = .ok (.pop, 1) := by decide +kernel
theorem dJ0_checkIndex_df160_9 : decode cJ0_checkIndex_df160 9 = .ok (.return_, 1) := by decide +kernel
theorem dJ1_charAt_3b067_0 : decode cJ1_charAt_3b067 0 = .ok (.iload_n 1, 1) := by decide +kernel
theorem dJ1_charAt_3b067_1 : decode cJ1_charAt_3b067 1 = .ok (.aload_n 0, 1) := by decide +kernel
theorem dJ1_charAt_3b067_2 : decode cJ1_charAt_3b067 2 = .ok (.arraylength, 1) := by decide +kernel
theorem dJ1_charAt_3b067_3 : decode cJ1_charAt_3b067 3 = .ok (.invokestatic 9, 3) := by decide +kernel
theorem dJ1_charAt_3b067_6 : decode cJ1_charAt_3b067 6 = .ok (.aload_n 0, 1) := by decide +kernel
theorem dJ1_charAt_3b067_7 : decode cJ1_charAt_3b067 7 = .ok (.iload_n 1, 1) := by decide +kernel
theorem dJ1_charAt_3b067_8 : decode cJ1_charAt_3b067 8 = .ok (.baload, 1) := by decide +kernel
theorem dJ1_charAt_3b067_9 : decode cJ1_charAt_3b067 9 = .ok (.sipush 255, 3) := by decide +kernel
theorem dJ1_charAt_3b067_12 : decode cJ1_charAt_3b067 12 = .ok (.iand, 1) := by decide +kernel
theorem dJ1_charAt_3b067_13 : decode cJ1_charAt_3b067 13 = .ok (.i2c, 1) := by decide +kernel
theorem dJ1_charAt_3b067_14 : decode cJ1_charAt_3b067 14 = .ok (.ireturn, 1) := by decide +kernel
theorem dJ0_charAt_5068e_0 : decode cJ0_charAt_5068e 0 = .ok (.aload_n 0, 1) := by decide +kernel
theorem dJ0_charAt_5068e_1 : decode cJ0_charAt_5068e 1 = .ok (.invokevirtual 492, 3) := by decide +kernel
theorem dJ0_charAt_5068e_4 : decode cJ0_charAt_5068e 4 = .ok (.ifCond .eq 12, 3) := by decide +kernel
theorem dJ0_charAt_5068e_7 : decode cJ0_charAt_5068e 7 = .ok (.aload_n 0, 1) := by decide +kernel
theorem dJ0_charAt_5068e_8 : decode cJ0_charAt_5068e 8 = .ok (.getfield 9, 3) := by decide +kernel
theorem dJ0_charAt_5068e_11 : decode cJ0_charAt_5068e 11 = .ok (.iload_n 1, 1) := by decide +kernel
theorem dJ0_charAt_5068e_12 : decode cJ0_charAt_5068e 12 = .ok (.invokestatic 495, 3) := by decide +kernel
theorem dJ0_charAt_5068e_15 : decode cJ0_charAt_5068e 15 = .ok (.ireturn, 1) := by decide +kernel
theorem dX2_fail_0 : decode cX2_fail 0 = .ok (.aload_n 0, 1) := by decide +kernel
theorem dX2_fail_1 : decode cX2_fail 1 = .ok (.iload_n 1, 1) := by decide +kernel
theorem dX2_fail_2 : decode cX2_fail 2 = .ok (.putfield 44, 3) := by decide +kernel
theorem dX2_fail_5 : decode cX2_fail 5 = .ok (.aload_n 0, 1) := by decide +kernel
theorem dX2_fail_6 : decode cX2_fail 6 = .ok (.iload_n 2, 1) := by decide +kernel
theorem dX2_fail_7 : decode cX2_fail 7 = .ok (.putfield 18, 3) := by decide +kernel
theorem dX2_fail_10 : decode cX2_fail 10 = .ok (.iconst 0, 1) := by decide +kernel
theorem dX2_fail_11 : decode cX2_fail 11 = .ok (.ireturn, 1) := by decide +kernel
theorem dX2_isSmall_0 : decode cX2_isSmall 0 = .ok (.iload_n 0, 1) := by decide +kernel
theorem dX2_isSmall_1 : decode cX2_isSmall 1 = .ok (.bipush 97, 2) := by decide +kernel
theorem dX2_isSmall_3 : decode cX2_isSmall 3 = .ok (.if_icmp .lt 13, 3) := by decide +kernel
theorem dX2_isSmall_6 : decode cX2_isSmall 6 = .ok (.iload_n 0, 1) := by decide +kernel
theorem dX2_isSmall_7 : decode cX2_isSmall 7 = .ok (.bipush 122, 2) := by decide +kernel
theorem dX2_isSmall_9 : decode cX2_isSmall 9 = .ok (.if_icmp .gt 7, 3) := by decide +kernel
theorem dX2_isSmall_12 : decode cX2_isSmall 12 = .ok (.iconst 1, 1) := by decide +kernel
theorem dX2_isSmall_13 : decode cX2_isSmall 13 = .ok (.goto 4, 3) := by decide +kernel
theorem dX2_isSmall_16 : decode cX2_isSmall 16 = .ok (.iconst 0, 1) := by decide +kernel
theorem dX2_isSmall_17 : decode cX2_isSmall 17 = .ok (.ireturn, 1) := by decide +kernel
theorem dX2_isClass_0 : decode cX2_isClass 0 = .ok (.iload_n 0, 1) := by decide +kernel
theorem dX2_isClass_1 : decode cX2_isClass 1 = .ok (.bipush 65, 2) := by decide +kernel
theorem dX2_isClass_3 : decode cX2_isClass 3 = .ok (.if_icmp .lt 13, 3) := by decide +kernel
theorem dX2_isClass_6 : decode cX2_isClass 6 = .ok (.iload_n 0, 1) := by decide +kernel
theorem dX2_isClass_7 : decode cX2_isClass 7 = .ok (.bipush 71, 2) := by decide +kernel
theorem dX2_isClass_9 : decode cX2_isClass 9 = .ok (.if_icmp .ge 7, 3) := by decide +kernel
theorem dX2_isClass_12 : decode cX2_isClass 12 = .ok (.iconst 1, 1) := by decide +kernel
theorem dX2_isClass_13 : decode cX2_isClass 13 = .ok (.goto 4, 3) := by decide +kernel
theorem dX2_isClass_16 : decode cX2_isClass 16 = .ok (.iconst 0, 1) := by decide +kernel
theorem dX2_isClass_17 : decode cX2_isClass 17 = .ok (.ireturn, 1) := by decide +kernel
theorem dX2_startsItem_0 : decode cX2_startsItem 0 = .ok (.iload_n 0, 1) := by decide +kernel
theorem dX2_startsItem_1 : decode cX2_startsItem 1 = .ok (.invokestatic 69, 3) := by decide +kernel
theorem dX2_startsItem_4 : decode cX2_startsItem 4 = .ok (.ifCond .ne 22, 3) := by decide +kernel
theorem dX2_startsItem_7 : decode cX2_startsItem 7 = .ok (.iload_n 0, 1) := by decide +kernel
theorem dX2_startsItem_8 : decode cX2_startsItem 8 = .ok (.invokestatic 72, 3) := by decide +kernel
theorem dX2_startsItem_11 : decode cX2_startsItem 11 = .ok (.ifCond .ne 15, 3) := by decide +kernel
theorem dX2_startsItem_14 : decode cX2_startsItem 14 = .ok (.iload_n 0, 1) := by decide +kernel
theorem dX2_startsItem_15 : decode cX2_startsItem 15 = .ok (.bipush 48, 2) := by decide +kernel
theorem dX2_startsItem_17 : decode cX2_startsItem 17 = .ok (.if_icmp .eq 9, 3) := by decide +kernel
theorem dX2_startsItem_20 : decode cX2_startsItem 20 = .ok (.iload_n 0, 1) := by decide +kernel
theorem dX2_startsItem_21 : decode cX2_startsItem 21 = .ok (.bipush 63, 2) := by decide +kernel
theorem dX2_startsItem_23 : decode cX2_startsItem 23 = .ok (.if_icmp .ne 7, 3) := by decide +kernel
theorem dX2_startsItem_26 : decode cX2_startsItem 26 = .ok (.iconst 1, 1) := by decide +kernel
theorem dX2_startsItem_27 : decode cX2_startsItem 27 = .ok (.goto 4, 3) := by decide +kernel
theorem dX2_startsItem_30 : decode cX2_startsItem 30 = .ok (.iconst 0, 1) := by decide +kernel
theorem dX2_startsItem_31 : decode cX2_startsItem 31 = .ok (.ireturn, 1) := by decide +kernel
theorem dX2_peek_0 : decode cX2_peek 0 = .ok (.aload_n 0, 1) := by decide +kernel
theorem dX2_peek_1 : decode cX2_peek 1 = .ok (.getfield 41, 3) := by decide +kernel
theorem dX2_peek_4 : decode cX2_peek 4 = .ok (.aload_n 0, 1) := by decide +kernel
theorem dX2_peek_5 : decode cX2_peek 5 = .ok (.getfield 32, 3) := by decide +kernel
theorem dX2_peek_8 : decode cX2_peek 8 = .ok (.if_icmp .ge 44, 3) := by decide +kernel
theorem dX2_peek_11 : decode cX2_peek 11 = .ok (.aload_n 0, 1) := by decide +kernel
theorem dX2_peek_12 : decode cX2_peek 12 = .ok (.getfield 22, 3) := by decide +kernel
theorem dX2_peek_15 : decode cX2_peek 15 = .ok (.aload_n 0, 1) := by decide +kernel
theorem dX2_peek_16 : decode cX2_peek 16 = .ok (.getfield 41, 3) := by decide +kernel
theorem dX2_peek_19 : decode cX2_peek 19 = .ok (.iaload, 1) := by decide +kernel
theorem dX2_peek_20 : decode cX2_peek 20 = .ok (.bipush 32, 2) := by decide +kernel
theorem dX2_peek_22 : decode cX2_peek 22 = .ok (.if_icmp .eq 17, 3) := by decide +kernel
theorem dX2_peek_25 : decode cX2_peek 25 = .ok (.aload_n 0, 1) := by decide +kernel
theorem dX2_peek_26 : decode cX2_peek 26 = .ok (.getfield 22, 3) := by decide +kernel
theorem dX2_peek_29 : decode cX2_peek 29 = .ok (.aload_n 0, 1) := by decide +kernel
theorem dX2_peek_30 : decode cX2_peek 30 = .ok (.getfield 41, 3) := by decide +kernel
theorem dX2_peek_33 : decode cX2_peek 33 = .ok (.iaload, 1) := by decide +kernel
theorem dX2_peek_34 : decode cX2_peek 34 = .ok (.bipush 10, 2) := by decide +kernel
theorem dX2_peek_36 : decode cX2_peek 36 = .ok (.if_icmp .ne 16, 3) := by decide +kernel
theorem dX2_peek_39 : decode cX2_peek 39 = .ok (.aload_n 0, 1) := by decide +kernel
theorem dX2_peek_40 : decode cX2_peek 40 = .ok (.dup, 1) := by decide +kernel
theorem dX2_peek_41 : decode cX2_peek 41 = .ok (.getfield 41, 3) := by decide +kernel
theorem dX2_peek_44 : decode cX2_peek 44 = .ok (.iconst 1, 1) := by decide +kernel
theorem dX2_peek_45 : decode cX2_peek 45 = .ok (.iadd, 1) := by decide +kernel
theorem dX2_peek_46 : decode cX2_peek 46 = .ok (.putfield 41, 3) := by decide +kernel
theorem dX2_peek_49 : decode cX2_peek 49 = .ok (.goto (-49), 3) := by decide +kernel
theorem dX2_peek_52 : decode cX2_peek 52 = .ok (.aload_n 0, 1) := by decide +kernel
theorem dX2_peek_53 : decode cX2_peek 53 = .ok (.getfield 41, 3) := by decide +kernel
theorem dX2_peek_56 : decode cX2_peek 56 = .ok (.aload_n 0, 1) := by decide +kernel
theorem dX2_peek_57 : decode cX2_peek 57 = .ok (.getfield 32, 3) := by decide +kernel
theorem dX2_peek_60 : decode cX2_peek 60 = .ok (.if_icmp .ge 15, 3) := by decide +kernel
theorem dX2_peek_63 : decode cX2_peek 63 = .ok (.aload_n 0, 1) := by decide +kernel
theorem dX2_peek_64 : decode cX2_peek 64 = .ok (.getfield 22, 3) := by decide +kernel
theorem dX2_peek_67 : decode cX2_peek 67 = .ok (.aload_n 0, 1) := by decide +kernel
theorem dX2_peek_68 : decode cX2_peek 68 = .ok (.getfield 41, 3) := by decide +kernel
theorem dX2_peek_71 : decode cX2_peek 71 = .ok (.iaload, 1) := by decide +kernel
theorem dX2_peek_72 : decode cX2_peek 72 = .ok (.goto 4, 3) := by decide +kernel
theorem dX2_peek_75 : decode cX2_peek 75 = .ok (.iconst (-1), 1) := by decide +kernel
theorem dX2_peek_76 : decode cX2_peek 76 = .ok (.ireturn, 1) := by decide +kernel
theorem dX2_isNext_0 : decode cX2_isNext 0 = .ok (.aload_n 0, 1) := by decide +kernel
theorem dX2_isNext_1 : decode cX2_isNext 1 = .ok (.invokevirtual 50, 3) := by decide +kernel
theorem dX2_isNext_4 : decode cX2_isNext 4 = .ok (.iload_n 1, 1) := by decide +kernel
theorem dX2_isNext_5 : decode cX2_isNext 5 = .ok (.if_icmp .ne 7, 3) := by decide +kernel
theorem dX2_isNext_8 : decode cX2_isNext 8 = .ok (.iconst 1, 1) := by decide +kernel
theorem dX2_isNext_9 : decode cX2_isNext 9 = .ok (.goto 4, 3) := by decide +kernel
theorem dX2_isNext_12 : decode cX2_isNext 12 = .ok (.iconst 0, 1) := by decide +kernel
theorem dX2_isNext_13 : decode cX2_isNext 13 = .ok (.ireturn, 1) := by decide +kernel
theorem dX2_skipIf_0 : decode cX2_skipIf 0 = .ok (.aload_n 0, 1) := by decide +kernel
theorem dX2_skipIf_1 : decode cX2_skipIf 1 = .ok (.invokevirtual 50, 3) := by decide +kernel
theorem dX2_skipIf_4 : decode cX2_skipIf 4 = .ok (.iload_n 1, 1) := by decide +kernel
theorem dX2_skipIf_5 : decode cX2_skipIf 5 = .ok (.if_icmp .eq 5, 3) := by decide +kernel
theorem dX2_skipIf_8 : decode cX2_skipIf 8 = .ok (.iconst 0, 1) := by decide +kernel
theorem dX2_skipIf_9 : decode cX2_skipIf 9 = .ok (.ireturn, 1) := by decide +kernel
theorem dX2_skipIf_10 : decode cX2_skipIf 10 = .ok (.aload_n 0, 1) := by decide +kernel
theorem dX2_skipIf_11 : decode cX2_skipIf 11 = .ok (.dup, 1) := by decide +kernel
theorem dX2_skipIf_12 : decode cX2_skipIf 12 = .ok (.getfield 41, 3) := by decide +kernel
theorem dX2_skipIf_15 : decode cX2_skipIf 15 = .ok (.iconst 1, 1) := by decide +kernel
theorem dX2_skipIf_16 : decode cX2_skipIf 16 = .ok (.iadd, 1) := by decide +kernel
theorem dX2_skipIf_17 : decode cX2_skipIf 17 = .ok (.putfield 41, 3) := by decide +kernel
theorem dX2_skipIf_20 : decode cX2_skipIf 20 = .ok (.iconst 1, 1) := by decide +kernel
theorem dX2_skipIf_21 : decode cX2_skipIf 21 = .ok (.ireturn, 1) := by decide +kernel
theorem dX2_expect_0 : decode cX2_expect 0 = .ok (.aload_n 0, 1) := by decide +kernel
theorem dX2_expect_1 : decode cX2_expect 1 = .ok (.iload_n 1, 1) := by decide +kernel
theorem dX2_expect_2 : decode cX2_expect 2 = .ok (.invokevirtual 61, 3) := by decide +kernel
theorem dX2_expect_5 : decode cX2_expect 5 = .ok (.ifCond .ne 15, 3) := by decide +kernel
theorem dX2_expect_8 : decode cX2_expect 8 = .ok (.aload_n 0, 1) := by decide +kernel
theorem dX2_expect_9 : decode cX2_expect 9 = .ok (.iconst 1, 1) := by decide +kernel
theorem dX2_expect_10 : decode cX2_expect 10 = .ok (.aload_n 0, 1) := by decide +kernel
theorem dX2_expect_11 : decode cX2_expect 11 = .ok (.getfield 41, 3) := by decide +kernel
theorem dX2_expect_14 : decode cX2_expect 14 = .ok (.invokevirtual 65, 3) := by decide +kernel
theorem dX2_expect_17 : decode cX2_expect 17 = .ok (.ifCond .eq 7, 3) := by decide +kernel
theorem dX2_expect_20 : decode cX2_expect 20 = .ok (.iconst 1, 1) := by decide +kernel
theorem dX2_expect_21 : decode cX2_expect 21 = .ok (.goto 4, 3) := by decide +kernel
theorem dX2_expect_24 : decode cX2_expect 24 = .ok (.iconst 0, 1) := by decide +kernel
theorem dX2_expect_25 : decode cX2_expect 25 = .ok (.ireturn, 1) := by decide +kernel
