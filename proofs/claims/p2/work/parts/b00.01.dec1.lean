theorem dX7_signOf_20 : decode cX7_signOf 20 = .ok (.iload_n 1, 1) := by decide +kernel
theorem dX7_signOf_21 : decode cX7_signOf 21 = .ok (.bipush 97, 2) := by decide +kernel
theorem dX7_signOf_23 : decode cX7_signOf 23 = .ok (.isub, 1) := by decide +kernel
theorem dX7_signOf_24 : decode cX7_signOf 24 = .ok (.iaload, 1) := by decide +kernel
theorem dX7_signOf_25 : decode cX7_signOf 25 = .ok (.ireturn, 1) := by decide +kernel
theorem dX7_pairOf_0 : decode cX7_pairOf 0 = .ok (.iload_n 1, 1) := by decide +kernel
theorem dX7_pairOf_1 : decode cX7_pairOf 1 = .ok (.ifCond .lt 23, 3) := by decide +kernel
theorem dX7_pairOf_4 : decode cX7_pairOf 4 = .ok (.iload_n 1, 1) := by decide +kernel
theorem dX7_pairOf_5 : decode cX7_pairOf 5 = .ok (.aload_n 0, 1) := by decide +kernel
theorem dX7_pairOf_6 : decode cX7_pairOf 6 = .ok (.getfield 67, 3) := by decide +kernel
theorem dX7_pairOf_9 : decode cX7_pairOf 9 = .ok (.if_icmp .gt 15, 3) := by decide +kernel
theorem dX7_pairOf_12 : decode cX7_pairOf 12 = .ok (.iload_n 2, 1) := by decide +kernel
theorem dX7_pairOf_13 : decode cX7_pairOf 13 = .ok (.ifCond .lt 11, 3) := by decide +kernel
theorem dX7_pairOf_16 : decode cX7_pairOf 16 = .ok (.iload_n 2, 1) := by decide +kernel
theorem dX7_pairOf_17 : decode cX7_pairOf 17 = .ok (.aload_n 0, 1) := by decide +kernel
theorem dX7_pairOf_18 : decode cX7_pairOf 18 = .ok (.getfield 67, 3) := by decide +kernel
theorem dX7_pairOf_21 : decode cX7_pairOf 21 = .ok (.if_icmp .le 5, 3) := by decide +kernel
theorem dX7_pairOf_24 : decode cX7_pairOf 24 = .ok (.iconst (-1), 1) := by decide +kernel
theorem dX7_pairOf_25 : decode cX7_pairOf 25 = .ok (.ireturn, 1) := by decide +kernel
theorem dX7_pairOf_26 : decode cX7_pairOf 26 = .ok (.aload_n 0, 1) := by decide +kernel
theorem dX7_pairOf_27 : decode cX7_pairOf 27 = .ok (.getfield 18, 3) := by decide +kernel
theorem dX7_pairOf_30 : decode cX7_pairOf 30 = .ok (.iload_n 1, 1) := by decide +kernel
theorem dX7_pairOf_31 : decode cX7_pairOf 31 = .ok (.bipush 9, 2) := by decide +kernel
theorem dX7_pairOf_33 : decode cX7_pairOf 33 = .ok (.imul, 1) := by decide +kernel
theorem dX7_pairOf_34 : decode cX7_pairOf 34 = .ok (.iload_n 2, 1) := by decide +kernel
theorem dX7_pairOf_35 : decode cX7_pairOf 35 = .ok (.iadd, 1) := by decide +kernel
theorem dX7_pairOf_36 : decode cX7_pairOf 36 = .ok (.iaload, 1) := by decide +kernel
theorem dX7_pairOf_37 : decode cX7_pairOf 37 = .ok (.iconst 1, 1) := by decide +kernel
theorem dX7_pairOf_38 : decode cX7_pairOf 38 = .ok (.isub, 1) := by decide +kernel
theorem dX7_pairOf_39 : decode cX7_pairOf 39 = .ok (.ireturn, 1) := by decide +kernel
theorem dX4_isAlways_0 : decode cX4_isAlways 0 = .ok (.aload_n 0, 1) := by decide +kernel
theorem dX4_isAlways_1 : decode cX4_isAlways 1 = .ok (.getfield 35, 3) := by decide +kernel
theorem dX4_isAlways_4 : decode cX4_isAlways 4 = .ok (.iconst 1, 1) := by decide +kernel
theorem dX4_isAlways_5 : decode cX4_isAlways 5 = .ok (.if_icmp .eq 11, 3) := by decide +kernel
theorem dX4_isAlways_8 : decode cX4_isAlways 8 = .ok (.aload_n 0, 1) := by decide +kernel
theorem dX4_isAlways_9 : decode cX4_isAlways 9 = .ok (.getfield 35, 3) := by decide +kernel
theorem dX4_isAlways_12 : decode cX4_isAlways 12 = .ok (.iconst 2, 1) := by decide +kernel
theorem dX4_isAlways_13 : decode cX4_isAlways 13 = .ok (.if_icmp .ne 7, 3) := by decide +kernel
theorem dX4_isAlways_16 : decode cX4_isAlways 16 = .ok (.iconst 1, 1) := by decide +kernel
theorem dX4_isAlways_17 : decode cX4_isAlways 17 = .ok (.goto 4, 3) := by decide +kernel
theorem dX4_isAlways_20 : decode cX4_isAlways 20 = .ok (.iconst 0, 1) := by decide +kernel
theorem dX4_isAlways_21 : decode cX4_isAlways 21 = .ok (.ireturn, 1) := by decide +kernel
theorem dX4_roleOf_0 : decode cX4_roleOf 0 = .ok (.iload_n 1, 1) := by decide +kernel
theorem dX4_roleOf_1 : decode cX4_roleOf 1 = .ok (.aload_n 0, 1) := by decide +kernel
theorem dX4_roleOf_2 : decode cX4_roleOf 2 = .ok (.getfield 28, 3) := by decide +kernel
theorem dX4_roleOf_5 : decode cX4_roleOf 5 = .ok (.if_icmp .eq 5, 3) := by decide +kernel
theorem dX4_roleOf_8 : decode cX4_roleOf 8 = .ok (.iconst 0, 1) := by decide +kernel
theorem dX4_roleOf_9 : decode cX4_roleOf 9 = .ok (.ireturn, 1) := by decide +kernel
theorem dX4_roleOf_10 : decode cX4_roleOf 10 = .ok (.iload_n 2, 1) := by decide +kernel
theorem dX4_roleOf_11 : decode cX4_roleOf 11 = .ok (.aload_n 0, 1) := by decide +kernel
theorem dX4_roleOf_12 : decode cX4_roleOf 12 = .ok (.getfield 32, 3) := by decide +kernel
theorem dX4_roleOf_15 : decode cX4_roleOf 15 = .ok (.if_icmp .eq 16, 3) := by decide +kernel
theorem dX4_roleOf_18 : decode cX4_roleOf 18 = .ok (.aload_n 0, 1) := by decide +kernel
theorem dX4_roleOf_19 : decode cX4_roleOf 19 = .ok (.invokevirtual 99, 3) := by decide +kernel
theorem dX4_roleOf_22 : decode cX4_roleOf 22 = .ok (.ifCond .eq 7, 3) := by decide +kernel
theorem dX4_roleOf_25 : decode cX4_roleOf 25 = .ok (.iconst 2, 1) := by decide +kernel
theorem dX4_roleOf_26 : decode cX4_roleOf 26 = .ok (.goto 4, 3) := by decide +kernel
theorem dX4_roleOf_29 : decode cX4_roleOf 29 = .ok (.iconst 0, 1) := by decide +kernel
theorem dX4_roleOf_30 : decode cX4_roleOf 30 = .ok (.ireturn, 1) := by decide +kernel
theorem dX4_roleOf_31 : decode cX4_roleOf 31 = .ok (.aload_n 0, 1) := by decide +kernel
theorem dX4_roleOf_32 : decode cX4_roleOf 32 = .ok (.getfield 35, 3) := by decide +kernel
theorem dX4_roleOf_35 : decode cX4_roleOf 35 = .ok (.iconst 3, 1) := by decide +kernel
theorem dX4_roleOf_36 : decode cX4_roleOf 36 = .ok (.if_icmp .ne 5, 3) := by decide +kernel
theorem dX4_roleOf_39 : decode cX4_roleOf 39 = .ok (.iconst 2, 1) := by decide +kernel
theorem dX4_roleOf_40 : decode cX4_roleOf 40 = .ok (.ireturn, 1) := by decide +kernel
theorem dX4_roleOf_41 : decode cX4_roleOf 41 = .ok (.aload_n 0, 1) := by decide +kernel
theorem dX4_roleOf_42 : decode cX4_roleOf 42 = .ok (.getfield 35, 3) := by decide +kernel
theorem dX4_roleOf_45 : decode cX4_roleOf 45 = .ok (.iconst 1, 1) := by decide +kernel
theorem dX4_roleOf_46 : decode cX4_roleOf 46 = .ok (.if_icmp .ne 7, 3) := by decide +kernel
theorem dX4_roleOf_49 : decode cX4_roleOf 49 = .ok (.iconst 0, 1) := by decide +kernel
theorem dX4_roleOf_50 : decode cX4_roleOf 50 = .ok (.goto 4, 3) := by decide +kernel
theorem dX4_roleOf_53 : decode cX4_roleOf 53 = .ok (.iconst 1, 1) := by decide +kernel
theorem dX4_roleOf_54 : decode cX4_roleOf 54 = .ok (.ireturn, 1) := by decide +kernel
theorem dX4_clear_0 : decode cX4_clear 0 = .ok (.aload_n 0, 1) := by decide +kernel
theorem dX4_clear_1 : decode cX4_clear 1 = .ok (.iload_n 1, 1) := by decide +kernel
theorem dX4_clear_2 : decode cX4_clear 2 = .ok (.putfield 28, 3) := by decide +kernel
theorem dX4_clear_5 : decode cX4_clear 5 = .ok (.aload_n 0, 1) := by decide +kernel
theorem dX4_clear_6 : decode cX4_clear 6 = .ok (.iload_n 2, 1) := by decide +kernel
theorem dX4_clear_7 : decode cX4_clear 7 = .ok (.putfield 32, 3) := by decide +kernel
theorem dX4_clear_10 : decode cX4_clear 10 = .ok (.aload_n 0, 1) := by decide +kernel
theorem dX4_clear_11 : decode cX4_clear 11 = .ok (.iconst 0, 1) := by decide +kernel
theorem dX4_clear_12 : decode cX4_clear 12 = .ok (.putfield 35, 3) := by decide +kernel
theorem dX4_clear_15 : decode cX4_clear 15 = .ok (.aload_n 0, 1) := by decide +kernel
theorem dX4_clear_16 : decode cX4_clear 16 = .ok (.iconst 0, 1) := by decide +kernel
theorem dX4_clear_17 : decode cX4_clear 17 = .ok (.putfield 38, 3) := by decide +kernel
theorem dX4_clear_20 : decode cX4_clear 20 = .ok (.aload_n 0, 1) := by decide +kernel
theorem dX4_clear_21 : decode cX4_clear 21 = .ok (.getfield 12, 3) := by decide +kernel
theorem dX4_clear_24 : decode cX4_clear 24 = .ok (.invokevirtual 41, 3) := by decide +kernel
theorem dX4_clear_27 : decode cX4_clear 27 = .ok (.aload_n 0, 1) := by decide +kernel
theorem dX4_clear_28 : decode cX4_clear 28 = .ok (.getfield 18, 3) := by decide +kernel
theorem dX4_clear_31 : decode cX4_clear 31 = .ok (.invokevirtual 41, 3) := by decide +kernel
theorem dX4_clear_34 : decode cX4_clear 34 = .ok (.return_, 1) := by decide +kernel
theorem dX4_copyFrom_0 : decode cX4_copyFrom 0 = .ok (.aload_n 0, 1) := by decide +kernel
theorem dX4_copyFrom_1 : decode cX4_copyFrom 1 = .ok (.aload_n 1, 1) := by decide +kernel
theorem dX4_copyFrom_2 : decode cX4_copyFrom 2 = .ok (.getfield 28, 3) := by decide +kernel
theorem dX4_copyFrom_5 : decode cX4_copyFrom 5 = .ok (.putfield 28, 3) := by decide +kernel
theorem dX4_copyFrom_8 : decode cX4_copyFrom 8 = .ok (.aload_n 0, 1) := by decide +kernel
theorem dX4_copyFrom_9 : decode cX4_copyFrom 9 = .ok (.aload_n 1, 1) := by decide +kernel
theorem dX4_copyFrom_10 : decode cX4_copyFrom 10 = .ok (.getfield 32, 3) := by decide +kernel
theorem dX4_copyFrom_13 : decode cX4_copyFrom 13 = .ok (.putfield 32, 3) := by decide +kernel
theorem dX4_copyFrom_16 : decode cX4_copyFrom 16 = .ok (.aload_n 0, 1) := by decide +kernel
theorem dX4_copyFrom_17 : decode cX4_copyFrom 17 = .ok (.aload_n 1, 1) := by decide +kernel
theorem dX4_copyFrom_18 : decode cX4_copyFrom 18 = .ok (.getfield 35, 3) := by decide +kernel
theorem dX4_copyFrom_21 : decode cX4_copyFrom 21 = .ok (.putfield 35, 3) := by decide +kernel
theorem dX4_copyFrom_24 : decode cX4_copyFrom 24 = .ok (.aload_n 0, 1) := by decide +kernel
theorem dX4_copyFrom_25 : decode cX4_copyFrom 25 = .ok (.aload_n 1, 1) := by decide +kernel
theorem dX4_copyFrom_26 : decode cX4_copyFrom 26 = .ok (.getfield 38, 3) := by decide +kernel
theorem dX4_copyFrom_29 : decode cX4_copyFrom 29 = .ok (.putfield 38, 3) := by decide +kernel
theorem dX4_copyFrom_32 : decode cX4_copyFrom 32 = .ok (.aload_n 0, 1) := by decide +kernel
theorem dX4_copyFrom_33 : decode cX4_copyFrom 33 = .ok (.getfield 12, 3) := by decide +kernel
theorem dX4_copyFrom_36 : decode cX4_copyFrom 36 = .ok (.aload_n 1, 1) := by decide +kernel
theorem dX4_copyFrom_37 : decode cX4_copyFrom 37 = .ok (.getfield 12, 3) := by decide +kernel
theorem dX4_copyFrom_40 : decode cX4_copyFrom 40 = .ok (.invokevirtual 44, 3) := by decide +kernel
theorem dX4_copyFrom_43 : decode cX4_copyFrom 43 = .ok (.aload_n 0, 1) := by decide +kernel
theorem dX4_copyFrom_44 : decode cX4_copyFrom 44 = .ok (.getfield 18, 3) := by decide +kernel
theorem dX4_copyFrom_47 : decode cX4_copyFrom 47 = .ok (.aload_n 1, 1) := by decide +kernel
theorem dX4_copyFrom_48 : decode cX4_copyFrom 48 = .ok (.getfield 18, 3) := by decide +kernel
theorem dX4_copyFrom_51 : decode cX4_copyFrom 51 = .ok (.invokevirtual 44, 3) := by decide +kernel
theorem dX4_copyFrom_54 : decode cX4_copyFrom 54 = .ok (.aload_n 1, 1) := by decide +kernel
theorem dX4_copyFrom_55 : decode cX4_copyFrom 55 = .ok (.getfield 21, 3) := by decide +kernel
theorem dX4_copyFrom_58 : decode cX4_copyFrom 58 = .ok (.iconst 0, 1) := by decide +kernel
theorem dX4_copyFrom_59 : decode cX4_copyFrom 59 = .ok (.aload_n 0, 1) := by decide +kernel
theorem dX4_copyFrom_60 : decode cX4_copyFrom 60 = .ok (.getfield 21, 3) := by decide +kernel
theorem dX4_copyFrom_63 : decode cX4_copyFrom 63 = .ok (.iconst 0, 1) := by decide +kernel
theorem dX4_copyFrom_64 : decode cX4_copyFrom 64 = .ok (.aload_n 0, 1) := by decide +kernel
theorem dX4_copyFrom_65 : decode cX4_copyFrom 65 = .ok (.getfield 21, 3) := by decide +kernel
theorem dX4_copyFrom_68 : decode cX4_copyFrom 68 = .ok (.arraylength, 1) := by decide +kernel
theorem dX4_copyFrom_69 : decode cX4_copyFrom 69 = .ok (.invokestatic 48, 3) := by decide +kernel
theorem dX4_copyFrom_72 : decode cX4_copyFrom 72 = .ok (.aload_n 1, 1) := by decide +kernel
theorem dX4_copyFrom_73 : decode cX4_copyFrom 73 = .ok (.getfield 25, 3) := by decide +kernel
theorem dX4_copyFrom_76 : decode cX4_copyFrom 76 = .ok (.iconst 0, 1) := by decide +kernel
theorem dX4_copyFrom_77 : decode cX4_copyFrom 77 = .ok (.aload_n 0, 1) := by decide +kernel
theorem dX4_copyFrom_78 : decode cX4_copyFrom 78 = .ok (.getfield 25, 3) := by decide +kernel
theorem dX4_copyFrom_81 : decode cX4_copyFrom 81 = .ok (.iconst 0, 1) := by decide +kernel
theorem dX4_copyFrom_82 : decode cX4_copyFrom 82 = .ok (.aload_n 0, 1) := by decide +kernel
theorem dX4_copyFrom_83 : decode cX4_copyFrom 83 = .ok (.getfield 25, 3) := by decide +kernel
theorem dX4_copyFrom_86 : decode cX4_copyFrom 86 = .ok (.arraylength, 1) := by decide +kernel
theorem dX4_copyFrom_87 : decode cX4_copyFrom 87 = .ok (.invokestatic 48, 3) := by decide +kernel
theorem dX4_copyFrom_90 : decode cX4_copyFrom 90 = .ok (.aload_n 0, 1) := by decide +kernel
theorem dX4_copyFrom_91 : decode cX4_copyFrom 91 = .ok (.aload_n 1, 1) := by decide +kernel
theorem dX4_copyFrom_92 : decode cX4_copyFrom 92 = .ok (.getfield 54, 3) := by decide +kernel
theorem dX4_copyFrom_95 : decode cX4_copyFrom 95 = .ok (.putfield 54, 3) := by decide +kernel
theorem dX4_copyFrom_98 : decode cX4_copyFrom 98 = .ok (.aload_n 0, 1) := by decide +kernel
theorem dX4_copyFrom_99 : decode cX4_copyFrom 99 = .ok (.aload_n 1, 1) := by decide +kernel
theorem dX4_copyFrom_100 : decode cX4_copyFrom 100 = .ok (.getfield 57, 3) := by decide +kernel
theorem dX4_copyFrom_103 : decode cX4_copyFrom 103 = .ok (.putfield 57, 3) := by decide +kernel
theorem dX4_copyFrom_106 : decode cX4_copyFrom 106 = .ok (.aload_n 0, 1) := by decide +kernel
theorem dX4_copyFrom_107 : decode cX4_copyFrom 107 = .ok (.aload_n 1, 1) := by decide +kernel
theorem dX4_copyFrom_108 : decode cX4_copyFrom 108 = .ok (.getfield 60, 3) := by decide +kernel
theorem dX4_copyFrom_111 : decode cX4_copyFrom 111 = .ok (.putfield 60, 3) := by decide +kernel
theorem dX4_copyFrom_114 : decode cX4_copyFrom 114 = .ok (.return_, 1) := by decide +kernel
theorem dX4_compile_0 : decode cX4_compile 0 = .ok (.aload_n 0, 1) := by decide +kernel
theorem dX4_compile_1 : decode cX4_compile 1 = .ok (.getfield 12, 3) := by decide +kernel
theorem dX4_compile_4 : decode cX4_compile 4 = .ok (.aload_n 1, 1) := by decide +kernel
theorem dX4_compile_5 : decode cX4_compile 5 = .ok (.invokevirtual 63, 3) := by decide +kernel
theorem dX4_compile_8 : decode cX4_compile 8 = .ok (.aload_n 0, 1) := by decide +kernel
theorem dX4_compile_9 : decode cX4_compile 9 = .ok (.getfield 18, 3) := by decide +kernel
theorem dX4_compile_12 : decode cX4_compile 12 = .ok (.aload_n 1, 1) := by decide +kernel
theorem dX4_compile_13 : decode cX4_compile 13 = .ok (.invokevirtual 63, 3) := by decide +kernel
theorem dX4_compile_16 : decode cX4_compile 16 = .ok (.iconst 0, 1) := by decide +kernel
theorem dX4_compile_17 : decode cX4_compile 17 = .ok (.istore_n 2, 1) := by decide +kernel
theorem dX4_compile_18 : decode cX4_compile 18 = .ok (.iload_n 2, 1) := by decide +kernel
theorem dX4_compile_19 : decode cX4_compile 19 = .ok (.aload_n 1, 1) := by decide +kernel
theorem dX4_compile_20 : decode cX4_compile 20 = .ok (.getfield 67, 3) := by decide +kernel
theorem dX4_compile_23 : decode cX4_compile 23 = .ok (.if_icmp .ge 31, 3) := by decide +kernel
theorem dX4_compile_26 : decode cX4_compile 26 = .ok (.aload_n 0, 1) := by decide +kernel
theorem dX4_compile_27 : decode cX4_compile 27 = .ok (.getfield 21, 3) := by decide +kernel
theorem dX4_compile_30 : decode cX4_compile 30 = .ok (.iload_n 2, 1) := by decide +kernel
theorem dX4_compile_31 : decode cX4_compile 31 = .ok (.aload_n 0, 1) := by decide +kernel
theorem dX4_compile_32 : decode cX4_compile 32 = .ok (.aload_n 1, 1) := by decide +kernel
theorem dX4_compile_33 : decode cX4_compile 33 = .ok (.getfield 72, 3) := by decide +kernel
theorem dX4_compile_36 : decode cX4_compile 36 = .ok (.iload_n 2, 1) := by decide +kernel
theorem dX4_compile_37 : decode cX4_compile 37 = .ok (.iaload, 1) := by decide +kernel
theorem dX4_compile_38 : decode cX4_compile 38 = .ok (.aload_n 1, 1) := by decide +kernel
theorem dX4_compile_39 : decode cX4_compile 39 = .ok (.getfield 75, 3) := by decide +kernel
theorem dX4_compile_42 : decode cX4_compile 42 = .ok (.iload_n 2, 1) := by decide +kernel
theorem dX4_compile_43 : decode cX4_compile 43 = .ok (.iaload, 1) := by decide +kernel
theorem dX4_compile_44 : decode cX4_compile 44 = .ok (.invokevirtual 78, 3) := by decide +kernel
theorem dX4_compile_47 : decode cX4_compile 47 = .ok (.iastore, 1) := by decide +kernel
theorem dX4_compile_48 : decode cX4_compile 48 = .ok (.iinc 2 1, 3) := by decide +kernel
theorem dX4_compile_51 : decode cX4_compile 51 = .ok (.goto (-33), 3) := by decide +kernel
theorem dX4_compile_54 : decode cX4_compile 54 = .ok (.iconst 0, 1) := by decide +kernel
theorem dX4_compile_55 : decode cX4_compile 55 = .ok (.istore_n 2, 1) := by decide +kernel
theorem dX4_compile_56 : decode cX4_compile 56 = .ok (.iload_n 2, 1) := by decide +kernel
theorem dX4_compile_57 : decode cX4_compile 57 = .ok (.bipush 8, 2) := by decide +kernel
theorem dX4_compile_59 : decode cX4_compile 59 = .ok (.if_icmp .ge 55, 3) := by decide +kernel
theorem dX4_compile_62 : decode cX4_compile 62 = .ok (.iconst 0, 1) := by decide +kernel
theorem dX4_compile_63 : decode cX4_compile 63 = .ok (.istore_n 3, 1) := by decide +kernel
theorem dX4_compile_64 : decode cX4_compile 64 = .ok (.iconst 0, 1) := by decide +kernel
theorem dX4_compile_65 : decode cX4_compile 65 = .ok (.istore 4, 2) := by decide +kernel
theorem dX4_compile_67 : decode cX4_compile 67 = .ok (.iload 4, 2) := by decide +kernel
theorem dX4_compile_69 : decode cX4_compile 69 = .ok (.iconst 3, 1) := by decide +kernel
theorem dX4_compile_70 : decode cX4_compile 70 = .ok (.if_icmp .ge 31, 3) := by decide +kernel
theorem dX4_compile_73 : decode cX4_compile 73 = .ok (.iload_n 2, 1) := by decide +kernel
theorem dX4_compile_74 : decode cX4_compile 74 = .ok (.iload 4, 2) := by decide +kernel
theorem dX4_compile_76 : decode cX4_compile 76 = .ok (.ishr, 1) := by decide +kernel
theorem dX4_compile_77 : decode cX4_compile 77 = .ok (.iconst 1, 1) := by decide +kernel
theorem dX4_compile_78 : decode cX4_compile 78 = .ok (.iand, 1) := by decide +kernel
theorem dX4_compile_79 : decode cX4_compile 79 = .ok (.iconst 1, 1) := by decide +kernel
theorem dX4_compile_80 : decode cX4_compile 80 = .ok (.if_icmp .ne 15, 3) := by decide +kernel
theorem dX4_compile_83 : decode cX4_compile 83 = .ok (.iload_n 3, 1) := by decide +kernel
theorem dX4_compile_84 : decode cX4_compile 84 = .ok (.aload_n 0, 1) := by decide +kernel
theorem dX4_compile_85 : decode cX4_compile 85 = .ok (.getfield 18, 3) := by decide +kernel
theorem dX4_compile_88 : decode cX4_compile 88 = .ok (.iload 4, 2) := by decide +kernel
theorem dX4_compile_90 : decode cX4_compile 90 = .ok (.invokevirtual 82, 3) := by decide +kernel
theorem dX4_compile_93 : decode cX4_compile 93 = .ok (.ior, 1) := by decide +kernel
theorem dX4_compile_94 : decode cX4_compile 94 = .ok (.istore_n 3, 1) := by decide +kernel
theorem dX4_compile_95 : decode cX4_compile 95 = .ok (.iinc 4 1, 3) := by decide +kernel
theorem dX4_compile_98 : decode cX4_compile 98 = .ok (.goto (-31), 3) := by decide +kernel
theorem dX4_compile_101 : decode cX4_compile 101 = .ok (.aload_n 0, 1) := by decide +kernel
theorem dX4_compile_102 : decode cX4_compile 102 = .ok (.getfield 25, 3) := by decide +kernel
theorem dX4_compile_105 : decode cX4_compile 105 = .ok (.iload_n 2, 1) := by decide +kernel
theorem dX4_compile_106 : decode cX4_compile 106 = .ok (.iload_n 3, 1) := by decide +kernel
theorem dX4_compile_107 : decode cX4_compile 107 = .ok (.iastore, 1) := by decide +kernel
theorem dX4_compile_108 : decode cX4_compile 108 = .ok (.iinc 2 1, 3) := by decide +kernel
theorem dX4_compile_111 : decode cX4_compile 111 = .ok (.goto (-55), 3) := by decide +kernel
theorem dX4_compile_114 : decode cX4_compile 114 = .ok (.aload_n 0, 1) := by decide +kernel
theorem dX4_compile_115 : decode cX4_compile 115 = .ok (.aload_n 0, 1) := by decide +kernel
theorem dX4_compile_116 : decode cX4_compile 116 = .ok (.getfield 12, 3) := by decide +kernel
theorem dX4_compile_119 : decode cX4_compile 119 = .ok (.aload_n 0, 1) := by decide +kernel
theorem dX4_compile_120 : decode cX4_compile 120 = .ok (.getfield 12, 3) := by decide +kernel
theorem dX4_compile_123 : decode cX4_compile 123 = .ok (.getfield 86, 3) := by decide +kernel
theorem dX4_compile_126 : decode cX4_compile 126 = .ok (.invokevirtual 89, 3) := by decide +kernel
theorem dX4_compile_129 : decode cX4_compile 129 = .ok (.putfield 54, 3) := by decide +kernel
theorem dX4_compile_132 : decode cX4_compile 132 = .ok (.aload_n 0, 1) := by decide +kernel
theorem dX4_compile_133 : decode cX4_compile 133 = .ok (.aload_n 0, 1) := by decide +kernel
theorem dX4_compile_134 : decode cX4_compile 134 = .ok (.getfield 12, 3) := by decide +kernel
theorem dX4_compile_137 : decode cX4_compile 137 = .ok (.invokevirtual 92, 3) := by decide +kernel
theorem dX4_compile_140 : decode cX4_compile 140 = .ok (.putfield 57, 3) := by decide +kernel
theorem dX4_compile_143 : decode cX4_compile 143 = .ok (.aload_n 0, 1) := by decide +kernel
theorem dX4_compile_144 : decode cX4_compile 144 = .ok (.aload_n 0, 1) := by decide +kernel
theorem dX4_compile_145 : decode cX4_compile 145 = .ok (.getfield 18, 3) := by decide +kernel
theorem dX4_compile_148 : decode cX4_compile 148 = .ok (.invokevirtual 96, 3) := by decide +kernel
theorem dX4_compile_151 : decode cX4_compile 151 = .ok (.putfield 60, 3) := by decide +kernel
theorem dX4_compile_154 : decode cX4_compile 154 = .ok (.return_, 1) := by decide +kernel
theorem dX4_mayClash_0 : decode cX4_mayClash 0 = .ok (.aload_n 0, 1) := by decide +kernel
theorem dX4_mayClash_1 : decode cX4_mayClash 1 = .ok (.getfield 28, 3) := by decide +kernel
theorem dX4_mayClash_4 : decode cX4_mayClash 4 = .ok (.aload_n 1, 1) := by decide +kernel
theorem dX4_mayClash_5 : decode cX4_mayClash 5 = .ok (.getfield 28, 3) := by decide +kernel
theorem dX4_mayClash_8 : decode cX4_mayClash 8 = .ok (.if_icmp .eq 5, 3) := by decide +kernel
theorem dX4_mayClash_11 : decode cX4_mayClash 11 = .ok (.iconst 0, 1) := by decide +kernel
theorem dX4_mayClash_12 : decode cX4_mayClash 12 = .ok (.ireturn, 1) := by decide +kernel
theorem dX4_mayClash_13 : decode cX4_mayClash 13 = .ok (.aload_n 0, 1) := by decide +kernel
theorem dX4_mayClash_14 : decode cX4_mayClash 14 = .ok (.invokevirtual 99, 3) := by decide +kernel
theorem dX4_mayClash_17 : decode cX4_mayClash 17 = .ok (.ifCond .eq 27, 3) := by decide +kernel
theorem dX4_mayClash_20 : decode cX4_mayClash 20 = .ok (.aload_n 1, 1) := by decide +kernel
theorem dX4_mayClash_21 : decode cX4_mayClash 21 = .ok (.invokevirtual 99, 3) := by decide +kernel
theorem dX4_mayClash_24 : decode cX4_mayClash 24 = .ok (.ifCond .eq 20, 3) := by decide +kernel
theorem dX4_mayClash_27 : decode cX4_mayClash 27 = .ok (.aload_n 0, 1) := by decide +kernel
theorem dX4_mayClash_28 : decode cX4_mayClash 28 = .ok (.getfield 32, 3) := by decide +kernel
theorem dX4_mayClash_31 : decode cX4_mayClash 31 = .ok (.aload_n 1, 1) := by decide +kernel
theorem dX4_mayClash_32 : decode cX4_mayClash 32 = .ok (.getfield 32, 3) := by decide +kernel
theorem dX4_mayClash_35 : decode cX4_mayClash 35 = .ok (.if_icmp .eq 7, 3) := by decide +kernel
theorem dX4_mayClash_38 : decode cX4_mayClash 38 = .ok (.iconst 1, 1) := by decide +kernel
theorem dX4_mayClash_39 : decode cX4_mayClash 39 = .ok (.goto 4, 3) := by decide +kernel
theorem dX4_mayClash_42 : decode cX4_mayClash 42 = .ok (.iconst 0, 1) := by decide +kernel
theorem dX4_mayClash_43 : decode cX4_mayClash 43 = .ok (.ireturn, 1) := by decide +kernel
theorem dX4_mayClash_44 : decode cX4_mayClash 44 = .ok (.aload_n 0, 1) := by decide +kernel
theorem dX4_mayClash_45 : decode cX4_mayClash 45 = .ok (.invokevirtual 99, 3) := by decide +kernel
theorem dX4_mayClash_48 : decode cX4_mayClash 48 = .ok (.ifCond .eq 15, 3) := by decide +kernel
theorem dX4_mayClash_51 : decode cX4_mayClash 51 = .ok (.aload_n 1, 1) := by decide +kernel
theorem dX4_mayClash_52 : decode cX4_mayClash 52 = .ok (.getfield 35, 3) := by decide +kernel
theorem dX4_mayClash_55 : decode cX4_mayClash 55 = .ok (.iconst 3, 1) := by decide +kernel
theorem dX4_mayClash_56 : decode cX4_mayClash 56 = .ok (.if_icmp .ne 7, 3) := by decide +kernel
theorem dX4_mayClash_59 : decode cX4_mayClash 59 = .ok (.iconst 1, 1) := by decide +kernel
theorem dX4_mayClash_60 : decode cX4_mayClash 60 = .ok (.goto 4, 3) := by decide +kernel
theorem dX4_mayClash_63 : decode cX4_mayClash 63 = .ok (.iconst 0, 1) := by decide +kernel
theorem dX4_mayClash_64 : decode cX4_mayClash 64 = .ok (.istore_n 2, 1) := by decide +kernel
theorem dX4_mayClash_65 : decode cX4_mayClash 65 = .ok (.aload_n 0, 1) := by decide +kernel
theorem dX4_mayClash_66 : decode cX4_mayClash 66 = .ok (.getfield 35, 3) := by decide +kernel
theorem dX4_mayClash_69 : decode cX4_mayClash 69 = .ok (.iconst 3, 1) := by decide +kernel
theorem dX4_mayClash_70 : decode cX4_mayClash 70 = .ok (.if_icmp .ne 14, 3) := by decide +kernel
theorem dX4_mayClash_73 : decode cX4_mayClash 73 = .ok (.aload_n 1, 1) := by decide +kernel
theorem dX4_mayClash_74 : decode cX4_mayClash 74 = .ok (.invokevirtual 99, 3) := by decide +kernel
theorem dX4_mayClash_77 : decode cX4_mayClash 77 = .ok (.ifCond .eq 7, 3) := by decide +kernel
theorem dX4_mayClash_80 : decode cX4_mayClash 80 = .ok (.iconst 1, 1) := by decide +kernel
theorem dX4_mayClash_81 : decode cX4_mayClash 81 = .ok (.goto 4, 3) := by decide +kernel
theorem dX4_mayClash_84 : decode cX4_mayClash 84 = .ok (.iconst 0, 1) := by decide +kernel
theorem dX4_mayClash_85 : decode cX4_mayClash 85 = .ok (.istore_n 3, 1) := by decide +kernel
theorem dX4_mayClash_86 : decode cX4_mayClash 86 = .ok (.iload_n 2, 1) := by decide +kernel
theorem dX4_mayClash_87 : decode cX4_mayClash 87 = .ok (.ifCond .ne 7, 3) := by decide +kernel
theorem dX4_mayClash_90 : decode cX4_mayClash 90 = .ok (.iload_n 3, 1) := by decide +kernel
theorem dX4_mayClash_91 : decode cX4_mayClash 91 = .ok (.ifCond .eq 18, 3) := by decide +kernel
theorem dX4_mayClash_94 : decode cX4_mayClash 94 = .ok (.aload_n 0, 1) := by decide +kernel
theorem dX4_mayClash_95 : decode cX4_mayClash 95 = .ok (.getfield 32, 3) := by decide +kernel
theorem dX4_mayClash_98 : decode cX4_mayClash 98 = .ok (.aload_n 1, 1) := by decide +kernel
theorem dX4_mayClash_99 : decode cX4_mayClash 99 = .ok (.getfield 32, 3) := by decide +kernel
theorem dX4_mayClash_102 : decode cX4_mayClash 102 = .ok (.if_icmp .ne 7, 3) := by decide +kernel
theorem dX4_mayClash_105 : decode cX4_mayClash 105 = .ok (.iconst 1, 1) := by decide +kernel
theorem dX4_mayClash_106 : decode cX4_mayClash 106 = .ok (.goto 4, 3) := by decide +kernel
theorem dX4_mayClash_109 : decode cX4_mayClash 109 = .ok (.iconst 0, 1) := by decide +kernel
theorem dX4_mayClash_110 : decode cX4_mayClash 110 = .ok (.ireturn, 1) := by decide +kernel
theorem dX7_compile_0 : decode cX7_compile 0 = .ok (.iconst 0, 1) := by decide +kernel
theorem dX7_compile_1 : decode cX7_compile 1 = .ok (.istore_n 1, 1) := by decide +kernel
theorem dX7_compile_2 : decode cX7_compile 2 = .ok (.iload_n 1, 1) := by decide +kernel
theorem dX7_compile_3 : decode cX7_compile 3 = .ok (.aload_n 0, 1) := by decide +kernel
theorem dX7_compile_4 : decode cX7_compile 4 = .ok (.getfield 74, 3) := by decide +kernel
theorem dX7_compile_7 : decode cX7_compile 7 = .ok (.if_icmp .ge 19, 3) := by decide +kernel
theorem dX7_compile_10 : decode cX7_compile 10 = .ok (.aload_n 0, 1) := by decide +kernel
theorem dX7_compile_11 : decode cX7_compile 11 = .ok (.getfield 41, 3) := by decide +kernel
theorem dX7_compile_14 : decode cX7_compile 14 = .ok (.iload_n 1, 1) := by decide +kernel
theorem dX7_compile_15 : decode cX7_compile 15 = .ok (.aaload, 1) := by decide +kernel
theorem dX7_compile_16 : decode cX7_compile 16 = .ok (.aload_n 0, 1) := by decide +kernel
theorem dX7_compile_17 : decode cX7_compile 17 = .ok (.invokevirtual 101, 3) := by decide +kernel
theorem dX7_compile_20 : decode cX7_compile 20 = .ok (.iinc 1 1, 3) := by decide +kernel
theorem dX7_compile_23 : decode cX7_compile 23 = .ok (.goto (-21), 3) := by decide +kernel
theorem dX7_compile_26 : decode cX7_compile 26 = .ok (.return_, 1) := by decide +kernel
theorem dX7_clear_0 : decode cX7_clear 0 = .ok (.aload_n 0, 1) := by decide +kernel
theorem dX7_clear_1 : decode cX7_clear 1 = .ok (.getfield 9, 3) := by decide +kernel
theorem dX7_clear_4 : decode cX7_clear 4 = .ok (.iconst 0, 1) := by decide +kernel
theorem dX7_clear_5 : decode cX7_clear 5 = .ok (.invokestatic 61, 3) := by decide +kernel
theorem dX7_clear_8 : decode cX7_clear 8 = .ok (.aload_n 0, 1) := by decide +kernel
theorem dX7_clear_9 : decode cX7_clear 9 = .ok (.iconst 0, 1) := by decide +kernel
theorem dX7_clear_10 : decode cX7_clear 10 = .ok (.putfield 67, 3) := by decide +kernel
theorem dX7_clear_13 : decode cX7_clear 13 = .ok (.aload_n 0, 1) := by decide +kernel
theorem dX7_clear_14 : decode cX7_clear 14 = .ok (.getfield 15, 3) := by decide +kernel
theorem dX7_clear_17 : decode cX7_clear 17 = .ok (.iconst 0, 1) := by decide +kernel
theorem dX7_clear_18 : decode cX7_clear 18 = .ok (.invokestatic 61, 3) := by decide +kernel
theorem dX7_clear_21 : decode cX7_clear 21 = .ok (.aload_n 0, 1) := by decide +kernel
theorem dX7_clear_22 : decode cX7_clear 22 = .ok (.getfield 18, 3) := by decide +kernel
theorem dX7_clear_25 : decode cX7_clear 25 = .ok (.iconst 0, 1) := by decide +kernel
theorem dX7_clear_26 : decode cX7_clear 26 = .ok (.invokestatic 61, 3) := by decide +kernel
theorem dX7_clear_29 : decode cX7_clear 29 = .ok (.aload_n 0, 1) := by decide +kernel
theorem dX7_clear_30 : decode cX7_clear 30 = .ok (.iconst 0, 1) := by decide +kernel
theorem dX7_clear_31 : decode cX7_clear 31 = .ok (.putfield 71, 3) := by decide +kernel
theorem dX7_clear_34 : decode cX7_clear 34 = .ok (.aload_n 0, 1) := by decide +kernel
theorem dX7_clear_35 : decode cX7_clear 35 = .ok (.getfield 27, 3) := by decide +kernel
theorem dX7_clear_38 : decode cX7_clear 38 = .ok (.iconst 0, 1) := by decide +kernel
theorem dX7_clear_39 : decode cX7_clear 39 = .ok (.invokestatic 61, 3) := by decide +kernel
theorem dX7_clear_42 : decode cX7_clear 42 = .ok (.aload_n 0, 1) := by decide +kernel
theorem dX7_clear_43 : decode cX7_clear 43 = .ok (.getfield 30, 3) := by decide +kernel
theorem dX7_clear_46 : decode cX7_clear 46 = .ok (.iconst 0, 1) := by decide +kernel
theorem dX7_clear_47 : decode cX7_clear 47 = .ok (.invokestatic 61, 3) := by decide +kernel
theorem dX7_clear_50 : decode cX7_clear 50 = .ok (.aload_n 0, 1) := by decide +kernel
theorem dX7_clear_51 : decode cX7_clear 51 = .ok (.getfield 33, 3) := by decide +kernel
theorem dX7_clear_54 : decode cX7_clear 54 = .ok (.iconst 0, 1) := by decide +kernel
theorem dX7_clear_55 : decode cX7_clear 55 = .ok (.invokestatic 61, 3) := by decide +kernel
theorem dX7_clear_58 : decode cX7_clear 58 = .ok (.aload_n 0, 1) := by decide +kernel
theorem dX7_clear_59 : decode cX7_clear 59 = .ok (.getfield 36, 3) := by decide +kernel
theorem dX7_clear_62 : decode cX7_clear 62 = .ok (.iconst 0, 1) := by decide +kernel
theorem dX7_clear_63 : decode cX7_clear 63 = .ok (.invokestatic 61, 3) := by decide +kernel
theorem dX7_clear_66 : decode cX7_clear 66 = .ok (.aload_n 0, 1) := by decide +kernel
theorem dX7_clear_67 : decode cX7_clear 67 = .ok (.iconst 0, 1) := by decide +kernel
theorem dX7_clear_68 : decode cX7_clear 68 = .ok (.putfield 74, 3) := by decide +kernel
theorem dX7_clear_71 : decode cX7_clear 71 = .ok (.aload_n 0, 1) := by decide +kernel
theorem dX7_clear_72 : decode cX7_clear 72 = .ok (.getfield 50, 3) := by decide +kernel
theorem dX7_clear_75 : decode cX7_clear 75 = .ok (.invokevirtual 77, 3) := by decide +kernel
theorem dX7_clear_78 : decode cX7_clear 78 = .ok (.aload_n 0, 1) := by decide +kernel
theorem dX7_clear_79 : decode cX7_clear 79 = .ok (.getfield 54, 3) := by decide +kernel
theorem dX7_clear_82 : decode cX7_clear 82 = .ok (.invokevirtual 77, 3) := by decide +kernel
theorem dX7_clear_85 : decode cX7_clear 85 = .ok (.return_, 1) := by decide +kernel
theorem dX7_copyFrom_0 : decode cX7_copyFrom 0 = .ok (.aload_n 1, 1) := by decide +kernel
theorem dX7_copyFrom_1 : decode cX7_copyFrom 1 = .ok (.getfield 9, 3) := by decide +kernel
theorem dX7_copyFrom_4 : decode cX7_copyFrom 4 = .ok (.iconst 0, 1) := by decide +kernel
theorem dX7_copyFrom_5 : decode cX7_copyFrom 5 = .ok (.aload_n 0, 1) := by decide +kernel
theorem dX7_copyFrom_6 : decode cX7_copyFrom 6 = .ok (.getfield 9, 3) := by decide +kernel
theorem dX7_copyFrom_9 : decode cX7_copyFrom 9 = .ok (.iconst 0, 1) := by decide +kernel
theorem dX7_copyFrom_10 : decode cX7_copyFrom 10 = .ok (.aload_n 0, 1) := by decide +kernel
theorem dX7_copyFrom_11 : decode cX7_copyFrom 11 = .ok (.getfield 9, 3) := by decide +kernel
theorem dX7_copyFrom_14 : decode cX7_copyFrom 14 = .ok (.arraylength, 1) := by decide +kernel
theorem dX7_copyFrom_15 : decode cX7_copyFrom 15 = .ok (.invokestatic 80, 3) := by decide +kernel
theorem dX7_copyFrom_18 : decode cX7_copyFrom 18 = .ok (.aload_n 0, 1) := by decide +kernel
theorem dX7_copyFrom_19 : decode cX7_copyFrom 19 = .ok (.aload_n 1, 1) := by decide +kernel
theorem dX7_copyFrom_20 : decode cX7_copyFrom 20 = .ok (.getfield 67, 3) := by decide +kernel
theorem dX7_copyFrom_23 : decode cX7_copyFrom 23 = .ok (.putfield 67, 3) := by decide +kernel
theorem dX7_copyFrom_26 : decode cX7_copyFrom 26 = .ok (.aload_n 1, 1) := by decide +kernel
theorem dX7_copyFrom_27 : decode cX7_copyFrom 27 = .ok (.getfield 15, 3) := by decide +kernel
theorem dX7_copyFrom_30 : decode cX7_copyFrom 30 = .ok (.iconst 0, 1) := by decide +kernel
theorem dX7_copyFrom_31 : decode cX7_copyFrom 31 = .ok (.aload_n 0, 1) := by decide +kernel
theorem dX7_copyFrom_32 : decode cX7_copyFrom 32 = .ok (.getfield 15, 3) := by decide +kernel
theorem dX7_copyFrom_35 : decode cX7_copyFrom 35 = .ok (.iconst 0, 1) := by decide +kernel
theorem dX7_copyFrom_36 : decode cX7_copyFrom 36 = .ok (.aload_n 0, 1) := by decide +kernel
theorem dX7_copyFrom_37 : decode cX7_copyFrom 37 = .ok (.getfield 15, 3) := by decide +kernel
theorem dX7_copyFrom_40 : decode cX7_copyFrom 40 = .ok (.arraylength, 1) := by decide +kernel
theorem dX7_copyFrom_41 : decode cX7_copyFrom 41 = .ok (.invokestatic 80, 3) := by decide +kernel
theorem dX7_copyFrom_44 : decode cX7_copyFrom 44 = .ok (.aload_n 1, 1) := by decide +kernel
theorem dX7_copyFrom_45 : decode cX7_copyFrom 45 = .ok (.getfield 18, 3) := by decide +kernel
theorem dX7_copyFrom_48 : decode cX7_copyFrom 48 = .ok (.iconst 0, 1) := by decide +kernel
theorem dX7_copyFrom_49 : decode cX7_copyFrom 49 = .ok (.aload_n 0, 1) := by decide +kernel
theorem dX7_copyFrom_50 : decode cX7_copyFrom 50 = .ok (.getfield 18, 3) := by decide +kernel
theorem dX7_copyFrom_53 : decode cX7_copyFrom 53 = .ok (.iconst 0, 1) := by decide +kernel
theorem dX7_copyFrom_54 : decode cX7_copyFrom 54 = .ok (.aload_n 0, 1) := by decide +kernel
theorem dX7_copyFrom_55 : decode cX7_copyFrom 55 = .ok (.getfield 18, 3) := by decide +kernel
theorem dX7_copyFrom_58 : decode cX7_copyFrom 58 = .ok (.arraylength, 1) := by decide +kernel
theorem dX7_copyFrom_59 : decode cX7_copyFrom 59 = .ok (.invokestatic 80, 3) := by decide +kernel
theorem dX7_copyFrom_62 : decode cX7_copyFrom 62 = .ok (.aload_n 1, 1) := by decide +kernel
theorem dX7_copyFrom_63 : decode cX7_copyFrom 63 = .ok (.getfield 21, 3) := by decide +kernel
theorem dX7_copyFrom_66 : decode cX7_copyFrom 66 = .ok (.iconst 0, 1) := by decide +kernel
theorem dX7_copyFrom_67 : decode cX7_copyFrom 67 = .ok (.aload_n 0, 1) := by decide +kernel
theorem dX7_copyFrom_68 : decode cX7_copyFrom 68 = .ok (.getfield 21, 3) := by decide +kernel
theorem dX7_copyFrom_71 : decode cX7_copyFrom 71 = .ok (.iconst 0, 1) := by decide +kernel
theorem dX7_copyFrom_72 : decode cX7_copyFrom 72 = .ok (.aload_n 0, 1) := by decide +kernel
theorem dX7_copyFrom_73 : decode cX7_copyFrom 73 = .ok (.getfield 21, 3) := by decide +kernel
theorem dX7_copyFrom_76 : decode cX7_copyFrom 76 = .ok (.arraylength, 1) := by decide +kernel
theorem dX7_copyFrom_77 : decode cX7_copyFrom 77 = .ok (.invokestatic 80, 3) := by decide +kernel
theorem dX7_copyFrom_80 : decode cX7_copyFrom 80 = .ok (.aload_n 1, 1) := by decide +kernel
theorem dX7_copyFrom_81 : decode cX7_copyFrom 81 = .ok (.getfield 24, 3) := by decide +kernel
theorem dX7_copyFrom_84 : decode cX7_copyFrom 84 = .ok (.iconst 0, 1) := by decide +kernel
theorem dX7_copyFrom_85 : decode cX7_copyFrom 85 = .ok (.aload_n 0, 1) := by decide +kernel
theorem dX7_copyFrom_86 : decode cX7_copyFrom 86 = .ok (.getfield 24, 3) := by decide +kernel
theorem dX7_copyFrom_89 : decode cX7_copyFrom 89 = .ok (.iconst 0, 1) := by decide +kernel
theorem dX7_copyFrom_90 : decode cX7_copyFrom 90 = .ok (.aload_n 0, 1) := by decide +kernel
theorem dX7_copyFrom_91 : decode cX7_copyFrom 91 = .ok (.getfield 24, 3) := by decide +kernel
theorem dX7_copyFrom_94 : decode cX7_copyFrom 94 = .ok (.arraylength, 1) := by decide +kernel
theorem dX7_copyFrom_95 : decode cX7_copyFrom 95 = .ok (.invokestatic 80, 3) := by decide +kernel
theorem dX7_copyFrom_98 : decode cX7_copyFrom 98 = .ok (.aload_n 0, 1) := by decide +kernel
theorem dX7_copyFrom_99 : decode cX7_copyFrom 99 = .ok (.aload_n 1, 1) := by decide +kernel
theorem dX7_copyFrom_100 : decode cX7_copyFrom 100 = .ok (.getfield 71, 3) := by decide +kernel
theorem dX7_copyFrom_103 : decode cX7_copyFrom 103 = .ok (.putfield 71, 3) := by decide +kernel
theorem dX7_copyFrom_106 : decode cX7_copyFrom 106 = .ok (.aload_n 1, 1) := by decide +kernel
theorem dX7_copyFrom_107 : decode cX7_copyFrom 107 = .ok (.getfield 33, 3) := by decide +kernel
theorem dX7_copyFrom_110 : decode cX7_copyFrom 110 = .ok (.iconst 0, 1) := by decide +kernel
theorem dX7_copyFrom_111 : decode cX7_copyFrom 111 = .ok (.aload_n 0, 1) := by decide +kernel
theorem dX7_copyFrom_112 : decode cX7_copyFrom 112 = .ok (.getfield 33, 3) := by decide +kernel
theorem dX7_copyFrom_115 : decode cX7_copyFrom 115 = .ok (.iconst 0, 1) := by decide +kernel
theorem dX7_copyFrom_116 : decode cX7_copyFrom 116 = .ok (.aload_n 0, 1) := by decide +kernel
theorem dX7_copyFrom_117 : decode cX7_copyFrom 117 = .ok (.getfield 33, 3) := by decide +kernel
theorem dX7_copyFrom_120 : decode cX7_copyFrom 120 = .ok (.arraylength, 1) := by decide +kernel
theorem dX7_copyFrom_121 : decode cX7_copyFrom 121 = .ok (.invokestatic 80, 3) := by decide +kernel
theorem dX7_copyFrom_124 : decode cX7_copyFrom 124 = .ok (.aload_n 1, 1) := by decide +kernel
theorem dX7_copyFrom_125 : decode cX7_copyFrom 125 = .ok (.getfield 36, 3) := by decide +kernel
theorem dX7_copyFrom_128 : decode cX7_copyFrom 128 = .ok (.iconst 0, 1) := by decide +kernel
theorem dX7_copyFrom_129 : decode cX7_copyFrom 129 = .ok (.aload_n 0, 1) := by decide +kernel
theorem dX7_copyFrom_130 : decode cX7_copyFrom 130 = .ok (.getfield 36, 3) := by decide +kernel
theorem dX7_copyFrom_133 : decode cX7_copyFrom 133 = .ok (.iconst 0, 1) := by decide +kernel
theorem dX7_copyFrom_134 : decode cX7_copyFrom 134 = .ok (.aload_n 0, 1) := by decide +kernel
theorem dX7_copyFrom_135 : decode cX7_copyFrom 135 = .ok (.getfield 36, 3) := by decide +kernel
theorem dX7_copyFrom_138 : decode cX7_copyFrom 138 = .ok (.arraylength, 1) := by decide +kernel
theorem dX7_copyFrom_139 : decode cX7_copyFrom 139 = .ok (.invokestatic 80, 3) := by decide +kernel
theorem dX7_copyFrom_142 : decode cX7_copyFrom 142 = .ok (.aload_n 0, 1) := by decide +kernel
theorem dX7_copyFrom_143 : decode cX7_copyFrom 143 = .ok (.aload_n 1, 1) := by decide +kernel
theorem dX7_copyFrom_144 : decode cX7_copyFrom 144 = .ok (.getfield 74, 3) := by decide +kernel
theorem dX7_copyFrom_147 : decode cX7_copyFrom 147 = .ok (.putfield 74, 3) := by decide +kernel
theorem dX7_copyFrom_150 : decode cX7_copyFrom 150 = .ok (.iconst 0, 1) := by decide +kernel
theorem dX7_copyFrom_151 : decode cX7_copyFrom 151 = .ok (.istore_n 2, 1) := by decide +kernel
theorem dX7_copyFrom_152 : decode cX7_copyFrom 152 = .ok (.iload_n 2, 1) := by decide +kernel
theorem dX7_copyFrom_153 : decode cX7_copyFrom 153 = .ok (.aload_n 0, 1) := by decide +kernel
theorem dX7_copyFrom_154 : decode cX7_copyFrom 154 = .ok (.getfield 74, 3) := by decide +kernel
theorem dX7_copyFrom_157 : decode cX7_copyFrom 157 = .ok (.if_icmp .ge 24, 3) := by decide +kernel
theorem dX7_copyFrom_160 : decode cX7_copyFrom 160 = .ok (.aload_n 0, 1) := by decide +kernel
theorem dX7_copyFrom_161 : decode cX7_copyFrom 161 = .ok (.getfield 41, 3) := by decide +kernel
theorem dX7_copyFrom_164 : decode cX7_copyFrom 164 = .ok (.iload_n 2, 1) := by decide +kernel
theorem dX7_copyFrom_165 : decode cX7_copyFrom 165 = .ok (.aaload, 1) := by decide +kernel
theorem dX7_copyFrom_166 : decode cX7_copyFrom 166 = .ok (.aload_n 1, 1) := by decide +kernel
theorem dX7_copyFrom_167 : decode cX7_copyFrom 167 = .ok (.getfield 41, 3) := by decide +kernel
theorem dX7_copyFrom_170 : decode cX7_copyFrom 170 = .ok (.iload_n 2, 1) := by decide +kernel
theorem dX7_copyFrom_171 : decode cX7_copyFrom 171 = .ok (.aaload, 1) := by decide +kernel
theorem dX7_copyFrom_172 : decode cX7_copyFrom 172 = .ok (.invokevirtual 86, 3) := by decide +kernel
theorem dX7_copyFrom_175 : decode cX7_copyFrom 175 = .ok (.iinc 2 1, 3) := by decide +kernel
theorem dX7_copyFrom_178 : decode cX7_copyFrom 178 = .ok (.goto (-26), 3) := by decide +kernel
theorem dX7_copyFrom_181 : decode cX7_copyFrom 181 = .ok (.aload_n 0, 1) := by decide +kernel
theorem dX7_copyFrom_182 : decode cX7_copyFrom 182 = .ok (.getfield 50, 3) := by decide +kernel
theorem dX7_copyFrom_185 : decode cX7_copyFrom 185 = .ok (.aload_n 1, 1) := by decide +kernel
theorem dX7_copyFrom_186 : decode cX7_copyFrom 186 = .ok (.getfield 50, 3) := by decide +kernel
theorem dX7_copyFrom_189 : decode cX7_copyFrom 189 = .ok (.invokevirtual 90, 3) := by decide +kernel
theorem dX7_copyFrom_192 : decode cX7_copyFrom 192 = .ok (.aload_n 0, 1) := by decide +kernel
theorem dX7_copyFrom_193 : decode cX7_copyFrom 193 = .ok (.getfield 54, 3) := by decide +kernel
theorem dX7_copyFrom_196 : decode cX7_copyFrom 196 = .ok (.aload_n 1, 1) := by decide +kernel
theorem dX7_copyFrom_197 : decode cX7_copyFrom 197 = .ok (.getfield 54, 3) := by decide +kernel
theorem dX7_copyFrom_200 : decode cX7_copyFrom 200 = .ok (.invokevirtual 90, 3) := by decide +kernel
theorem dX7_copyFrom_203 : decode cX7_copyFrom 203 = .ok (.return_, 1) := by decide +kernel
theorem dX8_begin_0 : decode cX8_begin 0 = .ok (.aload_n 0, 1) := by decide +kernel
theorem dX8_begin_1 : decode cX8_begin 1 = .ok (.getfield 26, 3) := by decide +kernel
theorem dX8_begin_4 : decode cX8_begin 4 = .ok (.iconst 0, 1) := by decide +kernel
theorem dX8_begin_5 : decode cX8_begin 5 = .ok (.iconst 0, 1) := by decide +kernel
theorem dX8_begin_6 : decode cX8_begin 6 = .ok (.iastore, 1) := by decide +kernel
theorem dX8_begin_7 : decode cX8_begin 7 = .ok (.iconst 0, 1) := by decide +kernel
theorem dX8_begin_8 : decode cX8_begin 8 = .ok (.istore_n 2, 1) := by decide +kernel
theorem dX8_begin_9 : decode cX8_begin 9 = .ok (.iload_n 2, 1) := by decide +kernel
theorem dX8_begin_10 : decode cX8_begin 10 = .ok (.aload_n 1, 1) := by decide +kernel
theorem dX8_begin_11 : decode cX8_begin 11 = .ok (.getfield 29, 3) := by decide +kernel
theorem dX8_begin_14 : decode cX8_begin 14 = .ok (.if_icmp .ge 38, 3) := by decide +kernel
theorem dX8_begin_17 : decode cX8_begin 17 = .ok (.aload_n 0, 1) := by decide +kernel
theorem dX8_begin_18 : decode cX8_begin 18 = .ok (.getfield 13, 3) := by decide +kernel
theorem dX8_begin_21 : decode cX8_begin 21 = .ok (.iload_n 2, 1) := by decide +kernel
theorem dX8_begin_22 : decode cX8_begin 22 = .ok (.aload_n 1, 1) := by decide +kernel
theorem dX8_begin_23 : decode cX8_begin 23 = .ok (.getfield 35, 3) := by decide +kernel
theorem dX8_begin_26 : decode cX8_begin 26 = .ok (.iload_n 2, 1) := by decide +kernel
theorem dX8_begin_27 : decode cX8_begin 27 = .ok (.aaload, 1) := by decide +kernel
theorem dX8_begin_28 : decode cX8_begin 28 = .ok (.getfield 39, 3) := by decide +kernel
theorem dX8_begin_31 : decode cX8_begin 31 = .ok (.iastore, 1) := by decide +kernel
theorem dX8_begin_32 : decode cX8_begin 32 = .ok (.aload_n 0, 1) := by decide +kernel
theorem dX8_begin_33 : decode cX8_begin 33 = .ok (.getfield 17, 3) := by decide +kernel
theorem dX8_begin_36 : decode cX8_begin 36 = .ok (.iload_n 2, 1) := by decide +kernel
theorem dX8_begin_37 : decode cX8_begin 37 = .ok (.iconst 0, 1) := by decide +kernel
theorem dX8_begin_38 : decode cX8_begin 38 = .ok (.iastore, 1) := by decide +kernel
theorem dX8_begin_39 : decode cX8_begin 39 = .ok (.aload_n 0, 1) := by decide +kernel
theorem dX8_begin_40 : decode cX8_begin 40 = .ok (.getfield 20, 3) := by decide +kernel
theorem dX8_begin_43 : decode cX8_begin 43 = .ok (.iload_n 2, 1) := by decide +kernel
theorem dX8_begin_44 : decode cX8_begin 44 = .ok (.iconst 0, 1) := by decide +kernel
theorem dX8_begin_45 : decode cX8_begin 45 = .ok (.iastore, 1) := by decide +kernel
theorem dX8_begin_46 : decode cX8_begin 46 = .ok (.iinc 2 1, 3) := by decide +kernel
theorem dX8_begin_49 : decode cX8_begin 49 = .ok (.goto (-40), 3) := by decide +kernel
theorem dX8_begin_52 : decode cX8_begin 52 = .ok (.return_, 1) := by decide +kernel
theorem dX8_owe_0 : decode cX8_owe 0 = .ok (.iload_n 3, 1) := by decide +kernel
theorem dX8_owe_1 : decode cX8_owe 1 = .ok (.aload_n 1, 1) := by decide +kernel
theorem dX8_owe_2 : decode cX8_owe 2 = .ok (.getfield 71, 3) := by decide +kernel
theorem dX8_owe_5 : decode cX8_owe 5 = .ok (.iand, 1) := by decide +kernel
theorem dX8_owe_6 : decode cX8_owe 6 = .ok (.ifCond .eq 5, 3) := by decide +kernel
theorem dX8_owe_9 : decode cX8_owe 9 = .ok (.iconst 1, 1) := by decide +kernel
theorem dX8_owe_10 : decode cX8_owe 10 = .ok (.ireturn, 1) := by decide +kernel
theorem dX8_owe_11 : decode cX8_owe 11 = .ok (.iload_n 2, 1) := by decide +kernel
theorem dX8_owe_12 : decode cX8_owe 12 = .ok (.bipush 10, 2) := by decide +kernel
theorem dX8_owe_14 : decode cX8_owe 14 = .ok (.imul, 1) := by decide +kernel
theorem dX8_owe_15 : decode cX8_owe 15 = .ok (.istore 4, 2) := by decide +kernel
theorem dX8_owe_17 : decode cX8_owe 17 = .ok (.iload 4, 2) := by decide +kernel
theorem dX8_owe_19 : decode cX8_owe 19 = .ok (.aload_n 0, 1) := by decide +kernel
theorem dX8_owe_20 : decode cX8_owe 20 = .ok (.getfield 20, 3) := by decide +kernel
theorem dX8_owe_23 : decode cX8_owe 23 = .ok (.iload_n 2, 1) := by decide +kernel
theorem dX8_owe_24 : decode cX8_owe 24 = .ok (.iaload, 1) := by decide +kernel
theorem dX8_owe_25 : decode cX8_owe 25 = .ok (.iadd, 1) := by decide +kernel
theorem dX8_owe_26 : decode cX8_owe 26 = .ok (.istore 5, 2) := by decide +kernel
theorem dX8_owe_28 : decode cX8_owe 28 = .ok (.iload 5, 2) := by decide +kernel
theorem dX8_owe_30 : decode cX8_owe 30 = .ok (.iload 4, 2) := by decide +kernel
theorem dX8_owe_32 : decode cX8_owe 32 = .ok (.if_icmp .le 22, 3) := by decide +kernel
theorem dX8_owe_35 : decode cX8_owe 35 = .ok (.aload_n 0, 1) := by decide +kernel
theorem dX8_owe_36 : decode cX8_owe 36 = .ok (.getfield 23, 3) := by decide +kernel
theorem dX8_owe_39 : decode cX8_owe 39 = .ok (.iload 5, 2) := by decide +kernel
theorem dX8_owe_41 : decode cX8_owe 41 = .ok (.iconst 1, 1) := by decide +kernel
theorem dX8_owe_42 : decode cX8_owe 42 = .ok (.isub, 1) := by decide +kernel
theorem dX8_owe_43 : decode cX8_owe 43 = .ok (.iaload, 1) := by decide +kernel
theorem dX8_owe_44 : decode cX8_owe 44 = .ok (.iload_n 3, 1) := by decide +kernel
theorem dX8_owe_45 : decode cX8_owe 45 = .ok (.if_icmp .le 9, 3) := by decide +kernel
theorem dX8_owe_48 : decode cX8_owe 48 = .ok (.iinc 5 (-1), 3) := by decide +kernel
theorem dX8_owe_51 : decode cX8_owe 51 = .ok (.goto (-23), 3) := by decide +kernel
theorem dX8_owe_54 : decode cX8_owe 54 = .ok (.iload 5, 2) := by decide +kernel
theorem dX8_owe_56 : decode cX8_owe 56 = .ok (.iload 4, 2) := by decide +kernel
theorem dX8_owe_58 : decode cX8_owe 58 = .ok (.if_icmp .le 20, 3) := by decide +kernel
theorem dX8_owe_61 : decode cX8_owe 61 = .ok (.aload_n 0, 1) := by decide +kernel
theorem dX8_owe_62 : decode cX8_owe 62 = .ok (.getfield 23, 3) := by decide +kernel
theorem dX8_owe_65 : decode cX8_owe 65 = .ok (.iload 5, 2) := by decide +kernel
theorem dX8_owe_67 : decode cX8_owe 67 = .ok (.iconst 1, 1) := by decide +kernel
theorem dX8_owe_68 : decode cX8_owe 68 = .ok (.isub, 1) := by decide +kernel
theorem dX8_owe_69 : decode cX8_owe 69 = .ok (.iaload, 1) := by decide +kernel
theorem dX8_owe_70 : decode cX8_owe 70 = .ok (.iload_n 3, 1) := by decide +kernel
theorem dX8_owe_71 : decode cX8_owe 71 = .ok (.if_icmp .ne 7, 3) := by decide +kernel
theorem dX8_owe_74 : decode cX8_owe 74 = .ok (.iconst 1, 1) := by decide +kernel
theorem dX8_owe_75 : decode cX8_owe 75 = .ok (.goto 4, 3) := by decide +kernel
theorem dX8_owe_78 : decode cX8_owe 78 = .ok (.iconst 0, 1) := by decide +kernel
theorem dX8_owe_79 : decode cX8_owe 79 = .ok (.istore 6, 2) := by decide +kernel
theorem dX8_owe_81 : decode cX8_owe 81 = .ok (.iload_n 3, 1) := by decide +kernel
theorem dX8_owe_82 : decode cX8_owe 82 = .ok (.ifCond .eq 19, 3) := by decide +kernel
theorem dX8_owe_85 : decode cX8_owe 85 = .ok (.iload 6, 2) := by decide +kernel
theorem dX8_owe_87 : decode cX8_owe 87 = .ok (.ifCond .ne 14, 3) := by decide +kernel
theorem dX8_owe_90 : decode cX8_owe 90 = .ok (.aload_n 0, 1) := by decide +kernel
theorem dX8_owe_91 : decode cX8_owe 91 = .ok (.getfield 20, 3) := by decide +kernel
theorem dX8_owe_94 : decode cX8_owe 94 = .ok (.iload_n 2, 1) := by decide +kernel
theorem dX8_owe_95 : decode cX8_owe 95 = .ok (.iaload, 1) := by decide +kernel
theorem dX8_owe_96 : decode cX8_owe 96 = .ok (.bipush 10, 2) := by decide +kernel
theorem dX8_owe_98 : decode cX8_owe 98 = .ok (.if_icmp .lt 13, 3) := by decide +kernel
theorem dX8_owe_101 : decode cX8_owe 101 = .ok (.iload_n 3, 1) := by decide +kernel
theorem dX8_owe_102 : decode cX8_owe 102 = .ok (.ifCond .eq 7, 3) := by decide +kernel
theorem dX8_owe_105 : decode cX8_owe 105 = .ok (.iconst 1, 1) := by decide +kernel
theorem dX8_owe_106 : decode cX8_owe 106 = .ok (.goto 4, 3) := by decide +kernel
theorem dX8_owe_109 : decode cX8_owe 109 = .ok (.iconst 0, 1) := by decide +kernel
theorem dX8_owe_110 : decode cX8_owe 110 = .ok (.ireturn, 1) := by decide +kernel
theorem dX8_owe_111 : decode cX8_owe 111 = .ok (.iload 4, 2) := by decide +kernel
theorem dX8_owe_113 : decode cX8_owe 113 = .ok (.aload_n 0, 1) := by decide +kernel
theorem dX8_owe_114 : decode cX8_owe 114 = .ok (.getfield 20, 3) := by decide +kernel
theorem dX8_owe_117 : decode cX8_owe 117 = .ok (.iload_n 2, 1) := by decide +kernel
theorem dX8_owe_118 : decode cX8_owe 118 = .ok (.iaload, 1) := by decide +kernel
theorem dX8_owe_119 : decode cX8_owe 119 = .ok (.iadd, 1) := by decide +kernel
theorem dX8_owe_120 : decode cX8_owe 120 = .ok (.istore 7, 2) := by decide +kernel
theorem dX8_owe_122 : decode cX8_owe 122 = .ok (.iload 7, 2) := by decide +kernel
theorem dX8_owe_124 : decode cX8_owe 124 = .ok (.iload 5, 2) := by decide +kernel
theorem dX8_owe_126 : decode cX8_owe 126 = .ok (.if_icmp .le 25, 3) := by decide +kernel
theorem dX8_owe_129 : decode cX8_owe 129 = .ok (.aload_n 0, 1) := by decide +kernel
theorem dX8_owe_130 : decode cX8_owe 130 = .ok (.getfield 23, 3) := by decide +kernel
theorem dX8_owe_133 : decode cX8_owe 133 = .ok (.iload 7, 2) := by decide +kernel
theorem dX8_owe_135 : decode cX8_owe 135 = .ok (.aload_n 0, 1) := by decide +kernel
theorem dX8_owe_136 : decode cX8_owe 136 = .ok (.getfield 23, 3) := by decide +kernel
theorem dX8_owe_139 : decode cX8_owe 139 = .ok (.iload 7, 2) := by decide +kernel
theorem dX8_owe_141 : decode cX8_owe 141 = .ok (.iconst 1, 1) := by decide +kernel
theorem dX8_owe_142 : decode cX8_owe 142 = .ok (.isub, 1) := by decide +kernel
theorem dX8_owe_143 : decode cX8_owe 143 = .ok (.iaload, 1) := by decide +kernel
theorem dX8_owe_144 : decode cX8_owe 144 = .ok (.iastore, 1) := by decide +kernel
theorem dX8_owe_145 : decode cX8_owe 145 = .ok (.iinc 7 (-1), 3) := by decide +kernel
theorem dX8_owe_148 : decode cX8_owe 148 = .ok (.goto (-26), 3) := by decide +kernel
theorem dX8_owe_151 : decode cX8_owe 151 = .ok (.aload_n 0, 1) := by decide +kernel
theorem dX8_owe_152 : decode cX8_owe 152 = .ok (.getfield 23, 3) := by decide +kernel
theorem dX8_owe_155 : decode cX8_owe 155 = .ok (.iload 5, 2) := by decide +kernel
theorem dX8_owe_157 : decode cX8_owe 157 = .ok (.iload_n 3, 1) := by decide +kernel
theorem dX8_owe_158 : decode cX8_owe 158 = .ok (.iastore, 1) := by decide +kernel
theorem dX8_owe_159 : decode cX8_owe 159 = .ok (.aload_n 0, 1) := by decide +kernel
theorem dX8_owe_160 : decode cX8_owe 160 = .ok (.getfield 20, 3) := by decide +kernel
theorem dX8_owe_163 : decode cX8_owe 163 = .ok (.iload_n 2, 1) := by decide +kernel
theorem dX8_owe_164 : decode cX8_owe 164 = .ok (.dup2, 1) := by decide +kernel
theorem dX8_owe_165 : decode cX8_owe 165 = .ok (.iaload, 1) := by decide +kernel
theorem dX8_owe_166 : decode cX8_owe 166 = .ok (.iconst 1, 1) := by decide +kernel
theorem dX8_owe_167 : decode cX8_owe 167 = .ok (.iadd, 1) := by decide +kernel
theorem dX8_owe_168 : decode cX8_owe 168 = .ok (.iastore, 1) := by decide +kernel
theorem dX8_owe_169 : decode cX8_owe 169 = .ok (.iconst 1, 1) := by decide +kernel
theorem dX8_owe_170 : decode cX8_owe 170 = .ok (.ireturn, 1) := by decide +kernel
theorem dX8_endsWell_0 : decode cX8_endsWell 0 = .ok (.aload_n 0, 1) := by decide +kernel
theorem dX8_endsWell_1 : decode cX8_endsWell 1 = .ok (.getfield 17, 3) := by decide +kernel
theorem dX8_endsWell_4 : decode cX8_endsWell 4 = .ok (.iload_n 1, 1) := by decide +kernel
theorem dX8_endsWell_5 : decode cX8_endsWell 5 = .ok (.iaload, 1) := by decide +kernel
theorem dX8_endsWell_6 : decode cX8_endsWell 6 = .ok (.ldc 81, 2) := by decide +kernel
theorem dX8_endsWell_8 : decode cX8_endsWell 8 = .ok (.iand, 1) := by decide +kernel
theorem dX8_endsWell_9 : decode cX8_endsWell 9 = .ok (.ifCond .eq 5, 3) := by decide +kernel
