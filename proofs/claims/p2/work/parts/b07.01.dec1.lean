theorem dX11_forced_22 : decode cX11_forced 22 = .ok (.ishr, 1) := by decide +kernel
theorem dX11_forced_23 : decode cX11_forced 23 = .ok (.iconst 1, 1) := by decide +kernel
theorem dX11_forced_24 : decode cX11_forced 24 = .ok (.iand, 1) := by decide +kernel
theorem dX11_forced_25 : decode cX11_forced 25 = .ok (.ifCond .ne 5, 3) := by decide +kernel
theorem dX11_forced_28 : decode cX11_forced 28 = .ok (.iconst (-1), 1) := by decide +kernel
theorem dX11_forced_29 : decode cX11_forced 29 = .ok (.ireturn, 1) := by decide +kernel
theorem dX11_forced_30 : decode cX11_forced 30 = .ok (.aload_n 0, 1) := by decide +kernel
theorem dX11_forced_31 : decode cX11_forced 31 = .ok (.getfield 33, 3) := by decide +kernel
theorem dX11_forced_34 : decode cX11_forced 34 = .ok (.iload_n 2, 1) := by decide +kernel
theorem dX11_forced_35 : decode cX11_forced 35 = .ok (.iconst 1, 1) := by decide +kernel
theorem dX11_forced_36 : decode cX11_forced 36 = .ok (.iload_n 1, 1) := by decide +kernel
theorem dX11_forced_37 : decode cX11_forced 37 = .ok (.ishl, 1) := by decide +kernel
theorem dX11_forced_38 : decode cX11_forced 38 = .ok (.iconst (-1), 1) := by decide +kernel
theorem dX11_forced_39 : decode cX11_forced 39 = .ok (.ixor, 1) := by decide +kernel
theorem dX11_forced_40 : decode cX11_forced 40 = .ok (.iand, 1) := by decide +kernel
theorem dX11_forced_41 : decode cX11_forced 41 = .ok (.invokevirtual 281, 3) := by decide +kernel
theorem dX11_forced_44 : decode cX11_forced 44 = .ok (.ireturn, 1) := by decide +kernel
theorem dX11_ages_0 : decode cX11_ages 0 = .ok (.aload_n 0, 1) := by decide +kernel
theorem dX11_ages_1 : decode cX11_ages 1 = .ok (.iconst 0, 1) := by decide +kernel
theorem dX11_ages_2 : decode cX11_ages 2 = .ok (.putfield 115, 3) := by decide +kernel
theorem dX11_ages_5 : decode cX11_ages 5 = .ok (.aload_n 0, 1) := by decide +kernel
theorem dX11_ages_6 : decode cX11_ages 6 = .ok (.invokevirtual 149, 3) := by decide +kernel
theorem dX11_ages_9 : decode cX11_ages 9 = .ok (.istore_n 1, 1) := by decide +kernel
theorem dX11_ages_10 : decode cX11_ages 10 = .ok (.iload_n 1, 1) := by decide +kernel
theorem dX11_ages_11 : decode cX11_ages 11 = .ok (.iconst (-1), 1) := by decide +kernel
theorem dX11_ages_12 : decode cX11_ages 12 = .ok (.if_icmp .ne 5, 3) := by decide +kernel
theorem dX11_ages_15 : decode cX11_ages 15 = .ok (.iconst (-1), 1) := by decide +kernel
theorem dX11_ages_16 : decode cX11_ages 16 = .ok (.ireturn, 1) := by decide +kernel
theorem dX11_ages_17 : decode cX11_ages 17 = .ok (.aload_n 0, 1) := by decide +kernel
theorem dX11_ages_18 : decode cX11_ages 18 = .ok (.getfield 70, 3) := by decide +kernel
theorem dX11_ages_21 : decode cX11_ages 21 = .ok (.iconst 0, 1) := by decide +kernel
theorem dX11_ages_22 : decode cX11_ages 22 = .ok (.aload_n 0, 1) := by decide +kernel
theorem dX11_ages_23 : decode cX11_ages 23 = .ok (.getfield 67, 3) := by decide +kernel
theorem dX11_ages_26 : decode cX11_ages 26 = .ok (.iconst 0, 1) := by decide +kernel
theorem dX11_ages_27 : decode cX11_ages 27 = .ok (.iload_n 1, 1) := by decide +kernel
theorem dX11_ages_28 : decode cX11_ages 28 = .ok (.invokestatic 179, 3) := by decide +kernel
theorem dX11_ages_31 : decode cX11_ages 31 = .ok (.iconst 0, 1) := by decide +kernel
theorem dX11_ages_32 : decode cX11_ages 32 = .ok (.istore_n 2, 1) := by decide +kernel
theorem dX11_ages_33 : decode cX11_ages 33 = .ok (.iload_n 2, 1) := by decide +kernel
theorem dX11_ages_34 : decode cX11_ages 34 = .ok (.aload_n 0, 1) := by decide +kernel
theorem dX11_ages_35 : decode cX11_ages 35 = .ok (.getfield 24, 3) := by decide +kernel
theorem dX11_ages_38 : decode cX11_ages 38 = .ok (.getfield 98, 3) := by decide +kernel
theorem dX11_ages_41 : decode cX11_ages 41 = .ok (.if_icmp .ge 48, 3) := by decide +kernel
theorem dX11_ages_44 : decode cX11_ages 44 = .ok (.aload_n 0, 1) := by decide +kernel
theorem dX11_ages_45 : decode cX11_ages 45 = .ok (.getfield 33, 3) := by decide +kernel
theorem dX11_ages_48 : decode cX11_ages 48 = .ok (.getfield 185, 3) := by decide +kernel
theorem dX11_ages_51 : decode cX11_ages 51 = .ok (.iload_n 2, 1) := by decide +kernel
theorem dX11_ages_52 : decode cX11_ages 52 = .ok (.iaload, 1) := by decide +kernel
theorem dX11_ages_53 : decode cX11_ages 53 = .ok (.istore_n 3, 1) := by decide +kernel
theorem dX11_ages_54 : decode cX11_ages 54 = .ok (.aload_n 0, 1) := by decide +kernel
theorem dX11_ages_55 : decode cX11_ages 55 = .ok (.getfield 33, 3) := by decide +kernel
theorem dX11_ages_58 : decode cX11_ages 58 = .ok (.getfield 128, 3) := by decide +kernel
theorem dX11_ages_61 : decode cX11_ages 61 = .ok (.iload_n 3, 1) := by decide +kernel
theorem dX11_ages_62 : decode cX11_ages 62 = .ok (.ishr, 1) := by decide +kernel
theorem dX11_ages_63 : decode cX11_ages 63 = .ok (.iconst 1, 1) := by decide +kernel
theorem dX11_ages_64 : decode cX11_ages 64 = .ok (.iand, 1) := by decide +kernel
theorem dX11_ages_65 : decode cX11_ages 65 = .ok (.iconst 1, 1) := by decide +kernel
theorem dX11_ages_66 : decode cX11_ages 66 = .ok (.if_icmp .ne 17, 3) := by decide +kernel
theorem dX11_ages_69 : decode cX11_ages 69 = .ok (.aload_n 0, 1) := by decide +kernel
theorem dX11_ages_70 : decode cX11_ages 70 = .ok (.getfield 24, 3) := by decide +kernel
theorem dX11_ages_73 : decode cX11_ages 73 = .ok (.iload_n 3, 1) := by decide +kernel
theorem dX11_ages_74 : decode cX11_ages 74 = .ok (.aload_n 0, 1) := by decide +kernel
theorem dX11_ages_75 : decode cX11_ages 75 = .ok (.getfield 67, 3) := by decide +kernel
theorem dX11_ages_78 : decode cX11_ages 78 = .ok (.iload_n 1, 1) := by decide +kernel
theorem dX11_ages_79 : decode cX11_ages 79 = .ok (.invokevirtual 188, 3) := by decide +kernel
theorem dX11_ages_82 : decode cX11_ages 82 = .ok (.istore_n 1, 1) := by decide +kernel
theorem dX11_ages_83 : decode cX11_ages 83 = .ok (.iinc 2 1, 3) := by decide +kernel
theorem dX11_ages_86 : decode cX11_ages 86 = .ok (.goto (-53), 3) := by decide +kernel
theorem dX11_ages_89 : decode cX11_ages 89 = .ok (.aload_n 0, 1) := by decide +kernel
theorem dX11_ages_90 : decode cX11_ages 90 = .ok (.iload_n 1, 1) := by decide +kernel
theorem dX11_ages_91 : decode cX11_ages 91 = .ok (.putfield 115, 3) := by decide +kernel
theorem dX11_ages_94 : decode cX11_ages 94 = .ok (.iload_n 1, 1) := by decide +kernel
theorem dX11_ages_95 : decode cX11_ages 95 = .ok (.ireturn, 1) := by decide +kernel
theorem dX0_fillAfter_0 : decode cX0_fillAfter 0 = .ok (.iconst 0, 1) := by decide +kernel
theorem dX0_fillAfter_1 : decode cX0_fillAfter 1 = .ok (.istore_n 3, 1) := by decide +kernel
theorem dX0_fillAfter_2 : decode cX0_fillAfter 2 = .ok (.iload_n 3, 1) := by decide +kernel
theorem dX0_fillAfter_3 : decode cX0_fillAfter 3 = .ok (.aload_n 1, 1) := by decide +kernel
theorem dX0_fillAfter_4 : decode cX0_fillAfter 4 = .ok (.getfield 73, 3) := by decide +kernel
theorem dX0_fillAfter_7 : decode cX0_fillAfter 7 = .ok (.if_icmp .gt 145, 3) := by decide +kernel
theorem dX0_fillAfter_10 : decode cX0_fillAfter 10 = .ok (.iload_n 3, 1) := by decide +kernel
theorem dX0_fillAfter_11 : decode cX0_fillAfter 11 = .ok (.ifCond .ne 7, 3) := by decide +kernel
theorem dX0_fillAfter_14 : decode cX0_fillAfter 14 = .ok (.iconst 0, 1) := by decide +kernel
theorem dX0_fillAfter_15 : decode cX0_fillAfter 15 = .ok (.goto 7, 3) := by decide +kernel
theorem dX0_fillAfter_18 : decode cX0_fillAfter 18 = .ok (.aload_n 1, 1) := by decide +kernel
theorem dX0_fillAfter_19 : decode cX0_fillAfter 19 = .ok (.getfield 73, 3) := by decide +kernel
theorem dX0_fillAfter_22 : decode cX0_fillAfter 22 = .ok (.istore 4, 2) := by decide +kernel
theorem dX0_fillAfter_24 : decode cX0_fillAfter 24 = .ok (.iconst 0, 1) := by decide +kernel
theorem dX0_fillAfter_25 : decode cX0_fillAfter 25 = .ok (.istore 5, 2) := by decide +kernel
theorem dX0_fillAfter_27 : decode cX0_fillAfter 27 = .ok (.iload 5, 2) := by decide +kernel
theorem dX0_fillAfter_29 : decode cX0_fillAfter 29 = .ok (.iload 4, 2) := by decide +kernel
theorem dX0_fillAfter_31 : decode cX0_fillAfter 31 = .ok (.if_icmp .gt 115, 3) := by decide +kernel
theorem dX0_fillAfter_34 : decode cX0_fillAfter 34 = .ok (.aload_n 0, 1) := by decide +kernel
theorem dX0_fillAfter_35 : decode cX0_fillAfter 35 = .ok (.getfield 30, 3) := by decide +kernel
theorem dX0_fillAfter_38 : decode cX0_fillAfter 38 = .ok (.iconst 0, 1) := by decide +kernel
theorem dX0_fillAfter_39 : decode cX0_fillAfter 39 = .ok (.iload_n 3, 1) := by decide +kernel
theorem dX0_fillAfter_40 : decode cX0_fillAfter 40 = .ok (.iastore, 1) := by decide +kernel
theorem dX0_fillAfter_41 : decode cX0_fillAfter 41 = .ok (.aload_n 0, 1) := by decide +kernel
theorem dX0_fillAfter_42 : decode cX0_fillAfter 42 = .ok (.getfield 30, 3) := by decide +kernel
theorem dX0_fillAfter_45 : decode cX0_fillAfter 45 = .ok (.iconst 1, 1) := by decide +kernel
theorem dX0_fillAfter_46 : decode cX0_fillAfter 46 = .ok (.iload 5, 2) := by decide +kernel
theorem dX0_fillAfter_48 : decode cX0_fillAfter 48 = .ok (.iastore, 1) := by decide +kernel
theorem dX0_fillAfter_49 : decode cX0_fillAfter 49 = .ok (.iload_n 3, 1) := by decide +kernel
theorem dX0_fillAfter_50 : decode cX0_fillAfter 50 = .ok (.ifCond .ne 7, 3) := by decide +kernel
theorem dX0_fillAfter_53 : decode cX0_fillAfter 53 = .ok (.iconst 0, 1) := by decide +kernel
theorem dX0_fillAfter_54 : decode cX0_fillAfter 54 = .ok (.goto 13, 3) := by decide +kernel
theorem dX0_fillAfter_57 : decode cX0_fillAfter 57 = .ok (.iload 5, 2) := by decide +kernel
theorem dX0_fillAfter_59 : decode cX0_fillAfter 59 = .ok (.ifCond .ne 7, 3) := by decide +kernel
theorem dX0_fillAfter_62 : decode cX0_fillAfter 62 = .ok (.iconst 1, 1) := by decide +kernel
theorem dX0_fillAfter_63 : decode cX0_fillAfter 63 = .ok (.goto 4, 3) := by decide +kernel
theorem dX0_fillAfter_66 : decode cX0_fillAfter 66 = .ok (.iconst 2, 1) := by decide +kernel
theorem dX0_fillAfter_67 : decode cX0_fillAfter 67 = .ok (.istore 6, 2) := by decide +kernel
theorem dX0_fillAfter_69 : decode cX0_fillAfter 69 = .ok (.aload_n 1, 1) := by decide +kernel
theorem dX0_fillAfter_70 : decode cX0_fillAfter 70 = .ok (.iload_n 2, 1) := by decide +kernel
theorem dX0_fillAfter_71 : decode cX0_fillAfter 71 = .ok (.aload_n 0, 1) := by decide +kernel
theorem dX0_fillAfter_72 : decode cX0_fillAfter 72 = .ok (.getfield 30, 3) := by decide +kernel
theorem dX0_fillAfter_75 : decode cX0_fillAfter 75 = .ok (.iload 6, 2) := by decide +kernel
theorem dX0_fillAfter_77 : decode cX0_fillAfter 77 = .ok (.invokevirtual 76, 3) := by decide +kernel
theorem dX0_fillAfter_80 : decode cX0_fillAfter 80 = .ok (.istore 7, 2) := by decide +kernel
theorem dX0_fillAfter_82 : decode cX0_fillAfter 82 = .ok (.iload 7, 2) := by decide +kernel
theorem dX0_fillAfter_84 : decode cX0_fillAfter 84 = .ok (.ifCond .le 12, 3) := by decide +kernel
theorem dX0_fillAfter_87 : decode cX0_fillAfter 87 = .ok (.aload_n 0, 1) := by decide +kernel
theorem dX0_fillAfter_88 : decode cX0_fillAfter 88 = .ok (.getfield 30, 3) := by decide +kernel
theorem dX0_fillAfter_91 : decode cX0_fillAfter 91 = .ok (.iconst 0, 1) := by decide +kernel
theorem dX0_fillAfter_92 : decode cX0_fillAfter 92 = .ok (.iaload, 1) := by decide +kernel
theorem dX0_fillAfter_93 : decode cX0_fillAfter 93 = .ok (.goto 4, 3) := by decide +kernel
theorem dX0_fillAfter_96 : decode cX0_fillAfter 96 = .ok (.iconst 0, 1) := by decide +kernel
theorem dX0_fillAfter_97 : decode cX0_fillAfter 97 = .ok (.istore 8, 2) := by decide +kernel
theorem dX0_fillAfter_99 : decode cX0_fillAfter 99 = .ok (.iload 7, 2) := by decide +kernel
theorem dX0_fillAfter_101 : decode cX0_fillAfter 101 = .ok (.iconst 1, 1) := by decide +kernel
theorem dX0_fillAfter_102 : decode cX0_fillAfter 102 = .ok (.if_icmp .le 12, 3) := by decide +kernel
theorem dX0_fillAfter_105 : decode cX0_fillAfter 105 = .ok (.aload_n 0, 1) := by decide +kernel
theorem dX0_fillAfter_106 : decode cX0_fillAfter 106 = .ok (.getfield 30, 3) := by decide +kernel
theorem dX0_fillAfter_109 : decode cX0_fillAfter 109 = .ok (.iconst 1, 1) := by decide +kernel
theorem dX0_fillAfter_110 : decode cX0_fillAfter 110 = .ok (.iaload, 1) := by decide +kernel
theorem dX0_fillAfter_111 : decode cX0_fillAfter 111 = .ok (.goto 4, 3) := by decide +kernel
theorem dX0_fillAfter_114 : decode cX0_fillAfter 114 = .ok (.iconst 0, 1) := by decide +kernel
theorem dX0_fillAfter_115 : decode cX0_fillAfter 115 = .ok (.istore 9, 2) := by decide +kernel
theorem dX0_fillAfter_117 : decode cX0_fillAfter 117 = .ok (.aload_n 0, 1) := by decide +kernel
theorem dX0_fillAfter_118 : decode cX0_fillAfter 118 = .ok (.getfield 11, 3) := by decide +kernel
theorem dX0_fillAfter_121 : decode cX0_fillAfter 121 = .ok (.iload_n 2, 1) := by decide +kernel
theorem dX0_fillAfter_122 : decode cX0_fillAfter 122 = .ok (.bipush 73, 2) := by decide +kernel
theorem dX0_fillAfter_124 : decode cX0_fillAfter 124 = .ok (.imul, 1) := by decide +kernel
theorem dX0_fillAfter_125 : decode cX0_fillAfter 125 = .ok (.iload_n 3, 1) := by decide +kernel
theorem dX0_fillAfter_126 : decode cX0_fillAfter 126 = .ok (.iload 5, 2) := by decide +kernel
theorem dX0_fillAfter_128 : decode cX0_fillAfter 128 = .ok (.invokestatic 80, 3) := by decide +kernel
theorem dX0_fillAfter_131 : decode cX0_fillAfter 131 = .ok (.iadd, 1) := by decide +kernel
theorem dX0_fillAfter_132 : decode cX0_fillAfter 132 = .ok (.iload 8, 2) := by decide +kernel
theorem dX0_fillAfter_134 : decode cX0_fillAfter 134 = .ok (.iload 9, 2) := by decide +kernel
theorem dX0_fillAfter_136 : decode cX0_fillAfter 136 = .ok (.invokestatic 80, 3) := by decide +kernel
theorem dX0_fillAfter_139 : decode cX0_fillAfter 139 = .ok (.iastore, 1) := by decide +kernel
theorem dX0_fillAfter_140 : decode cX0_fillAfter 140 = .ok (.iinc 5 1, 3) := by decide +kernel
theorem dX0_fillAfter_143 : decode cX0_fillAfter 143 = .ok (.goto (-116), 3) := by decide +kernel
theorem dX0_fillAfter_146 : decode cX0_fillAfter 146 = .ok (.iinc 3 1, 3) := by decide +kernel
theorem dX0_fillAfter_149 : decode cX0_fillAfter 149 = .ok (.goto (-147), 3) := by decide +kernel
theorem dX0_fillAfter_152 : decode cX0_fillAfter 152 = .ok (.return_, 1) := by decide +kernel
theorem dX0_fillAgrees_0 : decode cX0_fillAgrees 0 = .ok (.aload_n 0, 1) := by decide +kernel
theorem dX0_fillAgrees_1 : decode cX0_fillAgrees 1 = .ok (.getfield 15, 3) := by decide +kernel
theorem dX0_fillAgrees_4 : decode cX0_fillAgrees 4 = .ok (.iconst 0, 1) := by decide +kernel
theorem dX0_fillAgrees_5 : decode cX0_fillAgrees 5 = .ok (.invokestatic 84, 3) := by decide +kernel
theorem dX0_fillAgrees_8 : decode cX0_fillAgrees 8 = .ok (.aload_n 1, 1) := by decide +kernel
theorem dX0_fillAgrees_9 : decode cX0_fillAgrees 9 = .ok (.getfield 43, 3) := by decide +kernel
theorem dX0_fillAgrees_12 : decode cX0_fillAgrees 12 = .ok (.getfield 73, 3) := by decide +kernel
theorem dX0_fillAgrees_15 : decode cX0_fillAgrees 15 = .ok (.istore_n 3, 1) := by decide +kernel
theorem dX0_fillAgrees_16 : decode cX0_fillAgrees 16 = .ok (.iconst 1, 1) := by decide +kernel
theorem dX0_fillAgrees_17 : decode cX0_fillAgrees 17 = .ok (.istore 4, 2) := by decide +kernel
theorem dX0_fillAgrees_19 : decode cX0_fillAgrees 19 = .ok (.iload 4, 2) := by decide +kernel
theorem dX0_fillAgrees_21 : decode cX0_fillAgrees 21 = .ok (.iload_n 3, 1) := by decide +kernel
theorem dX0_fillAgrees_22 : decode cX0_fillAgrees 22 = .ok (.if_icmp .gt 106, 3) := by decide +kernel
theorem dX0_fillAgrees_25 : decode cX0_fillAgrees 25 = .ok (.aload_n 0, 1) := by decide +kernel
theorem dX0_fillAgrees_26 : decode cX0_fillAgrees 26 = .ok (.getfield 37, 3) := by decide +kernel
theorem dX0_fillAgrees_29 : decode cX0_fillAgrees 29 = .ok (.iconst 2, 1) := by decide +kernel
theorem dX0_fillAgrees_30 : decode cX0_fillAgrees 30 = .ok (.if_icmp .ne 7, 3) := by decide +kernel
theorem dX0_fillAgrees_33 : decode cX0_fillAgrees 33 = .ok (.iload_n 3, 1) := by decide +kernel
theorem dX0_fillAgrees_34 : decode cX0_fillAgrees 34 = .ok (.goto 4, 3) := by decide +kernel
theorem dX0_fillAgrees_37 : decode cX0_fillAgrees 37 = .ok (.iconst 0, 1) := by decide +kernel
theorem dX0_fillAgrees_38 : decode cX0_fillAgrees 38 = .ok (.istore 5, 2) := by decide +kernel
theorem dX0_fillAgrees_40 : decode cX0_fillAgrees 40 = .ok (.iconst 0, 1) := by decide +kernel
theorem dX0_fillAgrees_41 : decode cX0_fillAgrees 41 = .ok (.istore 6, 2) := by decide +kernel
theorem dX0_fillAgrees_43 : decode cX0_fillAgrees 43 = .ok (.iload 6, 2) := by decide +kernel
theorem dX0_fillAgrees_45 : decode cX0_fillAgrees 45 = .ok (.iload 5, 2) := by decide +kernel
theorem dX0_fillAgrees_47 : decode cX0_fillAgrees 47 = .ok (.if_icmp .gt 75, 3) := by decide +kernel
theorem dX0_fillAgrees_50 : decode cX0_fillAgrees 50 = .ok (.aload_n 0, 1) := by decide +kernel
theorem dX0_fillAgrees_51 : decode cX0_fillAgrees 51 = .ok (.getfield 30, 3) := by decide +kernel
theorem dX0_fillAgrees_54 : decode cX0_fillAgrees 54 = .ok (.iconst 0, 1) := by decide +kernel
theorem dX0_fillAgrees_55 : decode cX0_fillAgrees 55 = .ok (.iload 4, 2) := by decide +kernel
theorem dX0_fillAgrees_57 : decode cX0_fillAgrees 57 = .ok (.iastore, 1) := by decide +kernel
theorem dX0_fillAgrees_58 : decode cX0_fillAgrees 58 = .ok (.aload_n 0, 1) := by decide +kernel
theorem dX0_fillAgrees_59 : decode cX0_fillAgrees 59 = .ok (.getfield 30, 3) := by decide +kernel
theorem dX0_fillAgrees_62 : decode cX0_fillAgrees 62 = .ok (.iconst 1, 1) := by decide +kernel
theorem dX0_fillAgrees_63 : decode cX0_fillAgrees 63 = .ok (.iload 6, 2) := by decide +kernel
theorem dX0_fillAgrees_65 : decode cX0_fillAgrees 65 = .ok (.iastore, 1) := by decide +kernel
theorem dX0_fillAgrees_66 : decode cX0_fillAgrees 66 = .ok (.aload_n 1, 1) := by decide +kernel
theorem dX0_fillAgrees_67 : decode cX0_fillAgrees 67 = .ok (.aload_n 0, 1) := by decide +kernel
theorem dX0_fillAgrees_68 : decode cX0_fillAgrees 68 = .ok (.getfield 30, 3) := by decide +kernel
theorem dX0_fillAgrees_71 : decode cX0_fillAgrees 71 = .ok (.iload 6, 2) := by decide +kernel
theorem dX0_fillAgrees_73 : decode cX0_fillAgrees 73 = .ok (.ifCond .ne 7, 3) := by decide +kernel
theorem dX0_fillAgrees_76 : decode cX0_fillAgrees 76 = .ok (.iconst 1, 1) := by decide +kernel
theorem dX0_fillAgrees_77 : decode cX0_fillAgrees 77 = .ok (.goto 4, 3) := by decide +kernel
theorem dX0_fillAgrees_80 : decode cX0_fillAgrees 80 = .ok (.iconst 2, 1) := by decide +kernel
theorem dX0_fillAgrees_81 : decode cX0_fillAgrees 81 = .ok (.invokevirtual 90, 3) := by decide +kernel
theorem dX0_fillAgrees_84 : decode cX0_fillAgrees 84 = .ok (.aload_n 1, 1) := by decide +kernel
theorem dX0_fillAgrees_85 : decode cX0_fillAgrees 85 = .ok (.aload_n 2, 1) := by decide +kernel
theorem dX0_fillAgrees_86 : decode cX0_fillAgrees 86 = .ok (.getfield 54, 3) := by decide +kernel
theorem dX0_fillAgrees_89 : decode cX0_fillAgrees 89 = .ok (.aload_n 2, 1) := by decide +kernel
theorem dX0_fillAgrees_90 : decode cX0_fillAgrees 90 = .ok (.getfield 54, 3) := by decide +kernel
theorem dX0_fillAgrees_93 : decode cX0_fillAgrees 93 = .ok (.aload_n 2, 1) := by decide +kernel
theorem dX0_fillAgrees_94 : decode cX0_fillAgrees 94 = .ok (.getfield 54, 3) := by decide +kernel
theorem dX0_fillAgrees_97 : decode cX0_fillAgrees 97 = .ok (.aload_n 2, 1) := by decide +kernel
theorem dX0_fillAgrees_98 : decode cX0_fillAgrees 98 = .ok (.getfield 93, 3) := by decide +kernel
theorem dX0_fillAgrees_101 : decode cX0_fillAgrees 101 = .ok (.invokevirtual 96, 3) := by decide +kernel
theorem dX0_fillAgrees_104 : decode cX0_fillAgrees 104 = .ok (.aload_n 0, 1) := by decide +kernel
theorem dX0_fillAgrees_105 : decode cX0_fillAgrees 105 = .ok (.aload_n 1, 1) := by decide +kernel
theorem dX0_fillAgrees_106 : decode cX0_fillAgrees 106 = .ok (.iload 4, 2) := by decide +kernel
theorem dX0_fillAgrees_108 : decode cX0_fillAgrees 108 = .ok (.iload 6, 2) := by decide +kernel
theorem dX0_fillAgrees_110 : decode cX0_fillAgrees 110 = .ok (.invokestatic 80, 3) := by decide +kernel
theorem dX0_fillAgrees_113 : decode cX0_fillAgrees 113 = .ok (.invokevirtual 100, 3) := by decide +kernel
theorem dX0_fillAgrees_116 : decode cX0_fillAgrees 116 = .ok (.iinc 6 1, 3) := by decide +kernel
theorem dX0_fillAgrees_119 : decode cX0_fillAgrees 119 = .ok (.goto (-76), 3) := by decide +kernel
theorem dX0_fillAgrees_122 : decode cX0_fillAgrees 122 = .ok (.iinc 4 1, 3) := by decide +kernel
theorem dX0_fillAgrees_125 : decode cX0_fillAgrees 125 = .ok (.goto (-106), 3) := by decide +kernel
theorem dX0_fillAgrees_128 : decode cX0_fillAgrees 128 = .ok (.return_, 1) := by decide +kernel
theorem dX0_refresh_0 : decode cX0_refresh 0 = .ok (.aload_n 0, 1) := by decide +kernel
theorem dX0_refresh_1 : decode cX0_refresh 1 = .ok (.getfield 33, 3) := by decide +kernel
theorem dX0_refresh_4 : decode cX0_refresh 4 = .ok (.iload 4, 2) := by decide +kernel
theorem dX0_refresh_6 : decode cX0_refresh 6 = .ok (.if_icmp .ne 12, 3) := by decide +kernel
theorem dX0_refresh_9 : decode cX0_refresh 9 = .ok (.aload_n 0, 1) := by decide +kernel
theorem dX0_refresh_10 : decode cX0_refresh 10 = .ok (.getfield 37, 3) := by decide +kernel
theorem dX0_refresh_13 : decode cX0_refresh 13 = .ok (.iload_n 1, 1) := by decide +kernel
theorem dX0_refresh_14 : decode cX0_refresh 14 = .ok (.if_icmp .ne 4, 3) := by decide +kernel
theorem dX0_refresh_17 : decode cX0_refresh 17 = .ok (.return_, 1) := by decide +kernel
theorem dX0_refresh_18 : decode cX0_refresh 18 = .ok (.aload_n 0, 1) := by decide +kernel
theorem dX0_refresh_19 : decode cX0_refresh 19 = .ok (.iload 4, 2) := by decide +kernel
theorem dX0_refresh_21 : decode cX0_refresh 21 = .ok (.putfield 33, 3) := by decide +kernel
theorem dX0_refresh_24 : decode cX0_refresh 24 = .ok (.aload_n 0, 1) := by decide +kernel
theorem dX0_refresh_25 : decode cX0_refresh 25 = .ok (.iload_n 1, 1) := by decide +kernel
theorem dX0_refresh_26 : decode cX0_refresh 26 = .ok (.putfield 37, 3) := by decide +kernel
theorem dX0_refresh_29 : decode cX0_refresh 29 = .ok (.aload_n 0, 1) := by decide +kernel
theorem dX0_refresh_30 : decode cX0_refresh 30 = .ok (.iconst 0, 1) := by decide +kernel
theorem dX0_refresh_31 : decode cX0_refresh 31 = .ok (.putfield 40, 3) := by decide +kernel
theorem dX0_refresh_34 : decode cX0_refresh 34 = .ok (.iconst 0, 1) := by decide +kernel
theorem dX0_refresh_35 : decode cX0_refresh 35 = .ok (.istore 5, 2) := by decide +kernel
theorem dX0_refresh_37 : decode cX0_refresh 37 = .ok (.iload 5, 2) := by decide +kernel
theorem dX0_refresh_39 : decode cX0_refresh 39 = .ok (.aload_n 2, 1) := by decide +kernel
theorem dX0_refresh_40 : decode cX0_refresh 40 = .ok (.getfield 43, 3) := by decide +kernel
theorem dX0_refresh_43 : decode cX0_refresh 43 = .ok (.getfield 49, 3) := by decide +kernel
theorem dX0_refresh_46 : decode cX0_refresh 46 = .ok (.if_icmp .ge 62, 3) := by decide +kernel
theorem dX0_refresh_49 : decode cX0_refresh 49 = .ok (.aload_n 3, 1) := by decide +kernel
theorem dX0_refresh_50 : decode cX0_refresh 50 = .ok (.getfield 54, 3) := by decide +kernel
theorem dX0_refresh_53 : decode cX0_refresh 53 = .ok (.iload 5, 2) := by decide +kernel
theorem dX0_refresh_55 : decode cX0_refresh 55 = .ok (.ishr, 1) := by decide +kernel
theorem dX0_refresh_56 : decode cX0_refresh 56 = .ok (.iconst 1, 1) := by decide +kernel
theorem dX0_refresh_57 : decode cX0_refresh 57 = .ok (.iand, 1) := by decide +kernel
theorem dX0_refresh_58 : decode cX0_refresh 58 = .ok (.iconst 1, 1) := by decide +kernel
theorem dX0_refresh_59 : decode cX0_refresh 59 = .ok (.if_icmp .ne 43, 3) := by decide +kernel
theorem dX0_refresh_62 : decode cX0_refresh 62 = .ok (.aload_n 0, 1) := by decide +kernel
theorem dX0_refresh_63 : decode cX0_refresh 63 = .ok (.getfield 40, 3) := by decide +kernel
theorem dX0_refresh_66 : decode cX0_refresh 66 = .ok (.bipush 6, 2) := by decide +kernel
theorem dX0_refresh_68 : decode cX0_refresh 68 = .ok (.if_icmp .ge 34, 3) := by decide +kernel
theorem dX0_refresh_71 : decode cX0_refresh 71 = .ok (.aload_n 0, 1) := by decide +kernel
theorem dX0_refresh_72 : decode cX0_refresh 72 = .ok (.getfield 18, 3) := by decide +kernel
theorem dX0_refresh_75 : decode cX0_refresh 75 = .ok (.aload_n 0, 1) := by decide +kernel
theorem dX0_refresh_76 : decode cX0_refresh 76 = .ok (.getfield 40, 3) := by decide +kernel
theorem dX0_refresh_79 : decode cX0_refresh 79 = .ok (.iload 5, 2) := by decide +kernel
theorem dX0_refresh_81 : decode cX0_refresh 81 = .ok (.iastore, 1) := by decide +kernel
theorem dX0_refresh_82 : decode cX0_refresh 82 = .ok (.aload_n 0, 1) := by decide +kernel
theorem dX0_refresh_83 : decode cX0_refresh 83 = .ok (.dup, 1) := by decide +kernel
theorem dX0_refresh_84 : decode cX0_refresh 84 = .ok (.getfield 40, 3) := by decide +kernel
theorem dX0_refresh_87 : decode cX0_refresh 87 = .ok (.iconst 1, 1) := by decide +kernel
theorem dX0_refresh_88 : decode cX0_refresh 88 = .ok (.iadd, 1) := by decide +kernel
theorem dX0_refresh_89 : decode cX0_refresh 89 = .ok (.putfield 40, 3) := by decide +kernel
theorem dX0_refresh_92 : decode cX0_refresh 92 = .ok (.aload_n 0, 1) := by decide +kernel
theorem dX0_refresh_93 : decode cX0_refresh 93 = .ok (.aload_n 2, 1) := by decide +kernel
theorem dX0_refresh_94 : decode cX0_refresh 94 = .ok (.getfield 43, 3) := by decide +kernel
theorem dX0_refresh_97 : decode cX0_refresh 97 = .ok (.iload 5, 2) := by decide +kernel
theorem dX0_refresh_99 : decode cX0_refresh 99 = .ok (.invokevirtual 58, 3) := by decide +kernel
theorem dX0_refresh_102 : decode cX0_refresh 102 = .ok (.iinc 5 1, 3) := by decide +kernel
theorem dX0_refresh_105 : decode cX0_refresh 105 = .ok (.goto (-68), 3) := by decide +kernel
theorem dX0_refresh_108 : decode cX0_refresh 108 = .ok (.aload_n 0, 1) := by decide +kernel
theorem dX0_refresh_109 : decode cX0_refresh 109 = .ok (.aload_n 2, 1) := by decide +kernel
theorem dX0_refresh_110 : decode cX0_refresh 110 = .ok (.aload_n 3, 1) := by decide +kernel
theorem dX0_refresh_111 : decode cX0_refresh 111 = .ok (.invokevirtual 62, 3) := by decide +kernel
theorem dX0_refresh_114 : decode cX0_refresh 114 = .ok (.iconst 0, 1) := by decide +kernel
theorem dX0_refresh_115 : decode cX0_refresh 115 = .ok (.istore 5, 2) := by decide +kernel
theorem dX0_refresh_117 : decode cX0_refresh 117 = .ok (.iload 5, 2) := by decide +kernel
theorem dX0_refresh_119 : decode cX0_refresh 119 = .ok (.bipush 73, 2) := by decide +kernel
theorem dX0_refresh_121 : decode cX0_refresh 121 = .ok (.if_icmp .ge 18, 3) := by decide +kernel
theorem dX0_refresh_124 : decode cX0_refresh 124 = .ok (.aload_n 0, 1) := by decide +kernel
theorem dX0_refresh_125 : decode cX0_refresh 125 = .ok (.getfield 24, 3) := by decide +kernel
theorem dX0_refresh_128 : decode cX0_refresh 128 = .ok (.iload 5, 2) := by decide +kernel
theorem dX0_refresh_130 : decode cX0_refresh 130 = .ok (.iload 5, 2) := by decide +kernel
theorem dX0_refresh_132 : decode cX0_refresh 132 = .ok (.iastore, 1) := by decide +kernel
theorem dX0_refresh_133 : decode cX0_refresh 133 = .ok (.iinc 5 1, 3) := by decide +kernel
theorem dX0_refresh_136 : decode cX0_refresh 136 = .ok (.goto (-19), 3) := by decide +kernel
theorem dX0_refresh_139 : decode cX0_refresh 139 = .ok (.aload_n 0, 1) := by decide +kernel
theorem dX0_refresh_140 : decode cX0_refresh 140 = .ok (.iconst (-1), 1) := by decide +kernel
theorem dX0_refresh_141 : decode cX0_refresh 141 = .ok (.putfield 66, 3) := by decide +kernel
theorem dX0_refresh_144 : decode cX0_refresh 144 = .ok (.aload_n 0, 1) := by decide +kernel
theorem dX0_refresh_145 : decode cX0_refresh 145 = .ok (.iconst 0, 1) := by decide +kernel
theorem dX0_refresh_146 : decode cX0_refresh 146 = .ok (.iconst 0, 1) := by decide +kernel
theorem dX0_refresh_147 : decode cX0_refresh 147 = .ok (.invokevirtual 69, 3) := by decide +kernel
theorem dX0_refresh_150 : decode cX0_refresh 150 = .ok (.return_, 1) := by decide +kernel
theorem dX11_orders_0 : decode cX11_orders 0 = .ok (.aload_n 0, 1) := by decide +kernel
theorem dX11_orders_1 : decode cX11_orders 1 = .ok (.getfield 33, 3) := by decide +kernel
theorem dX11_orders_4 : decode cX11_orders 4 = .ok (.getfield 128, 3) := by decide +kernel
theorem dX11_orders_7 : decode cX11_orders 7 = .ok (.invokestatic 212, 3) := by decide +kernel
theorem dX11_orders_10 : decode cX11_orders 10 = .ok (.istore_n 3, 1) := by decide +kernel
theorem dX11_orders_11 : decode cX11_orders 11 = .ok (.iload_n 2, 1) := by decide +kernel
theorem dX11_orders_12 : decode cX11_orders 12 = .ok (.bipush 10, 2) := by decide +kernel
theorem dX11_orders_14 : decode cX11_orders 14 = .ok (.if_icmp .lt 15, 3) := by decide +kernel
theorem dX11_orders_17 : decode cX11_orders 17 = .ok (.iload_n 2, 1) := by decide +kernel
theorem dX11_orders_18 : decode cX11_orders 18 = .ok (.bipush 10, 2) := by decide +kernel
theorem dX11_orders_20 : decode cX11_orders 20 = .ok (.isub, 1) := by decide +kernel
theorem dX11_orders_21 : decode cX11_orders 21 = .ok (.iload_n 3, 1) := by decide +kernel
theorem dX11_orders_22 : decode cX11_orders 22 = .ok (.if_icmp .ge 7, 3) := by decide +kernel
theorem dX11_orders_25 : decode cX11_orders 25 = .ok (.iconst 1, 1) := by decide +kernel
theorem dX11_orders_26 : decode cX11_orders 26 = .ok (.goto 4, 3) := by decide +kernel
theorem dX11_orders_29 : decode cX11_orders 29 = .ok (.iconst 0, 1) := by decide +kernel
theorem dX11_orders_30 : decode cX11_orders 30 = .ok (.istore 4, 2) := by decide +kernel
theorem dX11_orders_32 : decode cX11_orders 32 = .ok (.iload_n 1, 1) := by decide +kernel
theorem dX11_orders_33 : decode cX11_orders 33 = .ok (.iconst 1, 1) := by decide +kernel
theorem dX11_orders_34 : decode cX11_orders 34 = .ok (.if_icmp .lt 28, 3) := by decide +kernel
theorem dX11_orders_37 : decode cX11_orders 37 = .ok (.iload_n 1, 1) := by decide +kernel
theorem dX11_orders_38 : decode cX11_orders 38 = .ok (.iconst 2, 1) := by decide +kernel
theorem dX11_orders_39 : decode cX11_orders 39 = .ok (.if_icmp .gt 23, 3) := by decide +kernel
theorem dX11_orders_42 : decode cX11_orders 42 = .ok (.iload_n 3, 1) := by decide +kernel
theorem dX11_orders_43 : decode cX11_orders 43 = .ok (.bipush 6, 2) := by decide +kernel
theorem dX11_orders_45 : decode cX11_orders 45 = .ok (.if_icmp .gt 17, 3) := by decide +kernel
theorem dX11_orders_48 : decode cX11_orders 48 = .ok (.iload_n 2, 1) := by decide +kernel
theorem dX11_orders_49 : decode cX11_orders 49 = .ok (.ifCond .eq 15, 3) := by decide +kernel
theorem dX11_orders_52 : decode cX11_orders 52 = .ok (.iload_n 2, 1) := by decide +kernel
theorem dX11_orders_53 : decode cX11_orders 53 = .ok (.iconst 1, 1) := by decide +kernel
theorem dX11_orders_54 : decode cX11_orders 54 = .ok (.if_icmp .eq 10, 3) := by decide +kernel
theorem dX11_orders_57 : decode cX11_orders 57 = .ok (.iload 4, 2) := by decide +kernel
theorem dX11_orders_59 : decode cX11_orders 59 = .ok (.ifCond .ne 5, 3) := by decide +kernel
theorem dX11_orders_62 : decode cX11_orders 62 = .ok (.iconst (-1), 1) := by decide +kernel
theorem dX11_orders_63 : decode cX11_orders 63 = .ok (.ireturn, 1) := by decide +kernel
theorem dX11_orders_64 : decode cX11_orders 64 = .ok (.aload_n 0, 1) := by decide +kernel
theorem dX11_orders_65 : decode cX11_orders 65 = .ok (.getfield 56, 3) := by decide +kernel
theorem dX11_orders_68 : decode cX11_orders 68 = .ok (.iload_n 1, 1) := by decide +kernel
theorem dX11_orders_69 : decode cX11_orders 69 = .ok (.aload_n 0, 1) := by decide +kernel
theorem dX11_orders_70 : decode cX11_orders 70 = .ok (.getfield 16, 3) := by decide +kernel
theorem dX11_orders_73 : decode cX11_orders 73 = .ok (.aload_n 0, 1) := by decide +kernel
theorem dX11_orders_74 : decode cX11_orders 74 = .ok (.getfield 33, 3) := by decide +kernel
theorem dX11_orders_77 : decode cX11_orders 77 = .ok (.aload_n 0, 1) := by decide +kernel
theorem dX11_orders_78 : decode cX11_orders 78 = .ok (.getfield 104, 3) := by decide +kernel
theorem dX11_orders_81 : decode cX11_orders 81 = .ok (.invokevirtual 217, 3) := by decide +kernel
theorem dX11_orders_84 : decode cX11_orders 84 = .ok (.iload 4, 2) := by decide +kernel
theorem dX11_orders_86 : decode cX11_orders 86 = .ok (.ifCond .eq 16, 3) := by decide +kernel
theorem dX11_orders_89 : decode cX11_orders 89 = .ok (.aload_n 0, 1) := by decide +kernel
theorem dX11_orders_90 : decode cX11_orders 90 = .ok (.getfield 56, 3) := by decide +kernel
theorem dX11_orders_93 : decode cX11_orders 93 = .ok (.getfield 221, 3) := by decide +kernel
theorem dX11_orders_96 : decode cX11_orders 96 = .ok (.iload_n 2, 1) := by decide +kernel
theorem dX11_orders_97 : decode cX11_orders 97 = .ok (.bipush 10, 2) := by decide +kernel
theorem dX11_orders_99 : decode cX11_orders 99 = .ok (.isub, 1) := by decide +kernel
theorem dX11_orders_100 : decode cX11_orders 100 = .ok (.iaload, 1) := by decide +kernel
theorem dX11_orders_101 : decode cX11_orders 101 = .ok (.ireturn, 1) := by decide +kernel
theorem dX11_orders_102 : decode cX11_orders 102 = .ok (.iload_n 2, 1) := by decide +kernel
theorem dX11_orders_103 : decode cX11_orders 103 = .ok (.ifCond .ne 13, 3) := by decide +kernel
theorem dX11_orders_106 : decode cX11_orders 106 = .ok (.aload_n 0, 1) := by decide +kernel
theorem dX11_orders_107 : decode cX11_orders 107 = .ok (.getfield 56, 3) := by decide +kernel
theorem dX11_orders_110 : decode cX11_orders 110 = .ok (.getfield 224, 3) := by decide +kernel
theorem dX11_orders_113 : decode cX11_orders 113 = .ok (.goto 17, 3) := by decide +kernel
theorem dX11_orders_116 : decode cX11_orders 116 = .ok (.aload_n 0, 1) := by decide +kernel
theorem dX11_orders_117 : decode cX11_orders 117 = .ok (.getfield 56, 3) := by decide +kernel
theorem dX11_orders_120 : decode cX11_orders 120 = .ok (.aload_n 0, 1) := by decide +kernel
theorem dX11_orders_121 : decode cX11_orders 121 = .ok (.getfield 24, 3) := by decide +kernel
theorem dX11_orders_124 : decode cX11_orders 124 = .ok (.getfield 201, 3) := by decide +kernel
theorem dX11_orders_127 : decode cX11_orders 127 = .ok (.invokevirtual 227, 3) := by decide +kernel
theorem dX11_orders_130 : decode cX11_orders 130 = .ok (.ireturn, 1) := by decide +kernel
