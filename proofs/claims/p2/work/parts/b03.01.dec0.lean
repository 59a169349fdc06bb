theorem dX4_holdsAt_0 : decode cX4_holdsAt 0 = .ok (.aload_n 0, 1) := by decide +kernel
theorem dX4_holdsAt_1 : decode cX4_holdsAt 1 = .ok (.getfield 25, 3) := by decide +kernel
theorem dX4_holdsAt_4 : decode cX4_holdsAt 4 = .ok (.iload_n 1, 1) := by decide +kernel
theorem dX4_holdsAt_5 : decode cX4_holdsAt 5 = .ok (.invokestatic 110, 3) := by decide +kernel
theorem dX4_holdsAt_8 : decode cX4_holdsAt 8 = .ok (.iaload, 1) := by decide +kernel
theorem dX4_holdsAt_9 : decode cX4_holdsAt 9 = .ok (.istore 5, 2) := by decide +kernel
theorem dX4_holdsAt_11 : decode cX4_holdsAt 11 = .ok (.iload 4, 2) := by decide +kernel
theorem dX4_holdsAt_13 : decode cX4_holdsAt 13 = .ok (.iconst 1, 1) := by decide +kernel
theorem dX4_holdsAt_14 : decode cX4_holdsAt 14 = .ok (.iadd, 1) := by decide +kernel
theorem dX4_holdsAt_15 : decode cX4_holdsAt 15 = .ok (.istore 6, 2) := by decide +kernel
theorem dX4_holdsAt_17 : decode cX4_holdsAt 17 = .ok (.iload 6, 2) := by decide +kernel
theorem dX4_holdsAt_19 : decode cX4_holdsAt 19 = .ok (.iload_n 3, 1) := by decide +kernel
theorem dX4_holdsAt_20 : decode cX4_holdsAt 20 = .ok (.if_icmp .ge 41, 3) := by decide +kernel
theorem dX4_holdsAt_23 : decode cX4_holdsAt 23 = .ok (.iload 5, 2) := by decide +kernel
theorem dX4_holdsAt_25 : decode cX4_holdsAt 25 = .ok (.ifCond .eq 36, 3) := by decide +kernel
theorem dX4_holdsAt_28 : decode cX4_holdsAt 28 = .ok (.iload 5, 2) := by decide +kernel
theorem dX4_holdsAt_30 : decode cX4_holdsAt 30 = .ok (.aload_n 0, 1) := by decide +kernel
theorem dX4_holdsAt_31 : decode cX4_holdsAt 31 = .ok (.getfield 60, 3) := by decide +kernel
theorem dX4_holdsAt_34 : decode cX4_holdsAt 34 = .ok (.iand, 1) := by decide +kernel
theorem dX4_holdsAt_35 : decode cX4_holdsAt 35 = .ok (.ifCond .eq 5, 3) := by decide +kernel
theorem dX4_holdsAt_38 : decode cX4_holdsAt 38 = .ok (.iconst 1, 1) := by decide +kernel
theorem dX4_holdsAt_39 : decode cX4_holdsAt 39 = .ok (.ireturn, 1) := by decide +kernel
theorem dX4_holdsAt_40 : decode cX4_holdsAt 40 = .ok (.aload_n 0, 1) := by decide +kernel
theorem dX4_holdsAt_41 : decode cX4_holdsAt 41 = .ok (.getfield 18, 3) := by decide +kernel
theorem dX4_holdsAt_44 : decode cX4_holdsAt 44 = .ok (.iload 5, 2) := by decide +kernel
theorem dX4_holdsAt_46 : decode cX4_holdsAt 46 = .ok (.aload_n 2, 1) := by decide +kernel
theorem dX4_holdsAt_47 : decode cX4_holdsAt 47 = .ok (.iload 6, 2) := by decide +kernel
theorem dX4_holdsAt_49 : decode cX4_holdsAt 49 = .ok (.iaload, 1) := by decide +kernel
theorem dX4_holdsAt_50 : decode cX4_holdsAt 50 = .ok (.invokevirtual 107, 3) := by decide +kernel
theorem dX4_holdsAt_53 : decode cX4_holdsAt 53 = .ok (.istore 5, 2) := by decide +kernel
theorem dX4_holdsAt_55 : decode cX4_holdsAt 55 = .ok (.iinc 6 1, 3) := by decide +kernel
theorem dX4_holdsAt_58 : decode cX4_holdsAt 58 = .ok (.goto (-41), 3) := by decide +kernel
theorem dX4_holdsAt_61 : decode cX4_holdsAt 61 = .ok (.iload 5, 2) := by decide +kernel
theorem dX4_holdsAt_63 : decode cX4_holdsAt 63 = .ok (.ldc 113, 2) := by decide +kernel
theorem dX4_holdsAt_65 : decode cX4_holdsAt 65 = .ok (.iand, 1) := by decide +kernel
theorem dX4_holdsAt_66 : decode cX4_holdsAt 66 = .ok (.ifCond .eq 7, 3) := by decide +kernel
theorem dX4_holdsAt_69 : decode cX4_holdsAt 69 = .ok (.iconst 1, 1) := by decide +kernel
theorem dX4_holdsAt_70 : decode cX4_holdsAt 70 = .ok (.goto 4, 3) := by decide +kernel
theorem dX4_holdsAt_73 : decode cX4_holdsAt 73 = .ok (.iconst 0, 1) := by decide +kernel
theorem dX4_holdsAt_74 : decode cX4_holdsAt 74 = .ok (.ireturn, 1) := by decide +kernel
theorem dX4_firstBreak_0 : decode cX4_firstBreak 0 = .ok (.aload_n 0, 1) := by decide +kernel
theorem dX4_firstBreak_1 : decode cX4_firstBreak 1 = .ok (.getfield 54, 3) := by decide +kernel
theorem dX4_firstBreak_4 : decode cX4_firstBreak 4 = .ok (.istore_n 3, 1) := by decide +kernel
theorem dX4_firstBreak_5 : decode cX4_firstBreak 5 = .ok (.iconst 0, 1) := by decide +kernel
theorem dX4_firstBreak_6 : decode cX4_firstBreak 6 = .ok (.istore 4, 2) := by decide +kernel
theorem dX4_firstBreak_8 : decode cX4_firstBreak 8 = .ok (.iload 4, 2) := by decide +kernel
theorem dX4_firstBreak_10 : decode cX4_firstBreak 10 = .ok (.iload_n 2, 1) := by decide +kernel
theorem dX4_firstBreak_11 : decode cX4_firstBreak 11 = .ok (.if_icmp .ge 69, 3) := by decide +kernel
theorem dX4_firstBreak_14 : decode cX4_firstBreak 14 = .ok (.aload_n 0, 1) := by decide +kernel
theorem dX4_firstBreak_15 : decode cX4_firstBreak 15 = .ok (.getfield 21, 3) := by decide +kernel
theorem dX4_firstBreak_18 : decode cX4_firstBreak 18 = .ok (.aload_n 1, 1) := by decide +kernel
theorem dX4_firstBreak_19 : decode cX4_firstBreak 19 = .ok (.iload 4, 2) := by decide +kernel
theorem dX4_firstBreak_21 : decode cX4_firstBreak 21 = .ok (.iaload, 1) := by decide +kernel
theorem dX4_firstBreak_22 : decode cX4_firstBreak 22 = .ok (.iaload, 1) := by decide +kernel
theorem dX4_firstBreak_23 : decode cX4_firstBreak 23 = .ok (.istore 5, 2) := by decide +kernel
theorem dX4_firstBreak_25 : decode cX4_firstBreak 25 = .ok (.iload 5, 2) := by decide +kernel
theorem dX4_firstBreak_27 : decode cX4_firstBreak 27 = .ok (.ifCond .eq 29, 3) := by decide +kernel
theorem dX4_firstBreak_30 : decode cX4_firstBreak 30 = .ok (.aload_n 0, 1) := by decide +kernel
theorem dX4_firstBreak_31 : decode cX4_firstBreak 31 = .ok (.iload_n 3, 1) := by decide +kernel
theorem dX4_firstBreak_32 : decode cX4_firstBreak 32 = .ok (.aload_n 1, 1) := by decide +kernel
theorem dX4_firstBreak_33 : decode cX4_firstBreak 33 = .ok (.iload_n 2, 1) := by decide +kernel
theorem dX4_firstBreak_34 : decode cX4_firstBreak 34 = .ok (.iload 4, 2) := by decide +kernel
theorem dX4_firstBreak_36 : decode cX4_firstBreak 36 = .ok (.invokevirtual 103, 3) := by decide +kernel
theorem dX4_firstBreak_39 : decode cX4_firstBreak 39 = .ok (.iload 5, 2) := by decide +kernel
theorem dX4_firstBreak_41 : decode cX4_firstBreak 41 = .ok (.iconst 2, 1) := by decide +kernel
theorem dX4_firstBreak_42 : decode cX4_firstBreak 42 = .ok (.if_icmp .ne 7, 3) := by decide +kernel
theorem dX4_firstBreak_45 : decode cX4_firstBreak 45 = .ok (.iconst 1, 1) := by decide +kernel
theorem dX4_firstBreak_46 : decode cX4_firstBreak 46 = .ok (.goto 4, 3) := by decide +kernel
theorem dX4_firstBreak_49 : decode cX4_firstBreak 49 = .ok (.iconst 0, 1) := by decide +kernel
theorem dX4_firstBreak_50 : decode cX4_firstBreak 50 = .ok (.if_icmp .ne 6, 3) := by decide +kernel
theorem dX4_firstBreak_53 : decode cX4_firstBreak 53 = .ok (.iload 4, 2) := by decide +kernel
theorem dX4_firstBreak_55 : decode cX4_firstBreak 55 = .ok (.ireturn, 1) := by decide +kernel
theorem dX4_firstBreak_56 : decode cX4_firstBreak 56 = .ok (.aload_n 0, 1) := by decide +kernel
theorem dX4_firstBreak_57 : decode cX4_firstBreak 57 = .ok (.getfield 12, 3) := by decide +kernel
theorem dX4_firstBreak_60 : decode cX4_firstBreak 60 = .ok (.iload_n 3, 1) := by decide +kernel
theorem dX4_firstBreak_61 : decode cX4_firstBreak 61 = .ok (.aload_n 1, 1) := by decide +kernel
theorem dX4_firstBreak_62 : decode cX4_firstBreak 62 = .ok (.iload 4, 2) := by decide +kernel
theorem dX4_firstBreak_64 : decode cX4_firstBreak 64 = .ok (.iaload, 1) := by decide +kernel
theorem dX4_firstBreak_65 : decode cX4_firstBreak 65 = .ok (.invokevirtual 107, 3) := by decide +kernel
theorem dX4_firstBreak_68 : decode cX4_firstBreak 68 = .ok (.aload_n 0, 1) := by decide +kernel
theorem dX4_firstBreak_69 : decode cX4_firstBreak 69 = .ok (.getfield 57, 3) := by decide +kernel
theorem dX4_firstBreak_72 : decode cX4_firstBreak 72 = .ok (.ior, 1) := by decide +kernel
theorem dX4_firstBreak_73 : decode cX4_firstBreak 73 = .ok (.istore_n 3, 1) := by decide +kernel
theorem dX4_firstBreak_74 : decode cX4_firstBreak 74 = .ok (.iinc 4 1, 3) := by decide +kernel
theorem dX4_firstBreak_77 : decode cX4_firstBreak 77 = .ok (.goto (-69), 3) := by decide +kernel
theorem dX4_firstBreak_80 : decode cX4_firstBreak 80 = .ok (.iconst (-1), 1) := by decide +kernel
theorem dX4_firstBreak_81 : decode cX4_firstBreak 81 = .ok (.ireturn, 1) := by decide +kernel
theorem dX7_ageBy_0 : decode cX7_ageBy 0 = .ok (.aload_n 0, 1) := by decide +kernel
theorem dX7_ageBy_1 : decode cX7_ageBy 1 = .ok (.getfield 41, 3) := by decide +kernel
theorem dX7_ageBy_4 : decode cX7_ageBy 4 = .ok (.iload_n 1, 1) := by decide +kernel
theorem dX7_ageBy_5 : decode cX7_ageBy 5 = .ok (.aaload, 1) := by decide +kernel
theorem dX7_ageBy_6 : decode cX7_ageBy 6 = .ok (.astore 4, 2) := by decide +kernel
theorem dX7_ageBy_8 : decode cX7_ageBy 8 = .ok (.aload 4, 2) := by decide +kernel
theorem dX7_ageBy_10 : decode cX7_ageBy 10 = .ok (.getfield 105, 3) := by decide +kernel
theorem dX7_ageBy_13 : decode cX7_ageBy 13 = .ok (.iconst 3, 1) := by decide +kernel
theorem dX7_ageBy_14 : decode cX7_ageBy 14 = .ok (.if_icmp .eq 11, 3) := by decide +kernel
theorem dX7_ageBy_17 : decode cX7_ageBy 17 = .ok (.aload 4, 2) := by decide +kernel
theorem dX7_ageBy_19 : decode cX7_ageBy 19 = .ok (.getfield 108, 3) := by decide +kernel
theorem dX7_ageBy_22 : decode cX7_ageBy 22 = .ok (.ifCond .ne 5, 3) := by decide +kernel
theorem dX7_ageBy_25 : decode cX7_ageBy 25 = .ok (.iload_n 3, 1) := by decide +kernel
theorem dX7_ageBy_26 : decode cX7_ageBy 26 = .ok (.ireturn, 1) := by decide +kernel
theorem dX7_ageBy_27 : decode cX7_ageBy 27 = .ok (.iconst 0, 1) := by decide +kernel
theorem dX7_ageBy_28 : decode cX7_ageBy 28 = .ok (.istore 5, 2) := by decide +kernel
theorem dX7_ageBy_30 : decode cX7_ageBy 30 = .ok (.iload 5, 2) := by decide +kernel
theorem dX7_ageBy_32 : decode cX7_ageBy 32 = .ok (.iload_n 3, 1) := by decide +kernel
theorem dX7_ageBy_33 : decode cX7_ageBy 33 = .ok (.if_icmp .ge 28, 3) := by decide +kernel
theorem dX7_ageBy_36 : decode cX7_ageBy 36 = .ok (.aload_n 0, 1) := by decide +kernel
theorem dX7_ageBy_37 : decode cX7_ageBy 37 = .ok (.getfield 57, 3) := by decide +kernel
theorem dX7_ageBy_40 : decode cX7_ageBy 40 = .ok (.iload 5, 2) := by decide +kernel
theorem dX7_ageBy_42 : decode cX7_ageBy 42 = .ok (.aload_n 0, 1) := by decide +kernel
theorem dX7_ageBy_43 : decode cX7_ageBy 43 = .ok (.aload_n 2, 1) := by decide +kernel
theorem dX7_ageBy_44 : decode cX7_ageBy 44 = .ok (.iload 5, 2) := by decide +kernel
theorem dX7_ageBy_46 : decode cX7_ageBy 46 = .ok (.iaload, 1) := by decide +kernel
theorem dX7_ageBy_47 : decode cX7_ageBy 47 = .ok (.aload_n 2, 1) := by decide +kernel
theorem dX7_ageBy_48 : decode cX7_ageBy 48 = .ok (.iload 5, 2) := by decide +kernel
theorem dX7_ageBy_50 : decode cX7_ageBy 50 = .ok (.iaload, 1) := by decide +kernel
theorem dX7_ageBy_51 : decode cX7_ageBy 51 = .ok (.invokevirtual 97, 3) := by decide +kernel
theorem dX7_ageBy_54 : decode cX7_ageBy 54 = .ok (.iastore, 1) := by decide +kernel
theorem dX7_ageBy_55 : decode cX7_ageBy 55 = .ok (.iinc 5 1, 3) := by decide +kernel
theorem dX7_ageBy_58 : decode cX7_ageBy 58 = .ok (.goto (-28), 3) := by decide +kernel
theorem dX7_ageBy_61 : decode cX7_ageBy 61 = .ok (.aload 4, 2) := by decide +kernel
theorem dX7_ageBy_63 : decode cX7_ageBy 63 = .ok (.getfield 111, 3) := by decide +kernel
theorem dX7_ageBy_66 : decode cX7_ageBy 66 = .ok (.istore 5, 2) := by decide +kernel
theorem dX7_ageBy_68 : decode cX7_ageBy 68 = .ok (.iconst 0, 1) := by decide +kernel
theorem dX7_ageBy_69 : decode cX7_ageBy 69 = .ok (.istore 6, 2) := by decide +kernel
theorem dX7_ageBy_71 : decode cX7_ageBy 71 = .ok (.iconst 0, 1) := by decide +kernel
theorem dX7_ageBy_72 : decode cX7_ageBy 72 = .ok (.istore 7, 2) := by decide +kernel
theorem dX7_ageBy_74 : decode cX7_ageBy 74 = .ok (.iload 7, 2) := by decide +kernel
theorem dX7_ageBy_76 : decode cX7_ageBy 76 = .ok (.iload_n 3, 1) := by decide +kernel
theorem dX7_ageBy_77 : decode cX7_ageBy 77 = .ok (.if_icmp .ge 88, 3) := by decide +kernel
theorem dX7_ageBy_80 : decode cX7_ageBy 80 = .ok (.aload_n 2, 1) := by decide +kernel
theorem dX7_ageBy_81 : decode cX7_ageBy 81 = .ok (.iload 7, 2) := by decide +kernel
theorem dX7_ageBy_83 : decode cX7_ageBy 83 = .ok (.iaload, 1) := by decide +kernel
theorem dX7_ageBy_84 : decode cX7_ageBy 84 = .ok (.istore 8, 2) := by decide +kernel
theorem dX7_ageBy_86 : decode cX7_ageBy 86 = .ok (.iload 8, 2) := by decide +kernel
theorem dX7_ageBy_88 : decode cX7_ageBy 88 = .ok (.aload 4, 2) := by decide +kernel
theorem dX7_ageBy_90 : decode cX7_ageBy 90 = .ok (.getfield 108, 3) := by decide +kernel
theorem dX7_ageBy_93 : decode cX7_ageBy 93 = .ok (.if_icmp .ne 27, 3) := by decide +kernel
theorem dX7_ageBy_96 : decode cX7_ageBy 96 = .ok (.aload 4, 2) := by decide +kernel
theorem dX7_ageBy_98 : decode cX7_ageBy 98 = .ok (.iload 5, 2) := by decide +kernel
theorem dX7_ageBy_100 : decode cX7_ageBy 100 = .ok (.aload_n 0, 1) := by decide +kernel
theorem dX7_ageBy_101 : decode cX7_ageBy 101 = .ok (.getfield 57, 3) := by decide +kernel
theorem dX7_ageBy_104 : decode cX7_ageBy 104 = .ok (.iload_n 3, 1) := by decide +kernel
theorem dX7_ageBy_105 : decode cX7_ageBy 105 = .ok (.iload 7, 2) := by decide +kernel
theorem dX7_ageBy_107 : decode cX7_ageBy 107 = .ok (.invokevirtual 114, 3) := by decide +kernel
theorem dX7_ageBy_110 : decode cX7_ageBy 110 = .ok (.ifCond .eq 10, 3) := by decide +kernel
theorem dX7_ageBy_113 : decode cX7_ageBy 113 = .ok (.aload 4, 2) := by decide +kernel
theorem dX7_ageBy_115 : decode cX7_ageBy 115 = .ok (.getfield 118, 3) := by decide +kernel
theorem dX7_ageBy_118 : decode cX7_ageBy 118 = .ok (.istore 8, 2) := by decide +kernel
theorem dX7_ageBy_120 : decode cX7_ageBy 120 = .ok (.iload 8, 2) := by decide +kernel
theorem dX7_ageBy_122 : decode cX7_ageBy 122 = .ok (.ifCond .eq 12, 3) := by decide +kernel
theorem dX7_ageBy_125 : decode cX7_ageBy 125 = .ok (.aload_n 2, 1) := by decide +kernel
theorem dX7_ageBy_126 : decode cX7_ageBy 126 = .ok (.iload 6, 2) := by decide +kernel
theorem dX7_ageBy_128 : decode cX7_ageBy 128 = .ok (.iload 8, 2) := by decide +kernel
theorem dX7_ageBy_130 : decode cX7_ageBy 130 = .ok (.iastore, 1) := by decide +kernel
theorem dX7_ageBy_131 : decode cX7_ageBy 131 = .ok (.iinc 6 1, 3) := by decide +kernel
theorem dX7_ageBy_134 : decode cX7_ageBy 134 = .ok (.aload 4, 2) := by decide +kernel
theorem dX7_ageBy_136 : decode cX7_ageBy 136 = .ok (.getfield 121, 3) := by decide +kernel
theorem dX7_ageBy_139 : decode cX7_ageBy 139 = .ok (.iload 5, 2) := by decide +kernel
theorem dX7_ageBy_141 : decode cX7_ageBy 141 = .ok (.aload_n 0, 1) := by decide +kernel
theorem dX7_ageBy_142 : decode cX7_ageBy 142 = .ok (.getfield 57, 3) := by decide +kernel
theorem dX7_ageBy_145 : decode cX7_ageBy 145 = .ok (.iload 7, 2) := by decide +kernel
theorem dX7_ageBy_147 : decode cX7_ageBy 147 = .ok (.iaload, 1) := by decide +kernel
theorem dX7_ageBy_148 : decode cX7_ageBy 148 = .ok (.invokevirtual 125, 3) := by decide +kernel
theorem dX7_ageBy_151 : decode cX7_ageBy 151 = .ok (.aload 4, 2) := by decide +kernel
theorem dX7_ageBy_153 : decode cX7_ageBy 153 = .ok (.getfield 130, 3) := by decide +kernel
theorem dX7_ageBy_156 : decode cX7_ageBy 156 = .ok (.ior, 1) := by decide +kernel
theorem dX7_ageBy_157 : decode cX7_ageBy 157 = .ok (.istore 5, 2) := by decide +kernel
theorem dX7_ageBy_159 : decode cX7_ageBy 159 = .ok (.iinc 7 1, 3) := by decide +kernel
theorem dX7_ageBy_162 : decode cX7_ageBy 162 = .ok (.goto (-88), 3) := by decide +kernel
theorem dX7_ageBy_165 : decode cX7_ageBy 165 = .ok (.iload 6, 2) := by decide +kernel
theorem dX7_ageBy_167 : decode cX7_ageBy 167 = .ok (.ireturn, 1) := by decide +kernel
