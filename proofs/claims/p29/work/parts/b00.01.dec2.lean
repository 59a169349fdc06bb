theorem dX8_endsWell_12 : decode cX8_endsWell 12 = .ok (.iconst 0, 1) := by decide +kernel
theorem dX8_endsWell_13 : decode cX8_endsWell 13 = .ok (.ireturn, 1) := by decide +kernel
theorem dX8_endsWell_14 : decode cX8_endsWell 14 = .ok (.iconst 0, 1) := by decide +kernel
theorem dX8_endsWell_15 : decode cX8_endsWell 15 = .ok (.istore_n 2, 1) := by decide +kernel
theorem dX8_endsWell_16 : decode cX8_endsWell 16 = .ok (.iload_n 2, 1) := by decide +kernel
theorem dX8_endsWell_17 : decode cX8_endsWell 17 = .ok (.aload_n 0, 1) := by decide +kernel
theorem dX8_endsWell_18 : decode cX8_endsWell 18 = .ok (.getfield 20, 3) := by decide +kernel
theorem dX8_endsWell_21 : decode cX8_endsWell 21 = .ok (.iload_n 1, 1) := by decide +kernel
theorem dX8_endsWell_22 : decode cX8_endsWell 22 = .ok (.iaload, 1) := by decide +kernel
theorem dX8_endsWell_23 : decode cX8_endsWell 23 = .ok (.if_icmp .ge 28, 3) := by decide +kernel
theorem dX8_endsWell_26 : decode cX8_endsWell 26 = .ok (.aload_n 0, 1) := by decide +kernel
theorem dX8_endsWell_27 : decode cX8_endsWell 27 = .ok (.getfield 23, 3) := by decide +kernel
theorem dX8_endsWell_30 : decode cX8_endsWell 30 = .ok (.iload_n 1, 1) := by decide +kernel
theorem dX8_endsWell_31 : decode cX8_endsWell 31 = .ok (.bipush 10, 2) := by decide +kernel
theorem dX8_endsWell_33 : decode cX8_endsWell 33 = .ok (.imul, 1) := by decide +kernel
theorem dX8_endsWell_34 : decode cX8_endsWell 34 = .ok (.iload_n 2, 1) := by decide +kernel
theorem dX8_endsWell_35 : decode cX8_endsWell 35 = .ok (.iadd, 1) := by decide +kernel
theorem dX8_endsWell_36 : decode cX8_endsWell 36 = .ok (.iaload, 1) := by decide +kernel
theorem dX8_endsWell_37 : decode cX8_endsWell 37 = .ok (.ldc 81, 2) := by decide +kernel
theorem dX8_endsWell_39 : decode cX8_endsWell 39 = .ok (.iand, 1) := by decide +kernel
theorem dX8_endsWell_40 : decode cX8_endsWell 40 = .ok (.ifCond .ne 5, 3) := by decide +kernel
theorem dX8_endsWell_43 : decode cX8_endsWell 43 = .ok (.iconst 0, 1) := by decide +kernel
theorem dX8_endsWell_44 : decode cX8_endsWell 44 = .ok (.ireturn, 1) := by decide +kernel
theorem dX8_endsWell_45 : decode cX8_endsWell 45 = .ok (.iinc 2 1, 3) := by decide +kernel
theorem dX8_endsWell_48 : decode cX8_endsWell 48 = .ok (.goto (-32), 3) := by decide +kernel
theorem dX8_endsWell_51 : decode cX8_endsWell 51 = .ok (.iconst 1, 1) := by decide +kernel
theorem dX8_endsWell_52 : decode cX8_endsWell 52 = .ok (.ireturn, 1) := by decide +kernel
theorem dX8_finish_0 : decode cX8_finish 0 = .ok (.aload_n 0, 1) := by decide +kernel
theorem dX8_finish_1 : decode cX8_finish 1 = .ok (.getfield 26, 3) := by decide +kernel
theorem dX8_finish_4 : decode cX8_finish 4 = .ok (.iload_n 2, 1) := by decide +kernel
theorem dX8_finish_5 : decode cX8_finish 5 = .ok (.iaload, 1) := by decide +kernel
theorem dX8_finish_6 : decode cX8_finish 6 = .ok (.istore_n 3, 1) := by decide +kernel
theorem dX8_finish_7 : decode cX8_finish 7 = .ok (.iload_n 1, 1) := by decide +kernel
theorem dX8_finish_8 : decode cX8_finish 8 = .ok (.iload_n 3, 1) := by decide +kernel
theorem dX8_finish_9 : decode cX8_finish 9 = .ok (.iconst (-1), 1) := by decide +kernel
theorem dX8_finish_10 : decode cX8_finish 10 = .ok (.ixor, 1) := by decide +kernel
theorem dX8_finish_11 : decode cX8_finish 11 = .ok (.iand, 1) := by decide +kernel
theorem dX8_finish_12 : decode cX8_finish 12 = .ok (.istore 4, 2) := by decide +kernel
theorem dX8_finish_14 : decode cX8_finish 14 = .ok (.iload_n 2, 1) := by decide +kernel
theorem dX8_finish_15 : decode cX8_finish 15 = .ok (.bipush 8, 2) := by decide +kernel
theorem dX8_finish_17 : decode cX8_finish 17 = .ok (.imul, 1) := by decide +kernel
theorem dX8_finish_18 : decode cX8_finish 18 = .ok (.istore 5, 2) := by decide +kernel
theorem dX8_finish_20 : decode cX8_finish 20 = .ok (.iconst 0, 1) := by decide +kernel
theorem dX8_finish_21 : decode cX8_finish 21 = .ok (.istore 6, 2) := by decide +kernel
theorem dX8_finish_23 : decode cX8_finish 23 = .ok (.iload 6, 2) := by decide +kernel
theorem dX8_finish_25 : decode cX8_finish 25 = .ok (.bipush 8, 2) := by decide +kernel
theorem dX8_finish_27 : decode cX8_finish 27 = .ok (.if_icmp .ge 83, 3) := by decide +kernel
theorem dX8_finish_30 : decode cX8_finish 30 = .ok (.iload 4, 2) := by decide +kernel
theorem dX8_finish_32 : decode cX8_finish 32 = .ok (.iload 6, 2) := by decide +kernel
theorem dX8_finish_34 : decode cX8_finish 34 = .ok (.ishr, 1) := by decide +kernel
theorem dX8_finish_35 : decode cX8_finish 35 = .ok (.ifCond .eq 75, 3) := by decide +kernel
theorem dX8_finish_38 : decode cX8_finish 38 = .ok (.aload_n 0, 1) := by decide +kernel
theorem dX8_finish_39 : decode cX8_finish 39 = .ok (.getfield 17, 3) := by decide +kernel
theorem dX8_finish_42 : decode cX8_finish 42 = .ok (.iload 5, 2) := by decide +kernel
theorem dX8_finish_44 : decode cX8_finish 44 = .ok (.iload 6, 2) := by decide +kernel
theorem dX8_finish_46 : decode cX8_finish 46 = .ok (.iadd, 1) := by decide +kernel
theorem dX8_finish_47 : decode cX8_finish 47 = .ok (.iaload, 1) := by decide +kernel
theorem dX8_finish_48 : decode cX8_finish 48 = .ok (.aload_n 0, 1) := by decide +kernel
theorem dX8_finish_49 : decode cX8_finish 49 = .ok (.getfield 20, 3) := by decide +kernel
theorem dX8_finish_52 : decode cX8_finish 52 = .ok (.iload 5, 2) := by decide +kernel
theorem dX8_finish_54 : decode cX8_finish 54 = .ok (.iload 6, 2) := by decide +kernel
theorem dX8_finish_56 : decode cX8_finish 56 = .ok (.iadd, 1) := by decide +kernel
theorem dX8_finish_57 : decode cX8_finish 57 = .ok (.iaload, 1) := by decide +kernel
theorem dX8_finish_58 : decode cX8_finish 58 = .ok (.ior, 1) := by decide +kernel
theorem dX8_finish_59 : decode cX8_finish 59 = .ok (.ifCond .ne 7, 3) := by decide +kernel
theorem dX8_finish_62 : decode cX8_finish 62 = .ok (.iconst 1, 1) := by decide +kernel
theorem dX8_finish_63 : decode cX8_finish 63 = .ok (.goto 4, 3) := by decide +kernel
theorem dX8_finish_66 : decode cX8_finish 66 = .ok (.iconst 0, 1) := by decide +kernel
theorem dX8_finish_67 : decode cX8_finish 67 = .ok (.istore 7, 2) := by decide +kernel
theorem dX8_finish_69 : decode cX8_finish 69 = .ok (.iload 4, 2) := by decide +kernel
theorem dX8_finish_71 : decode cX8_finish 71 = .ok (.iload 6, 2) := by decide +kernel
theorem dX8_finish_73 : decode cX8_finish 73 = .ok (.ishr, 1) := by decide +kernel
theorem dX8_finish_74 : decode cX8_finish 74 = .ok (.iconst 1, 1) := by decide +kernel
theorem dX8_finish_75 : decode cX8_finish 75 = .ok (.iand, 1) := by decide +kernel
theorem dX8_finish_76 : decode cX8_finish 76 = .ok (.iconst 1, 1) := by decide +kernel
theorem dX8_finish_77 : decode cX8_finish 77 = .ok (.if_icmp .ne 27, 3) := by decide +kernel
theorem dX8_finish_80 : decode cX8_finish 80 = .ok (.iload 7, 2) := by decide +kernel
theorem dX8_finish_82 : decode cX8_finish 82 = .ok (.ifCond .ne 22, 3) := by decide +kernel
theorem dX8_finish_85 : decode cX8_finish 85 = .ok (.aload_n 0, 1) := by decide +kernel
theorem dX8_finish_86 : decode cX8_finish 86 = .ok (.iload 5, 2) := by decide +kernel
theorem dX8_finish_88 : decode cX8_finish 88 = .ok (.iload 6, 2) := by decide +kernel
theorem dX8_finish_90 : decode cX8_finish 90 = .ok (.iadd, 1) := by decide +kernel
theorem dX8_finish_91 : decode cX8_finish 91 = .ok (.invokevirtual 77, 3) := by decide +kernel
theorem dX8_finish_94 : decode cX8_finish 94 = .ok (.ifCond .ne 10, 3) := by decide +kernel
theorem dX8_finish_97 : decode cX8_finish 97 = .ok (.iload_n 3, 1) := by decide +kernel
theorem dX8_finish_98 : decode cX8_finish 98 = .ok (.iconst 1, 1) := by decide +kernel
theorem dX8_finish_99 : decode cX8_finish 99 = .ok (.iload 6, 2) := by decide +kernel
theorem dX8_finish_101 : decode cX8_finish 101 = .ok (.ishl, 1) := by decide +kernel
theorem dX8_finish_102 : decode cX8_finish 102 = .ok (.ior, 1) := by decide +kernel
theorem dX8_finish_103 : decode cX8_finish 103 = .ok (.istore_n 3, 1) := by decide +kernel
theorem dX8_finish_104 : decode cX8_finish 104 = .ok (.iinc 6 1, 3) := by decide +kernel
theorem dX8_finish_107 : decode cX8_finish 107 = .ok (.goto (-84), 3) := by decide +kernel
theorem dX8_finish_110 : decode cX8_finish 110 = .ok (.iload_n 3, 1) := by decide +kernel
theorem dX8_finish_111 : decode cX8_finish 111 = .ok (.ireturn, 1) := by decide +kernel
theorem dX8_advance_0 : decode cX8_advance 0 = .ok (.iload_n 2, 1) := by decide +kernel
theorem dX8_advance_1 : decode cX8_advance 1 = .ok (.bipush 8, 2) := by decide +kernel
theorem dX8_advance_3 : decode cX8_advance 3 = .ok (.iadd, 1) := by decide +kernel
theorem dX8_advance_4 : decode cX8_advance 4 = .ok (.istore 4, 2) := by decide +kernel
theorem dX8_advance_6 : decode cX8_advance 6 = .ok (.aload_n 1, 1) := by decide +kernel
theorem dX8_advance_7 : decode cX8_advance 7 = .ok (.getfield 54, 3) := by decide +kernel
theorem dX8_advance_10 : decode cX8_advance 10 = .ok (.iload_n 3, 1) := by decide +kernel
theorem dX8_advance_11 : decode cX8_advance 11 = .ok (.iaload, 1) := by decide +kernel
theorem dX8_advance_12 : decode cX8_advance 12 = .ok (.istore 5, 2) := by decide +kernel
theorem dX8_advance_14 : decode cX8_advance 14 = .ok (.iload 5, 2) := by decide +kernel
theorem dX8_advance_16 : decode cX8_advance 16 = .ok (.ifCond .ne 7, 3) := by decide +kernel
theorem dX8_advance_19 : decode cX8_advance 19 = .ok (.iconst 0, 1) := by decide +kernel
theorem dX8_advance_20 : decode cX8_advance 20 = .ok (.goto 17, 3) := by decide +kernel
theorem dX8_advance_23 : decode cX8_advance 23 = .ok (.aload_n 1, 1) := by decide +kernel
theorem dX8_advance_24 : decode cX8_advance 24 = .ok (.getfield 61, 3) := by decide +kernel
theorem dX8_advance_27 : decode cX8_advance 27 = .ok (.aload_n 0, 1) := by decide +kernel
theorem dX8_advance_28 : decode cX8_advance 28 = .ok (.getfield 13, 3) := by decide +kernel
theorem dX8_advance_31 : decode cX8_advance 31 = .ok (.iload_n 2, 1) := by decide +kernel
theorem dX8_advance_32 : decode cX8_advance 32 = .ok (.iaload, 1) := by decide +kernel
theorem dX8_advance_33 : decode cX8_advance 33 = .ok (.invokestatic 64, 3) := by decide +kernel
theorem dX8_advance_36 : decode cX8_advance 36 = .ok (.iaload, 1) := by decide +kernel
theorem dX8_advance_37 : decode cX8_advance 37 = .ok (.istore 6, 2) := by decide +kernel
theorem dX8_advance_39 : decode cX8_advance 39 = .ok (.aload_n 1, 1) := by decide +kernel
theorem dX8_advance_40 : decode cX8_advance 40 = .ok (.getfield 68, 3) := by decide +kernel
theorem dX8_advance_43 : decode cX8_advance 43 = .ok (.aload_n 0, 1) := by decide +kernel
theorem dX8_advance_44 : decode cX8_advance 44 = .ok (.getfield 17, 3) := by decide +kernel
theorem dX8_advance_47 : decode cX8_advance 47 = .ok (.iload_n 2, 1) := by decide +kernel
theorem dX8_advance_48 : decode cX8_advance 48 = .ok (.iaload, 1) := by decide +kernel
theorem dX8_advance_49 : decode cX8_advance 49 = .ok (.iload_n 3, 1) := by decide +kernel
theorem dX8_advance_50 : decode cX8_advance 50 = .ok (.invokevirtual 47, 3) := by decide +kernel
theorem dX8_advance_53 : decode cX8_advance 53 = .ok (.istore 7, 2) := by decide +kernel
theorem dX8_advance_55 : decode cX8_advance 55 = .ok (.iload 5, 2) := by decide +kernel
theorem dX8_advance_57 : decode cX8_advance 57 = .ok (.iconst 2, 1) := by decide +kernel
theorem dX8_advance_58 : decode cX8_advance 58 = .ok (.if_icmp .ne 10, 3) := by decide +kernel
theorem dX8_advance_61 : decode cX8_advance 61 = .ok (.iload 7, 2) := by decide +kernel
theorem dX8_advance_63 : decode cX8_advance 63 = .ok (.iload 6, 2) := by decide +kernel
theorem dX8_advance_65 : decode cX8_advance 65 = .ok (.ior, 1) := by decide +kernel
theorem dX8_advance_66 : decode cX8_advance 66 = .ok (.istore 7, 2) := by decide +kernel
theorem dX8_advance_68 : decode cX8_advance 68 = .ok (.aload_n 0, 1) := by decide +kernel
theorem dX8_advance_69 : decode cX8_advance 69 = .ok (.getfield 17, 3) := by decide +kernel
theorem dX8_advance_72 : decode cX8_advance 72 = .ok (.iload 4, 2) := by decide +kernel
theorem dX8_advance_74 : decode cX8_advance 74 = .ok (.iload 7, 2) := by decide +kernel
theorem dX8_advance_76 : decode cX8_advance 76 = .ok (.iastore, 1) := by decide +kernel
theorem dX8_advance_77 : decode cX8_advance 77 = .ok (.iload 7, 2) := by decide +kernel
theorem dX8_advance_79 : decode cX8_advance 79 = .ok (.aload_n 1, 1) := by decide +kernel
theorem dX8_advance_80 : decode cX8_advance 80 = .ok (.getfield 71, 3) := by decide +kernel
theorem dX8_advance_83 : decode cX8_advance 83 = .ok (.iand, 1) := by decide +kernel
theorem dX8_advance_84 : decode cX8_advance 84 = .ok (.ifCond .eq 7, 3) := by decide +kernel
theorem dX8_advance_87 : decode cX8_advance 87 = .ok (.iconst 1, 1) := by decide +kernel
theorem dX8_advance_88 : decode cX8_advance 88 = .ok (.goto 4, 3) := by decide +kernel
theorem dX8_advance_91 : decode cX8_advance 91 = .ok (.iconst 0, 1) := by decide +kernel
theorem dX8_advance_92 : decode cX8_advance 92 = .ok (.istore 8, 2) := by decide +kernel
theorem dX8_advance_94 : decode cX8_advance 94 = .ok (.iconst 0, 1) := by decide +kernel
theorem dX8_advance_95 : decode cX8_advance 95 = .ok (.istore 9, 2) := by decide +kernel
theorem dX8_advance_97 : decode cX8_advance 97 = .ok (.iload 9, 2) := by decide +kernel
theorem dX8_advance_99 : decode cX8_advance 99 = .ok (.aload_n 0, 1) := by decide +kernel
theorem dX8_advance_100 : decode cX8_advance 100 = .ok (.getfield 20, 3) := by decide +kernel
theorem dX8_advance_103 : decode cX8_advance 103 = .ok (.iload_n 2, 1) := by decide +kernel
theorem dX8_advance_104 : decode cX8_advance 104 = .ok (.iaload, 1) := by decide +kernel
theorem dX8_advance_105 : decode cX8_advance 105 = .ok (.if_icmp .ge 51, 3) := by decide +kernel
theorem dX8_advance_108 : decode cX8_advance 108 = .ok (.iload 8, 2) := by decide +kernel
theorem dX8_advance_110 : decode cX8_advance 110 = .ok (.ifCond .ne 46, 3) := by decide +kernel
theorem dX8_advance_113 : decode cX8_advance 113 = .ok (.aload_n 0, 1) := by decide +kernel
theorem dX8_advance_114 : decode cX8_advance 114 = .ok (.aload_n 1, 1) := by decide +kernel
theorem dX8_advance_115 : decode cX8_advance 115 = .ok (.iload 4, 2) := by decide +kernel
theorem dX8_advance_117 : decode cX8_advance 117 = .ok (.aload_n 1, 1) := by decide +kernel
theorem dX8_advance_118 : decode cX8_advance 118 = .ok (.getfield 68, 3) := by decide +kernel
theorem dX8_advance_121 : decode cX8_advance 121 = .ok (.aload_n 0, 1) := by decide +kernel
theorem dX8_advance_122 : decode cX8_advance 122 = .ok (.getfield 23, 3) := by decide +kernel
theorem dX8_advance_125 : decode cX8_advance 125 = .ok (.iload_n 2, 1) := by decide +kernel
theorem dX8_advance_126 : decode cX8_advance 126 = .ok (.bipush 10, 2) := by decide +kernel
theorem dX8_advance_128 : decode cX8_advance 128 = .ok (.imul, 1) := by decide +kernel
theorem dX8_advance_129 : decode cX8_advance 129 = .ok (.iload 9, 2) := by decide +kernel
theorem dX8_advance_131 : decode cX8_advance 131 = .ok (.iadd, 1) := by decide +kernel
theorem dX8_advance_132 : decode cX8_advance 132 = .ok (.iaload, 1) := by decide +kernel
theorem dX8_advance_133 : decode cX8_advance 133 = .ok (.iload_n 3, 1) := by decide +kernel
theorem dX8_advance_134 : decode cX8_advance 134 = .ok (.invokevirtual 47, 3) := by decide +kernel
theorem dX8_advance_137 : decode cX8_advance 137 = .ok (.invokevirtual 74, 3) := by decide +kernel
theorem dX8_advance_140 : decode cX8_advance 140 = .ok (.ifCond .ne 7, 3) := by decide +kernel
theorem dX8_advance_143 : decode cX8_advance 143 = .ok (.iconst 1, 1) := by decide +kernel
theorem dX8_advance_144 : decode cX8_advance 144 = .ok (.goto 4, 3) := by decide +kernel
theorem dX8_advance_147 : decode cX8_advance 147 = .ok (.iconst 0, 1) := by decide +kernel
theorem dX8_advance_148 : decode cX8_advance 148 = .ok (.istore 8, 2) := by decide +kernel
theorem dX8_advance_150 : decode cX8_advance 150 = .ok (.iinc 9 1, 3) := by decide +kernel
theorem dX8_advance_153 : decode cX8_advance 153 = .ok (.goto (-56), 3) := by decide +kernel
theorem dX8_advance_156 : decode cX8_advance 156 = .ok (.iload 5, 2) := by decide +kernel
theorem dX8_advance_158 : decode cX8_advance 158 = .ok (.iconst 1, 1) := by decide +kernel
theorem dX8_advance_159 : decode cX8_advance 159 = .ok (.if_icmp .ne 27, 3) := by decide +kernel
theorem dX8_advance_162 : decode cX8_advance 162 = .ok (.iload 8, 2) := by decide +kernel
theorem dX8_advance_164 : decode cX8_advance 164 = .ok (.ifCond .ne 22, 3) := by decide +kernel
theorem dX8_advance_167 : decode cX8_advance 167 = .ok (.aload_n 0, 1) := by decide +kernel
theorem dX8_advance_168 : decode cX8_advance 168 = .ok (.aload_n 1, 1) := by decide +kernel
theorem dX8_advance_169 : decode cX8_advance 169 = .ok (.iload 4, 2) := by decide +kernel
theorem dX8_advance_171 : decode cX8_advance 171 = .ok (.iload 6, 2) := by decide +kernel
theorem dX8_advance_173 : decode cX8_advance 173 = .ok (.invokevirtual 74, 3) := by decide +kernel
theorem dX8_advance_176 : decode cX8_advance 176 = .ok (.ifCond .ne 7, 3) := by decide +kernel
theorem dX8_advance_179 : decode cX8_advance 179 = .ok (.iconst 1, 1) := by decide +kernel
theorem dX8_advance_180 : decode cX8_advance 180 = .ok (.goto 4, 3) := by decide +kernel
theorem dX8_advance_183 : decode cX8_advance 183 = .ok (.iconst 0, 1) := by decide +kernel
theorem dX8_advance_184 : decode cX8_advance 184 = .ok (.istore 8, 2) := by decide +kernel
theorem dX8_advance_186 : decode cX8_advance 186 = .ok (.iload 8, 2) := by decide +kernel
theorem dX8_advance_188 : decode cX8_advance 188 = .ok (.ireturn, 1) := by decide +kernel
theorem dX8_step_0 : decode cX8_step 0 = .ok (.aload_n 0, 1) := by decide +kernel
theorem dX8_step_1 : decode cX8_step 1 = .ok (.getfield 26, 3) := by decide +kernel
theorem dX8_step_4 : decode cX8_step 4 = .ok (.iload_n 3, 1) := by decide +kernel
theorem dX8_step_5 : decode cX8_step 5 = .ok (.iaload, 1) := by decide +kernel
theorem dX8_step_6 : decode cX8_step 6 = .ok (.istore 5, 2) := by decide +kernel
theorem dX8_step_8 : decode cX8_step 8 = .ok (.iload_n 2, 1) := by decide +kernel
theorem dX8_step_9 : decode cX8_step 9 = .ok (.iload 5, 2) := by decide +kernel
theorem dX8_step_11 : decode cX8_step 11 = .ok (.iconst (-1), 1) := by decide +kernel
theorem dX8_step_12 : decode cX8_step 12 = .ok (.ixor, 1) := by decide +kernel
theorem dX8_step_13 : decode cX8_step 13 = .ok (.iand, 1) := by decide +kernel
theorem dX8_step_14 : decode cX8_step 14 = .ok (.istore 6, 2) := by decide +kernel
theorem dX8_step_16 : decode cX8_step 16 = .ok (.iload_n 3, 1) := by decide +kernel
theorem dX8_step_17 : decode cX8_step 17 = .ok (.bipush 8, 2) := by decide +kernel
theorem dX8_step_19 : decode cX8_step 19 = .ok (.imul, 1) := by decide +kernel
theorem dX8_step_20 : decode cX8_step 20 = .ok (.istore 7, 2) := by decide +kernel
theorem dX8_step_22 : decode cX8_step 22 = .ok (.iconst 0, 1) := by decide +kernel
theorem dX8_step_23 : decode cX8_step 23 = .ok (.istore 8, 2) := by decide +kernel
theorem dX8_step_25 : decode cX8_step 25 = .ok (.iload 8, 2) := by decide +kernel
theorem dX8_step_27 : decode cX8_step 27 = .ok (.bipush 8, 2) := by decide +kernel
theorem dX8_step_29 : decode cX8_step 29 = .ok (.if_icmp .ge 166, 3) := by decide +kernel
theorem dX8_step_32 : decode cX8_step 32 = .ok (.iload 6, 2) := by decide +kernel
theorem dX8_step_34 : decode cX8_step 34 = .ok (.iload 8, 2) := by decide +kernel
theorem dX8_step_36 : decode cX8_step 36 = .ok (.ishr, 1) := by decide +kernel
theorem dX8_step_37 : decode cX8_step 37 = .ok (.ifCond .eq 158, 3) := by decide +kernel
theorem dX8_step_40 : decode cX8_step 40 = .ok (.iload 6, 2) := by decide +kernel
theorem dX8_step_42 : decode cX8_step 42 = .ok (.iload 8, 2) := by decide +kernel
theorem dX8_step_44 : decode cX8_step 44 = .ok (.ishr, 1) := by decide +kernel
theorem dX8_step_45 : decode cX8_step 45 = .ok (.iconst 1, 1) := by decide +kernel
theorem dX8_step_46 : decode cX8_step 46 = .ok (.iand, 1) := by decide +kernel
theorem dX8_step_47 : decode cX8_step 47 = .ok (.iconst 1, 1) := by decide +kernel
theorem dX8_step_48 : decode cX8_step 48 = .ok (.if_icmp .ne 141, 3) := by decide +kernel
theorem dX8_step_51 : decode cX8_step 51 = .ok (.aload_n 1, 1) := by decide +kernel
theorem dX8_step_52 : decode cX8_step 52 = .ok (.getfield 35, 3) := by decide +kernel
theorem dX8_step_55 : decode cX8_step 55 = .ok (.iload 8, 2) := by decide +kernel
theorem dX8_step_57 : decode cX8_step 57 = .ok (.aaload, 1) := by decide +kernel
theorem dX8_step_58 : decode cX8_step 58 = .ok (.astore 9, 2) := by decide +kernel
theorem dX8_step_60 : decode cX8_step 60 = .ok (.iload 7, 2) := by decide +kernel
theorem dX8_step_62 : decode cX8_step 62 = .ok (.iload 8, 2) := by decide +kernel
theorem dX8_step_64 : decode cX8_step 64 = .ok (.iadd, 1) := by decide +kernel
theorem dX8_step_65 : decode cX8_step 65 = .ok (.bipush 8, 2) := by decide +kernel
theorem dX8_step_67 : decode cX8_step 67 = .ok (.iadd, 1) := by decide +kernel
theorem dX8_step_68 : decode cX8_step 68 = .ok (.istore 10, 2) := by decide +kernel
theorem dX8_step_70 : decode cX8_step 70 = .ok (.aload_n 0, 1) := by decide +kernel
theorem dX8_step_71 : decode cX8_step 71 = .ok (.getfield 13, 3) := by decide +kernel
theorem dX8_step_74 : decode cX8_step 74 = .ok (.iload 10, 2) := by decide +kernel
theorem dX8_step_76 : decode cX8_step 76 = .ok (.aload 9, 2) := by decide +kernel
theorem dX8_step_78 : decode cX8_step 78 = .ok (.getfield 44, 3) := by decide +kernel
theorem dX8_step_81 : decode cX8_step 81 = .ok (.aload_n 0, 1) := by decide +kernel
theorem dX8_step_82 : decode cX8_step 82 = .ok (.getfield 13, 3) := by decide +kernel
theorem dX8_step_85 : decode cX8_step 85 = .ok (.iload 7, 2) := by decide +kernel
theorem dX8_step_87 : decode cX8_step 87 = .ok (.iload 8, 2) := by decide +kernel
theorem dX8_step_89 : decode cX8_step 89 = .ok (.iadd, 1) := by decide +kernel
theorem dX8_step_90 : decode cX8_step 90 = .ok (.iaload, 1) := by decide +kernel
theorem dX8_step_91 : decode cX8_step 91 = .ok (.iload 4, 2) := by decide +kernel
theorem dX8_step_93 : decode cX8_step 93 = .ok (.invokevirtual 47, 3) := by decide +kernel
theorem dX8_step_96 : decode cX8_step 96 = .ok (.aload 9, 2) := by decide +kernel
theorem dX8_step_98 : decode cX8_step 98 = .ok (.getfield 51, 3) := by decide +kernel
theorem dX8_step_101 : decode cX8_step 101 = .ok (.ior, 1) := by decide +kernel
theorem dX8_step_102 : decode cX8_step 102 = .ok (.iastore, 1) := by decide +kernel
theorem dX8_step_103 : decode cX8_step 103 = .ok (.aload_n 0, 1) := by decide +kernel
theorem dX8_step_104 : decode cX8_step 104 = .ok (.getfield 17, 3) := by decide +kernel
theorem dX8_step_107 : decode cX8_step 107 = .ok (.iload 10, 2) := by decide +kernel
theorem dX8_step_109 : decode cX8_step 109 = .ok (.iconst 0, 1) := by decide +kernel
theorem dX8_step_110 : decode cX8_step 110 = .ok (.iastore, 1) := by decide +kernel
theorem dX8_step_111 : decode cX8_step 111 = .ok (.aload_n 0, 1) := by decide +kernel
theorem dX8_step_112 : decode cX8_step 112 = .ok (.getfield 20, 3) := by decide +kernel
theorem dX8_step_115 : decode cX8_step 115 = .ok (.iload 10, 2) := by decide +kernel
theorem dX8_step_117 : decode cX8_step 117 = .ok (.iconst 0, 1) := by decide +kernel
theorem dX8_step_118 : decode cX8_step 118 = .ok (.iastore, 1) := by decide +kernel
theorem dX8_step_119 : decode cX8_step 119 = .ok (.aload 9, 2) := by decide +kernel
theorem dX8_step_121 : decode cX8_step 121 = .ok (.getfield 54, 3) := by decide +kernel
theorem dX8_step_124 : decode cX8_step 124 = .ok (.iload 4, 2) := by decide +kernel
theorem dX8_step_126 : decode cX8_step 126 = .ok (.iaload, 1) := by decide +kernel
theorem dX8_step_127 : decode cX8_step 127 = .ok (.aload_n 0, 1) := by decide +kernel
theorem dX8_step_128 : decode cX8_step 128 = .ok (.getfield 17, 3) := by decide +kernel
theorem dX8_step_131 : decode cX8_step 131 = .ok (.iload 7, 2) := by decide +kernel
theorem dX8_step_133 : decode cX8_step 133 = .ok (.iload 8, 2) := by decide +kernel
theorem dX8_step_135 : decode cX8_step 135 = .ok (.iadd, 1) := by decide +kernel
theorem dX8_step_136 : decode cX8_step 136 = .ok (.iaload, 1) := by decide +kernel
theorem dX8_step_137 : decode cX8_step 137 = .ok (.ior, 1) := by decide +kernel
theorem dX8_step_138 : decode cX8_step 138 = .ok (.aload_n 0, 1) := by decide +kernel
theorem dX8_step_139 : decode cX8_step 139 = .ok (.getfield 20, 3) := by decide +kernel
theorem dX8_step_142 : decode cX8_step 142 = .ok (.iload 7, 2) := by decide +kernel
theorem dX8_step_144 : decode cX8_step 144 = .ok (.iload 8, 2) := by decide +kernel
theorem dX8_step_146 : decode cX8_step 146 = .ok (.iadd, 1) := by decide +kernel
theorem dX8_step_147 : decode cX8_step 147 = .ok (.iaload, 1) := by decide +kernel
theorem dX8_step_148 : decode cX8_step 148 = .ok (.ior, 1) := by decide +kernel
theorem dX8_step_149 : decode cX8_step 149 = .ok (.ifCond .ne 7, 3) := by decide +kernel
theorem dX8_step_152 : decode cX8_step 152 = .ok (.iconst 1, 1) := by decide +kernel
theorem dX8_step_153 : decode cX8_step 153 = .ok (.goto 4, 3) := by decide +kernel
theorem dX8_step_156 : decode cX8_step 156 = .ok (.iconst 0, 1) := by decide +kernel
theorem dX8_step_157 : decode cX8_step 157 = .ok (.istore 11, 2) := by decide +kernel
theorem dX8_step_159 : decode cX8_step 159 = .ok (.iload 11, 2) := by decide +kernel
theorem dX8_step_161 : decode cX8_step 161 = .ok (.ifCond .ne 28, 3) := by decide +kernel
theorem dX8_step_164 : decode cX8_step 164 = .ok (.aload_n 0, 1) := by decide +kernel
theorem dX8_step_165 : decode cX8_step 165 = .ok (.aload 9, 2) := by decide +kernel
theorem dX8_step_167 : decode cX8_step 167 = .ok (.iload 7, 2) := by decide +kernel
theorem dX8_step_169 : decode cX8_step 169 = .ok (.iload 8, 2) := by decide +kernel
theorem dX8_step_171 : decode cX8_step 171 = .ok (.iadd, 1) := by decide +kernel
theorem dX8_step_172 : decode cX8_step 172 = .ok (.iload 4, 2) := by decide +kernel
theorem dX8_step_174 : decode cX8_step 174 = .ok (.invokevirtual 57, 3) := by decide +kernel
theorem dX8_step_177 : decode cX8_step 177 = .ok (.ifCond .eq 12, 3) := by decide +kernel
theorem dX8_step_180 : decode cX8_step 180 = .ok (.iload 5, 2) := by decide +kernel
theorem dX8_step_182 : decode cX8_step 182 = .ok (.iconst 1, 1) := by decide +kernel
theorem dX8_step_183 : decode cX8_step 183 = .ok (.iload 8, 2) := by decide +kernel
theorem dX8_step_185 : decode cX8_step 185 = .ok (.ishl, 1) := by decide +kernel
theorem dX8_step_186 : decode cX8_step 186 = .ok (.ior, 1) := by decide +kernel
theorem dX8_step_187 : decode cX8_step 187 = .ok (.istore 5, 2) := by decide +kernel
theorem dX8_step_189 : decode cX8_step 189 = .ok (.iinc 8 1, 3) := by decide +kernel
theorem dX8_step_192 : decode cX8_step 192 = .ok (.goto (-167), 3) := by decide +kernel
theorem dX8_step_195 : decode cX8_step 195 = .ok (.aload_n 0, 1) := by decide +kernel
theorem dX8_step_196 : decode cX8_step 196 = .ok (.getfield 26, 3) := by decide +kernel
theorem dX8_step_199 : decode cX8_step 199 = .ok (.iload_n 3, 1) := by decide +kernel
theorem dX8_step_200 : decode cX8_step 200 = .ok (.iconst 1, 1) := by decide +kernel
theorem dX8_step_201 : decode cX8_step 201 = .ok (.iadd, 1) := by decide +kernel
theorem dX8_step_202 : decode cX8_step 202 = .ok (.iload 5, 2) := by decide +kernel
theorem dX8_step_204 : decode cX8_step 204 = .ok (.iastore, 1) := by decide +kernel
theorem dX8_step_205 : decode cX8_step 205 = .ok (.iload 5, 2) := by decide +kernel
theorem dX8_step_207 : decode cX8_step 207 = .ok (.ireturn, 1) := by decide +kernel
theorem dX0_wordCount_0 : decode cX0_wordCount 0 = .ok (.aload_n 0, 1) := by decide +kernel
theorem dX0_wordCount_1 : decode cX0_wordCount 1 = .ok (.getfield 37, 3) := by decide +kernel
theorem dX0_wordCount_4 : decode cX0_wordCount 4 = .ok (.iconst 2, 1) := by decide +kernel
theorem dX0_wordCount_5 : decode cX0_wordCount 5 = .ok (.if_icmp .ne 11, 3) := by decide +kernel
theorem dX0_wordCount_8 : decode cX0_wordCount 8 = .ok (.iload_n 1, 1) := by decide +kernel
theorem dX0_wordCount_9 : decode cX0_wordCount 9 = .ok (.iload_n 1, 1) := by decide +kernel
theorem dX0_wordCount_10 : decode cX0_wordCount 10 = .ok (.iload_n 1, 1) := by decide +kernel
theorem dX0_wordCount_11 : decode cX0_wordCount 11 = .ok (.imul, 1) := by decide +kernel
theorem dX0_wordCount_12 : decode cX0_wordCount 12 = .ok (.iadd, 1) := by decide +kernel
theorem dX0_wordCount_13 : decode cX0_wordCount 13 = .ok (.goto 4, 3) := by decide +kernel
theorem dX0_wordCount_16 : decode cX0_wordCount 16 = .ok (.iload_n 1, 1) := by decide +kernel
theorem dX0_wordCount_17 : decode cX0_wordCount 17 = .ok (.ireturn, 1) := by decide +kernel
theorem dX0_numberOf_0 : decode cX0_numberOf 0 = .ok (.iload_n 0, 1) := by decide +kernel
theorem dX0_numberOf_1 : decode cX0_numberOf 1 = .ok (.ifCond .ne 5, 3) := by decide +kernel
theorem dX0_numberOf_4 : decode cX0_numberOf 4 = .ok (.iconst 0, 1) := by decide +kernel
theorem dX0_numberOf_5 : decode cX0_numberOf 5 = .ok (.ireturn, 1) := by decide +kernel
theorem dX0_numberOf_6 : decode cX0_numberOf 6 = .ok (.iload_n 1, 1) := by decide +kernel
theorem dX0_numberOf_7 : decode cX0_numberOf 7 = .ok (.ifCond .ne 7, 3) := by decide +kernel
theorem dX0_numberOf_10 : decode cX0_numberOf 10 = .ok (.iload_n 0, 1) := by decide +kernel
theorem dX0_numberOf_11 : decode cX0_numberOf 11 = .ok (.goto 16, 3) := by decide +kernel
theorem dX0_numberOf_14 : decode cX0_numberOf 14 = .ok (.bipush 9, 2) := by decide +kernel
theorem dX0_numberOf_16 : decode cX0_numberOf 16 = .ok (.iload_n 0, 1) := by decide +kernel
theorem dX0_numberOf_17 : decode cX0_numberOf 17 = .ok (.iconst 1, 1) := by decide +kernel
theorem dX0_numberOf_18 : decode cX0_numberOf 18 = .ok (.isub, 1) := by decide +kernel
theorem dX0_numberOf_19 : decode cX0_numberOf 19 = .ok (.bipush 8, 2) := by decide +kernel
theorem dX0_numberOf_21 : decode cX0_numberOf 21 = .ok (.imul, 1) := by decide +kernel
theorem dX0_numberOf_22 : decode cX0_numberOf 22 = .ok (.iadd, 1) := by decide +kernel
theorem dX0_numberOf_23 : decode cX0_numberOf 23 = .ok (.iload_n 1, 1) := by decide +kernel
theorem dX0_numberOf_24 : decode cX0_numberOf 24 = .ok (.iadd, 1) := by decide +kernel
theorem dX0_numberOf_25 : decode cX0_numberOf 25 = .ok (.iconst 1, 1) := by decide +kernel
theorem dX0_numberOf_26 : decode cX0_numberOf 26 = .ok (.isub, 1) := by decide +kernel
theorem dX0_numberOf_27 : decode cX0_numberOf 27 = .ok (.ireturn, 1) := by decide +kernel
theorem dX0_judge_0 : decode cX0_judge 0 = .ok (.iconst 0, 1) := by decide +kernel
theorem dX0_judge_1 : decode cX0_judge 1 = .ok (.istore_n 2, 1) := by decide +kernel
theorem dX0_judge_2 : decode cX0_judge 2 = .ok (.iconst 0, 1) := by decide +kernel
theorem dX0_judge_3 : decode cX0_judge 3 = .ok (.istore_n 3, 1) := by decide +kernel
theorem dX0_judge_4 : decode cX0_judge 4 = .ok (.iload_n 3, 1) := by decide +kernel
theorem dX0_judge_5 : decode cX0_judge 5 = .ok (.bipush 73, 2) := by decide +kernel
theorem dX0_judge_7 : decode cX0_judge 7 = .ok (.if_icmp .ge 33, 3) := by decide +kernel
theorem dX0_judge_10 : decode cX0_judge 10 = .ok (.iload_n 2, 1) := by decide +kernel
theorem dX0_judge_11 : decode cX0_judge 11 = .ok (.aload_n 0, 1) := by decide +kernel
theorem dX0_judge_12 : decode cX0_judge 12 = .ok (.getfield 15, 3) := by decide +kernel
theorem dX0_judge_15 : decode cX0_judge 15 = .ok (.iload_n 3, 1) := by decide +kernel
theorem dX0_judge_16 : decode cX0_judge 16 = .ok (.bipush 73, 2) := by decide +kernel
theorem dX0_judge_18 : decode cX0_judge 18 = .ok (.imul, 1) := by decide +kernel
theorem dX0_judge_19 : decode cX0_judge 19 = .ok (.aload_n 0, 1) := by decide +kernel
theorem dX0_judge_20 : decode cX0_judge 20 = .ok (.getfield 24, 3) := by decide +kernel
theorem dX0_judge_23 : decode cX0_judge 23 = .ok (.iload_n 1, 1) := by decide +kernel
theorem dX0_judge_24 : decode cX0_judge 24 = .ok (.bipush 73, 2) := by decide +kernel
theorem dX0_judge_26 : decode cX0_judge 26 = .ok (.imul, 1) := by decide +kernel
theorem dX0_judge_27 : decode cX0_judge 27 = .ok (.iload_n 3, 1) := by decide +kernel
theorem dX0_judge_28 : decode cX0_judge 28 = .ok (.iadd, 1) := by decide +kernel
theorem dX0_judge_29 : decode cX0_judge 29 = .ok (.iaload, 1) := by decide +kernel
theorem dX0_judge_30 : decode cX0_judge 30 = .ok (.iadd, 1) := by decide +kernel
theorem dX0_judge_31 : decode cX0_judge 31 = .ok (.iaload, 1) := by decide +kernel
theorem dX0_judge_32 : decode cX0_judge 32 = .ok (.iadd, 1) := by decide +kernel
theorem dX0_judge_33 : decode cX0_judge 33 = .ok (.istore_n 2, 1) := by decide +kernel
theorem dX0_judge_34 : decode cX0_judge 34 = .ok (.iinc 3 1, 3) := by decide +kernel
theorem dX0_judge_37 : decode cX0_judge 37 = .ok (.goto (-33), 3) := by decide +kernel
theorem dX0_judge_40 : decode cX0_judge 40 = .ok (.iload_n 2, 1) := by decide +kernel
theorem dX0_judge_41 : decode cX0_judge 41 = .ok (.aload_n 0, 1) := by decide +kernel
theorem dX0_judge_42 : decode cX0_judge 42 = .ok (.getfield 66, 3) := by decide +kernel
theorem dX0_judge_45 : decode cX0_judge 45 = .ok (.if_icmp .le 25, 3) := by decide +kernel
theorem dX0_judge_48 : decode cX0_judge 48 = .ok (.aload_n 0, 1) := by decide +kernel
theorem dX0_judge_49 : decode cX0_judge 49 = .ok (.iload_n 2, 1) := by decide +kernel
theorem dX0_judge_50 : decode cX0_judge 50 = .ok (.putfield 66, 3) := by decide +kernel
theorem dX0_judge_53 : decode cX0_judge 53 = .ok (.aload_n 0, 1) := by decide +kernel
theorem dX0_judge_54 : decode cX0_judge 54 = .ok (.getfield 21, 3) := by decide +kernel
theorem dX0_judge_57 : decode cX0_judge 57 = .ok (.iconst 0, 1) := by decide +kernel
theorem dX0_judge_58 : decode cX0_judge 58 = .ok (.aload_n 0, 1) := by decide +kernel
theorem dX0_judge_59 : decode cX0_judge 59 = .ok (.getfield 27, 3) := by decide +kernel
theorem dX0_judge_62 : decode cX0_judge 62 = .ok (.iconst 0, 1) := by decide +kernel
theorem dX0_judge_63 : decode cX0_judge 63 = .ok (.aload_n 0, 1) := by decide +kernel
theorem dX0_judge_64 : decode cX0_judge 64 = .ok (.getfield 40, 3) := by decide +kernel
theorem dX0_judge_67 : decode cX0_judge 67 = .ok (.invokestatic 119, 3) := by decide +kernel
theorem dX0_judge_70 : decode cX0_judge 70 = .ok (.return_, 1) := by decide +kernel
theorem dX6_restart_0 : decode cX6_restart 0 = .ok (.aload_n 0, 1) := by decide +kernel
theorem dX6_restart_1 : decode cX6_restart 1 = .ok (.iconst 1, 1) := by decide +kernel
theorem dX6_restart_2 : decode cX6_restart 2 = .ok (.iload_n 1, 1) := by decide +kernel
theorem dX6_restart_3 : decode cX6_restart 3 = .ok (.ishl, 1) := by decide +kernel
theorem dX6_restart_4 : decode cX6_restart 4 = .ok (.iconst 1, 1) := by decide +kernel
theorem dX6_restart_5 : decode cX6_restart 5 = .ok (.isub, 1) := by decide +kernel
theorem dX6_restart_6 : decode cX6_restart 6 = .ok (.putfield 40, 3) := by decide +kernel
theorem dX6_restart_9 : decode cX6_restart 9 = .ok (.iconst 0, 1) := by decide +kernel
theorem dX6_restart_10 : decode cX6_restart 10 = .ok (.istore_n 2, 1) := by decide +kernel
theorem dX6_restart_11 : decode cX6_restart 11 = .ok (.iload_n 2, 1) := by decide +kernel
theorem dX6_restart_12 : decode cX6_restart 12 = .ok (.bipush 8, 2) := by decide +kernel
theorem dX6_restart_14 : decode cX6_restart 14 = .ok (.if_icmp .ge 16, 3) := by decide +kernel
theorem dX6_restart_17 : decode cX6_restart 17 = .ok (.aload_n 0, 1) := by decide +kernel
theorem dX6_restart_18 : decode cX6_restart 18 = .ok (.getfield 15, 3) := by decide +kernel
theorem dX6_restart_21 : decode cX6_restart 21 = .ok (.iload_n 2, 1) := by decide +kernel
theorem dX6_restart_22 : decode cX6_restart 22 = .ok (.iload_n 2, 1) := by decide +kernel
theorem dX6_restart_23 : decode cX6_restart 23 = .ok (.iastore, 1) := by decide +kernel
theorem dX6_restart_24 : decode cX6_restart 24 = .ok (.iinc 2 1, 3) := by decide +kernel
theorem dX6_restart_27 : decode cX6_restart 27 = .ok (.goto (-16), 3) := by decide +kernel
theorem dX6_restart_30 : decode cX6_restart 30 = .ok (.aload_n 0, 1) := by decide +kernel
theorem dX6_restart_31 : decode cX6_restart 31 = .ok (.getfield 24, 3) := by decide +kernel
theorem dX6_restart_34 : decode cX6_restart 34 = .ok (.invokevirtual 43, 3) := by decide +kernel
theorem dX6_restart_37 : decode cX6_restart 37 = .ok (.aload_n 0, 1) := by decide +kernel
theorem dX6_restart_38 : decode cX6_restart 38 = .ok (.getfield 28, 3) := by decide +kernel
theorem dX6_restart_41 : decode cX6_restart 41 = .ok (.invokevirtual 43, 3) := by decide +kernel
theorem dX6_restart_44 : decode cX6_restart 44 = .ok (.aload_n 0, 1) := by decide +kernel
theorem dX6_restart_45 : decode cX6_restart 45 = .ok (.iconst 0, 1) := by decide +kernel
theorem dX6_restart_46 : decode cX6_restart 46 = .ok (.putfield 46, 3) := by decide +kernel
theorem dX6_restart_49 : decode cX6_restart 49 = .ok (.return_, 1) := by decide +kernel
theorem dX6_copyFrom_0 : decode cX6_copyFrom 0 = .ok (.aload_n 0, 1) := by decide +kernel
theorem dX6_copyFrom_1 : decode cX6_copyFrom 1 = .ok (.aload_n 1, 1) := by decide +kernel
theorem dX6_copyFrom_2 : decode cX6_copyFrom 2 = .ok (.getfield 40, 3) := by decide +kernel
theorem dX6_copyFrom_5 : decode cX6_copyFrom 5 = .ok (.putfield 40, 3) := by decide +kernel
theorem dX6_copyFrom_8 : decode cX6_copyFrom 8 = .ok (.aload_n 0, 1) := by decide +kernel
theorem dX6_copyFrom_9 : decode cX6_copyFrom 9 = .ok (.aload_n 1, 1) := by decide +kernel
theorem dX6_copyFrom_10 : decode cX6_copyFrom 10 = .ok (.getfield 9, 3) := by decide +kernel
theorem dX6_copyFrom_13 : decode cX6_copyFrom 13 = .ok (.putfield 9, 3) := by decide +kernel
theorem dX6_copyFrom_16 : decode cX6_copyFrom 16 = .ok (.aload_n 1, 1) := by decide +kernel
theorem dX6_copyFrom_17 : decode cX6_copyFrom 17 = .ok (.getfield 15, 3) := by decide +kernel
theorem dX6_copyFrom_20 : decode cX6_copyFrom 20 = .ok (.iconst 0, 1) := by decide +kernel
theorem dX6_copyFrom_21 : decode cX6_copyFrom 21 = .ok (.aload_n 0, 1) := by decide +kernel
theorem dX6_copyFrom_22 : decode cX6_copyFrom 22 = .ok (.getfield 15, 3) := by decide +kernel
theorem dX6_copyFrom_25 : decode cX6_copyFrom 25 = .ok (.iconst 0, 1) := by decide +kernel
theorem dX6_copyFrom_26 : decode cX6_copyFrom 26 = .ok (.aload_n 0, 1) := by decide +kernel
theorem dX6_copyFrom_27 : decode cX6_copyFrom 27 = .ok (.getfield 15, 3) := by decide +kernel
theorem dX6_copyFrom_30 : decode cX6_copyFrom 30 = .ok (.arraylength, 1) := by decide +kernel
theorem dX6_copyFrom_31 : decode cX6_copyFrom 31 = .ok (.invokestatic 49, 3) := by decide +kernel
theorem dX6_copyFrom_34 : decode cX6_copyFrom 34 = .ok (.aload_n 0, 1) := by decide +kernel
theorem dX6_copyFrom_35 : decode cX6_copyFrom 35 = .ok (.getfield 24, 3) := by decide +kernel
theorem dX6_copyFrom_38 : decode cX6_copyFrom 38 = .ok (.aload_n 1, 1) := by decide +kernel
theorem dX6_copyFrom_39 : decode cX6_copyFrom 39 = .ok (.getfield 24, 3) := by decide +kernel
theorem dX6_copyFrom_42 : decode cX6_copyFrom 42 = .ok (.invokevirtual 55, 3) := by decide +kernel
theorem dX6_copyFrom_45 : decode cX6_copyFrom 45 = .ok (.aload_n 0, 1) := by decide +kernel
theorem dX6_copyFrom_46 : decode cX6_copyFrom 46 = .ok (.getfield 28, 3) := by decide +kernel
theorem dX6_copyFrom_49 : decode cX6_copyFrom 49 = .ok (.aload_n 1, 1) := by decide +kernel
theorem dX6_copyFrom_50 : decode cX6_copyFrom 50 = .ok (.getfield 28, 3) := by decide +kernel
theorem dX6_copyFrom_53 : decode cX6_copyFrom 53 = .ok (.invokevirtual 55, 3) := by decide +kernel
theorem dX6_copyFrom_56 : decode cX6_copyFrom 56 = .ok (.aload_n 0, 1) := by decide +kernel
theorem dX6_copyFrom_57 : decode cX6_copyFrom 57 = .ok (.aload_n 1, 1) := by decide +kernel
theorem dX6_copyFrom_58 : decode cX6_copyFrom 58 = .ok (.getfield 46, 3) := by decide +kernel
theorem dX6_copyFrom_61 : decode cX6_copyFrom 61 = .ok (.putfield 46, 3) := by decide +kernel
theorem dX6_copyFrom_64 : decode cX6_copyFrom 64 = .ok (.return_, 1) := by decide +kernel
theorem dX6_moveRule_0 : decode cX6_moveRule 0 = .ok (.iconst 0, 1) := by decide +kernel
theorem dX6_moveRule_1 : decode cX6_moveRule 1 = .ok (.istore 4, 2) := by decide +kernel
theorem dX6_moveRule_3 : decode cX6_moveRule 3 = .ok (.iload 4, 2) := by decide +kernel
theorem dX6_moveRule_5 : decode cX6_moveRule 5 = .ok (.iload_n 3, 1) := by decide +kernel
theorem dX6_moveRule_6 : decode cX6_moveRule 6 = .ok (.if_icmp .ge 41, 3) := by decide +kernel
theorem dX6_moveRule_9 : decode cX6_moveRule 9 = .ok (.aload_n 0, 1) := by decide +kernel
theorem dX6_moveRule_10 : decode cX6_moveRule 10 = .ok (.getfield 15, 3) := by decide +kernel
theorem dX6_moveRule_13 : decode cX6_moveRule 13 = .ok (.iload 4, 2) := by decide +kernel
theorem dX6_moveRule_15 : decode cX6_moveRule 15 = .ok (.iaload, 1) := by decide +kernel
theorem dX6_moveRule_16 : decode cX6_moveRule 16 = .ok (.iload_n 2, 1) := by decide +kernel
theorem dX6_moveRule_17 : decode cX6_moveRule 17 = .ok (.if_icmp .ne 24, 3) := by decide +kernel
theorem dX6_moveRule_20 : decode cX6_moveRule 20 = .ok (.aload_n 0, 1) := by decide +kernel
theorem dX6_moveRule_21 : decode cX6_moveRule 21 = .ok (.getfield 15, 3) := by decide +kernel
theorem dX6_moveRule_24 : decode cX6_moveRule 24 = .ok (.iload 4, 2) := by decide +kernel
theorem dX6_moveRule_26 : decode cX6_moveRule 26 = .ok (.aload_n 0, 1) := by decide +kernel
theorem dX6_moveRule_27 : decode cX6_moveRule 27 = .ok (.getfield 15, 3) := by decide +kernel
theorem dX6_moveRule_30 : decode cX6_moveRule 30 = .ok (.iload_n 1, 1) := by decide +kernel
theorem dX6_moveRule_31 : decode cX6_moveRule 31 = .ok (.iaload, 1) := by decide +kernel
theorem dX6_moveRule_32 : decode cX6_moveRule 32 = .ok (.iastore, 1) := by decide +kernel
theorem dX6_moveRule_33 : decode cX6_moveRule 33 = .ok (.aload_n 0, 1) := by decide +kernel
theorem dX6_moveRule_34 : decode cX6_moveRule 34 = .ok (.getfield 15, 3) := by decide +kernel
theorem dX6_moveRule_37 : decode cX6_moveRule 37 = .ok (.iload_n 1, 1) := by decide +kernel
theorem dX6_moveRule_38 : decode cX6_moveRule 38 = .ok (.iload_n 2, 1) := by decide +kernel
theorem dX6_moveRule_39 : decode cX6_moveRule 39 = .ok (.iastore, 1) := by decide +kernel
theorem dX6_moveRule_40 : decode cX6_moveRule 40 = .ok (.return_, 1) := by decide +kernel
theorem dX6_moveRule_41 : decode cX6_moveRule 41 = .ok (.iinc 4 1, 3) := by decide +kernel
theorem dX6_moveRule_44 : decode cX6_moveRule 44 = .ok (.goto (-41), 3) := by decide +kernel
theorem dX6_moveRule_47 : decode cX6_moveRule 47 = .ok (.return_, 1) := by decide +kernel
theorem dX6_openExample_0 : decode cX6_openExample 0 = .ok (.iload_n 1, 1) := by decide +kernel
theorem dX6_openExample_1 : decode cX6_openExample 1 = .ok (.ifCond .eq 21, 3) := by decide +kernel
theorem dX6_openExample_4 : decode cX6_openExample 4 = .ok (.aload_n 0, 1) := by decide +kernel
theorem dX6_openExample_5 : decode cX6_openExample 5 = .ok (.dup, 1) := by decide +kernel
theorem dX6_openExample_6 : decode cX6_openExample 6 = .ok (.getfield 46, 3) := by decide +kernel
theorem dX6_openExample_9 : decode cX6_openExample 9 = .ok (.iconst 1, 1) := by decide +kernel
theorem dX6_openExample_10 : decode cX6_openExample 10 = .ok (.aload_n 0, 1) := by decide +kernel
theorem dX6_openExample_11 : decode cX6_openExample 11 = .ok (.getfield 24, 3) := by decide +kernel
theorem dX6_openExample_14 : decode cX6_openExample 14 = .ok (.getfield 59, 3) := by decide +kernel
theorem dX6_openExample_17 : decode cX6_openExample 17 = .ok (.ishl, 1) := by decide +kernel
theorem dX6_openExample_18 : decode cX6_openExample 18 = .ok (.ior, 1) := by decide +kernel
theorem dX6_openExample_19 : decode cX6_openExample 19 = .ok (.putfield 46, 3) := by decide +kernel
theorem dX6_openExample_22 : decode cX6_openExample 22 = .ok (.aload_n 0, 1) := by decide +kernel
theorem dX6_openExample_23 : decode cX6_openExample 23 = .ok (.getfield 24, 3) := by decide +kernel
theorem dX6_openExample_26 : decode cX6_openExample 26 = .ok (.invokevirtual 62, 3) := by decide +kernel
theorem dX6_openExample_29 : decode cX6_openExample 29 = .ok (.aload_n 0, 1) := by decide +kernel
theorem dX6_openExample_30 : decode cX6_openExample 30 = .ok (.getfield 28, 3) := by decide +kernel
theorem dX6_openExample_33 : decode cX6_openExample 33 = .ok (.invokevirtual 62, 3) := by decide +kernel
theorem dX6_openExample_36 : decode cX6_openExample 36 = .ok (.return_, 1) := by decide +kernel
theorem dX6_firstUntrue_0 : decode cX6_firstUntrue 0 = .ok (.iconst 0, 1) := by decide +kernel
theorem dX6_firstUntrue_1 : decode cX6_firstUntrue 1 = .ok (.istore_n 2, 1) := by decide +kernel
theorem dX6_firstUntrue_2 : decode cX6_firstUntrue 2 = .ok (.iload_n 2, 1) := by decide +kernel
theorem dX6_firstUntrue_3 : decode cX6_firstUntrue 3 = .ok (.aload_n 0, 1) := by decide +kernel
theorem dX6_firstUntrue_4 : decode cX6_firstUntrue 4 = .ok (.getfield 24, 3) := by decide +kernel
theorem dX6_firstUntrue_7 : decode cX6_firstUntrue 7 = .ok (.getfield 59, 3) := by decide +kernel
theorem dX6_firstUntrue_10 : decode cX6_firstUntrue 10 = .ok (.if_icmp .ge 79, 3) := by decide +kernel
theorem dX6_firstUntrue_13 : decode cX6_firstUntrue 13 = .ok (.iconst 0, 1) := by decide +kernel
theorem dX6_firstUntrue_14 : decode cX6_firstUntrue 14 = .ok (.istore_n 3, 1) := by decide +kernel
theorem dX6_firstUntrue_15 : decode cX6_firstUntrue 15 = .ok (.iconst 0, 1) := by decide +kernel
theorem dX6_firstUntrue_16 : decode cX6_firstUntrue 16 = .ok (.istore 4, 2) := by decide +kernel
theorem dX6_firstUntrue_18 : decode cX6_firstUntrue 18 = .ok (.iload 4, 2) := by decide +kernel
theorem dX6_firstUntrue_20 : decode cX6_firstUntrue 20 = .ok (.aload_n 0, 1) := by decide +kernel
theorem dX6_firstUntrue_21 : decode cX6_firstUntrue 21 = .ok (.getfield 34, 3) := by decide +kernel
theorem dX6_firstUntrue_24 : decode cX6_firstUntrue 24 = .ok (.iload_n 2, 1) := by decide +kernel
theorem dX6_firstUntrue_25 : decode cX6_firstUntrue 25 = .ok (.iaload, 1) := by decide +kernel
theorem dX6_firstUntrue_26 : decode cX6_firstUntrue 26 = .ok (.if_icmp .ge 34, 3) := by decide +kernel
theorem dX6_firstUntrue_29 : decode cX6_firstUntrue 29 = .ok (.iload_n 3, 1) := by decide +kernel
theorem dX6_firstUntrue_30 : decode cX6_firstUntrue 30 = .ok (.aload_n 0, 1) := by decide +kernel
theorem dX6_firstUntrue_31 : decode cX6_firstUntrue 31 = .ok (.getfield 31, 3) := by decide +kernel
theorem dX6_firstUntrue_34 : decode cX6_firstUntrue 34 = .ok (.iload_n 2, 1) := by decide +kernel
theorem dX6_firstUntrue_35 : decode cX6_firstUntrue 35 = .ok (.bipush 9, 2) := by decide +kernel
theorem dX6_firstUntrue_37 : decode cX6_firstUntrue 37 = .ok (.imul, 1) := by decide +kernel
theorem dX6_firstUntrue_38 : decode cX6_firstUntrue 38 = .ok (.iload 4, 2) := by decide +kernel
theorem dX6_firstUntrue_40 : decode cX6_firstUntrue 40 = .ok (.iadd, 1) := by decide +kernel
theorem dX6_firstUntrue_41 : decode cX6_firstUntrue 41 = .ok (.iaload, 1) := by decide +kernel
theorem dX6_firstUntrue_42 : decode cX6_firstUntrue 42 = .ok (.iload_n 1, 1) := by decide +kernel
theorem dX6_firstUntrue_43 : decode cX6_firstUntrue 43 = .ok (.iand, 1) := by decide +kernel
theorem dX6_firstUntrue_44 : decode cX6_firstUntrue 44 = .ok (.ifCond .ne 7, 3) := by decide +kernel
theorem dX6_firstUntrue_47 : decode cX6_firstUntrue 47 = .ok (.iconst 1, 1) := by decide +kernel
theorem dX6_firstUntrue_48 : decode cX6_firstUntrue 48 = .ok (.goto 4, 3) := by decide +kernel
theorem dX6_firstUntrue_51 : decode cX6_firstUntrue 51 = .ok (.iconst 0, 1) := by decide +kernel
theorem dX6_firstUntrue_52 : decode cX6_firstUntrue 52 = .ok (.ior, 1) := by decide +kernel
theorem dX6_firstUntrue_53 : decode cX6_firstUntrue 53 = .ok (.istore_n 3, 1) := by decide +kernel
theorem dX6_firstUntrue_54 : decode cX6_firstUntrue 54 = .ok (.iinc 4 1, 3) := by decide +kernel
theorem dX6_firstUntrue_57 : decode cX6_firstUntrue 57 = .ok (.goto (-39), 3) := by decide +kernel
theorem dX6_firstUntrue_60 : decode cX6_firstUntrue 60 = .ok (.iload_n 3, 1) := by decide +kernel
theorem dX6_firstUntrue_61 : decode cX6_firstUntrue 61 = .ok (.aload_n 0, 1) := by decide +kernel
theorem dX6_firstUntrue_62 : decode cX6_firstUntrue 62 = .ok (.getfield 46, 3) := by decide +kernel
theorem dX6_firstUntrue_65 : decode cX6_firstUntrue 65 = .ok (.iload_n 2, 1) := by decide +kernel
theorem dX6_firstUntrue_66 : decode cX6_firstUntrue 66 = .ok (.ishr, 1) := by decide +kernel
theorem dX6_firstUntrue_67 : decode cX6_firstUntrue 67 = .ok (.iconst 1, 1) := by decide +kernel
theorem dX6_firstUntrue_68 : decode cX6_firstUntrue 68 = .ok (.iand, 1) := by decide +kernel
theorem dX6_firstUntrue_69 : decode cX6_firstUntrue 69 = .ok (.iconst 1, 1) := by decide +kernel
theorem dX6_firstUntrue_70 : decode cX6_firstUntrue 70 = .ok (.if_icmp .ne 7, 3) := by decide +kernel
theorem dX6_firstUntrue_73 : decode cX6_firstUntrue 73 = .ok (.iconst 1, 1) := by decide +kernel
theorem dX6_firstUntrue_74 : decode cX6_firstUntrue 74 = .ok (.goto 4, 3) := by decide +kernel
theorem dX6_firstUntrue_77 : decode cX6_firstUntrue 77 = .ok (.iconst 0, 1) := by decide +kernel
theorem dX6_firstUntrue_78 : decode cX6_firstUntrue 78 = .ok (.if_icmp .eq 5, 3) := by decide +kernel
theorem dX6_firstUntrue_81 : decode cX6_firstUntrue 81 = .ok (.iload_n 2, 1) := by decide +kernel
theorem dX6_firstUntrue_82 : decode cX6_firstUntrue 82 = .ok (.ireturn, 1) := by decide +kernel
theorem dX6_firstUntrue_83 : decode cX6_firstUntrue 83 = .ok (.iinc 2 1, 3) := by decide +kernel
theorem dX6_firstUntrue_86 : decode cX6_firstUntrue 86 = .ok (.goto (-84), 3) := by decide +kernel
theorem dX6_firstUntrue_89 : decode cX6_firstUntrue 89 = .ok (.iconst (-1), 1) := by decide +kernel
theorem dX6_firstUntrue_90 : decode cX6_firstUntrue 90 = .ok (.ireturn, 1) := by decide +kernel
theorem dX6_leastTrue_0 : decode cX6_leastTrue 0 = .ok (.iconst (-1), 1) := by decide +kernel
theorem dX6_leastTrue_1 : decode cX6_leastTrue 1 = .ok (.istore_n 2, 1) := by decide +kernel
theorem dX6_leastTrue_2 : decode cX6_leastTrue 2 = .ok (.bipush 9, 2) := by decide +kernel
theorem dX6_leastTrue_4 : decode cX6_leastTrue 4 = .ok (.istore_n 3, 1) := by decide +kernel
theorem dX6_leastTrue_5 : decode cX6_leastTrue 5 = .ok (.iconst 0, 1) := by decide +kernel
theorem dX6_leastTrue_6 : decode cX6_leastTrue 6 = .ok (.istore 4, 2) := by decide +kernel
theorem dX6_leastTrue_8 : decode cX6_leastTrue 8 = .ok (.iload 4, 2) := by decide +kernel
theorem dX6_leastTrue_10 : decode cX6_leastTrue 10 = .ok (.iconst 1, 1) := by decide +kernel
theorem dX6_leastTrue_11 : decode cX6_leastTrue 11 = .ok (.iload_n 1, 1) := by decide +kernel
theorem dX6_leastTrue_12 : decode cX6_leastTrue 12 = .ok (.ishl, 1) := by decide +kernel
theorem dX6_leastTrue_13 : decode cX6_leastTrue 13 = .ok (.if_icmp .ge 37, 3) := by decide +kernel
theorem dX6_leastTrue_16 : decode cX6_leastTrue 16 = .ok (.iload 4, 2) := by decide +kernel
theorem dX6_leastTrue_18 : decode cX6_leastTrue 18 = .ok (.invokestatic 82, 3) := by decide +kernel
theorem dX6_leastTrue_21 : decode cX6_leastTrue 21 = .ok (.iload_n 3, 1) := by decide +kernel
theorem dX6_leastTrue_22 : decode cX6_leastTrue 22 = .ok (.if_icmp .ge 22, 3) := by decide +kernel
theorem dX6_leastTrue_25 : decode cX6_leastTrue 25 = .ok (.aload_n 0, 1) := by decide +kernel
theorem dX6_leastTrue_26 : decode cX6_leastTrue 26 = .ok (.iload 4, 2) := by decide +kernel
theorem dX6_leastTrue_28 : decode cX6_leastTrue 28 = .ok (.invokevirtual 88, 3) := by decide +kernel
theorem dX6_leastTrue_31 : decode cX6_leastTrue 31 = .ok (.iconst (-1), 1) := by decide +kernel
theorem dX6_leastTrue_32 : decode cX6_leastTrue 32 = .ok (.if_icmp .ne 12, 3) := by decide +kernel
theorem dX6_leastTrue_35 : decode cX6_leastTrue 35 = .ok (.iload 4, 2) := by decide +kernel
theorem dX6_leastTrue_37 : decode cX6_leastTrue 37 = .ok (.istore_n 2, 1) := by decide +kernel
theorem dX6_leastTrue_38 : decode cX6_leastTrue 38 = .ok (.iload 4, 2) := by decide +kernel
theorem dX6_leastTrue_40 : decode cX6_leastTrue 40 = .ok (.invokestatic 82, 3) := by decide +kernel
theorem dX6_leastTrue_43 : decode cX6_leastTrue 43 = .ok (.istore_n 3, 1) := by decide +kernel
theorem dX6_leastTrue_44 : decode cX6_leastTrue 44 = .ok (.iinc 4 1, 3) := by decide +kernel
theorem dX6_leastTrue_47 : decode cX6_leastTrue 47 = .ok (.goto (-39), 3) := by decide +kernel
theorem dX6_leastTrue_50 : decode cX6_leastTrue 50 = .ok (.iload_n 2, 1) := by decide +kernel
theorem dX6_leastTrue_51 : decode cX6_leastTrue 51 = .ok (.ireturn, 1) := by decide +kernel
theorem dX3_hasSign_0 : decode cX3_hasSign 0 = .ok (.iload_n 1, 1) := by decide +kernel
theorem dX3_hasSign_1 : decode cX3_hasSign 1 = .ok (.ifCond .ne 7, 3) := by decide +kernel
theorem dX3_hasSign_4 : decode cX3_hasSign 4 = .ok (.iconst 1, 1) := by decide +kernel
theorem dX3_hasSign_5 : decode cX3_hasSign 5 = .ok (.goto 4, 3) := by decide +kernel
theorem dX3_hasSign_8 : decode cX3_hasSign 8 = .ok (.iconst 0, 1) := by decide +kernel
theorem dX3_hasSign_9 : decode cX3_hasSign 9 = .ok (.istore_n 2, 1) := by decide +kernel
theorem dX3_hasSign_10 : decode cX3_hasSign 10 = .ok (.iconst 0, 1) := by decide +kernel
theorem dX3_hasSign_11 : decode cX3_hasSign 11 = .ok (.istore_n 3, 1) := by decide +kernel
theorem dX3_hasSign_12 : decode cX3_hasSign 12 = .ok (.iload_n 3, 1) := by decide +kernel
theorem dX3_hasSign_13 : decode cX3_hasSign 13 = .ok (.aload_n 0, 1) := by decide +kernel
theorem dX3_hasSign_14 : decode cX3_hasSign 14 = .ok (.getfield 71, 3) := by decide +kernel
theorem dX3_hasSign_17 : decode cX3_hasSign 17 = .ok (.if_icmp .ge 27, 3) := by decide +kernel
theorem dX3_hasSign_20 : decode cX3_hasSign 20 = .ok (.iload_n 2, 1) := by decide +kernel
theorem dX3_hasSign_21 : decode cX3_hasSign 21 = .ok (.aload_n 0, 1) := by decide +kernel
theorem dX3_hasSign_22 : decode cX3_hasSign 22 = .ok (.getfield 39, 3) := by decide +kernel
theorem dX3_hasSign_25 : decode cX3_hasSign 25 = .ok (.iload_n 3, 1) := by decide +kernel
