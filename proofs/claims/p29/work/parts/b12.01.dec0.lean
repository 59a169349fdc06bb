theorem dX12_words_0 : decode cX12_words 0 = .ok (.aload_n 0, 1) := by decide +kernel
theorem dX12_words_1 : decode cX12_words 1 = .ok (.iconst 0, 1) := by decide +kernel
theorem dX12_words_2 : decode cX12_words 2 = .ok (.putfield 242, 3) := by decide +kernel
theorem dX12_words_5 : decode cX12_words 5 = .ok (.aload_n 0, 1) := by decide +kernel
theorem dX12_words_6 : decode cX12_words 6 = .ok (.iconst 1, 1) := by decide +kernel
theorem dX12_words_7 : decode cX12_words 7 = .ok (.bipush 8, 2) := by decide +kernel
theorem dX12_words_9 : decode cX12_words 9 = .ok (.invokevirtual 346, 3) := by decide +kernel
theorem dX12_words_12 : decode cX12_words 12 = .ok (.ifCond .ne 5, 3) := by decide +kernel
theorem dX12_words_15 : decode cX12_words 15 = .ok (.iconst (-1), 1) := by decide +kernel
theorem dX12_words_16 : decode cX12_words 16 = .ok (.ireturn, 1) := by decide +kernel
theorem dX12_words_17 : decode cX12_words 17 = .ok (.aload_n 0, 1) := by decide +kernel
theorem dX12_words_18 : decode cX12_words 18 = .ok (.iload_n 1, 1) := by decide +kernel
theorem dX12_words_19 : decode cX12_words 19 = .ok (.invokevirtual 349, 3) := by decide +kernel
theorem dX12_words_22 : decode cX12_words 22 = .ok (.aload_n 0, 1) := by decide +kernel
theorem dX12_words_23 : decode cX12_words 23 = .ok (.iconst 0, 1) := by decide +kernel
theorem dX12_words_24 : decode cX12_words 24 = .ok (.aload_n 0, 1) := by decide +kernel
theorem dX12_words_25 : decode cX12_words 25 = .ok (.getfield 7, 3) := by decide +kernel
theorem dX12_words_28 : decode cX12_words 28 = .ok (.bipush 41, 2) := by decide +kernel
theorem dX12_words_30 : decode cX12_words 30 = .ok (.iaload, 1) := by decide +kernel
theorem dX12_words_31 : decode cX12_words 31 = .ok (.iconst 0, 1) := by decide +kernel
theorem dX12_words_32 : decode cX12_words 32 = .ok (.iconst 0, 1) := by decide +kernel
theorem dX12_words_33 : decode cX12_words 33 = .ok (.aload_n 0, 1) := by decide +kernel
theorem dX12_words_34 : decode cX12_words 34 = .ok (.getfield 7, 3) := by decide +kernel
theorem dX12_words_37 : decode cX12_words 37 = .ok (.bipush 40, 2) := by decide +kernel
theorem dX12_words_39 : decode cX12_words 39 = .ok (.iaload, 1) := by decide +kernel
theorem dX12_words_40 : decode cX12_words 40 = .ok (.invokevirtual 311, 3) := by decide +kernel
theorem dX12_words_43 : decode cX12_words 43 = .ok (.aload_n 0, 1) := by decide +kernel
theorem dX12_words_44 : decode cX12_words 44 = .ok (.getfield 242, 3) := by decide +kernel
theorem dX12_words_47 : decode cX12_words 47 = .ok (.sipush 200, 3) := by decide +kernel
theorem dX12_words_50 : decode cX12_words 50 = .ok (.if_icmp .gt 8, 3) := by decide +kernel
theorem dX12_words_53 : decode cX12_words 53 = .ok (.aload_n 0, 1) := by decide +kernel
theorem dX12_words_54 : decode cX12_words 54 = .ok (.getfield 242, 3) := by decide +kernel
theorem dX12_words_57 : decode cX12_words 57 = .ok (.ireturn, 1) := by decide +kernel
theorem dX12_words_58 : decode cX12_words 58 = .ok (.aload_n 0, 1) := by decide +kernel
theorem dX12_words_59 : decode cX12_words 59 = .ok (.iconst 0, 1) := by decide +kernel
theorem dX12_words_60 : decode cX12_words 60 = .ok (.putfield 242, 3) := by decide +kernel
theorem dX12_words_63 : decode cX12_words 63 = .ok (.bipush (-2), 2) := by decide +kernel
theorem dX12_words_65 : decode cX12_words 65 = .ok (.ireturn, 1) := by decide +kernel
theorem dX12_say_0 : decode cX12_say 0 = .ok (.aload_n 0, 1) := by decide +kernel
theorem dX12_say_1 : decode cX12_say 1 = .ok (.iconst 0, 1) := by decide +kernel
theorem dX12_say_2 : decode cX12_say 2 = .ok (.invokevirtual 352, 3) := by decide +kernel
theorem dX12_say_5 : decode cX12_say 5 = .ok (.ireturn, 1) := by decide +kernel
theorem dX12_hear_0 : decode cX12_hear 0 = .ok (.aload_n 0, 1) := by decide +kernel
theorem dX12_hear_1 : decode cX12_hear 1 = .ok (.iconst 1, 1) := by decide +kernel
theorem dX12_hear_2 : decode cX12_hear 2 = .ok (.invokevirtual 352, 3) := by decide +kernel
theorem dX12_hear_5 : decode cX12_hear 5 = .ok (.ireturn, 1) := by decide +kernel
theorem dX12_found_0 : decode cX12_found 0 = .ok (.iload_n 1, 1) := by decide +kernel
theorem dX12_found_1 : decode cX12_found 1 = .ok (.iconst 0, 1) := by decide +kernel
theorem dX12_found_2 : decode cX12_found 2 = .ok (.aload_n 0, 1) := by decide +kernel
theorem dX12_found_3 : decode cX12_found 3 = .ok (.getfield 242, 3) := by decide +kernel
theorem dX12_found_6 : decode cX12_found 6 = .ok (.iconst 1, 1) := by decide +kernel
theorem dX12_found_7 : decode cX12_found 7 = .ok (.isub, 1) := by decide +kernel
theorem dX12_found_8 : decode cX12_found 8 = .ok (.invokestatic 119, 3) := by decide +kernel
theorem dX12_found_11 : decode cX12_found 11 = .ok (.ifCond .eq 13, 3) := by decide +kernel
theorem dX12_found_14 : decode cX12_found 14 = .ok (.iload_n 2, 1) := by decide +kernel
theorem dX12_found_15 : decode cX12_found 15 = .ok (.iconst (-1), 1) := by decide +kernel
theorem dX12_found_16 : decode cX12_found 16 = .ok (.bipush 9, 2) := by decide +kernel
theorem dX12_found_18 : decode cX12_found 18 = .ok (.invokestatic 119, 3) := by decide +kernel
theorem dX12_found_21 : decode cX12_found 21 = .ok (.ifCond .ne 5, 3) := by decide +kernel
theorem dX12_found_24 : decode cX12_found 24 = .ok (.iconst (-1), 1) := by decide +kernel
theorem dX12_found_25 : decode cX12_found 25 = .ok (.ireturn, 1) := by decide +kernel
theorem dX12_found_26 : decode cX12_found 26 = .ok (.aload_n 0, 1) := by decide +kernel
theorem dX12_found_27 : decode cX12_found 27 = .ok (.getfield 52, 3) := by decide +kernel
theorem dX12_found_30 : decode cX12_found 30 = .ok (.iload_n 1, 1) := by decide +kernel
theorem dX12_found_31 : decode cX12_found 31 = .ok (.laload, 1) := by decide +kernel
theorem dX12_found_32 : decode cX12_found 32 = .ok (.lstore_n 3, 1) := by decide +kernel
theorem dX12_found_33 : decode cX12_found 33 = .ok (.iconst 0, 1) := by decide +kernel
theorem dX12_found_34 : decode cX12_found 34 = .ok (.istore 5, 2) := by decide +kernel
theorem dX12_found_36 : decode cX12_found 36 = .ok (.iconst (-1), 1) := by decide +kernel
theorem dX12_found_37 : decode cX12_found 37 = .ok (.istore 6, 2) := by decide +kernel
theorem dX12_found_39 : decode cX12_found 39 = .ok (.bipush 9, 2) := by decide +kernel
theorem dX12_found_41 : decode cX12_found 41 = .ok (.istore 7, 2) := by decide +kernel
theorem dX12_found_43 : decode cX12_found 43 = .ok (.iload 7, 2) := by decide +kernel
theorem dX12_found_45 : decode cX12_found 45 = .ok (.ifCond .lt 55, 3) := by decide +kernel
theorem dX12_found_48 : decode cX12_found 48 = .ok (.lload_n 3, 1) := by decide +kernel
theorem dX12_found_49 : decode cX12_found 49 = .ok (.ldc2_w 315, 3) := by decide +kernel
theorem dX12_found_52 : decode cX12_found 52 = .ok (.lrem, 1) := by decide +kernel
theorem dX12_found_53 : decode cX12_found 53 = .ok (.l2i, 1) := by decide +kernel
theorem dX12_found_54 : decode cX12_found 54 = .ok (.istore 8, 2) := by decide +kernel
theorem dX12_found_56 : decode cX12_found 56 = .ok (.lload_n 3, 1) := by decide +kernel
theorem dX12_found_57 : decode cX12_found 57 = .ok (.ldc2_w 315, 3) := by decide +kernel
theorem dX12_found_60 : decode cX12_found 60 = .ok (.ldiv, 1) := by decide +kernel
theorem dX12_found_61 : decode cX12_found 61 = .ok (.lstore_n 3, 1) := by decide +kernel
theorem dX12_found_62 : decode cX12_found 62 = .ok (.iload 5, 2) := by decide +kernel
theorem dX12_found_64 : decode cX12_found 64 = .ok (.iload 8, 2) := by decide +kernel
theorem dX12_found_66 : decode cX12_found 66 = .ok (.ifCond .le 7, 3) := by decide +kernel
theorem dX12_found_69 : decode cX12_found 69 = .ok (.iconst 1, 1) := by decide +kernel
theorem dX12_found_70 : decode cX12_found 70 = .ok (.goto 4, 3) := by decide +kernel
theorem dX12_found_73 : decode cX12_found 73 = .ok (.iconst 0, 1) := by decide +kernel
theorem dX12_found_74 : decode cX12_found 74 = .ok (.iadd, 1) := by decide +kernel
theorem dX12_found_75 : decode cX12_found 75 = .ok (.istore 5, 2) := by decide +kernel
theorem dX12_found_77 : decode cX12_found 77 = .ok (.iload 7, 2) := by decide +kernel
theorem dX12_found_79 : decode cX12_found 79 = .ok (.iload_n 2, 1) := by decide +kernel
theorem dX12_found_80 : decode cX12_found 80 = .ok (.if_icmp .ne 14, 3) := by decide +kernel
theorem dX12_found_83 : decode cX12_found 83 = .ok (.iload 8, 2) := by decide +kernel
theorem dX12_found_85 : decode cX12_found 85 = .ok (.ifCond .le 9, 3) := by decide +kernel
theorem dX12_found_88 : decode cX12_found 88 = .ok (.iload 8, 2) := by decide +kernel
theorem dX12_found_90 : decode cX12_found 90 = .ok (.iconst 1, 1) := by decide +kernel
theorem dX12_found_91 : decode cX12_found 91 = .ok (.isub, 1) := by decide +kernel
theorem dX12_found_92 : decode cX12_found 92 = .ok (.istore 6, 2) := by decide +kernel
theorem dX12_found_94 : decode cX12_found 94 = .ok (.iinc 7 (-1), 3) := by decide +kernel
theorem dX12_found_97 : decode cX12_found 97 = .ok (.goto (-54), 3) := by decide +kernel
theorem dX12_found_100 : decode cX12_found 100 = .ok (.iload_n 2, 1) := by decide +kernel
theorem dX12_found_101 : decode cX12_found 101 = .ok (.iconst (-1), 1) := by decide +kernel
theorem dX12_found_102 : decode cX12_found 102 = .ok (.if_icmp .ne 8, 3) := by decide +kernel
theorem dX12_found_105 : decode cX12_found 105 = .ok (.iload 5, 2) := by decide +kernel
theorem dX12_found_107 : decode cX12_found 107 = .ok (.goto 5, 3) := by decide +kernel
theorem dX12_found_110 : decode cX12_found 110 = .ok (.iload 6, 2) := by decide +kernel
theorem dX12_found_112 : decode cX12_found 112 = .ok (.ireturn, 1) := by decide +kernel
theorem dX12_aligns_0 : decode cX12_aligns 0 = .ok (.iload_n 1, 1) := by decide +kernel
theorem dX12_aligns_1 : decode cX12_aligns 1 = .ok (.aload_n 0, 1) := by decide +kernel
theorem dX12_aligns_2 : decode cX12_aligns 2 = .ok (.getfield 291, 3) := by decide +kernel
theorem dX12_aligns_5 : decode cX12_aligns 5 = .ok (.if_icmp .ne 24, 3) := by decide +kernel
theorem dX12_aligns_8 : decode cX12_aligns 8 = .ok (.iload_n 2, 1) := by decide +kernel
theorem dX12_aligns_9 : decode cX12_aligns 9 = .ok (.aload_n 0, 1) := by decide +kernel
theorem dX12_aligns_10 : decode cX12_aligns 10 = .ok (.getfield 355, 3) := by decide +kernel
theorem dX12_aligns_13 : decode cX12_aligns 13 = .ok (.if_icmp .ne 16, 3) := by decide +kernel
theorem dX12_aligns_16 : decode cX12_aligns 16 = .ok (.aload_n 0, 1) := by decide +kernel
theorem dX12_aligns_17 : decode cX12_aligns 17 = .ok (.iload 4, 2) := by decide +kernel
theorem dX12_aligns_19 : decode cX12_aligns 19 = .ok (.iload 5, 2) := by decide +kernel
theorem dX12_aligns_21 : decode cX12_aligns 21 = .ok (.invokevirtual 294, 3) := by decide +kernel
theorem dX12_aligns_24 : decode cX12_aligns 24 = .ok (.ifCond .eq 5, 3) := by decide +kernel
theorem dX12_aligns_27 : decode cX12_aligns 27 = .ok (.iconst 1, 1) := by decide +kernel
theorem dX12_aligns_28 : decode cX12_aligns 28 = .ok (.ireturn, 1) := by decide +kernel
theorem dX12_aligns_29 : decode cX12_aligns 29 = .ok (.iconst 0, 1) := by decide +kernel
theorem dX12_aligns_30 : decode cX12_aligns 30 = .ok (.istore 6, 2) := by decide +kernel
theorem dX12_aligns_32 : decode cX12_aligns 32 = .ok (.iload 6, 2) := by decide +kernel
theorem dX12_aligns_34 : decode cX12_aligns 34 = .ok (.aload_n 0, 1) := by decide +kernel
theorem dX12_aligns_35 : decode cX12_aligns 35 = .ok (.getfield 7, 3) := by decide +kernel
theorem dX12_aligns_38 : decode cX12_aligns 38 = .ok (.bipush 16, 2) := by decide +kernel
theorem dX12_aligns_40 : decode cX12_aligns 40 = .ok (.iaload, 1) := by decide +kernel
theorem dX12_aligns_41 : decode cX12_aligns 41 = .ok (.if_icmp .ge 188, 3) := by decide +kernel
theorem dX12_aligns_44 : decode cX12_aligns 44 = .ok (.aload_n 0, 1) := by decide +kernel
theorem dX12_aligns_45 : decode cX12_aligns 45 = .ok (.getfield 7, 3) := by decide +kernel
theorem dX12_aligns_48 : decode cX12_aligns 48 = .ok (.bipush 20, 2) := by decide +kernel
theorem dX12_aligns_50 : decode cX12_aligns 50 = .ok (.iload 6, 2) := by decide +kernel
theorem dX12_aligns_52 : decode cX12_aligns 52 = .ok (.iadd, 1) := by decide +kernel
theorem dX12_aligns_53 : decode cX12_aligns 53 = .ok (.iaload, 1) := by decide +kernel
theorem dX12_aligns_54 : decode cX12_aligns 54 = .ok (.bipush 9, 2) := by decide +kernel
theorem dX12_aligns_56 : decode cX12_aligns 56 = .ok (.idiv, 1) := by decide +kernel
theorem dX12_aligns_57 : decode cX12_aligns 57 = .ok (.istore 7, 2) := by decide +kernel
theorem dX12_aligns_59 : decode cX12_aligns 59 = .ok (.aload_n 0, 1) := by decide +kernel
theorem dX12_aligns_60 : decode cX12_aligns 60 = .ok (.getfield 7, 3) := by decide +kernel
theorem dX12_aligns_63 : decode cX12_aligns 63 = .ok (.bipush 20, 2) := by decide +kernel
theorem dX12_aligns_65 : decode cX12_aligns 65 = .ok (.iload 6, 2) := by decide +kernel
theorem dX12_aligns_67 : decode cX12_aligns 67 = .ok (.iadd, 1) := by decide +kernel
theorem dX12_aligns_68 : decode cX12_aligns 68 = .ok (.iaload, 1) := by decide +kernel
theorem dX12_aligns_69 : decode cX12_aligns 69 = .ok (.bipush 9, 2) := by decide +kernel
theorem dX12_aligns_71 : decode cX12_aligns 71 = .ok (.irem, 1) := by decide +kernel
theorem dX12_aligns_72 : decode cX12_aligns 72 = .ok (.istore 8, 2) := by decide +kernel
theorem dX12_aligns_74 : decode cX12_aligns 74 = .ok (.iload 7, 2) := by decide +kernel
theorem dX12_aligns_76 : decode cX12_aligns 76 = .ok (.ifCond .eq 8, 3) := by decide +kernel
theorem dX12_aligns_79 : decode cX12_aligns 79 = .ok (.iload 8, 2) := by decide +kernel
theorem dX12_aligns_81 : decode cX12_aligns 81 = .ok (.ifCond .ne 7, 3) := by decide +kernel
theorem dX12_aligns_84 : decode cX12_aligns 84 = .ok (.iconst 1, 1) := by decide +kernel
theorem dX12_aligns_85 : decode cX12_aligns 85 = .ok (.goto 4, 3) := by decide +kernel
theorem dX12_aligns_88 : decode cX12_aligns 88 = .ok (.iconst 0, 1) := by decide +kernel
theorem dX12_aligns_89 : decode cX12_aligns 89 = .ok (.istore 9, 2) := by decide +kernel
theorem dX12_aligns_91 : decode cX12_aligns 91 = .ok (.iload 9, 2) := by decide +kernel
theorem dX12_aligns_93 : decode cX12_aligns 93 = .ok (.ifCond .eq 7, 3) := by decide +kernel
theorem dX12_aligns_96 : decode cX12_aligns 96 = .ok (.iload_n 3, 1) := by decide +kernel
theorem dX12_aligns_97 : decode cX12_aligns 97 = .ok (.ifCond .eq 126, 3) := by decide +kernel
theorem dX12_aligns_100 : decode cX12_aligns 100 = .ok (.iload 7, 2) := by decide +kernel
theorem dX12_aligns_102 : decode cX12_aligns 102 = .ok (.ifCond .eq 22, 3) := by decide +kernel
theorem dX12_aligns_105 : decode cX12_aligns 105 = .ok (.iload_n 1, 1) := by decide +kernel
theorem dX12_aligns_106 : decode cX12_aligns 106 = .ok (.aload_n 0, 1) := by decide +kernel
theorem dX12_aligns_107 : decode cX12_aligns 107 = .ok (.getfield 291, 3) := by decide +kernel
theorem dX12_aligns_110 : decode cX12_aligns 110 = .ok (.if_icmp .eq 113, 3) := by decide +kernel
theorem dX12_aligns_113 : decode cX12_aligns 113 = .ok (.aload_n 0, 1) := by decide +kernel
theorem dX12_aligns_114 : decode cX12_aligns 114 = .ok (.getfield 46, 3) := by decide +kernel
theorem dX12_aligns_117 : decode cX12_aligns 117 = .ok (.iload_n 1, 1) := by decide +kernel
theorem dX12_aligns_118 : decode cX12_aligns 118 = .ok (.iaload, 1) := by decide +kernel
theorem dX12_aligns_119 : decode cX12_aligns 119 = .ok (.iload 7, 2) := by decide +kernel
theorem dX12_aligns_121 : decode cX12_aligns 121 = .ok (.if_icmp .ne 102, 3) := by decide +kernel
theorem dX12_aligns_124 : decode cX12_aligns 124 = .ok (.iload 8, 2) := by decide +kernel
theorem dX12_aligns_126 : decode cX12_aligns 126 = .ok (.ifCond .eq 25, 3) := by decide +kernel
theorem dX12_aligns_129 : decode cX12_aligns 129 = .ok (.iload_n 2, 1) := by decide +kernel
theorem dX12_aligns_130 : decode cX12_aligns 130 = .ok (.aload_n 0, 1) := by decide +kernel
theorem dX12_aligns_131 : decode cX12_aligns 131 = .ok (.getfield 355, 3) := by decide +kernel
theorem dX12_aligns_134 : decode cX12_aligns 134 = .ok (.if_icmp .eq 89, 3) := by decide +kernel
theorem dX12_aligns_137 : decode cX12_aligns 137 = .ok (.aload_n 0, 1) := by decide +kernel
theorem dX12_aligns_138 : decode cX12_aligns 138 = .ok (.getfield 62, 3) := by decide +kernel
theorem dX12_aligns_141 : decode cX12_aligns 141 = .ok (.iload_n 2, 1) := by decide +kernel
theorem dX12_aligns_142 : decode cX12_aligns 142 = .ok (.iaload, 1) := by decide +kernel
theorem dX12_aligns_143 : decode cX12_aligns 143 = .ok (.iload 8, 2) := by decide +kernel
theorem dX12_aligns_145 : decode cX12_aligns 145 = .ok (.if_icmp .eq 6, 3) := by decide +kernel
theorem dX12_aligns_148 : decode cX12_aligns 148 = .ok (.goto 75, 3) := by decide +kernel
theorem dX12_aligns_151 : decode cX12_aligns 151 = .ok (.aload_n 0, 1) := by decide +kernel
theorem dX12_aligns_152 : decode cX12_aligns 152 = .ok (.iload 4, 2) := by decide +kernel
theorem dX12_aligns_154 : decode cX12_aligns 154 = .ok (.aload_n 0, 1) := by decide +kernel
theorem dX12_aligns_155 : decode cX12_aligns 155 = .ok (.getfield 7, 3) := by decide +kernel
theorem dX12_aligns_158 : decode cX12_aligns 158 = .ok (.bipush 20, 2) := by decide +kernel
theorem dX12_aligns_160 : decode cX12_aligns 160 = .ok (.iload 6, 2) := by decide +kernel
theorem dX12_aligns_162 : decode cX12_aligns 162 = .ok (.iadd, 1) := by decide +kernel
theorem dX12_aligns_163 : decode cX12_aligns 163 = .ok (.iaload, 1) := by decide +kernel
theorem dX12_aligns_164 : decode cX12_aligns 164 = .ok (.iload 5, 2) := by decide +kernel
theorem dX12_aligns_166 : decode cX12_aligns 166 = .ok (.invokevirtual 308, 3) := by decide +kernel
theorem dX12_aligns_169 : decode cX12_aligns 169 = .ok (.ifCond .eq 54, 3) := by decide +kernel
theorem dX12_aligns_172 : decode cX12_aligns 172 = .ok (.aload_n 0, 1) := by decide +kernel
theorem dX12_aligns_173 : decode cX12_aligns 173 = .ok (.iload 7, 2) := by decide +kernel
theorem dX12_aligns_175 : decode cX12_aligns 175 = .ok (.ifCond .ne 7, 3) := by decide +kernel
theorem dX12_aligns_178 : decode cX12_aligns 178 = .ok (.iload_n 1, 1) := by decide +kernel
theorem dX12_aligns_179 : decode cX12_aligns 179 = .ok (.goto 6, 3) := by decide +kernel
theorem dX12_aligns_182 : decode cX12_aligns 182 = .ok (.iload_n 1, 1) := by decide +kernel
theorem dX12_aligns_183 : decode cX12_aligns 183 = .ok (.iconst 1, 1) := by decide +kernel
theorem dX12_aligns_184 : decode cX12_aligns 184 = .ok (.iadd, 1) := by decide +kernel
theorem dX12_aligns_185 : decode cX12_aligns 185 = .ok (.iload 8, 2) := by decide +kernel
theorem dX12_aligns_187 : decode cX12_aligns 187 = .ok (.ifCond .ne 7, 3) := by decide +kernel
theorem dX12_aligns_190 : decode cX12_aligns 190 = .ok (.iload_n 2, 1) := by decide +kernel
theorem dX12_aligns_191 : decode cX12_aligns 191 = .ok (.goto 6, 3) := by decide +kernel
theorem dX12_aligns_194 : decode cX12_aligns 194 = .ok (.iload_n 2, 1) := by decide +kernel
theorem dX12_aligns_195 : decode cX12_aligns 195 = .ok (.iconst 1, 1) := by decide +kernel
theorem dX12_aligns_196 : decode cX12_aligns 196 = .ok (.iadd, 1) := by decide +kernel
theorem dX12_aligns_197 : decode cX12_aligns 197 = .ok (.iload 9, 2) := by decide +kernel
theorem dX12_aligns_199 : decode cX12_aligns 199 = .ok (.ifCond .eq 9, 3) := by decide +kernel
theorem dX12_aligns_202 : decode cX12_aligns 202 = .ok (.iload_n 3, 1) := by decide +kernel
theorem dX12_aligns_203 : decode cX12_aligns 203 = .ok (.iconst 1, 1) := by decide +kernel
theorem dX12_aligns_204 : decode cX12_aligns 204 = .ok (.isub, 1) := by decide +kernel
theorem dX12_aligns_205 : decode cX12_aligns 205 = .ok (.goto 4, 3) := by decide +kernel
theorem dX12_aligns_208 : decode cX12_aligns 208 = .ok (.iload_n 3, 1) := by decide +kernel
theorem dX12_aligns_209 : decode cX12_aligns 209 = .ok (.iload 4, 2) := by decide +kernel
theorem dX12_aligns_211 : decode cX12_aligns 211 = .ok (.iconst 1, 1) := by decide +kernel
theorem dX12_aligns_212 : decode cX12_aligns 212 = .ok (.iadd, 1) := by decide +kernel
theorem dX12_aligns_213 : decode cX12_aligns 213 = .ok (.iload 5, 2) := by decide +kernel
theorem dX12_aligns_215 : decode cX12_aligns 215 = .ok (.invokevirtual 358, 3) := by decide +kernel
theorem dX12_aligns_218 : decode cX12_aligns 218 = .ok (.ifCond .eq 5, 3) := by decide +kernel
theorem dX12_aligns_221 : decode cX12_aligns 221 = .ok (.iconst 1, 1) := by decide +kernel
theorem dX12_aligns_222 : decode cX12_aligns 222 = .ok (.ireturn, 1) := by decide +kernel
theorem dX12_aligns_223 : decode cX12_aligns 223 = .ok (.iinc 6 1, 3) := by decide +kernel
theorem dX12_aligns_226 : decode cX12_aligns 226 = .ok (.goto (-194), 3) := by decide +kernel
theorem dX12_aligns_229 : decode cX12_aligns 229 = .ok (.iconst 0, 1) := by decide +kernel
theorem dX12_aligns_230 : decode cX12_aligns 230 = .ok (.ireturn, 1) := by decide +kernel
theorem dX12_isSaid_0 : decode cX12_isSaid 0 = .ok (.aload_n 0, 1) := by decide +kernel
theorem dX12_isSaid_1 : decode cX12_isSaid 1 = .ok (.invokevirtual 343, 3) := by decide +kernel
theorem dX12_isSaid_4 : decode cX12_isSaid 4 = .ok (.aload_n 0, 1) := by decide +kernel
theorem dX12_isSaid_5 : decode cX12_isSaid 5 = .ok (.iconst 0, 1) := by decide +kernel
theorem dX12_isSaid_6 : decode cX12_isSaid 6 = .ok (.iconst 0, 1) := by decide +kernel
theorem dX12_isSaid_7 : decode cX12_isSaid 7 = .ok (.aload_n 0, 1) := by decide +kernel
theorem dX12_isSaid_8 : decode cX12_isSaid 8 = .ok (.getfield 7, 3) := by decide +kernel
theorem dX12_isSaid_11 : decode cX12_isSaid 11 = .ok (.bipush 41, 2) := by decide +kernel
theorem dX12_isSaid_13 : decode cX12_isSaid 13 = .ok (.iaload, 1) := by decide +kernel
theorem dX12_isSaid_14 : decode cX12_isSaid 14 = .ok (.iconst 0, 1) := by decide +kernel
theorem dX12_isSaid_15 : decode cX12_isSaid 15 = .ok (.iload_n 1, 1) := by decide +kernel
theorem dX12_isSaid_16 : decode cX12_isSaid 16 = .ok (.invokevirtual 358, 3) := by decide +kernel
theorem dX12_isSaid_19 : decode cX12_isSaid 19 = .ok (.ireturn, 1) := by decide +kernel
theorem dX12_understand_0 : decode cX12_understand 0 = .ok (.aload_n 0, 1) := by decide +kernel
theorem dX12_understand_1 : decode cX12_understand 1 = .ok (.iconst 0, 1) := by decide +kernel
theorem dX12_understand_2 : decode cX12_understand 2 = .ok (.putfield 245, 3) := by decide +kernel
theorem dX12_understand_5 : decode cX12_understand 5 = .ok (.aload_n 0, 1) := by decide +kernel
theorem dX12_understand_6 : decode cX12_understand 6 = .ok (.iconst 1, 1) := by decide +kernel
theorem dX12_understand_7 : decode cX12_understand 7 = .ok (.bipush 8, 2) := by decide +kernel
theorem dX12_understand_9 : decode cX12_understand 9 = .ok (.invokevirtual 346, 3) := by decide +kernel
theorem dX12_understand_12 : decode cX12_understand 12 = .ok (.ifCond .ne 5, 3) := by decide +kernel
theorem dX12_understand_15 : decode cX12_understand 15 = .ok (.iconst (-1), 1) := by decide +kernel
theorem dX12_understand_16 : decode cX12_understand 16 = .ok (.ireturn, 1) := by decide +kernel
theorem dX12_understand_17 : decode cX12_understand 17 = .ok (.aload_n 0, 1) := by decide +kernel
theorem dX12_understand_18 : decode cX12_understand 18 = .ok (.aload_n 0, 1) := by decide +kernel
theorem dX12_understand_19 : decode cX12_understand 19 = .ok (.getfield 291, 3) := by decide +kernel
theorem dX12_understand_22 : decode cX12_understand 22 = .ok (.putfield 355, 3) := by decide +kernel
theorem dX12_understand_25 : decode cX12_understand 25 = .ok (.iconst 0, 1) := by decide +kernel
theorem dX12_understand_26 : decode cX12_understand 26 = .ok (.istore_n 1, 1) := by decide +kernel
theorem dX12_understand_27 : decode cX12_understand 27 = .ok (.iload_n 1, 1) := by decide +kernel
theorem dX12_understand_28 : decode cX12_understand 28 = .ok (.aload_n 0, 1) := by decide +kernel
theorem dX12_understand_29 : decode cX12_understand 29 = .ok (.getfield 355, 3) := by decide +kernel
theorem dX12_understand_32 : decode cX12_understand 32 = .ok (.if_icmp .ge 21, 3) := by decide +kernel
theorem dX12_understand_35 : decode cX12_understand 35 = .ok (.aload_n 0, 1) := by decide +kernel
theorem dX12_understand_36 : decode cX12_understand 36 = .ok (.getfield 62, 3) := by decide +kernel
theorem dX12_understand_39 : decode cX12_understand 39 = .ok (.iload_n 1, 1) := by decide +kernel
theorem dX12_understand_40 : decode cX12_understand 40 = .ok (.aload_n 0, 1) := by decide +kernel
theorem dX12_understand_41 : decode cX12_understand 41 = .ok (.getfield 46, 3) := by decide +kernel
theorem dX12_understand_44 : decode cX12_understand 44 = .ok (.iload_n 1, 1) := by decide +kernel
theorem dX12_understand_45 : decode cX12_understand 45 = .ok (.iaload, 1) := by decide +kernel
theorem dX12_understand_46 : decode cX12_understand 46 = .ok (.iastore, 1) := by decide +kernel
theorem dX12_understand_47 : decode cX12_understand 47 = .ok (.iinc 1 1, 3) := by decide +kernel
theorem dX12_understand_50 : decode cX12_understand 50 = .ok (.goto (-23), 3) := by decide +kernel
theorem dX12_understand_53 : decode cX12_understand 53 = .ok (.iconst 0, 1) := by decide +kernel
theorem dX12_understand_54 : decode cX12_understand 54 = .ok (.istore_n 1, 1) := by decide +kernel
theorem dX12_understand_55 : decode cX12_understand 55 = .ok (.iload_n 1, 1) := by decide +kernel
theorem dX12_understand_56 : decode cX12_understand 56 = .ok (.aload_n 0, 1) := by decide +kernel
theorem dX12_understand_57 : decode cX12_understand 57 = .ok (.getfield 7, 3) := by decide +kernel
theorem dX12_understand_60 : decode cX12_understand 60 = .ok (.bipush 18, 2) := by decide +kernel
theorem dX12_understand_62 : decode cX12_understand 62 = .ok (.iaload, 1) := by decide +kernel
theorem dX12_understand_63 : decode cX12_understand 63 = .ok (.if_icmp .ge 200, 3) := by decide +kernel
theorem dX12_understand_66 : decode cX12_understand 66 = .ok (.iconst 0, 1) := by decide +kernel
theorem dX12_understand_67 : decode cX12_understand 67 = .ok (.istore_n 2, 1) := by decide +kernel
theorem dX12_understand_68 : decode cX12_understand 68 = .ok (.iload_n 2, 1) := by decide +kernel
theorem dX12_understand_69 : decode cX12_understand 69 = .ok (.aload_n 0, 1) := by decide +kernel
theorem dX12_understand_70 : decode cX12_understand 70 = .ok (.getfield 7, 3) := by decide +kernel
theorem dX12_understand_73 : decode cX12_understand 73 = .ok (.bipush 19, 2) := by decide +kernel
theorem dX12_understand_75 : decode cX12_understand 75 = .ok (.iaload, 1) := by decide +kernel
theorem dX12_understand_76 : decode cX12_understand 76 = .ok (.if_icmp .ge 181, 3) := by decide +kernel
theorem dX12_understand_79 : decode cX12_understand 79 = .ok (.aload_n 0, 1) := by decide +kernel
theorem dX12_understand_80 : decode cX12_understand 80 = .ok (.iconst 0, 1) := by decide +kernel
theorem dX12_understand_81 : decode cX12_understand 81 = .ok (.putfield 291, 3) := by decide +kernel
theorem dX12_understand_84 : decode cX12_understand 84 = .ok (.iconst 0, 1) := by decide +kernel
theorem dX12_understand_85 : decode cX12_understand 85 = .ok (.istore_n 3, 1) := by decide +kernel
theorem dX12_understand_86 : decode cX12_understand 86 = .ok (.iload_n 3, 1) := by decide +kernel
theorem dX12_understand_87 : decode cX12_understand 87 = .ok (.aload_n 0, 1) := by decide +kernel
theorem dX12_understand_88 : decode cX12_understand 88 = .ok (.getfield 7, 3) := by decide +kernel
theorem dX12_understand_91 : decode cX12_understand 91 = .ok (.bipush 60, 2) := by decide +kernel
theorem dX12_understand_93 : decode cX12_understand 93 = .ok (.bipush 8, 2) := by decide +kernel
theorem dX12_understand_95 : decode cX12_understand 95 = .ok (.iload_n 1, 1) := by decide +kernel
theorem dX12_understand_96 : decode cX12_understand 96 = .ok (.imul, 1) := by decide +kernel
theorem dX12_understand_97 : decode cX12_understand 97 = .ok (.iadd, 1) := by decide +kernel
theorem dX12_understand_98 : decode cX12_understand 98 = .ok (.iaload, 1) := by decide +kernel
theorem dX12_understand_99 : decode cX12_understand 99 = .ok (.if_icmp .ge 44, 3) := by decide +kernel
theorem dX12_understand_102 : decode cX12_understand 102 = .ok (.aload_n 0, 1) := by decide +kernel
theorem dX12_understand_103 : decode cX12_understand 103 = .ok (.getfield 46, 3) := by decide +kernel
theorem dX12_understand_106 : decode cX12_understand 106 = .ok (.aload_n 0, 1) := by decide +kernel
theorem dX12_understand_107 : decode cX12_understand 107 = .ok (.getfield 291, 3) := by decide +kernel
theorem dX12_understand_110 : decode cX12_understand 110 = .ok (.aload_n 0, 1) := by decide +kernel
theorem dX12_understand_111 : decode cX12_understand 111 = .ok (.getfield 7, 3) := by decide +kernel
theorem dX12_understand_114 : decode cX12_understand 114 = .ok (.bipush 60, 2) := by decide +kernel
theorem dX12_understand_116 : decode cX12_understand 116 = .ok (.bipush 8, 2) := by decide +kernel
theorem dX12_understand_118 : decode cX12_understand 118 = .ok (.iload_n 1, 1) := by decide +kernel
theorem dX12_understand_119 : decode cX12_understand 119 = .ok (.imul, 1) := by decide +kernel
theorem dX12_understand_120 : decode cX12_understand 120 = .ok (.iadd, 1) := by decide +kernel
theorem dX12_understand_121 : decode cX12_understand 121 = .ok (.iconst 1, 1) := by decide +kernel
theorem dX12_understand_122 : decode cX12_understand 122 = .ok (.iadd, 1) := by decide +kernel
theorem dX12_understand_123 : decode cX12_understand 123 = .ok (.iload_n 3, 1) := by decide +kernel
theorem dX12_understand_124 : decode cX12_understand 124 = .ok (.iadd, 1) := by decide +kernel
theorem dX12_understand_125 : decode cX12_understand 125 = .ok (.iaload, 1) := by decide +kernel
theorem dX12_understand_126 : decode cX12_understand 126 = .ok (.iastore, 1) := by decide +kernel
theorem dX12_understand_127 : decode cX12_understand 127 = .ok (.aload_n 0, 1) := by decide +kernel
theorem dX12_understand_128 : decode cX12_understand 128 = .ok (.dup, 1) := by decide +kernel
theorem dX12_understand_129 : decode cX12_understand 129 = .ok (.getfield 291, 3) := by decide +kernel
theorem dX12_understand_132 : decode cX12_understand 132 = .ok (.iconst 1, 1) := by decide +kernel
theorem dX12_understand_133 : decode cX12_understand 133 = .ok (.iadd, 1) := by decide +kernel
theorem dX12_understand_134 : decode cX12_understand 134 = .ok (.putfield 291, 3) := by decide +kernel
theorem dX12_understand_137 : decode cX12_understand 137 = .ok (.iinc 3 1, 3) := by decide +kernel
theorem dX12_understand_140 : decode cX12_understand 140 = .ok (.goto (-54), 3) := by decide +kernel
theorem dX12_understand_143 : decode cX12_understand 143 = .ok (.iconst 0, 1) := by decide +kernel
theorem dX12_understand_144 : decode cX12_understand 144 = .ok (.istore_n 3, 1) := by decide +kernel
theorem dX12_understand_145 : decode cX12_understand 145 = .ok (.iload_n 3, 1) := by decide +kernel
theorem dX12_understand_146 : decode cX12_understand 146 = .ok (.aload_n 0, 1) := by decide +kernel
theorem dX12_understand_147 : decode cX12_understand 147 = .ok (.getfield 7, 3) := by decide +kernel
theorem dX12_understand_150 : decode cX12_understand 150 = .ok (.sipush 156, 3) := by decide +kernel
theorem dX12_understand_153 : decode cX12_understand 153 = .ok (.bipush 8, 2) := by decide +kernel
theorem dX12_understand_155 : decode cX12_understand 155 = .ok (.iload_n 2, 1) := by decide +kernel
theorem dX12_understand_156 : decode cX12_understand 156 = .ok (.imul, 1) := by decide +kernel
theorem dX12_understand_157 : decode cX12_understand 157 = .ok (.iadd, 1) := by decide +kernel
theorem dX12_understand_158 : decode cX12_understand 158 = .ok (.iaload, 1) := by decide +kernel
theorem dX12_understand_159 : decode cX12_understand 159 = .ok (.if_icmp .ge 45, 3) := by decide +kernel
theorem dX12_understand_162 : decode cX12_understand 162 = .ok (.aload_n 0, 1) := by decide +kernel
theorem dX12_understand_163 : decode cX12_understand 163 = .ok (.getfield 46, 3) := by decide +kernel
theorem dX12_understand_166 : decode cX12_understand 166 = .ok (.aload_n 0, 1) := by decide +kernel
theorem dX12_understand_167 : decode cX12_understand 167 = .ok (.getfield 291, 3) := by decide +kernel
theorem dX12_understand_170 : decode cX12_understand 170 = .ok (.aload_n 0, 1) := by decide +kernel
theorem dX12_understand_171 : decode cX12_understand 171 = .ok (.getfield 7, 3) := by decide +kernel
theorem dX12_understand_174 : decode cX12_understand 174 = .ok (.sipush 156, 3) := by decide +kernel
theorem dX12_understand_177 : decode cX12_understand 177 = .ok (.bipush 8, 2) := by decide +kernel
theorem dX12_understand_179 : decode cX12_understand 179 = .ok (.iload_n 2, 1) := by decide +kernel
theorem dX12_understand_180 : decode cX12_understand 180 = .ok (.imul, 1) := by decide +kernel
theorem dX12_understand_181 : decode cX12_understand 181 = .ok (.iadd, 1) := by decide +kernel
theorem dX12_understand_182 : decode cX12_understand 182 = .ok (.iconst 1, 1) := by decide +kernel
theorem dX12_understand_183 : decode cX12_understand 183 = .ok (.iadd, 1) := by decide +kernel
theorem dX12_understand_184 : decode cX12_understand 184 = .ok (.iload_n 3, 1) := by decide +kernel
theorem dX12_understand_185 : decode cX12_understand 185 = .ok (.iadd, 1) := by decide +kernel
theorem dX12_understand_186 : decode cX12_understand 186 = .ok (.iaload, 1) := by decide +kernel
theorem dX12_understand_187 : decode cX12_understand 187 = .ok (.iastore, 1) := by decide +kernel
theorem dX12_understand_188 : decode cX12_understand 188 = .ok (.aload_n 0, 1) := by decide +kernel
theorem dX12_understand_189 : decode cX12_understand 189 = .ok (.dup, 1) := by decide +kernel
theorem dX12_understand_190 : decode cX12_understand 190 = .ok (.getfield 291, 3) := by decide +kernel
theorem dX12_understand_193 : decode cX12_understand 193 = .ok (.iconst 1, 1) := by decide +kernel
theorem dX12_understand_194 : decode cX12_understand 194 = .ok (.iadd, 1) := by decide +kernel
theorem dX12_understand_195 : decode cX12_understand 195 = .ok (.putfield 291, 3) := by decide +kernel
theorem dX12_understand_198 : decode cX12_understand 198 = .ok (.iinc 3 1, 3) := by decide +kernel
theorem dX12_understand_201 : decode cX12_understand 201 = .ok (.goto (-56), 3) := by decide +kernel
theorem dX12_understand_204 : decode cX12_understand 204 = .ok (.aload_n 0, 1) := by decide +kernel
theorem dX12_understand_205 : decode cX12_understand 205 = .ok (.aload_n 0, 1) := by decide +kernel
theorem dX12_understand_206 : decode cX12_understand 206 = .ok (.getfield 7, 3) := by decide +kernel
theorem dX12_understand_209 : decode cX12_understand 209 = .ok (.bipush 40, 2) := by decide +kernel
theorem dX12_understand_211 : decode cX12_understand 211 = .ok (.iaload, 1) := by decide +kernel
theorem dX12_understand_212 : decode cX12_understand 212 = .ok (.invokevirtual 362, 3) := by decide +kernel
theorem dX12_understand_215 : decode cX12_understand 215 = .ok (.ifCond .ne 6, 3) := by decide +kernel
theorem dX12_understand_218 : decode cX12_understand 218 = .ok (.goto 33, 3) := by decide +kernel
theorem dX12_understand_221 : decode cX12_understand 221 = .ok (.aload_n 0, 1) := by decide +kernel
theorem dX12_understand_222 : decode cX12_understand 222 = .ok (.getfield 65, 3) := by decide +kernel
theorem dX12_understand_225 : decode cX12_understand 225 = .ok (.aload_n 0, 1) := by decide +kernel
theorem dX12_understand_226 : decode cX12_understand 226 = .ok (.getfield 245, 3) := by decide +kernel
theorem dX12_understand_229 : decode cX12_understand 229 = .ok (.iload_n 1, 1) := by decide +kernel
theorem dX12_understand_230 : decode cX12_understand 230 = .ok (.iastore, 1) := by decide +kernel
theorem dX12_understand_231 : decode cX12_understand 231 = .ok (.aload_n 0, 1) := by decide +kernel
theorem dX12_understand_232 : decode cX12_understand 232 = .ok (.getfield 68, 3) := by decide +kernel
theorem dX12_understand_235 : decode cX12_understand 235 = .ok (.aload_n 0, 1) := by decide +kernel
theorem dX12_understand_236 : decode cX12_understand 236 = .ok (.getfield 245, 3) := by decide +kernel
theorem dX12_understand_239 : decode cX12_understand 239 = .ok (.iload_n 2, 1) := by decide +kernel
theorem dX12_understand_240 : decode cX12_understand 240 = .ok (.iastore, 1) := by decide +kernel
theorem dX12_understand_241 : decode cX12_understand 241 = .ok (.aload_n 0, 1) := by decide +kernel
theorem dX12_understand_242 : decode cX12_understand 242 = .ok (.dup, 1) := by decide +kernel
theorem dX12_understand_243 : decode cX12_understand 243 = .ok (.getfield 245, 3) := by decide +kernel
theorem dX12_understand_246 : decode cX12_understand 246 = .ok (.iconst 1, 1) := by decide +kernel
theorem dX12_understand_247 : decode cX12_understand 247 = .ok (.iadd, 1) := by decide +kernel
theorem dX12_understand_248 : decode cX12_understand 248 = .ok (.putfield 245, 3) := by decide +kernel
theorem dX12_understand_251 : decode cX12_understand 251 = .ok (.iinc 2 1, 3) := by decide +kernel
theorem dX12_understand_254 : decode cX12_understand 254 = .ok (.goto (-186), 3) := by decide +kernel
theorem dX12_understand_257 : decode cX12_understand 257 = .ok (.iinc 1 1, 3) := by decide +kernel
theorem dX12_understand_260 : decode cX12_understand 260 = .ok (.goto (-205), 3) := by decide +kernel
theorem dX12_understand_263 : decode cX12_understand 263 = .ok (.aload_n 0, 1) := by decide +kernel
theorem dX12_understand_264 : decode cX12_understand 264 = .ok (.getfield 245, 3) := by decide +kernel
theorem dX12_understand_267 : decode cX12_understand 267 = .ok (.ireturn, 1) := by decide +kernel
theorem dX12_meant_0 : decode cX12_meant 0 = .ok (.iload_n 1, 1) := by decide +kernel
theorem dX12_meant_1 : decode cX12_meant 1 = .ok (.iconst 0, 1) := by decide +kernel
theorem dX12_meant_2 : decode cX12_meant 2 = .ok (.aload_n 0, 1) := by decide +kernel
theorem dX12_meant_3 : decode cX12_meant 3 = .ok (.getfield 245, 3) := by decide +kernel
theorem dX12_meant_6 : decode cX12_meant 6 = .ok (.iconst 1, 1) := by decide +kernel
theorem dX12_meant_7 : decode cX12_meant 7 = .ok (.isub, 1) := by decide +kernel
theorem dX12_meant_8 : decode cX12_meant 8 = .ok (.invokestatic 119, 3) := by decide +kernel
theorem dX12_meant_11 : decode cX12_meant 11 = .ok (.ifCond .ne 7, 3) := by decide +kernel
theorem dX12_meant_14 : decode cX12_meant 14 = .ok (.iconst (-1), 1) := by decide +kernel
theorem dX12_meant_15 : decode cX12_meant 15 = .ok (.goto 31, 3) := by decide +kernel
theorem dX12_meant_18 : decode cX12_meant 18 = .ok (.iload_n 2, 1) := by decide +kernel
theorem dX12_meant_19 : decode cX12_meant 19 = .ok (.ifCond .ne 12, 3) := by decide +kernel
theorem dX12_meant_22 : decode cX12_meant 22 = .ok (.aload_n 0, 1) := by decide +kernel
theorem dX12_meant_23 : decode cX12_meant 23 = .ok (.getfield 65, 3) := by decide +kernel
theorem dX12_meant_26 : decode cX12_meant 26 = .ok (.iload_n 1, 1) := by decide +kernel
theorem dX12_meant_27 : decode cX12_meant 27 = .ok (.iaload, 1) := by decide +kernel
theorem dX12_meant_28 : decode cX12_meant 28 = .ok (.goto 18, 3) := by decide +kernel
theorem dX12_meant_31 : decode cX12_meant 31 = .ok (.iload_n 2, 1) := by decide +kernel
theorem dX12_meant_32 : decode cX12_meant 32 = .ok (.iconst 1, 1) := by decide +kernel
theorem dX12_meant_33 : decode cX12_meant 33 = .ok (.if_icmp .ne 12, 3) := by decide +kernel
theorem dX12_meant_36 : decode cX12_meant 36 = .ok (.aload_n 0, 1) := by decide +kernel
theorem dX12_meant_37 : decode cX12_meant 37 = .ok (.getfield 68, 3) := by decide +kernel
theorem dX12_meant_40 : decode cX12_meant 40 = .ok (.iload_n 1, 1) := by decide +kernel
theorem dX12_meant_41 : decode cX12_meant 41 = .ok (.iaload, 1) := by decide +kernel
theorem dX12_meant_42 : decode cX12_meant 42 = .ok (.goto 4, 3) := by decide +kernel
theorem dX12_meant_45 : decode cX12_meant 45 = .ok (.iconst (-1), 1) := by decide +kernel
theorem dX12_meant_46 : decode cX12_meant 46 = .ok (.ireturn, 1) := by decide +kernel
theorem dX12_takesRow_0 : decode cX12_takesRow 0 = .ok (.aload_n 0, 1) := by decide +kernel
theorem dX12_takesRow_1 : decode cX12_takesRow 1 = .ok (.getfield 116, 3) := by decide +kernel
theorem dX12_takesRow_4 : decode cX12_takesRow 4 = .ok (.istore_n 1, 1) := by decide +kernel
theorem dX12_takesRow_5 : decode cX12_takesRow 5 = .ok (.aload_n 0, 1) := by decide +kernel
theorem dX12_takesRow_6 : decode cX12_takesRow 6 = .ok (.iconst 0, 1) := by decide +kernel
theorem dX12_takesRow_7 : decode cX12_takesRow 7 = .ok (.putfield 116, 3) := by decide +kernel
theorem dX12_takesRow_10 : decode cX12_takesRow 10 = .ok (.iload_n 1, 1) := by decide +kernel
theorem dX12_takesRow_11 : decode cX12_takesRow 11 = .ok (.iconst 2, 1) := by decide +kernel
theorem dX12_takesRow_12 : decode cX12_takesRow 12 = .ok (.irem, 1) := by decide +kernel
theorem dX12_takesRow_13 : decode cX12_takesRow 13 = .ok (.iconst 1, 1) := by decide +kernel
theorem dX12_takesRow_14 : decode cX12_takesRow 14 = .ok (.if_icmp .eq 13, 3) := by decide +kernel
theorem dX12_takesRow_17 : decode cX12_takesRow 17 = .ok (.iload_n 1, 1) := by decide +kernel
theorem dX12_takesRow_18 : decode cX12_takesRow 18 = .ok (.iconst 2, 1) := by decide +kernel
theorem dX12_takesRow_19 : decode cX12_takesRow 19 = .ok (.bipush 32, 2) := by decide +kernel
theorem dX12_takesRow_21 : decode cX12_takesRow 21 = .ok (.invokestatic 119, 3) := by decide +kernel
theorem dX12_takesRow_24 : decode cX12_takesRow 24 = .ok (.ifCond .ne 5, 3) := by decide +kernel
theorem dX12_takesRow_27 : decode cX12_takesRow 27 = .ok (.iconst (-1), 1) := by decide +kernel
theorem dX12_takesRow_28 : decode cX12_takesRow 28 = .ok (.ireturn, 1) := by decide +kernel
theorem dX12_takesRow_29 : decode cX12_takesRow 29 = .ok (.iconst 0, 1) := by decide +kernel
theorem dX12_takesRow_30 : decode cX12_takesRow 30 = .ok (.istore_n 2, 1) := by decide +kernel
theorem dX12_takesRow_31 : decode cX12_takesRow 31 = .ok (.iload_n 2, 1) := by decide +kernel
theorem dX12_takesRow_32 : decode cX12_takesRow 32 = .ok (.iload_n 1, 1) := by decide +kernel
theorem dX12_takesRow_33 : decode cX12_takesRow 33 = .ok (.iconst 2, 1) := by decide +kernel
theorem dX12_takesRow_34 : decode cX12_takesRow 34 = .ok (.idiv, 1) := by decide +kernel
theorem dX12_takesRow_35 : decode cX12_takesRow 35 = .ok (.if_icmp .ge 145, 3) := by decide +kernel
theorem dX12_takesRow_38 : decode cX12_takesRow 38 = .ok (.aload_n 0, 1) := by decide +kernel
theorem dX12_takesRow_39 : decode cX12_takesRow 39 = .ok (.getfield 19, 3) := by decide +kernel
theorem dX12_takesRow_42 : decode cX12_takesRow 42 = .ok (.iconst 2, 1) := by decide +kernel
theorem dX12_takesRow_43 : decode cX12_takesRow 43 = .ok (.iload_n 2, 1) := by decide +kernel
theorem dX12_takesRow_44 : decode cX12_takesRow 44 = .ok (.imul, 1) := by decide +kernel
theorem dX12_takesRow_45 : decode cX12_takesRow 45 = .ok (.iaload, 1) := by decide +kernel
theorem dX12_takesRow_46 : decode cX12_takesRow 46 = .ok (.bipush 48, 2) := by decide +kernel
theorem dX12_takesRow_48 : decode cX12_takesRow 48 = .ok (.if_icmp .ne 7, 3) := by decide +kernel
theorem dX12_takesRow_51 : decode cX12_takesRow 51 = .ok (.iconst 0, 1) := by decide +kernel
theorem dX12_takesRow_52 : decode cX12_takesRow 52 = .ok (.goto 18, 3) := by decide +kernel
theorem dX12_takesRow_55 : decode cX12_takesRow 55 = .ok (.aload_n 0, 1) := by decide +kernel
theorem dX12_takesRow_56 : decode cX12_takesRow 56 = .ok (.getfield 7, 3) := by decide +kernel
theorem dX12_takesRow_59 : decode cX12_takesRow 59 = .ok (.aload_n 0, 1) := by decide +kernel
theorem dX12_takesRow_60 : decode cX12_takesRow 60 = .ok (.getfield 19, 3) := by decide +kernel
theorem dX12_takesRow_63 : decode cX12_takesRow 63 = .ok (.iconst 2, 1) := by decide +kernel
theorem dX12_takesRow_64 : decode cX12_takesRow 64 = .ok (.iload_n 2, 1) := by decide +kernel
theorem dX12_takesRow_65 : decode cX12_takesRow 65 = .ok (.imul, 1) := by decide +kernel
theorem dX12_takesRow_66 : decode cX12_takesRow 66 = .ok (.iaload, 1) := by decide +kernel
theorem dX12_takesRow_67 : decode cX12_takesRow 67 = .ok (.invokestatic 163, 3) := by decide +kernel
theorem dX12_takesRow_70 : decode cX12_takesRow 70 = .ok (.istore_n 3, 1) := by decide +kernel
theorem dX12_takesRow_71 : decode cX12_takesRow 71 = .ok (.aload_n 0, 1) := by decide +kernel
theorem dX12_takesRow_72 : decode cX12_takesRow 72 = .ok (.getfield 19, 3) := by decide +kernel
theorem dX12_takesRow_75 : decode cX12_takesRow 75 = .ok (.iconst 2, 1) := by decide +kernel
theorem dX12_takesRow_76 : decode cX12_takesRow 76 = .ok (.iload_n 2, 1) := by decide +kernel
theorem dX12_takesRow_77 : decode cX12_takesRow 77 = .ok (.imul, 1) := by decide +kernel
theorem dX12_takesRow_78 : decode cX12_takesRow 78 = .ok (.iconst 1, 1) := by decide +kernel
theorem dX12_takesRow_79 : decode cX12_takesRow 79 = .ok (.iadd, 1) := by decide +kernel
theorem dX12_takesRow_80 : decode cX12_takesRow 80 = .ok (.iaload, 1) := by decide +kernel
theorem dX12_takesRow_81 : decode cX12_takesRow 81 = .ok (.bipush 48, 2) := by decide +kernel
theorem dX12_takesRow_83 : decode cX12_takesRow 83 = .ok (.if_icmp .ne 7, 3) := by decide +kernel
theorem dX12_takesRow_86 : decode cX12_takesRow 86 = .ok (.iconst 0, 1) := by decide +kernel
theorem dX12_takesRow_87 : decode cX12_takesRow 87 = .ok (.goto 20, 3) := by decide +kernel
theorem dX12_takesRow_90 : decode cX12_takesRow 90 = .ok (.aload_n 0, 1) := by decide +kernel
theorem dX12_takesRow_91 : decode cX12_takesRow 91 = .ok (.getfield 7, 3) := by decide +kernel
theorem dX12_takesRow_94 : decode cX12_takesRow 94 = .ok (.aload_n 0, 1) := by decide +kernel
theorem dX12_takesRow_95 : decode cX12_takesRow 95 = .ok (.getfield 19, 3) := by decide +kernel
theorem dX12_takesRow_98 : decode cX12_takesRow 98 = .ok (.iconst 2, 1) := by decide +kernel
theorem dX12_takesRow_99 : decode cX12_takesRow 99 = .ok (.iload_n 2, 1) := by decide +kernel
theorem dX12_takesRow_100 : decode cX12_takesRow 100 = .ok (.imul, 1) := by decide +kernel
theorem dX12_takesRow_101 : decode cX12_takesRow 101 = .ok (.iconst 1, 1) := by decide +kernel
theorem dX12_takesRow_102 : decode cX12_takesRow 102 = .ok (.iadd, 1) := by decide +kernel
theorem dX12_takesRow_103 : decode cX12_takesRow 103 = .ok (.iaload, 1) := by decide +kernel
theorem dX12_takesRow_104 : decode cX12_takesRow 104 = .ok (.invokestatic 163, 3) := by decide +kernel
theorem dX12_takesRow_107 : decode cX12_takesRow 107 = .ok (.istore 4, 2) := by decide +kernel
theorem dX12_takesRow_109 : decode cX12_takesRow 109 = .ok (.iload_n 3, 1) := by decide +kernel
theorem dX12_takesRow_110 : decode cX12_takesRow 110 = .ok (.ifCond .ne 16, 3) := by decide +kernel
theorem dX12_takesRow_113 : decode cX12_takesRow 113 = .ok (.aload_n 0, 1) := by decide +kernel
theorem dX12_takesRow_114 : decode cX12_takesRow 114 = .ok (.getfield 19, 3) := by decide +kernel
theorem dX12_takesRow_117 : decode cX12_takesRow 117 = .ok (.iconst 2, 1) := by decide +kernel
theorem dX12_takesRow_118 : decode cX12_takesRow 118 = .ok (.iload_n 2, 1) := by decide +kernel
theorem dX12_takesRow_119 : decode cX12_takesRow 119 = .ok (.imul, 1) := by decide +kernel
theorem dX12_takesRow_120 : decode cX12_takesRow 120 = .ok (.iaload, 1) := by decide +kernel
theorem dX12_takesRow_121 : decode cX12_takesRow 121 = .ok (.bipush 48, 2) := by decide +kernel
theorem dX12_takesRow_123 : decode cX12_takesRow 123 = .ok (.if_icmp .ne 36, 3) := by decide +kernel
theorem dX12_takesRow_126 : decode cX12_takesRow 126 = .ok (.iload 4, 2) := by decide +kernel
theorem dX12_takesRow_128 : decode cX12_takesRow 128 = .ok (.ifCond .ne 18, 3) := by decide +kernel
theorem dX12_takesRow_131 : decode cX12_takesRow 131 = .ok (.aload_n 0, 1) := by decide +kernel
theorem dX12_takesRow_132 : decode cX12_takesRow 132 = .ok (.getfield 19, 3) := by decide +kernel
theorem dX12_takesRow_135 : decode cX12_takesRow 135 = .ok (.iconst 2, 1) := by decide +kernel
theorem dX12_takesRow_136 : decode cX12_takesRow 136 = .ok (.iload_n 2, 1) := by decide +kernel
theorem dX12_takesRow_137 : decode cX12_takesRow 137 = .ok (.imul, 1) := by decide +kernel
theorem dX12_takesRow_138 : decode cX12_takesRow 138 = .ok (.iconst 1, 1) := by decide +kernel
theorem dX12_takesRow_139 : decode cX12_takesRow 139 = .ok (.iadd, 1) := by decide +kernel
theorem dX12_takesRow_140 : decode cX12_takesRow 140 = .ok (.iaload, 1) := by decide +kernel
theorem dX12_takesRow_141 : decode cX12_takesRow 141 = .ok (.bipush 48, 2) := by decide +kernel
theorem dX12_takesRow_143 : decode cX12_takesRow 143 = .ok (.if_icmp .ne 16, 3) := by decide +kernel
theorem dX12_takesRow_146 : decode cX12_takesRow 146 = .ok (.aload_n 0, 1) := by decide +kernel
theorem dX12_takesRow_147 : decode cX12_takesRow 147 = .ok (.getfield 7, 3) := by decide +kernel
theorem dX12_takesRow_150 : decode cX12_takesRow 150 = .ok (.iload_n 3, 1) := by decide +kernel
theorem dX12_takesRow_151 : decode cX12_takesRow 151 = .ok (.iload 4, 2) := by decide +kernel
theorem dX12_takesRow_153 : decode cX12_takesRow 153 = .ok (.invokestatic 180, 3) := by decide +kernel
theorem dX12_takesRow_156 : decode cX12_takesRow 156 = .ok (.ifCond .ne 5, 3) := by decide +kernel
theorem dX12_takesRow_159 : decode cX12_takesRow 159 = .ok (.iconst (-1), 1) := by decide +kernel
theorem dX12_takesRow_160 : decode cX12_takesRow 160 = .ok (.ireturn, 1) := by decide +kernel
theorem dX12_takesRow_161 : decode cX12_takesRow 161 = .ok (.aload_n 0, 1) := by decide +kernel
theorem dX12_takesRow_162 : decode cX12_takesRow 162 = .ok (.getfield 43, 3) := by decide +kernel
theorem dX12_takesRow_165 : decode cX12_takesRow 165 = .ok (.iload_n 2, 1) := by decide +kernel
theorem dX12_takesRow_166 : decode cX12_takesRow 166 = .ok (.bipush 9, 2) := by decide +kernel
theorem dX12_takesRow_168 : decode cX12_takesRow 168 = .ok (.iload_n 3, 1) := by decide +kernel
theorem dX12_takesRow_169 : decode cX12_takesRow 169 = .ok (.imul, 1) := by decide +kernel
theorem dX12_takesRow_170 : decode cX12_takesRow 170 = .ok (.iload 4, 2) := by decide +kernel
theorem dX12_takesRow_172 : decode cX12_takesRow 172 = .ok (.iadd, 1) := by decide +kernel
theorem dX12_takesRow_173 : decode cX12_takesRow 173 = .ok (.iastore, 1) := by decide +kernel
theorem dX12_takesRow_174 : decode cX12_takesRow 174 = .ok (.iinc 2 1, 3) := by decide +kernel
theorem dX12_takesRow_177 : decode cX12_takesRow 177 = .ok (.goto (-146), 3) := by decide +kernel
theorem dX12_takesRow_180 : decode cX12_takesRow 180 = .ok (.iload_n 1, 1) := by decide +kernel
theorem dX12_takesRow_181 : decode cX12_takesRow 181 = .ok (.iconst 2, 1) := by decide +kernel
theorem dX12_takesRow_182 : decode cX12_takesRow 182 = .ok (.idiv, 1) := by decide +kernel
theorem dX12_takesRow_183 : decode cX12_takesRow 183 = .ok (.ireturn, 1) := by decide +kernel
theorem dX12_walk_0 : decode cX12_walk 0 = .ok (.aload_n 0, 1) := by decide +kernel
theorem dX12_walk_1 : decode cX12_walk 1 = .ok (.iconst (-1), 1) := by decide +kernel
theorem dX12_walk_2 : decode cX12_walk 2 = .ok (.putfield 71, 3) := by decide +kernel
theorem dX12_walk_5 : decode cX12_walk 5 = .ok (.aload_n 0, 1) := by decide +kernel
theorem dX12_walk_6 : decode cX12_walk 6 = .ok (.invokevirtual 365, 3) := by decide +kernel
theorem dX12_walk_9 : decode cX12_walk 9 = .ok (.istore_n 1, 1) := by decide +kernel
theorem dX12_walk_10 : decode cX12_walk 10 = .ok (.iload_n 1, 1) := by decide +kernel
theorem dX12_walk_11 : decode cX12_walk 11 = .ok (.iconst (-1), 1) := by decide +kernel
theorem dX12_walk_12 : decode cX12_walk 12 = .ok (.if_icmp .ne 6, 3) := by decide +kernel
theorem dX12_walk_15 : decode cX12_walk 15 = .ok (.bipush (-2), 2) := by decide +kernel
theorem dX12_walk_17 : decode cX12_walk 17 = .ok (.ireturn, 1) := by decide +kernel
theorem dX12_walk_18 : decode cX12_walk 18 = .ok (.iconst 0, 1) := by decide +kernel
theorem dX12_walk_19 : decode cX12_walk 19 = .ok (.istore_n 2, 1) := by decide +kernel
theorem dX12_walk_20 : decode cX12_walk 20 = .ok (.iload_n 2, 1) := by decide +kernel
theorem dX12_walk_21 : decode cX12_walk 21 = .ok (.aload_n 0, 1) := by decide +kernel
theorem dX12_walk_22 : decode cX12_walk 22 = .ok (.getfield 7, 3) := by decide +kernel
theorem dX12_walk_25 : decode cX12_walk 25 = .ok (.bipush 17, 2) := by decide +kernel
theorem dX12_walk_27 : decode cX12_walk 27 = .ok (.iaload, 1) := by decide +kernel
theorem dX12_walk_28 : decode cX12_walk 28 = .ok (.if_icmp .ge 61, 3) := by decide +kernel
theorem dX12_walk_31 : decode cX12_walk 31 = .ok (.iconst 0, 1) := by decide +kernel
theorem dX12_walk_32 : decode cX12_walk 32 = .ok (.istore_n 3, 1) := by decide +kernel
theorem dX12_walk_33 : decode cX12_walk 33 = .ok (.iload_n 3, 1) := by decide +kernel
theorem dX12_walk_34 : decode cX12_walk 34 = .ok (.iload_n 1, 1) := by decide +kernel
theorem dX12_walk_35 : decode cX12_walk 35 = .ok (.if_icmp .ge 48, 3) := by decide +kernel
theorem dX12_walk_38 : decode cX12_walk 38 = .ok (.aload_n 0, 1) := by decide +kernel
theorem dX12_walk_39 : decode cX12_walk 39 = .ok (.getfield 7, 3) := by decide +kernel
theorem dX12_walk_42 : decode cX12_walk 42 = .ok (.bipush 40, 2) := by decide +kernel
theorem dX12_walk_44 : decode cX12_walk 44 = .ok (.iaload, 1) := by decide +kernel
theorem dX12_walk_45 : decode cX12_walk 45 = .ok (.iload_n 2, 1) := by decide +kernel
theorem dX12_walk_46 : decode cX12_walk 46 = .ok (.ishr, 1) := by decide +kernel
theorem dX12_walk_47 : decode cX12_walk 47 = .ok (.iconst 1, 1) := by decide +kernel
theorem dX12_walk_48 : decode cX12_walk 48 = .ok (.iand, 1) := by decide +kernel
theorem dX12_walk_49 : decode cX12_walk 49 = .ok (.iconst 1, 1) := by decide +kernel
theorem dX12_walk_50 : decode cX12_walk 50 = .ok (.if_icmp .ne 33, 3) := by decide +kernel
theorem dX12_walk_53 : decode cX12_walk 53 = .ok (.aload_n 0, 1) := by decide +kernel
theorem dX12_walk_54 : decode cX12_walk 54 = .ok (.iload_n 2, 1) := by decide +kernel
theorem dX12_walk_55 : decode cX12_walk 55 = .ok (.iload_n 3, 1) := by decide +kernel
theorem dX12_walk_56 : decode cX12_walk 56 = .ok (.aload_n 0, 1) := by decide +kernel
theorem dX12_walk_57 : decode cX12_walk 57 = .ok (.getfield 43, 3) := by decide +kernel
theorem dX12_walk_60 : decode cX12_walk 60 = .ok (.iload_n 1, 1) := by decide +kernel
theorem dX12_walk_61 : decode cX12_walk 61 = .ok (.invokevirtual 368, 3) := by decide +kernel
theorem dX12_walk_64 : decode cX12_walk 64 = .ok (.ifCond .ne 6, 3) := by decide +kernel
theorem dX12_walk_67 : decode cX12_walk 67 = .ok (.goto 10, 3) := by decide +kernel
theorem dX12_walk_70 : decode cX12_walk 70 = .ok (.aload_n 0, 1) := by decide +kernel
theorem dX12_walk_71 : decode cX12_walk 71 = .ok (.iload_n 3, 1) := by decide +kernel
theorem dX12_walk_72 : decode cX12_walk 72 = .ok (.putfield 71, 3) := by decide +kernel
theorem dX12_walk_75 : decode cX12_walk 75 = .ok (.iload_n 2, 1) := by decide +kernel
theorem dX12_walk_76 : decode cX12_walk 76 = .ok (.ireturn, 1) := by decide +kernel
theorem dX12_walk_77 : decode cX12_walk 77 = .ok (.iinc 3 1, 3) := by decide +kernel
theorem dX12_walk_80 : decode cX12_walk 80 = .ok (.goto (-47), 3) := by decide +kernel
theorem dX12_walk_83 : decode cX12_walk 83 = .ok (.iinc 2 1, 3) := by decide +kernel
theorem dX12_walk_86 : decode cX12_walk 86 = .ok (.goto (-66), 3) := by decide +kernel
theorem dX12_walk_89 : decode cX12_walk 89 = .ok (.iconst (-1), 1) := by decide +kernel
theorem dX12_walk_90 : decode cX12_walk 90 = .ok (.ireturn, 1) := by decide +kernel
theorem dX12_where_0 : decode cX12_where 0 = .ok (.aload_n 0, 1) := by decide +kernel
theorem dX12_where_1 : decode cX12_where 1 = .ok (.getfield 71, 3) := by decide +kernel
theorem dX12_where_4 : decode cX12_where 4 = .ok (.ireturn, 1) := by decide +kernel
theorem dX12_age_0 : decode cX12_age 0 = .ok (.aload_n 0, 1) := by decide +kernel
