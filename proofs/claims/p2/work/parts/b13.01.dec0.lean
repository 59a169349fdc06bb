theorem dX12_fewestPairs_0 : decode cX12_fewestPairs 0 = .ok (.iconst 0, 1) := by decide +kernel
theorem dX12_fewestPairs_1 : decode cX12_fewestPairs 1 = .ok (.istore 4, 2) := by decide +kernel
theorem dX12_fewestPairs_3 : decode cX12_fewestPairs 3 = .ok (.iload 4, 2) := by decide +kernel
theorem dX12_fewestPairs_5 : decode cX12_fewestPairs 5 = .ok (.sipush 4096, 3) := by decide +kernel
theorem dX12_fewestPairs_8 : decode cX12_fewestPairs 8 = .ok (.if_icmp .ge 17, 3) := by decide +kernel
theorem dX12_fewestPairs_11 : decode cX12_fewestPairs 11 = .ok (.aload_n 0, 1) := by decide +kernel
theorem dX12_fewestPairs_12 : decode cX12_fewestPairs 12 = .ok (.getfield 86, 3) := by decide +kernel
theorem dX12_fewestPairs_15 : decode cX12_fewestPairs 15 = .ok (.iload 4, 2) := by decide +kernel
theorem dX12_fewestPairs_17 : decode cX12_fewestPairs 17 = .ok (.iconst (-1), 1) := by decide +kernel
theorem dX12_fewestPairs_18 : decode cX12_fewestPairs 18 = .ok (.iastore, 1) := by decide +kernel
theorem dX12_fewestPairs_19 : decode cX12_fewestPairs 19 = .ok (.iinc 4 1, 3) := by decide +kernel
theorem dX12_fewestPairs_22 : decode cX12_fewestPairs 22 = .ok (.goto (-19), 3) := by decide +kernel
theorem dX12_fewestPairs_25 : decode cX12_fewestPairs 25 = .ok (.bipush 64, 2) := by decide +kernel
theorem dX12_fewestPairs_27 : decode cX12_fewestPairs 27 = .ok (.aload_n 0, 1) := by decide +kernel
theorem dX12_fewestPairs_28 : decode cX12_fewestPairs 28 = .ok (.iload_n 1, 1) := by decide +kernel
theorem dX12_fewestPairs_29 : decode cX12_fewestPairs 29 = .ok (.iload_n 3, 1) := by decide +kernel
theorem dX12_fewestPairs_30 : decode cX12_fewestPairs 30 = .ok (.iconst 1, 1) := by decide +kernel
theorem dX12_fewestPairs_31 : decode cX12_fewestPairs 31 = .ok (.invokevirtual 258, 3) := by decide +kernel
theorem dX12_fewestPairs_34 : decode cX12_fewestPairs 34 = .ok (.imul, 1) := by decide +kernel
theorem dX12_fewestPairs_35 : decode cX12_fewestPairs 35 = .ok (.aload_n 0, 1) := by decide +kernel
theorem dX12_fewestPairs_36 : decode cX12_fewestPairs 36 = .ok (.iload_n 2, 1) := by decide +kernel
theorem dX12_fewestPairs_37 : decode cX12_fewestPairs 37 = .ok (.iload_n 3, 1) := by decide +kernel
theorem dX12_fewestPairs_38 : decode cX12_fewestPairs 38 = .ok (.iconst 1, 1) := by decide +kernel
theorem dX12_fewestPairs_39 : decode cX12_fewestPairs 39 = .ok (.invokevirtual 258, 3) := by decide +kernel
theorem dX12_fewestPairs_42 : decode cX12_fewestPairs 42 = .ok (.iadd, 1) := by decide +kernel
theorem dX12_fewestPairs_43 : decode cX12_fewestPairs 43 = .ok (.istore 4, 2) := by decide +kernel
theorem dX12_fewestPairs_45 : decode cX12_fewestPairs 45 = .ok (.aload_n 0, 1) := by decide +kernel
theorem dX12_fewestPairs_46 : decode cX12_fewestPairs 46 = .ok (.getfield 86, 3) := by decide +kernel
theorem dX12_fewestPairs_49 : decode cX12_fewestPairs 49 = .ok (.iload 4, 2) := by decide +kernel
theorem dX12_fewestPairs_51 : decode cX12_fewestPairs 51 = .ok (.iconst 0, 1) := by decide +kernel
theorem dX12_fewestPairs_52 : decode cX12_fewestPairs 52 = .ok (.iastore, 1) := by decide +kernel
theorem dX12_fewestPairs_53 : decode cX12_fewestPairs 53 = .ok (.aload_n 0, 1) := by decide +kernel
theorem dX12_fewestPairs_54 : decode cX12_fewestPairs 54 = .ok (.getfield 83, 3) := by decide +kernel
theorem dX12_fewestPairs_57 : decode cX12_fewestPairs 57 = .ok (.iconst 0, 1) := by decide +kernel
theorem dX12_fewestPairs_58 : decode cX12_fewestPairs 58 = .ok (.iload 4, 2) := by decide +kernel
theorem dX12_fewestPairs_60 : decode cX12_fewestPairs 60 = .ok (.iastore, 1) := by decide +kernel
theorem dX12_fewestPairs_61 : decode cX12_fewestPairs 61 = .ok (.iconst 1, 1) := by decide +kernel
theorem dX12_fewestPairs_62 : decode cX12_fewestPairs 62 = .ok (.istore 5, 2) := by decide +kernel
theorem dX12_fewestPairs_64 : decode cX12_fewestPairs 64 = .ok (.iconst 0, 1) := by decide +kernel
theorem dX12_fewestPairs_65 : decode cX12_fewestPairs 65 = .ok (.istore 6, 2) := by decide +kernel
theorem dX12_fewestPairs_67 : decode cX12_fewestPairs 67 = .ok (.iload 6, 2) := by decide +kernel
theorem dX12_fewestPairs_69 : decode cX12_fewestPairs 69 = .ok (.iload 5, 2) := by decide +kernel
theorem dX12_fewestPairs_71 : decode cX12_fewestPairs 71 = .ok (.if_icmp .ge 179, 3) := by decide +kernel
theorem dX12_fewestPairs_74 : decode cX12_fewestPairs 74 = .ok (.aload_n 0, 1) := by decide +kernel
theorem dX12_fewestPairs_75 : decode cX12_fewestPairs 75 = .ok (.getfield 83, 3) := by decide +kernel
theorem dX12_fewestPairs_78 : decode cX12_fewestPairs 78 = .ok (.iload 6, 2) := by decide +kernel
theorem dX12_fewestPairs_80 : decode cX12_fewestPairs 80 = .ok (.iaload, 1) := by decide +kernel
theorem dX12_fewestPairs_81 : decode cX12_fewestPairs 81 = .ok (.istore 7, 2) := by decide +kernel
theorem dX12_fewestPairs_83 : decode cX12_fewestPairs 83 = .ok (.aload_n 0, 1) := by decide +kernel
theorem dX12_fewestPairs_84 : decode cX12_fewestPairs 84 = .ok (.iload_n 1, 1) := by decide +kernel
theorem dX12_fewestPairs_85 : decode cX12_fewestPairs 85 = .ok (.iload_n 3, 1) := by decide +kernel
theorem dX12_fewestPairs_86 : decode cX12_fewestPairs 86 = .ok (.iload 7, 2) := by decide +kernel
theorem dX12_fewestPairs_88 : decode cX12_fewestPairs 88 = .ok (.bipush 64, 2) := by decide +kernel
theorem dX12_fewestPairs_90 : decode cX12_fewestPairs 90 = .ok (.idiv, 1) := by decide +kernel
theorem dX12_fewestPairs_91 : decode cX12_fewestPairs 91 = .ok (.invokevirtual 269, 3) := by decide +kernel
theorem dX12_fewestPairs_94 : decode cX12_fewestPairs 94 = .ok (.ifCond .eq 25, 3) := by decide +kernel
theorem dX12_fewestPairs_97 : decode cX12_fewestPairs 97 = .ok (.aload_n 0, 1) := by decide +kernel
theorem dX12_fewestPairs_98 : decode cX12_fewestPairs 98 = .ok (.iload_n 2, 1) := by decide +kernel
theorem dX12_fewestPairs_99 : decode cX12_fewestPairs 99 = .ok (.iload_n 3, 1) := by decide +kernel
theorem dX12_fewestPairs_100 : decode cX12_fewestPairs 100 = .ok (.iload 7, 2) := by decide +kernel
theorem dX12_fewestPairs_102 : decode cX12_fewestPairs 102 = .ok (.bipush 64, 2) := by decide +kernel
theorem dX12_fewestPairs_104 : decode cX12_fewestPairs 104 = .ok (.irem, 1) := by decide +kernel
theorem dX12_fewestPairs_105 : decode cX12_fewestPairs 105 = .ok (.invokevirtual 269, 3) := by decide +kernel
theorem dX12_fewestPairs_108 : decode cX12_fewestPairs 108 = .ok (.ifCond .eq 11, 3) := by decide +kernel
theorem dX12_fewestPairs_111 : decode cX12_fewestPairs 111 = .ok (.aload_n 0, 1) := by decide +kernel
theorem dX12_fewestPairs_112 : decode cX12_fewestPairs 112 = .ok (.getfield 86, 3) := by decide +kernel
theorem dX12_fewestPairs_115 : decode cX12_fewestPairs 115 = .ok (.iload 7, 2) := by decide +kernel
theorem dX12_fewestPairs_117 : decode cX12_fewestPairs 117 = .ok (.iaload, 1) := by decide +kernel
theorem dX12_fewestPairs_118 : decode cX12_fewestPairs 118 = .ok (.ireturn, 1) := by decide +kernel
theorem dX12_fewestPairs_119 : decode cX12_fewestPairs 119 = .ok (.aload_n 0, 1) := by decide +kernel
theorem dX12_fewestPairs_120 : decode cX12_fewestPairs 120 = .ok (.getfield 86, 3) := by decide +kernel
theorem dX12_fewestPairs_123 : decode cX12_fewestPairs 123 = .ok (.iload 7, 2) := by decide +kernel
theorem dX12_fewestPairs_125 : decode cX12_fewestPairs 125 = .ok (.iaload, 1) := by decide +kernel
theorem dX12_fewestPairs_126 : decode cX12_fewestPairs 126 = .ok (.iconst 4, 1) := by decide +kernel
theorem dX12_fewestPairs_127 : decode cX12_fewestPairs 127 = .ok (.if_icmp .ne 6, 3) := by decide +kernel
theorem dX12_fewestPairs_130 : decode cX12_fewestPairs 130 = .ok (.goto 114, 3) := by decide +kernel
theorem dX12_fewestPairs_133 : decode cX12_fewestPairs 133 = .ok (.iconst 0, 1) := by decide +kernel
theorem dX12_fewestPairs_134 : decode cX12_fewestPairs 134 = .ok (.istore 8, 2) := by decide +kernel
theorem dX12_fewestPairs_136 : decode cX12_fewestPairs 136 = .ok (.iload 8, 2) := by decide +kernel
theorem dX12_fewestPairs_138 : decode cX12_fewestPairs 138 = .ok (.aload_n 0, 1) := by decide +kernel
theorem dX12_fewestPairs_139 : decode cX12_fewestPairs 139 = .ok (.getfield 7, 3) := by decide +kernel
theorem dX12_fewestPairs_142 : decode cX12_fewestPairs 142 = .ok (.bipush 16, 2) := by decide +kernel
theorem dX12_fewestPairs_144 : decode cX12_fewestPairs 144 = .ok (.iaload, 1) := by decide +kernel
theorem dX12_fewestPairs_145 : decode cX12_fewestPairs 145 = .ok (.if_icmp .ge 99, 3) := by decide +kernel
theorem dX12_fewestPairs_148 : decode cX12_fewestPairs 148 = .ok (.bipush 64, 2) := by decide +kernel
theorem dX12_fewestPairs_150 : decode cX12_fewestPairs 150 = .ok (.aload_n 0, 1) := by decide +kernel
theorem dX12_fewestPairs_151 : decode cX12_fewestPairs 151 = .ok (.iload_n 1, 1) := by decide +kernel
theorem dX12_fewestPairs_152 : decode cX12_fewestPairs 152 = .ok (.iload_n 3, 1) := by decide +kernel
theorem dX12_fewestPairs_153 : decode cX12_fewestPairs 153 = .ok (.iload 7, 2) := by decide +kernel
theorem dX12_fewestPairs_155 : decode cX12_fewestPairs 155 = .ok (.bipush 64, 2) := by decide +kernel
theorem dX12_fewestPairs_157 : decode cX12_fewestPairs 157 = .ok (.idiv, 1) := by decide +kernel
theorem dX12_fewestPairs_158 : decode cX12_fewestPairs 158 = .ok (.aload_n 0, 1) := by decide +kernel
theorem dX12_fewestPairs_159 : decode cX12_fewestPairs 159 = .ok (.getfield 7, 3) := by decide +kernel
theorem dX12_fewestPairs_162 : decode cX12_fewestPairs 162 = .ok (.bipush 20, 2) := by decide +kernel
theorem dX12_fewestPairs_164 : decode cX12_fewestPairs 164 = .ok (.iload 8, 2) := by decide +kernel
theorem dX12_fewestPairs_166 : decode cX12_fewestPairs 166 = .ok (.iadd, 1) := by decide +kernel
theorem dX12_fewestPairs_167 : decode cX12_fewestPairs 167 = .ok (.iaload, 1) := by decide +kernel
theorem dX12_fewestPairs_168 : decode cX12_fewestPairs 168 = .ok (.invokevirtual 374, 3) := by decide +kernel
theorem dX12_fewestPairs_171 : decode cX12_fewestPairs 171 = .ok (.imul, 1) := by decide +kernel
theorem dX12_fewestPairs_172 : decode cX12_fewestPairs 172 = .ok (.aload_n 0, 1) := by decide +kernel
theorem dX12_fewestPairs_173 : decode cX12_fewestPairs 173 = .ok (.iload_n 2, 1) := by decide +kernel
theorem dX12_fewestPairs_174 : decode cX12_fewestPairs 174 = .ok (.iload_n 3, 1) := by decide +kernel
theorem dX12_fewestPairs_175 : decode cX12_fewestPairs 175 = .ok (.iload 7, 2) := by decide +kernel
theorem dX12_fewestPairs_177 : decode cX12_fewestPairs 177 = .ok (.bipush 64, 2) := by decide +kernel
theorem dX12_fewestPairs_179 : decode cX12_fewestPairs 179 = .ok (.irem, 1) := by decide +kernel
theorem dX12_fewestPairs_180 : decode cX12_fewestPairs 180 = .ok (.aload_n 0, 1) := by decide +kernel
theorem dX12_fewestPairs_181 : decode cX12_fewestPairs 181 = .ok (.getfield 7, 3) := by decide +kernel
theorem dX12_fewestPairs_184 : decode cX12_fewestPairs 184 = .ok (.bipush 20, 2) := by decide +kernel
theorem dX12_fewestPairs_186 : decode cX12_fewestPairs 186 = .ok (.iload 8, 2) := by decide +kernel
theorem dX12_fewestPairs_188 : decode cX12_fewestPairs 188 = .ok (.iadd, 1) := by decide +kernel
theorem dX12_fewestPairs_189 : decode cX12_fewestPairs 189 = .ok (.iaload, 1) := by decide +kernel
theorem dX12_fewestPairs_190 : decode cX12_fewestPairs 190 = .ok (.invokevirtual 374, 3) := by decide +kernel
theorem dX12_fewestPairs_193 : decode cX12_fewestPairs 193 = .ok (.iadd, 1) := by decide +kernel
theorem dX12_fewestPairs_194 : decode cX12_fewestPairs 194 = .ok (.istore 9, 2) := by decide +kernel
theorem dX12_fewestPairs_196 : decode cX12_fewestPairs 196 = .ok (.aload_n 0, 1) := by decide +kernel
theorem dX12_fewestPairs_197 : decode cX12_fewestPairs 197 = .ok (.getfield 86, 3) := by decide +kernel
theorem dX12_fewestPairs_200 : decode cX12_fewestPairs 200 = .ok (.iload 9, 2) := by decide +kernel
theorem dX12_fewestPairs_202 : decode cX12_fewestPairs 202 = .ok (.iaload, 1) := by decide +kernel
theorem dX12_fewestPairs_203 : decode cX12_fewestPairs 203 = .ok (.iconst (-1), 1) := by decide +kernel
theorem dX12_fewestPairs_204 : decode cX12_fewestPairs 204 = .ok (.if_icmp .eq 6, 3) := by decide +kernel
theorem dX12_fewestPairs_207 : decode cX12_fewestPairs 207 = .ok (.goto 31, 3) := by decide +kernel
theorem dX12_fewestPairs_210 : decode cX12_fewestPairs 210 = .ok (.aload_n 0, 1) := by decide +kernel
theorem dX12_fewestPairs_211 : decode cX12_fewestPairs 211 = .ok (.getfield 86, 3) := by decide +kernel
theorem dX12_fewestPairs_214 : decode cX12_fewestPairs 214 = .ok (.iload 9, 2) := by decide +kernel
theorem dX12_fewestPairs_216 : decode cX12_fewestPairs 216 = .ok (.aload_n 0, 1) := by decide +kernel
theorem dX12_fewestPairs_217 : decode cX12_fewestPairs 217 = .ok (.getfield 86, 3) := by decide +kernel
theorem dX12_fewestPairs_220 : decode cX12_fewestPairs 220 = .ok (.iload 7, 2) := by decide +kernel
theorem dX12_fewestPairs_222 : decode cX12_fewestPairs 222 = .ok (.iaload, 1) := by decide +kernel
theorem dX12_fewestPairs_223 : decode cX12_fewestPairs 223 = .ok (.iconst 1, 1) := by decide +kernel
theorem dX12_fewestPairs_224 : decode cX12_fewestPairs 224 = .ok (.iadd, 1) := by decide +kernel
theorem dX12_fewestPairs_225 : decode cX12_fewestPairs 225 = .ok (.iastore, 1) := by decide +kernel
theorem dX12_fewestPairs_226 : decode cX12_fewestPairs 226 = .ok (.aload_n 0, 1) := by decide +kernel
theorem dX12_fewestPairs_227 : decode cX12_fewestPairs 227 = .ok (.getfield 83, 3) := by decide +kernel
theorem dX12_fewestPairs_230 : decode cX12_fewestPairs 230 = .ok (.iload 5, 2) := by decide +kernel
theorem dX12_fewestPairs_232 : decode cX12_fewestPairs 232 = .ok (.iload 9, 2) := by decide +kernel
theorem dX12_fewestPairs_234 : decode cX12_fewestPairs 234 = .ok (.iastore, 1) := by decide +kernel
theorem dX12_fewestPairs_235 : decode cX12_fewestPairs 235 = .ok (.iinc 5 1, 3) := by decide +kernel
theorem dX12_fewestPairs_238 : decode cX12_fewestPairs 238 = .ok (.iinc 8 1, 3) := by decide +kernel
theorem dX12_fewestPairs_241 : decode cX12_fewestPairs 241 = .ok (.goto (-105), 3) := by decide +kernel
theorem dX12_fewestPairs_244 : decode cX12_fewestPairs 244 = .ok (.iinc 6 1, 3) := by decide +kernel
theorem dX12_fewestPairs_247 : decode cX12_fewestPairs 247 = .ok (.goto (-180), 3) := by decide +kernel
theorem dX12_fewestPairs_250 : decode cX12_fewestPairs 250 = .ok (.iconst (-1), 1) := by decide +kernel
theorem dX12_fewestPairs_251 : decode cX12_fewestPairs 251 = .ok (.ireturn, 1) := by decide +kernel
theorem dX12_quarrel_0 : decode cX12_quarrel 0 = .ok (.aload_n 0, 1) := by decide +kernel
theorem dX12_quarrel_1 : decode cX12_quarrel 1 = .ok (.iload_n 1, 1) := by decide +kernel
theorem dX12_quarrel_2 : decode cX12_quarrel 2 = .ok (.invokevirtual 380, 3) := by decide +kernel
theorem dX12_quarrel_5 : decode cX12_quarrel 5 = .ok (.ifCond .eq 25, 3) := by decide +kernel
theorem dX12_quarrel_8 : decode cX12_quarrel 8 = .ok (.aload_n 0, 1) := by decide +kernel
theorem dX12_quarrel_9 : decode cX12_quarrel 9 = .ok (.iload_n 2, 1) := by decide +kernel
theorem dX12_quarrel_10 : decode cX12_quarrel 10 = .ok (.invokevirtual 380, 3) := by decide +kernel
theorem dX12_quarrel_13 : decode cX12_quarrel 13 = .ok (.ifCond .eq 17, 3) := by decide +kernel
theorem dX12_quarrel_16 : decode cX12_quarrel 16 = .ok (.iload_n 1, 1) := by decide +kernel
theorem dX12_quarrel_17 : decode cX12_quarrel 17 = .ok (.iload_n 2, 1) := by decide +kernel
theorem dX12_quarrel_18 : decode cX12_quarrel 18 = .ok (.if_icmp .eq 12, 3) := by decide +kernel
theorem dX12_quarrel_21 : decode cX12_quarrel 21 = .ok (.aload_n 0, 1) := by decide +kernel
theorem dX12_quarrel_22 : decode cX12_quarrel 22 = .ok (.iload_n 1, 1) := by decide +kernel
theorem dX12_quarrel_23 : decode cX12_quarrel 23 = .ok (.iload_n 2, 1) := by decide +kernel
theorem dX12_quarrel_24 : decode cX12_quarrel 24 = .ok (.invokevirtual 383, 3) := by decide +kernel
theorem dX12_quarrel_27 : decode cX12_quarrel 27 = .ok (.ifCond .ne 5, 3) := by decide +kernel
theorem dX12_quarrel_30 : decode cX12_quarrel 30 = .ok (.iconst (-1), 1) := by decide +kernel
theorem dX12_quarrel_31 : decode cX12_quarrel 31 = .ok (.ireturn, 1) := by decide +kernel
theorem dX12_quarrel_32 : decode cX12_quarrel 32 = .ok (.iconst (-1), 1) := by decide +kernel
theorem dX12_quarrel_33 : decode cX12_quarrel 33 = .ok (.istore_n 3, 1) := by decide +kernel
theorem dX12_quarrel_34 : decode cX12_quarrel 34 = .ok (.iconst 0, 1) := by decide +kernel
theorem dX12_quarrel_35 : decode cX12_quarrel 35 = .ok (.istore 4, 2) := by decide +kernel
theorem dX12_quarrel_37 : decode cX12_quarrel 37 = .ok (.iload 4, 2) := by decide +kernel
theorem dX12_quarrel_39 : decode cX12_quarrel 39 = .ok (.aload_n 0, 1) := by decide +kernel
theorem dX12_quarrel_40 : decode cX12_quarrel 40 = .ok (.iload_n 1, 1) := by decide +kernel
theorem dX12_quarrel_41 : decode cX12_quarrel 41 = .ok (.iconst 3, 1) := by decide +kernel
theorem dX12_quarrel_42 : decode cX12_quarrel 42 = .ok (.invokevirtual 272, 3) := by decide +kernel
theorem dX12_quarrel_45 : decode cX12_quarrel 45 = .ok (.if_icmp .ge 110, 3) := by decide +kernel
theorem dX12_quarrel_48 : decode cX12_quarrel 48 = .ok (.iconst 0, 1) := by decide +kernel
theorem dX12_quarrel_49 : decode cX12_quarrel 49 = .ok (.istore 5, 2) := by decide +kernel
theorem dX12_quarrel_51 : decode cX12_quarrel 51 = .ok (.iload 5, 2) := by decide +kernel
theorem dX12_quarrel_53 : decode cX12_quarrel 53 = .ok (.aload_n 0, 1) := by decide +kernel
theorem dX12_quarrel_54 : decode cX12_quarrel 54 = .ok (.iload_n 2, 1) := by decide +kernel
theorem dX12_quarrel_55 : decode cX12_quarrel 55 = .ok (.iconst 3, 1) := by decide +kernel
theorem dX12_quarrel_56 : decode cX12_quarrel 56 = .ok (.invokevirtual 272, 3) := by decide +kernel
theorem dX12_quarrel_59 : decode cX12_quarrel 59 = .ok (.if_icmp .ge 90, 3) := by decide +kernel
theorem dX12_quarrel_62 : decode cX12_quarrel 62 = .ok (.aload_n 0, 1) := by decide +kernel
theorem dX12_quarrel_63 : decode cX12_quarrel 63 = .ok (.iconst 3, 1) := by decide +kernel
theorem dX12_quarrel_64 : decode cX12_quarrel 64 = .ok (.iload_n 1, 1) := by decide +kernel
theorem dX12_quarrel_65 : decode cX12_quarrel 65 = .ok (.imul, 1) := by decide +kernel
theorem dX12_quarrel_66 : decode cX12_quarrel 66 = .ok (.iload 4, 2) := by decide +kernel
theorem dX12_quarrel_68 : decode cX12_quarrel 68 = .ok (.iadd, 1) := by decide +kernel
theorem dX12_quarrel_69 : decode cX12_quarrel 69 = .ok (.iconst 3, 1) := by decide +kernel
theorem dX12_quarrel_70 : decode cX12_quarrel 70 = .ok (.iload_n 2, 1) := by decide +kernel
theorem dX12_quarrel_71 : decode cX12_quarrel 71 = .ok (.imul, 1) := by decide +kernel
theorem dX12_quarrel_72 : decode cX12_quarrel 72 = .ok (.iload 5, 2) := by decide +kernel
theorem dX12_quarrel_74 : decode cX12_quarrel 74 = .ok (.iadd, 1) := by decide +kernel
theorem dX12_quarrel_75 : decode cX12_quarrel 75 = .ok (.iconst 0, 1) := by decide +kernel
theorem dX12_quarrel_76 : decode cX12_quarrel 76 = .ok (.invokevirtual 386, 3) := by decide +kernel
theorem dX12_quarrel_79 : decode cX12_quarrel 79 = .ok (.istore 6, 2) := by decide +kernel
theorem dX12_quarrel_81 : decode cX12_quarrel 81 = .ok (.aload_n 0, 1) := by decide +kernel
theorem dX12_quarrel_82 : decode cX12_quarrel 82 = .ok (.iconst 3, 1) := by decide +kernel
theorem dX12_quarrel_83 : decode cX12_quarrel 83 = .ok (.iload_n 1, 1) := by decide +kernel
theorem dX12_quarrel_84 : decode cX12_quarrel 84 = .ok (.imul, 1) := by decide +kernel
theorem dX12_quarrel_85 : decode cX12_quarrel 85 = .ok (.iload 4, 2) := by decide +kernel
theorem dX12_quarrel_87 : decode cX12_quarrel 87 = .ok (.iadd, 1) := by decide +kernel
theorem dX12_quarrel_88 : decode cX12_quarrel 88 = .ok (.iconst 3, 1) := by decide +kernel
theorem dX12_quarrel_89 : decode cX12_quarrel 89 = .ok (.iload_n 2, 1) := by decide +kernel
theorem dX12_quarrel_90 : decode cX12_quarrel 90 = .ok (.imul, 1) := by decide +kernel
theorem dX12_quarrel_91 : decode cX12_quarrel 91 = .ok (.iload 5, 2) := by decide +kernel
theorem dX12_quarrel_93 : decode cX12_quarrel 93 = .ok (.iadd, 1) := by decide +kernel
theorem dX12_quarrel_94 : decode cX12_quarrel 94 = .ok (.iconst 1, 1) := by decide +kernel
theorem dX12_quarrel_95 : decode cX12_quarrel 95 = .ok (.invokevirtual 386, 3) := by decide +kernel
theorem dX12_quarrel_98 : decode cX12_quarrel 98 = .ok (.istore 7, 2) := by decide +kernel
theorem dX12_quarrel_100 : decode cX12_quarrel 100 = .ok (.iload 6, 2) := by decide +kernel
theorem dX12_quarrel_102 : decode cX12_quarrel 102 = .ok (.iconst (-1), 1) := by decide +kernel
theorem dX12_quarrel_103 : decode cX12_quarrel 103 = .ok (.if_icmp .eq 40, 3) := by decide +kernel
theorem dX12_quarrel_106 : decode cX12_quarrel 106 = .ok (.iload 7, 2) := by decide +kernel
theorem dX12_quarrel_108 : decode cX12_quarrel 108 = .ok (.iconst (-1), 1) := by decide +kernel
theorem dX12_quarrel_109 : decode cX12_quarrel 109 = .ok (.if_icmp .ne 6, 3) := by decide +kernel
theorem dX12_quarrel_112 : decode cX12_quarrel 112 = .ok (.goto 31, 3) := by decide +kernel
theorem dX12_quarrel_115 : decode cX12_quarrel 115 = .ok (.iload_n 3, 1) := by decide +kernel
theorem dX12_quarrel_116 : decode cX12_quarrel 116 = .ok (.iconst (-1), 1) := by decide +kernel
theorem dX12_quarrel_117 : decode cX12_quarrel 117 = .ok (.if_icmp .eq 14, 3) := by decide +kernel
theorem dX12_quarrel_120 : decode cX12_quarrel 120 = .ok (.iload 6, 2) := by decide +kernel
theorem dX12_quarrel_122 : decode cX12_quarrel 122 = .ok (.iload 7, 2) := by decide +kernel
theorem dX12_quarrel_124 : decode cX12_quarrel 124 = .ok (.iadd, 1) := by decide +kernel
theorem dX12_quarrel_125 : decode cX12_quarrel 125 = .ok (.iconst 1, 1) := by decide +kernel
theorem dX12_quarrel_126 : decode cX12_quarrel 126 = .ok (.iadd, 1) := by decide +kernel
theorem dX12_quarrel_127 : decode cX12_quarrel 127 = .ok (.iload_n 3, 1) := by decide +kernel
theorem dX12_quarrel_128 : decode cX12_quarrel 128 = .ok (.if_icmp .ge 13, 3) := by decide +kernel
theorem dX12_quarrel_131 : decode cX12_quarrel 131 = .ok (.iload 6, 2) := by decide +kernel
theorem dX12_quarrel_133 : decode cX12_quarrel 133 = .ok (.iload 7, 2) := by decide +kernel
theorem dX12_quarrel_135 : decode cX12_quarrel 135 = .ok (.iadd, 1) := by decide +kernel
theorem dX12_quarrel_136 : decode cX12_quarrel 136 = .ok (.iconst 1, 1) := by decide +kernel
theorem dX12_quarrel_137 : decode cX12_quarrel 137 = .ok (.iadd, 1) := by decide +kernel
theorem dX12_quarrel_138 : decode cX12_quarrel 138 = .ok (.goto 4, 3) := by decide +kernel
theorem dX12_quarrel_141 : decode cX12_quarrel 141 = .ok (.iload_n 3, 1) := by decide +kernel
theorem dX12_quarrel_142 : decode cX12_quarrel 142 = .ok (.istore_n 3, 1) := by decide +kernel
theorem dX12_quarrel_143 : decode cX12_quarrel 143 = .ok (.iinc 5 1, 3) := by decide +kernel
theorem dX12_quarrel_146 : decode cX12_quarrel 146 = .ok (.goto (-95), 3) := by decide +kernel
theorem dX12_quarrel_149 : decode cX12_quarrel 149 = .ok (.iinc 4 1, 3) := by decide +kernel
theorem dX12_quarrel_152 : decode cX12_quarrel 152 = .ok (.goto (-115), 3) := by decide +kernel
theorem dX12_quarrel_155 : decode cX12_quarrel 155 = .ok (.iload_n 3, 1) := by decide +kernel
theorem dX12_quarrel_156 : decode cX12_quarrel 156 = .ok (.ireturn, 1) := by decide +kernel
theorem dX12_wordsUpTo_0 : decode cX12_wordsUpTo 0 = .ok (.iconst 0, 1) := by decide +kernel
theorem dX12_wordsUpTo_1 : decode cX12_wordsUpTo 1 = .ok (.istore_n 2, 1) := by decide +kernel
theorem dX12_wordsUpTo_2 : decode cX12_wordsUpTo 2 = .ok (.iconst 1, 1) := by decide +kernel
theorem dX12_wordsUpTo_3 : decode cX12_wordsUpTo 3 = .ok (.istore_n 3, 1) := by decide +kernel
theorem dX12_wordsUpTo_4 : decode cX12_wordsUpTo 4 = .ok (.iconst 0, 1) := by decide +kernel
theorem dX12_wordsUpTo_5 : decode cX12_wordsUpTo 5 = .ok (.istore 4, 2) := by decide +kernel
theorem dX12_wordsUpTo_7 : decode cX12_wordsUpTo 7 = .ok (.iload 4, 2) := by decide +kernel
theorem dX12_wordsUpTo_9 : decode cX12_wordsUpTo 9 = .ok (.iload_n 1, 1) := by decide +kernel
theorem dX12_wordsUpTo_10 : decode cX12_wordsUpTo 10 = .ok (.if_icmp .ge 22, 3) := by decide +kernel
theorem dX12_wordsUpTo_13 : decode cX12_wordsUpTo 13 = .ok (.iload_n 3, 1) := by decide +kernel
theorem dX12_wordsUpTo_14 : decode cX12_wordsUpTo 14 = .ok (.aload_n 0, 1) := by decide +kernel
theorem dX12_wordsUpTo_15 : decode cX12_wordsUpTo 15 = .ok (.getfield 7, 3) := by decide +kernel
theorem dX12_wordsUpTo_18 : decode cX12_wordsUpTo 18 = .ok (.iconst 0, 1) := by decide +kernel
theorem dX12_wordsUpTo_19 : decode cX12_wordsUpTo 19 = .ok (.iaload, 1) := by decide +kernel
theorem dX12_wordsUpTo_20 : decode cX12_wordsUpTo 20 = .ok (.imul, 1) := by decide +kernel
theorem dX12_wordsUpTo_21 : decode cX12_wordsUpTo 21 = .ok (.istore_n 3, 1) := by decide +kernel
theorem dX12_wordsUpTo_22 : decode cX12_wordsUpTo 22 = .ok (.iload_n 2, 1) := by decide +kernel
theorem dX12_wordsUpTo_23 : decode cX12_wordsUpTo 23 = .ok (.iload_n 3, 1) := by decide +kernel
theorem dX12_wordsUpTo_24 : decode cX12_wordsUpTo 24 = .ok (.iadd, 1) := by decide +kernel
theorem dX12_wordsUpTo_25 : decode cX12_wordsUpTo 25 = .ok (.istore_n 2, 1) := by decide +kernel
theorem dX12_wordsUpTo_26 : decode cX12_wordsUpTo 26 = .ok (.iinc 4 1, 3) := by decide +kernel
theorem dX12_wordsUpTo_29 : decode cX12_wordsUpTo 29 = .ok (.goto (-22), 3) := by decide +kernel
theorem dX12_wordsUpTo_32 : decode cX12_wordsUpTo 32 = .ok (.iload_n 2, 1) := by decide +kernel
theorem dX12_wordsUpTo_33 : decode cX12_wordsUpTo 33 = .ok (.ireturn, 1) := by decide +kernel
theorem dX12_laysWord_0 : decode cX12_laysWord 0 = .ok (.iload_n 1, 1) := by decide +kernel
theorem dX12_laysWord_1 : decode cX12_laysWord 1 = .ok (.istore_n 2, 1) := by decide +kernel
theorem dX12_laysWord_2 : decode cX12_laysWord 2 = .ok (.aload_n 0, 1) := by decide +kernel
theorem dX12_laysWord_3 : decode cX12_laysWord 3 = .ok (.getfield 7, 3) := by decide +kernel
theorem dX12_laysWord_6 : decode cX12_laysWord 6 = .ok (.iconst 0, 1) := by decide +kernel
theorem dX12_laysWord_7 : decode cX12_laysWord 7 = .ok (.iaload, 1) := by decide +kernel
theorem dX12_laysWord_8 : decode cX12_laysWord 8 = .ok (.istore_n 3, 1) := by decide +kernel
theorem dX12_laysWord_9 : decode cX12_laysWord 9 = .ok (.aload_n 0, 1) := by decide +kernel
theorem dX12_laysWord_10 : decode cX12_laysWord 10 = .ok (.iconst 1, 1) := by decide +kernel
theorem dX12_laysWord_11 : decode cX12_laysWord 11 = .ok (.putfield 291, 3) := by decide +kernel
theorem dX12_laysWord_14 : decode cX12_laysWord 14 = .ok (.iload_n 2, 1) := by decide +kernel
theorem dX12_laysWord_15 : decode cX12_laysWord 15 = .ok (.iload_n 3, 1) := by decide +kernel
theorem dX12_laysWord_16 : decode cX12_laysWord 16 = .ok (.if_icmp .lt 29, 3) := by decide +kernel
theorem dX12_laysWord_19 : decode cX12_laysWord 19 = .ok (.iload_n 2, 1) := by decide +kernel
theorem dX12_laysWord_20 : decode cX12_laysWord 20 = .ok (.iload_n 3, 1) := by decide +kernel
theorem dX12_laysWord_21 : decode cX12_laysWord 21 = .ok (.isub, 1) := by decide +kernel
theorem dX12_laysWord_22 : decode cX12_laysWord 22 = .ok (.istore_n 2, 1) := by decide +kernel
theorem dX12_laysWord_23 : decode cX12_laysWord 23 = .ok (.iload_n 3, 1) := by decide +kernel
theorem dX12_laysWord_24 : decode cX12_laysWord 24 = .ok (.aload_n 0, 1) := by decide +kernel
theorem dX12_laysWord_25 : decode cX12_laysWord 25 = .ok (.getfield 7, 3) := by decide +kernel
theorem dX12_laysWord_28 : decode cX12_laysWord 28 = .ok (.iconst 0, 1) := by decide +kernel
theorem dX12_laysWord_29 : decode cX12_laysWord 29 = .ok (.iaload, 1) := by decide +kernel
theorem dX12_laysWord_30 : decode cX12_laysWord 30 = .ok (.imul, 1) := by decide +kernel
theorem dX12_laysWord_31 : decode cX12_laysWord 31 = .ok (.istore_n 3, 1) := by decide +kernel
theorem dX12_laysWord_32 : decode cX12_laysWord 32 = .ok (.aload_n 0, 1) := by decide +kernel
theorem dX12_laysWord_33 : decode cX12_laysWord 33 = .ok (.dup, 1) := by decide +kernel
theorem dX12_laysWord_34 : decode cX12_laysWord 34 = .ok (.getfield 291, 3) := by decide +kernel
theorem dX12_laysWord_37 : decode cX12_laysWord 37 = .ok (.iconst 1, 1) := by decide +kernel
theorem dX12_laysWord_38 : decode cX12_laysWord 38 = .ok (.iadd, 1) := by decide +kernel
theorem dX12_laysWord_39 : decode cX12_laysWord 39 = .ok (.putfield 291, 3) := by decide +kernel
theorem dX12_laysWord_42 : decode cX12_laysWord 42 = .ok (.goto (-28), 3) := by decide +kernel
theorem dX12_laysWord_45 : decode cX12_laysWord 45 = .ok (.aload_n 0, 1) := by decide +kernel
theorem dX12_laysWord_46 : decode cX12_laysWord 46 = .ok (.getfield 291, 3) := by decide +kernel
theorem dX12_laysWord_49 : decode cX12_laysWord 49 = .ok (.iconst 1, 1) := by decide +kernel
theorem dX12_laysWord_50 : decode cX12_laysWord 50 = .ok (.isub, 1) := by decide +kernel
theorem dX12_laysWord_51 : decode cX12_laysWord 51 = .ok (.istore 4, 2) := by decide +kernel
theorem dX12_laysWord_53 : decode cX12_laysWord 53 = .ok (.iload 4, 2) := by decide +kernel
theorem dX12_laysWord_55 : decode cX12_laysWord 55 = .ok (.ifCond .lt 35, 3) := by decide +kernel
theorem dX12_laysWord_58 : decode cX12_laysWord 58 = .ok (.aload_n 0, 1) := by decide +kernel
theorem dX12_laysWord_59 : decode cX12_laysWord 59 = .ok (.getfield 46, 3) := by decide +kernel
theorem dX12_laysWord_62 : decode cX12_laysWord 62 = .ok (.iload 4, 2) := by decide +kernel
theorem dX12_laysWord_64 : decode cX12_laysWord 64 = .ok (.iload_n 2, 1) := by decide +kernel
theorem dX12_laysWord_65 : decode cX12_laysWord 65 = .ok (.aload_n 0, 1) := by decide +kernel
theorem dX12_laysWord_66 : decode cX12_laysWord 66 = .ok (.getfield 7, 3) := by decide +kernel
theorem dX12_laysWord_69 : decode cX12_laysWord 69 = .ok (.iconst 0, 1) := by decide +kernel
theorem dX12_laysWord_70 : decode cX12_laysWord 70 = .ok (.iaload, 1) := by decide +kernel
theorem dX12_laysWord_71 : decode cX12_laysWord 71 = .ok (.irem, 1) := by decide +kernel
theorem dX12_laysWord_72 : decode cX12_laysWord 72 = .ok (.iconst 1, 1) := by decide +kernel
theorem dX12_laysWord_73 : decode cX12_laysWord 73 = .ok (.iadd, 1) := by decide +kernel
theorem dX12_laysWord_74 : decode cX12_laysWord 74 = .ok (.iastore, 1) := by decide +kernel
theorem dX12_laysWord_75 : decode cX12_laysWord 75 = .ok (.iload_n 2, 1) := by decide +kernel
theorem dX12_laysWord_76 : decode cX12_laysWord 76 = .ok (.aload_n 0, 1) := by decide +kernel
theorem dX12_laysWord_77 : decode cX12_laysWord 77 = .ok (.getfield 7, 3) := by decide +kernel
theorem dX12_laysWord_80 : decode cX12_laysWord 80 = .ok (.iconst 0, 1) := by decide +kernel
theorem dX12_laysWord_81 : decode cX12_laysWord 81 = .ok (.iaload, 1) := by decide +kernel
theorem dX12_laysWord_82 : decode cX12_laysWord 82 = .ok (.idiv, 1) := by decide +kernel
theorem dX12_laysWord_83 : decode cX12_laysWord 83 = .ok (.istore_n 2, 1) := by decide +kernel
theorem dX12_laysWord_84 : decode cX12_laysWord 84 = .ok (.iinc 4 (-1), 3) := by decide +kernel
theorem dX12_laysWord_87 : decode cX12_laysWord 87 = .ok (.goto (-34), 3) := by decide +kernel
theorem dX12_laysWord_90 : decode cX12_laysWord 90 = .ok (.return_, 1) := by decide +kernel
theorem dX12_marksAll_0 : decode cX12_marksAll 0 = .ok (.aload_n 0, 1) := by decide +kernel
theorem dX12_marksAll_1 : decode cX12_marksAll 1 = .ok (.dup, 1) := by decide +kernel
theorem dX12_marksAll_2 : decode cX12_marksAll 2 = .ok (.getfield 324, 3) := by decide +kernel
theorem dX12_marksAll_5 : decode cX12_marksAll 5 = .ok (.iconst 1, 1) := by decide +kernel
theorem dX12_marksAll_6 : decode cX12_marksAll 6 = .ok (.iadd, 1) := by decide +kernel
theorem dX12_marksAll_7 : decode cX12_marksAll 7 = .ok (.putfield 324, 3) := by decide +kernel
theorem dX12_marksAll_10 : decode cX12_marksAll 10 = .ok (.aload_n 0, 1) := by decide +kernel
theorem dX12_marksAll_11 : decode cX12_marksAll 11 = .ok (.iconst 0, 1) := by decide +kernel
theorem dX12_marksAll_12 : decode cX12_marksAll 12 = .ok (.putfield 327, 3) := by decide +kernel
theorem dX12_marksAll_15 : decode cX12_marksAll 15 = .ok (.aload_n 0, 1) := by decide +kernel
theorem dX12_marksAll_16 : decode cX12_marksAll 16 = .ok (.iconst 2, 1) := by decide +kernel
theorem dX12_marksAll_17 : decode cX12_marksAll 17 = .ok (.invokevirtual 349, 3) := by decide +kernel
theorem dX12_marksAll_20 : decode cX12_marksAll 20 = .ok (.aload_n 0, 1) := by decide +kernel
theorem dX12_marksAll_21 : decode cX12_marksAll 21 = .ok (.iconst 0, 1) := by decide +kernel
theorem dX12_marksAll_22 : decode cX12_marksAll 22 = .ok (.aload_n 0, 1) := by decide +kernel
theorem dX12_marksAll_23 : decode cX12_marksAll 23 = .ok (.getfield 7, 3) := by decide +kernel
theorem dX12_marksAll_26 : decode cX12_marksAll 26 = .ok (.bipush 41, 2) := by decide +kernel
theorem dX12_marksAll_28 : decode cX12_marksAll 28 = .ok (.iaload, 1) := by decide +kernel
theorem dX12_marksAll_29 : decode cX12_marksAll 29 = .ok (.iconst 0, 1) := by decide +kernel
theorem dX12_marksAll_30 : decode cX12_marksAll 30 = .ok (.iconst 0, 1) := by decide +kernel
theorem dX12_marksAll_31 : decode cX12_marksAll 31 = .ok (.iload_n 1, 1) := by decide +kernel
theorem dX12_marksAll_32 : decode cX12_marksAll 32 = .ok (.invokevirtual 311, 3) := by decide +kernel
theorem dX12_marksAll_35 : decode cX12_marksAll 35 = .ok (.return_, 1) := by decide +kernel
theorem dX12_isParted_0 : decode cX12_isParted 0 = .ok (.aload_n 0, 1) := by decide +kernel
theorem dX12_isParted_1 : decode cX12_isParted 1 = .ok (.iload_n 1, 1) := by decide +kernel
theorem dX12_isParted_2 : decode cX12_isParted 2 = .ok (.invokevirtual 389, 3) := by decide +kernel
theorem dX12_isParted_5 : decode cX12_isParted 5 = .ok (.aload_n 0, 1) := by decide +kernel
theorem dX12_isParted_6 : decode cX12_isParted 6 = .ok (.getfield 327, 3) := by decide +kernel
theorem dX12_isParted_9 : decode cX12_isParted 9 = .ok (.istore_n 3, 1) := by decide +kernel
theorem dX12_isParted_10 : decode cX12_isParted 10 = .ok (.iconst 0, 1) := by decide +kernel
theorem dX12_isParted_11 : decode cX12_isParted 11 = .ok (.istore 4, 2) := by decide +kernel
theorem dX12_isParted_13 : decode cX12_isParted 13 = .ok (.iload 4, 2) := by decide +kernel
theorem dX12_isParted_15 : decode cX12_isParted 15 = .ok (.iload_n 3, 1) := by decide +kernel
theorem dX12_isParted_16 : decode cX12_isParted 16 = .ok (.if_icmp .ge 23, 3) := by decide +kernel
theorem dX12_isParted_19 : decode cX12_isParted 19 = .ok (.aload_n 0, 1) := by decide +kernel
theorem dX12_isParted_20 : decode cX12_isParted 20 = .ok (.getfield 89, 3) := by decide +kernel
theorem dX12_isParted_23 : decode cX12_isParted 23 = .ok (.iload 4, 2) := by decide +kernel
theorem dX12_isParted_25 : decode cX12_isParted 25 = .ok (.aload_n 0, 1) := by decide +kernel
theorem dX12_isParted_26 : decode cX12_isParted 26 = .ok (.getfield 59, 3) := by decide +kernel
theorem dX12_isParted_29 : decode cX12_isParted 29 = .ok (.iload 4, 2) := by decide +kernel
theorem dX12_isParted_31 : decode cX12_isParted 31 = .ok (.iaload, 1) := by decide +kernel
theorem dX12_isParted_32 : decode cX12_isParted 32 = .ok (.iastore, 1) := by decide +kernel
theorem dX12_isParted_33 : decode cX12_isParted 33 = .ok (.iinc 4 1, 3) := by decide +kernel
theorem dX12_isParted_36 : decode cX12_isParted 36 = .ok (.goto (-23), 3) := by decide +kernel
theorem dX12_isParted_39 : decode cX12_isParted 39 = .ok (.aload_n 0, 1) := by decide +kernel
theorem dX12_isParted_40 : decode cX12_isParted 40 = .ok (.iload_n 2, 1) := by decide +kernel
theorem dX12_isParted_41 : decode cX12_isParted 41 = .ok (.invokevirtual 389, 3) := by decide +kernel
theorem dX12_isParted_44 : decode cX12_isParted 44 = .ok (.aload_n 0, 1) := by decide +kernel
theorem dX12_isParted_45 : decode cX12_isParted 45 = .ok (.getfield 327, 3) := by decide +kernel
theorem dX12_isParted_48 : decode cX12_isParted 48 = .ok (.iload_n 3, 1) := by decide +kernel
theorem dX12_isParted_49 : decode cX12_isParted 49 = .ok (.if_icmp .eq 5, 3) := by decide +kernel
theorem dX12_isParted_52 : decode cX12_isParted 52 = .ok (.iconst 1, 1) := by decide +kernel
theorem dX12_isParted_53 : decode cX12_isParted 53 = .ok (.ireturn, 1) := by decide +kernel
theorem dX12_isParted_54 : decode cX12_isParted 54 = .ok (.iconst 0, 1) := by decide +kernel
theorem dX12_isParted_55 : decode cX12_isParted 55 = .ok (.istore 4, 2) := by decide +kernel
theorem dX12_isParted_57 : decode cX12_isParted 57 = .ok (.iload 4, 2) := by decide +kernel
theorem dX12_isParted_59 : decode cX12_isParted 59 = .ok (.iload_n 3, 1) := by decide +kernel
theorem dX12_isParted_60 : decode cX12_isParted 60 = .ok (.if_icmp .ge 30, 3) := by decide +kernel
theorem dX12_isParted_63 : decode cX12_isParted 63 = .ok (.aload_n 0, 1) := by decide +kernel
theorem dX12_isParted_64 : decode cX12_isParted 64 = .ok (.getfield 56, 3) := by decide +kernel
theorem dX12_isParted_67 : decode cX12_isParted 67 = .ok (.aload_n 0, 1) := by decide +kernel
theorem dX12_isParted_68 : decode cX12_isParted 68 = .ok (.getfield 89, 3) := by decide +kernel
theorem dX12_isParted_71 : decode cX12_isParted 71 = .ok (.iload 4, 2) := by decide +kernel
theorem dX12_isParted_73 : decode cX12_isParted 73 = .ok (.iaload, 1) := by decide +kernel
theorem dX12_isParted_74 : decode cX12_isParted 74 = .ok (.iaload, 1) := by decide +kernel
theorem dX12_isParted_75 : decode cX12_isParted 75 = .ok (.aload_n 0, 1) := by decide +kernel
theorem dX12_isParted_76 : decode cX12_isParted 76 = .ok (.getfield 324, 3) := by decide +kernel
theorem dX12_isParted_79 : decode cX12_isParted 79 = .ok (.if_icmp .eq 5, 3) := by decide +kernel
theorem dX12_isParted_82 : decode cX12_isParted 82 = .ok (.iconst 1, 1) := by decide +kernel
theorem dX12_isParted_83 : decode cX12_isParted 83 = .ok (.ireturn, 1) := by decide +kernel
theorem dX12_isParted_84 : decode cX12_isParted 84 = .ok (.iinc 4 1, 3) := by decide +kernel
theorem dX12_isParted_87 : decode cX12_isParted 87 = .ok (.goto (-30), 3) := by decide +kernel
theorem dX12_isParted_90 : decode cX12_isParted 90 = .ok (.iconst 0, 1) := by decide +kernel
theorem dX12_isParted_91 : decode cX12_isParted 91 = .ok (.ireturn, 1) := by decide +kernel
theorem dX12_partsOf_0 : decode cX12_partsOf 0 = .ok (.aload_n 0, 1) := by decide +kernel
theorem dX12_partsOf_1 : decode cX12_partsOf 1 = .ok (.iload_n 3, 1) := by decide +kernel
theorem dX12_partsOf_2 : decode cX12_partsOf 2 = .ok (.invokevirtual 392, 3) := by decide +kernel
theorem dX12_partsOf_5 : decode cX12_partsOf 5 = .ok (.istore 4, 2) := by decide +kernel
theorem dX12_partsOf_7 : decode cX12_partsOf 7 = .ok (.iconst 0, 1) := by decide +kernel
theorem dX12_partsOf_8 : decode cX12_partsOf 8 = .ok (.istore 5, 2) := by decide +kernel
theorem dX12_partsOf_10 : decode cX12_partsOf 10 = .ok (.iload 5, 2) := by decide +kernel
theorem dX12_partsOf_12 : decode cX12_partsOf 12 = .ok (.iload 4, 2) := by decide +kernel
theorem dX12_partsOf_14 : decode cX12_partsOf 14 = .ok (.if_icmp .ge 27, 3) := by decide +kernel
theorem dX12_partsOf_17 : decode cX12_partsOf 17 = .ok (.aload_n 0, 1) := by decide +kernel
theorem dX12_partsOf_18 : decode cX12_partsOf 18 = .ok (.iload 5, 2) := by decide +kernel
theorem dX12_partsOf_20 : decode cX12_partsOf 20 = .ok (.invokevirtual 395, 3) := by decide +kernel
theorem dX12_partsOf_23 : decode cX12_partsOf 23 = .ok (.aload_n 0, 1) := by decide +kernel
theorem dX12_partsOf_24 : decode cX12_partsOf 24 = .ok (.iload_n 1, 1) := by decide +kernel
theorem dX12_partsOf_25 : decode cX12_partsOf 25 = .ok (.iload_n 2, 1) := by decide +kernel
theorem dX12_partsOf_26 : decode cX12_partsOf 26 = .ok (.invokevirtual 398, 3) := by decide +kernel
theorem dX12_partsOf_29 : decode cX12_partsOf 29 = .ok (.ifCond .eq 6, 3) := by decide +kernel
theorem dX12_partsOf_32 : decode cX12_partsOf 32 = .ok (.iload 5, 2) := by decide +kernel
theorem dX12_partsOf_34 : decode cX12_partsOf 34 = .ok (.ireturn, 1) := by decide +kernel
theorem dX12_partsOf_35 : decode cX12_partsOf 35 = .ok (.iinc 5 1, 3) := by decide +kernel
theorem dX12_partsOf_38 : decode cX12_partsOf 38 = .ok (.goto (-28), 3) := by decide +kernel
theorem dX12_partsOf_41 : decode cX12_partsOf 41 = .ok (.iconst (-1), 1) := by decide +kernel
theorem dX12_partsOf_42 : decode cX12_partsOf 42 = .ok (.ireturn, 1) := by decide +kernel
theorem dX12_parts_0 : decode cX12_parts 0 = .ok (.iload_n 1, 1) := by decide +kernel
theorem dX12_parts_1 : decode cX12_parts 1 = .ok (.iconst 0, 1) := by decide +kernel
theorem dX12_parts_2 : decode cX12_parts 2 = .ok (.aload_n 0, 1) := by decide +kernel
theorem dX12_parts_3 : decode cX12_parts 3 = .ok (.invokevirtual 251, 3) := by decide +kernel
theorem dX12_parts_6 : decode cX12_parts 6 = .ok (.invokestatic 119, 3) := by decide +kernel
theorem dX12_parts_9 : decode cX12_parts 9 = .ok (.ifCond .eq 24, 3) := by decide +kernel
theorem dX12_parts_12 : decode cX12_parts 12 = .ok (.iload_n 2, 1) := by decide +kernel
theorem dX12_parts_13 : decode cX12_parts 13 = .ok (.iconst 0, 1) := by decide +kernel
theorem dX12_parts_14 : decode cX12_parts 14 = .ok (.aload_n 0, 1) := by decide +kernel
theorem dX12_parts_15 : decode cX12_parts 15 = .ok (.invokevirtual 251, 3) := by decide +kernel
theorem dX12_parts_18 : decode cX12_parts 18 = .ok (.invokestatic 119, 3) := by decide +kernel
theorem dX12_parts_21 : decode cX12_parts 21 = .ok (.ifCond .eq 12, 3) := by decide +kernel
theorem dX12_parts_24 : decode cX12_parts 24 = .ok (.iload_n 3, 1) := by decide +kernel
theorem dX12_parts_25 : decode cX12_parts 25 = .ok (.iconst 1, 1) := by decide +kernel
theorem dX12_parts_26 : decode cX12_parts 26 = .ok (.iconst 3, 1) := by decide +kernel
theorem dX12_parts_27 : decode cX12_parts 27 = .ok (.invokestatic 119, 3) := by decide +kernel
theorem dX12_parts_30 : decode cX12_parts 30 = .ok (.ifCond .ne 6, 3) := by decide +kernel
theorem dX12_parts_33 : decode cX12_parts 33 = .ok (.bipush (-2), 2) := by decide +kernel
theorem dX12_parts_35 : decode cX12_parts 35 = .ok (.ireturn, 1) := by decide +kernel
theorem dX12_parts_36 : decode cX12_parts 36 = .ok (.aload_n 0, 1) := by decide +kernel
theorem dX12_parts_37 : decode cX12_parts 37 = .ok (.iload_n 1, 1) := by decide +kernel
theorem dX12_parts_38 : decode cX12_parts 38 = .ok (.iload_n 2, 1) := by decide +kernel
theorem dX12_parts_39 : decode cX12_parts 39 = .ok (.iload_n 3, 1) := by decide +kernel
theorem dX12_parts_40 : decode cX12_parts 40 = .ok (.invokevirtual 401, 3) := by decide +kernel
theorem dX12_parts_43 : decode cX12_parts 43 = .ok (.ireturn, 1) := by decide +kernel
theorem dX12_idle_0 : decode cX12_idle 0 = .ok (.aload_n 0, 1) := by decide +kernel
theorem dX12_idle_1 : decode cX12_idle 1 = .ok (.iload_n 1, 1) := by decide +kernel
theorem dX12_idle_2 : decode cX12_idle 2 = .ok (.invokevirtual 404, 3) := by decide +kernel
theorem dX12_idle_5 : decode cX12_idle 5 = .ok (.ifCond .eq 12, 3) := by decide +kernel
theorem dX12_idle_8 : decode cX12_idle 8 = .ok (.iload_n 2, 1) := by decide +kernel
theorem dX12_idle_9 : decode cX12_idle 9 = .ok (.iconst 1, 1) := by decide +kernel
theorem dX12_idle_10 : decode cX12_idle 10 = .ok (.iconst 3, 1) := by decide +kernel
theorem dX12_idle_11 : decode cX12_idle 11 = .ok (.invokestatic 119, 3) := by decide +kernel
theorem dX12_idle_14 : decode cX12_idle 14 = .ok (.ifCond .ne 7, 3) := by decide +kernel
theorem dX12_idle_17 : decode cX12_idle 17 = .ok (.iconst (-1), 1) := by decide +kernel
theorem dX12_idle_18 : decode cX12_idle 18 = .ok (.goto 37, 3) := by decide +kernel
theorem dX12_idle_21 : decode cX12_idle 21 = .ok (.aload_n 0, 1) := by decide +kernel
theorem dX12_idle_22 : decode cX12_idle 22 = .ok (.aload_n 0, 1) := by decide +kernel
theorem dX12_idle_23 : decode cX12_idle 23 = .ok (.getfield 7, 3) := by decide +kernel
theorem dX12_idle_26 : decode cX12_idle 26 = .ok (.bipush 40, 2) := by decide +kernel
theorem dX12_idle_28 : decode cX12_idle 28 = .ok (.iaload, 1) := by decide +kernel
theorem dX12_idle_29 : decode cX12_idle 29 = .ok (.aload_n 0, 1) := by decide +kernel
theorem dX12_idle_30 : decode cX12_idle 30 = .ok (.getfield 7, 3) := by decide +kernel
theorem dX12_idle_33 : decode cX12_idle 33 = .ok (.bipush 40, 2) := by decide +kernel
theorem dX12_idle_35 : decode cX12_idle 35 = .ok (.iaload, 1) := by decide +kernel
theorem dX12_idle_36 : decode cX12_idle 36 = .ok (.iconst 1, 1) := by decide +kernel
theorem dX12_idle_37 : decode cX12_idle 37 = .ok (.iload_n 1, 1) := by decide +kernel
theorem dX12_idle_38 : decode cX12_idle 38 = .ok (.ishl, 1) := by decide +kernel
theorem dX12_idle_39 : decode cX12_idle 39 = .ok (.iconst (-1), 1) := by decide +kernel
theorem dX12_idle_40 : decode cX12_idle 40 = .ok (.ixor, 1) := by decide +kernel
theorem dX12_idle_41 : decode cX12_idle 41 = .ok (.iand, 1) := by decide +kernel
theorem dX12_idle_42 : decode cX12_idle 42 = .ok (.iload_n 2, 1) := by decide +kernel
theorem dX12_idle_43 : decode cX12_idle 43 = .ok (.invokevirtual 401, 3) := by decide +kernel
theorem dX12_idle_46 : decode cX12_idle 46 = .ok (.iconst (-1), 1) := by decide +kernel
theorem dX12_idle_47 : decode cX12_idle 47 = .ok (.if_icmp .ne 7, 3) := by decide +kernel
theorem dX12_idle_50 : decode cX12_idle 50 = .ok (.iconst 1, 1) := by decide +kernel
theorem dX12_idle_51 : decode cX12_idle 51 = .ok (.goto 4, 3) := by decide +kernel
theorem dX12_idle_54 : decode cX12_idle 54 = .ok (.iconst 0, 1) := by decide +kernel
theorem dX12_idle_55 : decode cX12_idle 55 = .ok (.ireturn, 1) := by decide +kernel
theorem dX12_fewest_0 : decode cX12_fewest 0 = .ok (.iload_n 1, 1) := by decide +kernel
theorem dX12_fewest_1 : decode cX12_fewest 1 = .ok (.iconst 1, 1) := by decide +kernel
theorem dX12_fewest_2 : decode cX12_fewest 2 = .ok (.iconst 2, 1) := by decide +kernel
theorem dX12_fewest_3 : decode cX12_fewest 3 = .ok (.invokestatic 119, 3) := by decide +kernel
theorem dX12_fewest_6 : decode cX12_fewest 6 = .ok (.ifCond .ne 5, 3) := by decide +kernel
theorem dX12_fewest_9 : decode cX12_fewest 9 = .ok (.iconst (-1), 1) := by decide +kernel
theorem dX12_fewest_10 : decode cX12_fewest 10 = .ok (.ireturn, 1) := by decide +kernel
theorem dX12_fewest_11 : decode cX12_fewest 11 = .ok (.iconst 0, 1) := by decide +kernel
theorem dX12_fewest_12 : decode cX12_fewest 12 = .ok (.istore_n 2, 1) := by decide +kernel
theorem dX12_fewest_13 : decode cX12_fewest 13 = .ok (.iload_n 2, 1) := by decide +kernel
theorem dX12_fewest_14 : decode cX12_fewest 14 = .ok (.sipush 256, 3) := by decide +kernel
theorem dX12_fewest_17 : decode cX12_fewest 17 = .ok (.if_icmp .ge 16, 3) := by decide +kernel
theorem dX12_fewest_20 : decode cX12_fewest 20 = .ok (.aload_n 0, 1) := by decide +kernel
theorem dX12_fewest_21 : decode cX12_fewest 21 = .ok (.getfield 92, 3) := by decide +kernel
theorem dX12_fewest_24 : decode cX12_fewest 24 = .ok (.iload_n 2, 1) := by decide +kernel
theorem dX12_fewest_25 : decode cX12_fewest 25 = .ok (.iconst 0, 1) := by decide +kernel
theorem dX12_fewest_26 : decode cX12_fewest 26 = .ok (.bastore, 1) := by decide +kernel
theorem dX12_fewest_27 : decode cX12_fewest 27 = .ok (.iinc 2 1, 3) := by decide +kernel
theorem dX12_fewest_30 : decode cX12_fewest 30 = .ok (.goto (-17), 3) := by decide +kernel
theorem dX12_fewest_33 : decode cX12_fewest 33 = .ok (.aload_n 0, 1) := by decide +kernel
theorem dX12_fewest_34 : decode cX12_fewest 34 = .ok (.iload_n 1, 1) := by decide +kernel
theorem dX12_fewest_35 : decode cX12_fewest 35 = .ok (.invokevirtual 392, 3) := by decide +kernel
theorem dX12_fewest_38 : decode cX12_fewest 38 = .ok (.istore_n 2, 1) := by decide +kernel
theorem dX12_fewest_39 : decode cX12_fewest 39 = .ok (.iconst 0, 1) := by decide +kernel
theorem dX12_fewest_40 : decode cX12_fewest 40 = .ok (.istore_n 3, 1) := by decide +kernel
theorem dX12_fewest_41 : decode cX12_fewest 41 = .ok (.iload_n 3, 1) := by decide +kernel
theorem dX12_fewest_42 : decode cX12_fewest 42 = .ok (.iload_n 2, 1) := by decide +kernel
theorem dX12_fewest_43 : decode cX12_fewest 43 = .ok (.if_icmp .ge 45, 3) := by decide +kernel
theorem dX12_fewest_46 : decode cX12_fewest 46 = .ok (.aload_n 0, 1) := by decide +kernel
theorem dX12_fewest_47 : decode cX12_fewest 47 = .ok (.iload_n 3, 1) := by decide +kernel
theorem dX12_fewest_48 : decode cX12_fewest 48 = .ok (.invokevirtual 395, 3) := by decide +kernel
theorem dX12_fewest_51 : decode cX12_fewest 51 = .ok (.aload_n 0, 1) := by decide +kernel
theorem dX12_fewest_52 : decode cX12_fewest 52 = .ok (.aload_n 0, 1) := by decide +kernel
theorem dX12_fewest_53 : decode cX12_fewest 53 = .ok (.getfield 7, 3) := by decide +kernel
theorem dX12_fewest_56 : decode cX12_fewest 56 = .ok (.bipush 40, 2) := by decide +kernel
theorem dX12_fewest_58 : decode cX12_fewest 58 = .ok (.iaload, 1) := by decide +kernel
theorem dX12_fewest_59 : decode cX12_fewest 59 = .ok (.invokevirtual 389, 3) := by decide +kernel
theorem dX12_fewest_62 : decode cX12_fewest 62 = .ok (.aload_n 0, 1) := by decide +kernel
theorem dX12_fewest_63 : decode cX12_fewest 63 = .ok (.iconst 4, 1) := by decide +kernel
theorem dX12_fewest_64 : decode cX12_fewest 64 = .ok (.invokevirtual 349, 3) := by decide +kernel
theorem dX12_fewest_67 : decode cX12_fewest 67 = .ok (.aload_n 0, 1) := by decide +kernel
theorem dX12_fewest_68 : decode cX12_fewest 68 = .ok (.iconst 0, 1) := by decide +kernel
theorem dX12_fewest_69 : decode cX12_fewest 69 = .ok (.aload_n 0, 1) := by decide +kernel
theorem dX12_fewest_70 : decode cX12_fewest 70 = .ok (.getfield 7, 3) := by decide +kernel
theorem dX12_fewest_73 : decode cX12_fewest 73 = .ok (.bipush 41, 2) := by decide +kernel
theorem dX12_fewest_75 : decode cX12_fewest 75 = .ok (.iaload, 1) := by decide +kernel
theorem dX12_fewest_76 : decode cX12_fewest 76 = .ok (.iconst 0, 1) := by decide +kernel
theorem dX12_fewest_77 : decode cX12_fewest 77 = .ok (.iconst 0, 1) := by decide +kernel
theorem dX12_fewest_78 : decode cX12_fewest 78 = .ok (.iconst 0, 1) := by decide +kernel
theorem dX12_fewest_79 : decode cX12_fewest 79 = .ok (.invokevirtual 311, 3) := by decide +kernel
theorem dX12_fewest_82 : decode cX12_fewest 82 = .ok (.iinc 3 1, 3) := by decide +kernel
theorem dX12_fewest_85 : decode cX12_fewest 85 = .ok (.goto (-44), 3) := by decide +kernel
theorem dX12_fewest_88 : decode cX12_fewest 88 = .ok (.aload_n 0, 1) := by decide +kernel
theorem dX12_fewest_89 : decode cX12_fewest 89 = .ok (.getfield 7, 3) := by decide +kernel
theorem dX12_fewest_92 : decode cX12_fewest 92 = .ok (.bipush 40, 2) := by decide +kernel
theorem dX12_fewest_94 : decode cX12_fewest 94 = .ok (.iaload, 1) := by decide +kernel
theorem dX12_fewest_95 : decode cX12_fewest 95 = .ok (.istore_n 3, 1) := by decide +kernel
theorem dX12_fewest_96 : decode cX12_fewest 96 = .ok (.iconst 0, 1) := by decide +kernel
theorem dX12_fewest_97 : decode cX12_fewest 97 = .ok (.istore 4, 2) := by decide +kernel
theorem dX12_fewest_99 : decode cX12_fewest 99 = .ok (.iload 4, 2) := by decide +kernel
theorem dX12_fewest_101 : decode cX12_fewest 101 = .ok (.aload_n 0, 1) := by decide +kernel
theorem dX12_fewest_102 : decode cX12_fewest 102 = .ok (.getfield 7, 3) := by decide +kernel
theorem dX12_fewest_105 : decode cX12_fewest 105 = .ok (.bipush 40, 2) := by decide +kernel
theorem dX12_fewest_107 : decode cX12_fewest 107 = .ok (.iaload, 1) := by decide +kernel
theorem dX12_fewest_108 : decode cX12_fewest 108 = .ok (.if_icmp .gt 49, 3) := by decide +kernel
theorem dX12_fewest_111 : decode cX12_fewest 111 = .ok (.iload 4, 2) := by decide +kernel
theorem dX12_fewest_113 : decode cX12_fewest 113 = .ok (.aload_n 0, 1) := by decide +kernel
theorem dX12_fewest_114 : decode cX12_fewest 114 = .ok (.getfield 7, 3) := by decide +kernel
theorem dX12_fewest_117 : decode cX12_fewest 117 = .ok (.bipush 40, 2) := by decide +kernel
theorem dX12_fewest_119 : decode cX12_fewest 119 = .ok (.iaload, 1) := by decide +kernel
theorem dX12_fewest_120 : decode cX12_fewest 120 = .ok (.iconst (-1), 1) := by decide +kernel
theorem dX12_fewest_121 : decode cX12_fewest 121 = .ok (.ixor, 1) := by decide +kernel
theorem dX12_fewest_122 : decode cX12_fewest 122 = .ok (.iand, 1) := by decide +kernel
theorem dX12_fewest_123 : decode cX12_fewest 123 = .ok (.ifCond .ne 28, 3) := by decide +kernel
theorem dX12_fewest_126 : decode cX12_fewest 126 = .ok (.aload_n 0, 1) := by decide +kernel
theorem dX12_fewest_127 : decode cX12_fewest 127 = .ok (.getfield 92, 3) := by decide +kernel
theorem dX12_fewest_130 : decode cX12_fewest 130 = .ok (.iload 4, 2) := by decide +kernel
theorem dX12_fewest_132 : decode cX12_fewest 132 = .ok (.baload, 1) := by decide +kernel
theorem dX12_fewest_133 : decode cX12_fewest 133 = .ok (.ifCond .ne 18, 3) := by decide +kernel
theorem dX12_fewest_136 : decode cX12_fewest 136 = .ok (.iload 4, 2) := by decide +kernel
theorem dX12_fewest_138 : decode cX12_fewest 138 = .ok (.invokestatic 407, 3) := by decide +kernel
theorem dX12_fewest_141 : decode cX12_fewest 141 = .ok (.iload_n 3, 1) := by decide +kernel
theorem dX12_fewest_142 : decode cX12_fewest 142 = .ok (.invokestatic 407, 3) := by decide +kernel
theorem dX12_fewest_145 : decode cX12_fewest 145 = .ok (.if_icmp .ge 6, 3) := by decide +kernel
theorem dX12_fewest_148 : decode cX12_fewest 148 = .ok (.iload 4, 2) := by decide +kernel
theorem dX12_fewest_150 : decode cX12_fewest 150 = .ok (.istore_n 3, 1) := by decide +kernel
theorem dX12_fewest_151 : decode cX12_fewest 151 = .ok (.iinc 4 1, 3) := by decide +kernel
theorem dX12_fewest_154 : decode cX12_fewest 154 = .ok (.goto (-55), 3) := by decide +kernel
theorem dX12_fewest_157 : decode cX12_fewest 157 = .ok (.iload_n 3, 1) := by decide +kernel
theorem dX12_fewest_158 : decode cX12_fewest 158 = .ok (.ireturn, 1) := by decide +kernel
theorem dX12_lives_0 : decode cX12_lives 0 = .ok (.iload_n 1, 1) := by decide +kernel
theorem dX12_lives_1 : decode cX12_lives 1 = .ok (.iconst 0, 1) := by decide +kernel
theorem dX12_lives_2 : decode cX12_lives 2 = .ok (.aload_n 0, 1) := by decide +kernel
theorem dX12_lives_3 : decode cX12_lives 3 = .ok (.getfield 7, 3) := by decide +kernel
theorem dX12_lives_6 : decode cX12_lives 6 = .ok (.iconst 0, 1) := by decide +kernel
theorem dX12_lives_7 : decode cX12_lives 7 = .ok (.iaload, 1) := by decide +kernel
theorem dX12_lives_8 : decode cX12_lives 8 = .ok (.invokestatic 119, 3) := by decide +kernel
theorem dX12_lives_11 : decode cX12_lives 11 = .ok (.ifCond .eq 38, 3) := by decide +kernel
theorem dX12_lives_14 : decode cX12_lives 14 = .ok (.iload_n 2, 1) := by decide +kernel
theorem dX12_lives_15 : decode cX12_lives 15 = .ok (.iconst 0, 1) := by decide +kernel
theorem dX12_lives_16 : decode cX12_lives 16 = .ok (.aload_n 0, 1) := by decide +kernel
theorem dX12_lives_17 : decode cX12_lives 17 = .ok (.getfield 7, 3) := by decide +kernel
theorem dX12_lives_20 : decode cX12_lives 20 = .ok (.iconst 0, 1) := by decide +kernel
theorem dX12_lives_21 : decode cX12_lives 21 = .ok (.iaload, 1) := by decide +kernel
theorem dX12_lives_22 : decode cX12_lives 22 = .ok (.invokestatic 119, 3) := by decide +kernel
theorem dX12_lives_25 : decode cX12_lives 25 = .ok (.ifCond .eq 24, 3) := by decide +kernel
theorem dX12_lives_28 : decode cX12_lives 28 = .ok (.aload_n 0, 1) := by decide +kernel
theorem dX12_lives_29 : decode cX12_lives 29 = .ok (.getfield 7, 3) := by decide +kernel
theorem dX12_lives_32 : decode cX12_lives 32 = .ok (.iload_n 1, 1) := by decide +kernel
theorem dX12_lives_33 : decode cX12_lives 33 = .ok (.iload_n 2, 1) := by decide +kernel
theorem dX12_lives_34 : decode cX12_lives 34 = .ok (.invokestatic 180, 3) := by decide +kernel
theorem dX12_lives_37 : decode cX12_lives 37 = .ok (.ifCond .eq 12, 3) := by decide +kernel
theorem dX12_lives_40 : decode cX12_lives 40 = .ok (.iload_n 3, 1) := by decide +kernel
theorem dX12_lives_41 : decode cX12_lives 41 = .ok (.iconst 1, 1) := by decide +kernel
theorem dX12_lives_42 : decode cX12_lives 42 = .ok (.iconst 3, 1) := by decide +kernel
theorem dX12_lives_43 : decode cX12_lives 43 = .ok (.invokestatic 119, 3) := by decide +kernel
theorem dX12_lives_46 : decode cX12_lives 46 = .ok (.ifCond .ne 5, 3) := by decide +kernel
theorem dX12_lives_49 : decode cX12_lives 49 = .ok (.iconst (-1), 1) := by decide +kernel
theorem dX12_lives_50 : decode cX12_lives 50 = .ok (.ireturn, 1) := by decide +kernel
theorem dX12_lives_51 : decode cX12_lives 51 = .ok (.aload_n 0, 1) := by decide +kernel
theorem dX12_lives_52 : decode cX12_lives 52 = .ok (.iload_n 3, 1) := by decide +kernel
theorem dX12_lives_53 : decode cX12_lives 53 = .ok (.invokevirtual 392, 3) := by decide +kernel
