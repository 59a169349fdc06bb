theorem dX12_statement_169 : decode cX12_statement 169 = .ok (.getfield 13, 3) := by decide +kernel
theorem dX12_statement_172 : decode cX12_statement 172 = .ok (.bipush 18, 2) := by decide +kernel
theorem dX12_statement_174 : decode cX12_statement 174 = .ok (.iaload, 1) := by decide +kernel
theorem dX12_statement_175 : decode cX12_statement 175 = .ok (.iconst 1, 1) := by decide +kernel
theorem dX12_statement_176 : decode cX12_statement 176 = .ok (.isub, 1) := by decide +kernel
theorem dX12_statement_177 : decode cX12_statement 177 = .ok (.imul, 1) := by decide +kernel
theorem dX12_statement_178 : decode cX12_statement 178 = .ok (.iadd, 1) := by decide +kernel
theorem dX12_statement_179 : decode cX12_statement 179 = .ok (.iconst 1, 1) := by decide +kernel
theorem dX12_statement_180 : decode cX12_statement 180 = .ok (.invokevirtual 230, 3) := by decide +kernel
theorem dX12_statement_183 : decode cX12_statement 183 = .ok (.ireturn, 1) := by decide +kernel
theorem dX12_statement_184 : decode cX12_statement 184 = .ok (.aload_n 0, 1) := by decide +kernel
theorem dX12_statement_185 : decode cX12_statement 185 = .ok (.iload_n 1, 1) := by decide +kernel
theorem dX12_statement_186 : decode cX12_statement 186 = .ok (.iload_n 2, 1) := by decide +kernel
theorem dX12_statement_187 : decode cX12_statement 187 = .ok (.ldc 234, 2) := by decide +kernel
theorem dX12_statement_189 : decode cX12_statement 189 = .ok (.invokevirtual 210, 3) := by decide +kernel
theorem dX12_statement_192 : decode cX12_statement 192 = .ok (.ifCond .eq 55, 3) := by decide +kernel
theorem dX12_statement_195 : decode cX12_statement 195 = .ok (.aload_n 0, 1) := by decide +kernel
theorem dX12_statement_196 : decode cX12_statement 196 = .ok (.getfield 13, 3) := by decide +kernel
theorem dX12_statement_199 : decode cX12_statement 199 = .ok (.bipush 19, 2) := by decide +kernel
theorem dX12_statement_201 : decode cX12_statement 201 = .ok (.iaload, 1) := by decide +kernel
theorem dX12_statement_202 : decode cX12_statement 202 = .ok (.bipush 8, 2) := by decide +kernel
theorem dX12_statement_204 : decode cX12_statement 204 = .ok (.if_icmp .ne 10, 3) := by decide +kernel
theorem dX12_statement_207 : decode cX12_statement 207 = .ok (.aload_n 0, 1) := by decide +kernel
theorem dX12_statement_208 : decode cX12_statement 208 = .ok (.iconst 3, 1) := by decide +kernel
theorem dX12_statement_209 : decode cX12_statement 209 = .ok (.iload_n 1, 1) := by decide +kernel
theorem dX12_statement_210 : decode cX12_statement 210 = .ok (.invokevirtual 143, 3) := by decide +kernel
theorem dX12_statement_213 : decode cX12_statement 213 = .ok (.ireturn, 1) := by decide +kernel
theorem dX12_statement_214 : decode cX12_statement 214 = .ok (.aload_n 0, 1) := by decide +kernel
theorem dX12_statement_215 : decode cX12_statement 215 = .ok (.getfield 13, 3) := by decide +kernel
theorem dX12_statement_218 : decode cX12_statement 218 = .ok (.bipush 19, 2) := by decide +kernel
theorem dX12_statement_220 : decode cX12_statement 220 = .ok (.dup2, 1) := by decide +kernel
theorem dX12_statement_221 : decode cX12_statement 221 = .ok (.iaload, 1) := by decide +kernel
theorem dX12_statement_222 : decode cX12_statement 222 = .ok (.iconst 1, 1) := by decide +kernel
theorem dX12_statement_223 : decode cX12_statement 223 = .ok (.iadd, 1) := by decide +kernel
theorem dX12_statement_224 : decode cX12_statement 224 = .ok (.iastore, 1) := by decide +kernel
theorem dX12_statement_225 : decode cX12_statement 225 = .ok (.aload_n 0, 1) := by decide +kernel
theorem dX12_statement_226 : decode cX12_statement 226 = .ok (.sipush 156, 3) := by decide +kernel
theorem dX12_statement_229 : decode cX12_statement 229 = .ok (.bipush 8, 2) := by decide +kernel
theorem dX12_statement_231 : decode cX12_statement 231 = .ok (.aload_n 0, 1) := by decide +kernel
theorem dX12_statement_232 : decode cX12_statement 232 = .ok (.getfield 13, 3) := by decide +kernel
theorem dX12_statement_235 : decode cX12_statement 235 = .ok (.bipush 19, 2) := by decide +kernel
theorem dX12_statement_237 : decode cX12_statement 237 = .ok (.iaload, 1) := by decide +kernel
theorem dX12_statement_238 : decode cX12_statement 238 = .ok (.iconst 1, 1) := by decide +kernel
theorem dX12_statement_239 : decode cX12_statement 239 = .ok (.isub, 1) := by decide +kernel
theorem dX12_statement_240 : decode cX12_statement 240 = .ok (.imul, 1) := by decide +kernel
theorem dX12_statement_241 : decode cX12_statement 241 = .ok (.iadd, 1) := by decide +kernel
theorem dX12_statement_242 : decode cX12_statement 242 = .ok (.iconst 0, 1) := by decide +kernel
theorem dX12_statement_243 : decode cX12_statement 243 = .ok (.invokevirtual 230, 3) := by decide +kernel
theorem dX12_statement_246 : decode cX12_statement 246 = .ok (.ireturn, 1) := by decide +kernel
theorem dX12_statement_247 : decode cX12_statement 247 = .ok (.aload_n 0, 1) := by decide +kernel
theorem dX12_statement_248 : decode cX12_statement 248 = .ok (.iconst 1, 1) := by decide +kernel
theorem dX12_statement_249 : decode cX12_statement 249 = .ok (.iload_n 1, 1) := by decide +kernel
theorem dX12_statement_250 : decode cX12_statement 250 = .ok (.invokevirtual 143, 3) := by decide +kernel
theorem dX12_statement_253 : decode cX12_statement 253 = .ok (.ireturn, 1) := by decide +kernel
theorem dX12_text_0 : decode cX12_text 0 = .ok (.iconst 0, 1) := by decide +kernel
theorem dX12_text_1 : decode cX12_text 1 = .ok (.istore_n 1, 1) := by decide +kernel
theorem dX12_text_2 : decode cX12_text 2 = .ok (.iload_n 1, 1) := by decide +kernel
theorem dX12_text_3 : decode cX12_text 3 = .ok (.sipush 1560, 3) := by decide +kernel
theorem dX12_text_6 : decode cX12_text 6 = .ok (.if_icmp .ge 16, 3) := by decide +kernel
theorem dX12_text_9 : decode cX12_text 9 = .ok (.aload_n 0, 1) := by decide +kernel
theorem dX12_text_10 : decode cX12_text 10 = .ok (.getfield 13, 3) := by decide +kernel
theorem dX12_text_13 : decode cX12_text 13 = .ok (.iload_n 1, 1) := by decide +kernel
theorem dX12_text_14 : decode cX12_text 14 = .ok (.iconst 0, 1) := by decide +kernel
theorem dX12_text_15 : decode cX12_text 15 = .ok (.iastore, 1) := by decide +kernel
theorem dX12_text_16 : decode cX12_text 16 = .ok (.iinc 1 1, 3) := by decide +kernel
theorem dX12_text_19 : decode cX12_text 19 = .ok (.goto (-17), 3) := by decide +kernel
theorem dX12_text_22 : decode cX12_text 22 = .ok (.aload_n 0, 1) := by decide +kernel
theorem dX12_text_23 : decode cX12_text 23 = .ok (.iconst 0, 1) := by decide +kernel
theorem dX12_text_24 : decode cX12_text 24 = .ok (.putfield 123, 3) := by decide +kernel
theorem dX12_text_27 : decode cX12_text 27 = .ok (.aload_n 0, 1) := by decide +kernel
theorem dX12_text_28 : decode cX12_text 28 = .ok (.iconst 0, 1) := by decide +kernel
theorem dX12_text_29 : decode cX12_text 29 = .ok (.putfield 133, 3) := by decide +kernel
theorem dX12_text_32 : decode cX12_text 32 = .ok (.iconst 1, 1) := by decide +kernel
theorem dX12_text_33 : decode cX12_text 33 = .ok (.istore_n 1, 1) := by decide +kernel
theorem dX12_text_34 : decode cX12_text 34 = .ok (.iload_n 1, 1) := by decide +kernel
theorem dX12_text_35 : decode cX12_text 35 = .ok (.ifCond .eq 36, 3) := by decide +kernel
theorem dX12_text_38 : decode cX12_text 38 = .ok (.aload_n 0, 1) := by decide +kernel
theorem dX12_text_39 : decode cX12_text 39 = .ok (.invokevirtual 139, 3) := by decide +kernel
theorem dX12_text_42 : decode cX12_text 42 = .ok (.iconst (-1), 1) := by decide +kernel
theorem dX12_text_43 : decode cX12_text 43 = .ok (.if_icmp .eq 28, 3) := by decide +kernel
theorem dX12_text_46 : decode cX12_text 46 = .ok (.aload_n 0, 1) := by decide +kernel
theorem dX12_text_47 : decode cX12_text 47 = .ok (.invokevirtual 236, 3) := by decide +kernel
theorem dX12_text_50 : decode cX12_text 50 = .ok (.ifCond .eq 16, 3) := by decide +kernel
theorem dX12_text_53 : decode cX12_text 53 = .ok (.aload_n 0, 1) := by decide +kernel
theorem dX12_text_54 : decode cX12_text 54 = .ok (.bipush 59, 2) := by decide +kernel
theorem dX12_text_56 : decode cX12_text 56 = .ok (.invokevirtual 174, 3) := by decide +kernel
theorem dX12_text_59 : decode cX12_text 59 = .ok (.ifCond .eq 7, 3) := by decide +kernel
theorem dX12_text_62 : decode cX12_text 62 = .ok (.iconst 1, 1) := by decide +kernel
theorem dX12_text_63 : decode cX12_text 63 = .ok (.goto 4, 3) := by decide +kernel
theorem dX12_text_66 : decode cX12_text 66 = .ok (.iconst 0, 1) := by decide +kernel
theorem dX12_text_67 : decode cX12_text 67 = .ok (.istore_n 1, 1) := by decide +kernel
theorem dX12_text_68 : decode cX12_text 68 = .ok (.goto (-34), 3) := by decide +kernel
theorem dX12_text_71 : decode cX12_text 71 = .ok (.aload_n 0, 1) := by decide +kernel
theorem dX12_text_72 : decode cX12_text 72 = .ok (.iconst 0, 1) := by decide +kernel
theorem dX12_text_73 : decode cX12_text 73 = .ok (.putfield 116, 3) := by decide +kernel
theorem dX12_text_76 : decode cX12_text 76 = .ok (.aload_n 0, 1) := by decide +kernel
theorem dX12_text_77 : decode cX12_text 77 = .ok (.iload_n 1, 1) := by decide +kernel
theorem dX12_text_78 : decode cX12_text 78 = .ok (.ifCond .eq 7, 3) := by decide +kernel
theorem dX12_text_81 : decode cX12_text 81 = .ok (.iconst 0, 1) := by decide +kernel
theorem dX12_text_82 : decode cX12_text 82 = .ok (.goto 7, 3) := by decide +kernel
theorem dX12_text_85 : decode cX12_text 85 = .ok (.aload_n 0, 1) := by decide +kernel
theorem dX12_text_86 : decode cX12_text 86 = .ok (.getfield 133, 3) := by decide +kernel
theorem dX12_text_89 : decode cX12_text 89 = .ok (.putfield 239, 3) := by decide +kernel
theorem dX12_text_92 : decode cX12_text 92 = .ok (.aload_n 0, 1) := by decide +kernel
theorem dX12_text_93 : decode cX12_text 93 = .ok (.iload_n 1, 1) := by decide +kernel
theorem dX12_text_94 : decode cX12_text 94 = .ok (.ifCond .eq 7, 3) := by decide +kernel
theorem dX12_text_97 : decode cX12_text 97 = .ok (.iconst (-1), 1) := by decide +kernel
theorem dX12_text_98 : decode cX12_text 98 = .ok (.goto 7, 3) := by decide +kernel
theorem dX12_text_101 : decode cX12_text 101 = .ok (.aload_n 0, 1) := by decide +kernel
theorem dX12_text_102 : decode cX12_text 102 = .ok (.getfield 136, 3) := by decide +kernel
theorem dX12_text_105 : decode cX12_text 105 = .ok (.putfield 22, 3) := by decide +kernel
theorem dX12_text_108 : decode cX12_text 108 = .ok (.iload_n 1, 1) := by decide +kernel
theorem dX12_text_109 : decode cX12_text 109 = .ok (.ifCond .ne 5, 3) := by decide +kernel
theorem dX12_text_112 : decode cX12_text 112 = .ok (.iconst (-1), 1) := by decide +kernel
theorem dX12_text_113 : decode cX12_text 113 = .ok (.ireturn, 1) := by decide +kernel
theorem dX12_text_114 : decode cX12_text 114 = .ok (.aload_n 0, 1) := by decide +kernel
theorem dX12_text_115 : decode cX12_text 115 = .ok (.getfield 13, 3) := by decide +kernel
theorem dX12_text_118 : decode cX12_text 118 = .ok (.bipush 41, 2) := by decide +kernel
theorem dX12_text_120 : decode cX12_text 120 = .ok (.aload_n 0, 1) := by decide +kernel
theorem dX12_text_121 : decode cX12_text 121 = .ok (.getfield 7, 3) := by decide +kernel
theorem dX12_text_124 : decode cX12_text 124 = .ok (.bipush 41, 2) := by decide +kernel
theorem dX12_text_126 : decode cX12_text 126 = .ok (.iaload, 1) := by decide +kernel
theorem dX12_text_127 : decode cX12_text 127 = .ok (.iastore, 1) := by decide +kernel
theorem dX12_text_128 : decode cX12_text 128 = .ok (.aload_n 0, 1) := by decide +kernel
theorem dX12_text_129 : decode cX12_text 129 = .ok (.getfield 13, 3) := by decide +kernel
theorem dX12_text_132 : decode cX12_text 132 = .ok (.bipush 40, 2) := by decide +kernel
theorem dX12_text_134 : decode cX12_text 134 = .ok (.iconst 1, 1) := by decide +kernel
theorem dX12_text_135 : decode cX12_text 135 = .ok (.aload_n 0, 1) := by decide +kernel
theorem dX12_text_136 : decode cX12_text 136 = .ok (.getfield 13, 3) := by decide +kernel
theorem dX12_text_139 : decode cX12_text 139 = .ok (.bipush 17, 2) := by decide +kernel
theorem dX12_text_141 : decode cX12_text 141 = .ok (.iaload, 1) := by decide +kernel
theorem dX12_text_142 : decode cX12_text 142 = .ok (.ishl, 1) := by decide +kernel
theorem dX12_text_143 : decode cX12_text 143 = .ok (.iconst 1, 1) := by decide +kernel
theorem dX12_text_144 : decode cX12_text 144 = .ok (.isub, 1) := by decide +kernel
theorem dX12_text_145 : decode cX12_text 145 = .ok (.iastore, 1) := by decide +kernel
theorem dX12_text_146 : decode cX12_text 146 = .ok (.iconst 0, 1) := by decide +kernel
theorem dX12_text_147 : decode cX12_text 147 = .ok (.istore_n 2, 1) := by decide +kernel
theorem dX12_text_148 : decode cX12_text 148 = .ok (.iload_n 2, 1) := by decide +kernel
theorem dX12_text_149 : decode cX12_text 149 = .ok (.bipush 8, 2) := by decide +kernel
theorem dX12_text_151 : decode cX12_text 151 = .ok (.if_icmp .ge 19, 3) := by decide +kernel
theorem dX12_text_154 : decode cX12_text 154 = .ok (.aload_n 0, 1) := by decide +kernel
theorem dX12_text_155 : decode cX12_text 155 = .ok (.getfield 13, 3) := by decide +kernel
theorem dX12_text_158 : decode cX12_text 158 = .ok (.bipush 43, 2) := by decide +kernel
theorem dX12_text_160 : decode cX12_text 160 = .ok (.iload_n 2, 1) := by decide +kernel
theorem dX12_text_161 : decode cX12_text 161 = .ok (.iadd, 1) := by decide +kernel
theorem dX12_text_162 : decode cX12_text 162 = .ok (.iload_n 2, 1) := by decide +kernel
theorem dX12_text_163 : decode cX12_text 163 = .ok (.iastore, 1) := by decide +kernel
theorem dX12_text_164 : decode cX12_text 164 = .ok (.iinc 2 1, 3) := by decide +kernel
theorem dX12_text_167 : decode cX12_text 167 = .ok (.goto (-19), 3) := by decide +kernel
theorem dX12_text_170 : decode cX12_text 170 = .ok (.iconst 0, 1) := by decide +kernel
theorem dX12_text_171 : decode cX12_text 171 = .ok (.istore_n 2, 1) := by decide +kernel
theorem dX12_text_172 : decode cX12_text 172 = .ok (.iload_n 2, 1) := by decide +kernel
theorem dX12_text_173 : decode cX12_text 173 = .ok (.sipush 1560, 3) := by decide +kernel
theorem dX12_text_176 : decode cX12_text 176 = .ok (.if_icmp .ge 21, 3) := by decide +kernel
theorem dX12_text_179 : decode cX12_text 179 = .ok (.aload_n 0, 1) := by decide +kernel
theorem dX12_text_180 : decode cX12_text 180 = .ok (.getfield 7, 3) := by decide +kernel
theorem dX12_text_183 : decode cX12_text 183 = .ok (.iload_n 2, 1) := by decide +kernel
theorem dX12_text_184 : decode cX12_text 184 = .ok (.aload_n 0, 1) := by decide +kernel
theorem dX12_text_185 : decode cX12_text 185 = .ok (.getfield 13, 3) := by decide +kernel
theorem dX12_text_188 : decode cX12_text 188 = .ok (.iload_n 2, 1) := by decide +kernel
theorem dX12_text_189 : decode cX12_text 189 = .ok (.iaload, 1) := by decide +kernel
theorem dX12_text_190 : decode cX12_text 190 = .ok (.iastore, 1) := by decide +kernel
theorem dX12_text_191 : decode cX12_text 191 = .ok (.iinc 2 1, 3) := by decide +kernel
theorem dX12_text_194 : decode cX12_text 194 = .ok (.goto (-22), 3) := by decide +kernel
theorem dX12_text_197 : decode cX12_text 197 = .ok (.aload_n 0, 1) := by decide +kernel
theorem dX12_text_198 : decode cX12_text 198 = .ok (.iconst 0, 1) := by decide +kernel
theorem dX12_text_199 : decode cX12_text 199 = .ok (.putfield 242, 3) := by decide +kernel
theorem dX12_text_202 : decode cX12_text 202 = .ok (.aload_n 0, 1) := by decide +kernel
theorem dX12_text_203 : decode cX12_text 203 = .ok (.iconst 0, 1) := by decide +kernel
theorem dX12_text_204 : decode cX12_text 204 = .ok (.putfield 245, 3) := by decide +kernel
theorem dX12_text_207 : decode cX12_text 207 = .ok (.aload_n 0, 1) := by decide +kernel
theorem dX12_text_208 : decode cX12_text 208 = .ok (.iconst (-1), 1) := by decide +kernel
theorem dX12_text_209 : decode cX12_text 209 = .ok (.putfield 71, 3) := by decide +kernel
theorem dX12_text_212 : decode cX12_text 212 = .ok (.aload_n 0, 1) := by decide +kernel
theorem dX12_text_213 : decode cX12_text 213 = .ok (.iconst 0, 1) := by decide +kernel
theorem dX12_text_214 : decode cX12_text 214 = .ok (.putfield 248, 3) := by decide +kernel
theorem dX12_text_217 : decode cX12_text 217 = .ok (.aload_n 0, 1) := by decide +kernel
theorem dX12_text_218 : decode cX12_text 218 = .ok (.getfield 7, 3) := by decide +kernel
theorem dX12_text_221 : decode cX12_text 221 = .ok (.bipush 17, 2) := by decide +kernel
theorem dX12_text_223 : decode cX12_text 223 = .ok (.iaload, 1) := by decide +kernel
theorem dX12_text_224 : decode cX12_text 224 = .ok (.ireturn, 1) := by decide +kernel
