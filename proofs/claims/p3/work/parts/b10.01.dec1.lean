theorem dX12_needsGoOn_64 : decode cX12_needsGoOn 64 = .ok (.iconst 3, 1) := by decide +kernel
theorem dX12_needsGoOn_65 : decode cX12_needsGoOn 65 = .ok (.iload 5, 2) := by decide +kernel
theorem dX12_needsGoOn_67 : decode cX12_needsGoOn 67 = .ok (.imul, 1) := by decide +kernel
theorem dX12_needsGoOn_68 : decode cX12_needsGoOn 68 = .ok (.iload 8, 2) := by decide +kernel
theorem dX12_needsGoOn_70 : decode cX12_needsGoOn 70 = .ok (.iadd, 1) := by decide +kernel
theorem dX12_needsGoOn_71 : decode cX12_needsGoOn 71 = .ok (.iconst 1, 1) := by decide +kernel
theorem dX12_needsGoOn_72 : decode cX12_needsGoOn 72 = .ok (.aload_n 0, 1) := by decide +kernel
theorem dX12_needsGoOn_73 : decode cX12_needsGoOn 73 = .ok (.getfield 37, 3) := by decide +kernel
theorem dX12_needsGoOn_76 : decode cX12_needsGoOn 76 = .ok (.iload_n 1, 1) := by decide +kernel
theorem dX12_needsGoOn_77 : decode cX12_needsGoOn 77 = .ok (.aaload, 1) := by decide +kernel
theorem dX12_needsGoOn_78 : decode cX12_needsGoOn 78 = .ok (.iconst 3, 1) := by decide +kernel
theorem dX12_needsGoOn_79 : decode cX12_needsGoOn 79 = .ok (.iload 4, 2) := by decide +kernel
theorem dX12_needsGoOn_81 : decode cX12_needsGoOn 81 = .ok (.imul, 1) := by decide +kernel
theorem dX12_needsGoOn_82 : decode cX12_needsGoOn 82 = .ok (.iload 8, 2) := by decide +kernel
theorem dX12_needsGoOn_84 : decode cX12_needsGoOn 84 = .ok (.iadd, 1) := by decide +kernel
theorem dX12_needsGoOn_85 : decode cX12_needsGoOn 85 = .ok (.iaload, 1) := by decide +kernel
theorem dX12_needsGoOn_86 : decode cX12_needsGoOn 86 = .ok (.iload_n 2, 1) := by decide +kernel
theorem dX12_needsGoOn_87 : decode cX12_needsGoOn 87 = .ok (.invokevirtual 262, 3) := by decide +kernel
theorem dX12_needsGoOn_90 : decode cX12_needsGoOn 90 = .ok (.istore 9, 2) := by decide +kernel
theorem dX12_needsGoOn_92 : decode cX12_needsGoOn 92 = .ok (.aload_n 0, 1) := by decide +kernel
theorem dX12_needsGoOn_93 : decode cX12_needsGoOn 93 = .ok (.getfield 37, 3) := by decide +kernel
theorem dX12_needsGoOn_96 : decode cX12_needsGoOn 96 = .ok (.iload_n 1, 1) := by decide +kernel
theorem dX12_needsGoOn_97 : decode cX12_needsGoOn 97 = .ok (.iconst 1, 1) := by decide +kernel
theorem dX12_needsGoOn_98 : decode cX12_needsGoOn 98 = .ok (.iadd, 1) := by decide +kernel
theorem dX12_needsGoOn_99 : decode cX12_needsGoOn 99 = .ok (.aaload, 1) := by decide +kernel
theorem dX12_needsGoOn_100 : decode cX12_needsGoOn 100 = .ok (.iconst 3, 1) := by decide +kernel
theorem dX12_needsGoOn_101 : decode cX12_needsGoOn 101 = .ok (.iload_n 3, 1) := by decide +kernel
theorem dX12_needsGoOn_102 : decode cX12_needsGoOn 102 = .ok (.imul, 1) := by decide +kernel
theorem dX12_needsGoOn_103 : decode cX12_needsGoOn 103 = .ok (.iload 8, 2) := by decide +kernel
theorem dX12_needsGoOn_105 : decode cX12_needsGoOn 105 = .ok (.iadd, 1) := by decide +kernel
theorem dX12_needsGoOn_106 : decode cX12_needsGoOn 106 = .ok (.iload 9, 2) := by decide +kernel
theorem dX12_needsGoOn_108 : decode cX12_needsGoOn 108 = .ok (.iastore, 1) := by decide +kernel
theorem dX12_needsGoOn_109 : decode cX12_needsGoOn 109 = .ok (.iload 7, 2) := by decide +kernel
theorem dX12_needsGoOn_111 : decode cX12_needsGoOn 111 = .ok (.iload 9, 2) := by decide +kernel
theorem dX12_needsGoOn_113 : decode cX12_needsGoOn 113 = .ok (.ior, 1) := by decide +kernel
theorem dX12_needsGoOn_114 : decode cX12_needsGoOn 114 = .ok (.istore 7, 2) := by decide +kernel
theorem dX12_needsGoOn_116 : decode cX12_needsGoOn 116 = .ok (.iload 6, 2) := by decide +kernel
theorem dX12_needsGoOn_118 : decode cX12_needsGoOn 118 = .ok (.ifCond .ne 24, 3) := by decide +kernel
theorem dX12_needsGoOn_121 : decode cX12_needsGoOn 121 = .ok (.iload 9, 2) := by decide +kernel
theorem dX12_needsGoOn_123 : decode cX12_needsGoOn 123 = .ok (.ifCond .eq 23, 3) := by decide +kernel
theorem dX12_needsGoOn_126 : decode cX12_needsGoOn 126 = .ok (.aload_n 0, 1) := by decide +kernel
theorem dX12_needsGoOn_127 : decode cX12_needsGoOn 127 = .ok (.iconst 3, 1) := by decide +kernel
theorem dX12_needsGoOn_128 : decode cX12_needsGoOn 128 = .ok (.iload 5, 2) := by decide +kernel
theorem dX12_needsGoOn_130 : decode cX12_needsGoOn 130 = .ok (.imul, 1) := by decide +kernel
theorem dX12_needsGoOn_131 : decode cX12_needsGoOn 131 = .ok (.iload 8, 2) := by decide +kernel
theorem dX12_needsGoOn_133 : decode cX12_needsGoOn 133 = .ok (.iadd, 1) := by decide +kernel
theorem dX12_needsGoOn_134 : decode cX12_needsGoOn 134 = .ok (.iload 9, 2) := by decide +kernel
theorem dX12_needsGoOn_136 : decode cX12_needsGoOn 136 = .ok (.invokevirtual 282, 3) := by decide +kernel
theorem dX12_needsGoOn_139 : decode cX12_needsGoOn 139 = .ok (.ifCond .eq 7, 3) := by decide +kernel
theorem dX12_needsGoOn_142 : decode cX12_needsGoOn 142 = .ok (.iconst 1, 1) := by decide +kernel
theorem dX12_needsGoOn_143 : decode cX12_needsGoOn 143 = .ok (.goto 4, 3) := by decide +kernel
theorem dX12_needsGoOn_146 : decode cX12_needsGoOn 146 = .ok (.iconst 0, 1) := by decide +kernel
theorem dX12_needsGoOn_147 : decode cX12_needsGoOn 147 = .ok (.istore 6, 2) := by decide +kernel
theorem dX12_needsGoOn_149 : decode cX12_needsGoOn 149 = .ok (.iinc 8 1, 3) := by decide +kernel
theorem dX12_needsGoOn_152 : decode cX12_needsGoOn 152 = .ok (.goto (-116), 3) := by decide +kernel
theorem dX12_needsGoOn_155 : decode cX12_needsGoOn 155 = .ok (.iload 6, 2) := by decide +kernel
theorem dX12_needsGoOn_157 : decode cX12_needsGoOn 157 = .ok (.ifCond .eq 6, 3) := by decide +kernel
theorem dX12_needsGoOn_160 : decode cX12_needsGoOn 160 = .ok (.goto 25, 3) := by decide +kernel
theorem dX12_needsGoOn_163 : decode cX12_needsGoOn 163 = .ok (.iload 7, 2) := by decide +kernel
theorem dX12_needsGoOn_165 : decode cX12_needsGoOn 165 = .ok (.ifCond .ne 5, 3) := by decide +kernel
theorem dX12_needsGoOn_168 : decode cX12_needsGoOn 168 = .ok (.iconst 0, 1) := by decide +kernel
theorem dX12_needsGoOn_169 : decode cX12_needsGoOn 169 = .ok (.ireturn, 1) := by decide +kernel
theorem dX12_needsGoOn_170 : decode cX12_needsGoOn 170 = .ok (.aload_n 0, 1) := by decide +kernel
theorem dX12_needsGoOn_171 : decode cX12_needsGoOn 171 = .ok (.getfield 34, 3) := by decide +kernel
theorem dX12_needsGoOn_174 : decode cX12_needsGoOn 174 = .ok (.iload_n 1, 1) := by decide +kernel
theorem dX12_needsGoOn_175 : decode cX12_needsGoOn 175 = .ok (.iconst 1, 1) := by decide +kernel
theorem dX12_needsGoOn_176 : decode cX12_needsGoOn 176 = .ok (.iadd, 1) := by decide +kernel
theorem dX12_needsGoOn_177 : decode cX12_needsGoOn 177 = .ok (.aaload, 1) := by decide +kernel
theorem dX12_needsGoOn_178 : decode cX12_needsGoOn 178 = .ok (.iload_n 3, 1) := by decide +kernel
theorem dX12_needsGoOn_179 : decode cX12_needsGoOn 179 = .ok (.iload 5, 2) := by decide +kernel
theorem dX12_needsGoOn_181 : decode cX12_needsGoOn 181 = .ok (.iastore, 1) := by decide +kernel
theorem dX12_needsGoOn_182 : decode cX12_needsGoOn 182 = .ok (.iinc 3 1, 3) := by decide +kernel
theorem dX12_needsGoOn_185 : decode cX12_needsGoOn 185 = .ok (.iinc 4 1, 3) := by decide +kernel
theorem dX12_needsGoOn_188 : decode cX12_needsGoOn 188 = .ok (.goto (-183), 3) := by decide +kernel
theorem dX12_needsGoOn_191 : decode cX12_needsGoOn 191 = .ok (.aload_n 0, 1) := by decide +kernel
theorem dX12_needsGoOn_192 : decode cX12_needsGoOn 192 = .ok (.getfield 40, 3) := by decide +kernel
theorem dX12_needsGoOn_195 : decode cX12_needsGoOn 195 = .ok (.iload_n 1, 1) := by decide +kernel
theorem dX12_needsGoOn_196 : decode cX12_needsGoOn 196 = .ok (.iconst 1, 1) := by decide +kernel
theorem dX12_needsGoOn_197 : decode cX12_needsGoOn 197 = .ok (.iadd, 1) := by decide +kernel
theorem dX12_needsGoOn_198 : decode cX12_needsGoOn 198 = .ok (.iload_n 3, 1) := by decide +kernel
theorem dX12_needsGoOn_199 : decode cX12_needsGoOn 199 = .ok (.iastore, 1) := by decide +kernel
theorem dX12_needsGoOn_200 : decode cX12_needsGoOn 200 = .ok (.iconst 1, 1) := by decide +kernel
theorem dX12_needsGoOn_201 : decode cX12_needsGoOn 201 = .ok (.ireturn, 1) := by decide +kernel
theorem dX12_asks_0 : decode cX12_asks 0 = .ok (.iload_n 3, 1) := by decide +kernel
theorem dX12_asks_1 : decode cX12_asks 1 = .ok (.bipush 9, 2) := by decide +kernel
theorem dX12_asks_3 : decode cX12_asks 3 = .ok (.idiv, 1) := by decide +kernel
theorem dX12_asks_4 : decode cX12_asks 4 = .ok (.aload_n 0, 1) := by decide +kernel
theorem dX12_asks_5 : decode cX12_asks 5 = .ok (.iload_n 1, 1) := by decide +kernel
theorem dX12_asks_6 : decode cX12_asks 6 = .ok (.iconst 0, 1) := by decide +kernel
theorem dX12_asks_7 : decode cX12_asks 7 = .ok (.invokevirtual 272, 3) := by decide +kernel
theorem dX12_asks_10 : decode cX12_asks 10 = .ok (.if_icmp .eq 5, 3) := by decide +kernel
theorem dX12_asks_13 : decode cX12_asks 13 = .ok (.iconst 1, 1) := by decide +kernel
theorem dX12_asks_14 : decode cX12_asks 14 = .ok (.ireturn, 1) := by decide +kernel
theorem dX12_asks_15 : decode cX12_asks 15 = .ok (.iload_n 3, 1) := by decide +kernel
theorem dX12_asks_16 : decode cX12_asks 16 = .ok (.bipush 9, 2) := by decide +kernel
theorem dX12_asks_18 : decode cX12_asks 18 = .ok (.irem, 1) := by decide +kernel
theorem dX12_asks_19 : decode cX12_asks 19 = .ok (.aload_n 0, 1) := by decide +kernel
theorem dX12_asks_20 : decode cX12_asks 20 = .ok (.iload_n 1, 1) := by decide +kernel
theorem dX12_asks_21 : decode cX12_asks 21 = .ok (.iconst 1, 1) := by decide +kernel
theorem dX12_asks_22 : decode cX12_asks 22 = .ok (.invokevirtual 272, 3) := by decide +kernel
theorem dX12_asks_25 : decode cX12_asks 25 = .ok (.if_icmp .ne 7, 3) := by decide +kernel
theorem dX12_asks_28 : decode cX12_asks 28 = .ok (.iconst 1, 1) := by decide +kernel
theorem dX12_asks_29 : decode cX12_asks 29 = .ok (.goto 4, 3) := by decide +kernel
theorem dX12_asks_32 : decode cX12_asks 32 = .ok (.iconst 0, 1) := by decide +kernel
theorem dX12_asks_33 : decode cX12_asks 33 = .ok (.istore 4, 2) := by decide +kernel
theorem dX12_asks_35 : decode cX12_asks 35 = .ok (.aload_n 0, 1) := by decide +kernel
theorem dX12_asks_36 : decode cX12_asks 36 = .ok (.iload_n 1, 1) := by decide +kernel
theorem dX12_asks_37 : decode cX12_asks 37 = .ok (.iconst 2, 1) := by decide +kernel
theorem dX12_asks_38 : decode cX12_asks 38 = .ok (.invokevirtual 272, 3) := by decide +kernel
theorem dX12_asks_41 : decode cX12_asks 41 = .ok (.istore 5, 2) := by decide +kernel
theorem dX12_asks_43 : decode cX12_asks 43 = .ok (.iload 4, 2) := by decide +kernel
theorem dX12_asks_45 : decode cX12_asks 45 = .ok (.ifCond .eq 18, 3) := by decide +kernel
theorem dX12_asks_48 : decode cX12_asks 48 = .ok (.iload 5, 2) := by decide +kernel
theorem dX12_asks_50 : decode cX12_asks 50 = .ok (.ifCond .eq 9, 3) := by decide +kernel
theorem dX12_asks_53 : decode cX12_asks 53 = .ok (.iload 5, 2) := by decide +kernel
theorem dX12_asks_55 : decode cX12_asks 55 = .ok (.iconst 2, 1) := by decide +kernel
theorem dX12_asks_56 : decode cX12_asks 56 = .ok (.if_icmp .ne 7, 3) := by decide +kernel
theorem dX12_asks_59 : decode cX12_asks 59 = .ok (.iconst 1, 1) := by decide +kernel
theorem dX12_asks_60 : decode cX12_asks 60 = .ok (.goto 4, 3) := by decide +kernel
theorem dX12_asks_63 : decode cX12_asks 63 = .ok (.iconst 0, 1) := by decide +kernel
theorem dX12_asks_64 : decode cX12_asks 64 = .ok (.istore 6, 2) := by decide +kernel
theorem dX12_asks_66 : decode cX12_asks 66 = .ok (.iload 4, 2) := by decide +kernel
theorem dX12_asks_68 : decode cX12_asks 68 = .ok (.ifCond .eq 17, 3) := by decide +kernel
theorem dX12_asks_71 : decode cX12_asks 71 = .ok (.iload 5, 2) := by decide +kernel
theorem dX12_asks_73 : decode cX12_asks 73 = .ok (.iconst 3, 1) := by decide +kernel
theorem dX12_asks_74 : decode cX12_asks 74 = .ok (.if_icmp .ne 7, 3) := by decide +kernel
theorem dX12_asks_77 : decode cX12_asks 77 = .ok (.iconst 1, 1) := by decide +kernel
theorem dX12_asks_78 : decode cX12_asks 78 = .ok (.goto 24, 3) := by decide +kernel
theorem dX12_asks_81 : decode cX12_asks 81 = .ok (.iconst 0, 1) := by decide +kernel
theorem dX12_asks_82 : decode cX12_asks 82 = .ok (.goto 20, 3) := by decide +kernel
theorem dX12_asks_85 : decode cX12_asks 85 = .ok (.iload 5, 2) := by decide +kernel
theorem dX12_asks_87 : decode cX12_asks 87 = .ok (.iconst 1, 1) := by decide +kernel
theorem dX12_asks_88 : decode cX12_asks 88 = .ok (.if_icmp .eq 9, 3) := by decide +kernel
theorem dX12_asks_91 : decode cX12_asks 91 = .ok (.iload 5, 2) := by decide +kernel
theorem dX12_asks_93 : decode cX12_asks 93 = .ok (.iconst 2, 1) := by decide +kernel
theorem dX12_asks_94 : decode cX12_asks 94 = .ok (.if_icmp .ne 7, 3) := by decide +kernel
theorem dX12_asks_97 : decode cX12_asks 97 = .ok (.iconst 1, 1) := by decide +kernel
theorem dX12_asks_98 : decode cX12_asks 98 = .ok (.goto 4, 3) := by decide +kernel
theorem dX12_asks_101 : decode cX12_asks 101 = .ok (.iconst 0, 1) := by decide +kernel
theorem dX12_asks_102 : decode cX12_asks 102 = .ok (.istore 7, 2) := by decide +kernel
theorem dX12_asks_104 : decode cX12_asks 104 = .ok (.iload 6, 2) := by decide +kernel
theorem dX12_asks_106 : decode cX12_asks 106 = .ok (.ifCond .ne 10, 3) := by decide +kernel
theorem dX12_asks_109 : decode cX12_asks 109 = .ok (.iload 7, 2) := by decide +kernel
theorem dX12_asks_111 : decode cX12_asks 111 = .ok (.ifCond .ne 5, 3) := by decide +kernel
theorem dX12_asks_114 : decode cX12_asks 114 = .ok (.iconst 1, 1) := by decide +kernel
theorem dX12_asks_115 : decode cX12_asks 115 = .ok (.ireturn, 1) := by decide +kernel
theorem dX12_asks_116 : decode cX12_asks 116 = .ok (.aload_n 0, 1) := by decide +kernel
theorem dX12_asks_117 : decode cX12_asks 117 = .ok (.getfield 40, 3) := by decide +kernel
theorem dX12_asks_120 : decode cX12_asks 120 = .ok (.iload_n 2, 1) := by decide +kernel
theorem dX12_asks_121 : decode cX12_asks 121 = .ok (.iconst 1, 1) := by decide +kernel
theorem dX12_asks_122 : decode cX12_asks 122 = .ok (.iadd, 1) := by decide +kernel
theorem dX12_asks_123 : decode cX12_asks 123 = .ok (.iaload, 1) := by decide +kernel
theorem dX12_asks_124 : decode cX12_asks 124 = .ok (.istore 8, 2) := by decide +kernel
theorem dX12_asks_126 : decode cX12_asks 126 = .ok (.iconst 0, 1) := by decide +kernel
theorem dX12_asks_127 : decode cX12_asks 127 = .ok (.istore 9, 2) := by decide +kernel
theorem dX12_asks_129 : decode cX12_asks 129 = .ok (.iconst 0, 1) := by decide +kernel
theorem dX12_asks_130 : decode cX12_asks 130 = .ok (.istore 10, 2) := by decide +kernel
theorem dX12_asks_132 : decode cX12_asks 132 = .ok (.iconst 0, 1) := by decide +kernel
theorem dX12_asks_133 : decode cX12_asks 133 = .ok (.istore 11, 2) := by decide +kernel
theorem dX12_asks_135 : decode cX12_asks 135 = .ok (.iload 11, 2) := by decide +kernel
theorem dX12_asks_137 : decode cX12_asks 137 = .ok (.iconst 3, 1) := by decide +kernel
theorem dX12_asks_138 : decode cX12_asks 138 = .ok (.if_icmp .ge 138, 3) := by decide +kernel
theorem dX12_asks_141 : decode cX12_asks 141 = .ok (.iconst 3, 1) := by decide +kernel
theorem dX12_asks_142 : decode cX12_asks 142 = .ok (.iload_n 1, 1) := by decide +kernel
theorem dX12_asks_143 : decode cX12_asks 143 = .ok (.imul, 1) := by decide +kernel
theorem dX12_asks_144 : decode cX12_asks 144 = .ok (.iload 11, 2) := by decide +kernel
theorem dX12_asks_146 : decode cX12_asks 146 = .ok (.iadd, 1) := by decide +kernel
theorem dX12_asks_147 : decode cX12_asks 147 = .ok (.istore 12, 2) := by decide +kernel
theorem dX12_asks_149 : decode cX12_asks 149 = .ok (.iload 11, 2) := by decide +kernel
theorem dX12_asks_151 : decode cX12_asks 151 = .ok (.aload_n 0, 1) := by decide +kernel
theorem dX12_asks_152 : decode cX12_asks 152 = .ok (.iload_n 1, 1) := by decide +kernel
theorem dX12_asks_153 : decode cX12_asks 153 = .ok (.iconst 3, 1) := by decide +kernel
theorem dX12_asks_154 : decode cX12_asks 154 = .ok (.invokevirtual 272, 3) := by decide +kernel
theorem dX12_asks_157 : decode cX12_asks 157 = .ok (.if_icmp .ge 33, 3) := by decide +kernel
theorem dX12_asks_160 : decode cX12_asks 160 = .ok (.aload_n 0, 1) := by decide +kernel
theorem dX12_asks_161 : decode cX12_asks 161 = .ok (.iload 12, 2) := by decide +kernel
theorem dX12_asks_163 : decode cX12_asks 163 = .ok (.iconst 0, 1) := by decide +kernel
theorem dX12_asks_164 : decode cX12_asks 164 = .ok (.aload_n 0, 1) := by decide +kernel
theorem dX12_asks_165 : decode cX12_asks 165 = .ok (.getfield 28, 3) := by decide +kernel
theorem dX12_asks_168 : decode cX12_asks 168 = .ok (.iload_n 2, 1) := by decide +kernel
theorem dX12_asks_169 : decode cX12_asks 169 = .ok (.aaload, 1) := by decide +kernel
theorem dX12_asks_170 : decode cX12_asks 170 = .ok (.iload 12, 2) := by decide +kernel
theorem dX12_asks_172 : decode cX12_asks 172 = .ok (.iaload, 1) := by decide +kernel
theorem dX12_asks_173 : decode cX12_asks 173 = .ok (.invokevirtual 269, 3) := by decide +kernel
theorem dX12_asks_176 : decode cX12_asks 176 = .ok (.ifCond .eq 14, 3) := by decide +kernel
theorem dX12_asks_179 : decode cX12_asks 179 = .ok (.aload_n 0, 1) := by decide +kernel
theorem dX12_asks_180 : decode cX12_asks 180 = .ok (.iload 12, 2) := by decide +kernel
theorem dX12_asks_182 : decode cX12_asks 182 = .ok (.iconst 1, 1) := by decide +kernel
theorem dX12_asks_183 : decode cX12_asks 183 = .ok (.iconst 1, 1) := by decide +kernel
theorem dX12_asks_184 : decode cX12_asks 184 = .ok (.invokevirtual 258, 3) := by decide +kernel
theorem dX12_asks_187 : decode cX12_asks 187 = .ok (.goto 4, 3) := by decide +kernel
theorem dX12_asks_190 : decode cX12_asks 190 = .ok (.iconst 0, 1) := by decide +kernel
theorem dX12_asks_191 : decode cX12_asks 191 = .ok (.istore 13, 2) := by decide +kernel
theorem dX12_asks_193 : decode cX12_asks 193 = .ok (.iload 6, 2) := by decide +kernel
theorem dX12_asks_195 : decode cX12_asks 195 = .ok (.ifCond .eq 24, 3) := by decide +kernel
theorem dX12_asks_198 : decode cX12_asks 198 = .ok (.aload_n 0, 1) := by decide +kernel
theorem dX12_asks_199 : decode cX12_asks 199 = .ok (.getfield 37, 3) := by decide +kernel
theorem dX12_asks_202 : decode cX12_asks 202 = .ok (.iload_n 2, 1) := by decide +kernel
theorem dX12_asks_203 : decode cX12_asks 203 = .ok (.iconst 1, 1) := by decide +kernel
theorem dX12_asks_204 : decode cX12_asks 204 = .ok (.iadd, 1) := by decide +kernel
theorem dX12_asks_205 : decode cX12_asks 205 = .ok (.aaload, 1) := by decide +kernel
theorem dX12_asks_206 : decode cX12_asks 206 = .ok (.iconst 3, 1) := by decide +kernel
theorem dX12_asks_207 : decode cX12_asks 207 = .ok (.iload 8, 2) := by decide +kernel
theorem dX12_asks_209 : decode cX12_asks 209 = .ok (.imul, 1) := by decide +kernel
theorem dX12_asks_210 : decode cX12_asks 210 = .ok (.iload 11, 2) := by decide +kernel
theorem dX12_asks_212 : decode cX12_asks 212 = .ok (.iadd, 1) := by decide +kernel
theorem dX12_asks_213 : decode cX12_asks 213 = .ok (.iload 13, 2) := by decide +kernel
theorem dX12_asks_215 : decode cX12_asks 215 = .ok (.iastore, 1) := by decide +kernel
theorem dX12_asks_216 : decode cX12_asks 216 = .ok (.goto 19, 3) := by decide +kernel
theorem dX12_asks_219 : decode cX12_asks 219 = .ok (.aload_n 0, 1) := by decide +kernel
theorem dX12_asks_220 : decode cX12_asks 220 = .ok (.getfield 31, 3) := by decide +kernel
theorem dX12_asks_223 : decode cX12_asks 223 = .ok (.iload_n 2, 1) := by decide +kernel
theorem dX12_asks_224 : decode cX12_asks 224 = .ok (.iconst 1, 1) := by decide +kernel
theorem dX12_asks_225 : decode cX12_asks 225 = .ok (.iadd, 1) := by decide +kernel
theorem dX12_asks_226 : decode cX12_asks 226 = .ok (.aaload, 1) := by decide +kernel
theorem dX12_asks_227 : decode cX12_asks 227 = .ok (.iload 12, 2) := by decide +kernel
theorem dX12_asks_229 : decode cX12_asks 229 = .ok (.dup2, 1) := by decide +kernel
theorem dX12_asks_230 : decode cX12_asks 230 = .ok (.iaload, 1) := by decide +kernel
theorem dX12_asks_231 : decode cX12_asks 231 = .ok (.iload 13, 2) := by decide +kernel
theorem dX12_asks_233 : decode cX12_asks 233 = .ok (.ior, 1) := by decide +kernel
theorem dX12_asks_234 : decode cX12_asks 234 = .ok (.iastore, 1) := by decide +kernel
theorem dX12_asks_235 : decode cX12_asks 235 = .ok (.iload 9, 2) := by decide +kernel
theorem dX12_asks_237 : decode cX12_asks 237 = .ok (.iload 13, 2) := by decide +kernel
theorem dX12_asks_239 : decode cX12_asks 239 = .ok (.ior, 1) := by decide +kernel
theorem dX12_asks_240 : decode cX12_asks 240 = .ok (.istore 9, 2) := by decide +kernel
theorem dX12_asks_242 : decode cX12_asks 242 = .ok (.iload 10, 2) := by decide +kernel
theorem dX12_asks_244 : decode cX12_asks 244 = .ok (.ifCond .ne 19, 3) := by decide +kernel
theorem dX12_asks_247 : decode cX12_asks 247 = .ok (.iload 13, 2) := by decide +kernel
theorem dX12_asks_249 : decode cX12_asks 249 = .ok (.ifCond .eq 18, 3) := by decide +kernel
theorem dX12_asks_252 : decode cX12_asks 252 = .ok (.aload_n 0, 1) := by decide +kernel
theorem dX12_asks_253 : decode cX12_asks 253 = .ok (.iload 12, 2) := by decide +kernel
theorem dX12_asks_255 : decode cX12_asks 255 = .ok (.iload 13, 2) := by decide +kernel
theorem dX12_asks_257 : decode cX12_asks 257 = .ok (.invokevirtual 282, 3) := by decide +kernel
theorem dX12_asks_260 : decode cX12_asks 260 = .ok (.ifCond .eq 7, 3) := by decide +kernel
theorem dX12_asks_263 : decode cX12_asks 263 = .ok (.iconst 1, 1) := by decide +kernel
theorem dX12_asks_264 : decode cX12_asks 264 = .ok (.goto 4, 3) := by decide +kernel
theorem dX12_asks_267 : decode cX12_asks 267 = .ok (.iconst 0, 1) := by decide +kernel
theorem dX12_asks_268 : decode cX12_asks 268 = .ok (.istore 10, 2) := by decide +kernel
theorem dX12_asks_270 : decode cX12_asks 270 = .ok (.iinc 11 1, 3) := by decide +kernel
theorem dX12_asks_273 : decode cX12_asks 273 = .ok (.goto (-138), 3) := by decide +kernel
theorem dX12_asks_276 : decode cX12_asks 276 = .ok (.iload 7, 2) := by decide +kernel
theorem dX12_asks_278 : decode cX12_asks 278 = .ok (.ifCond .eq 14, 3) := by decide +kernel
theorem dX12_asks_281 : decode cX12_asks 281 = .ok (.iload 10, 2) := by decide +kernel
theorem dX12_asks_283 : decode cX12_asks 283 = .ok (.ifCond .ne 7, 3) := by decide +kernel
theorem dX12_asks_286 : decode cX12_asks 286 = .ok (.iconst 1, 1) := by decide +kernel
theorem dX12_asks_287 : decode cX12_asks 287 = .ok (.goto 4, 3) := by decide +kernel
theorem dX12_asks_290 : decode cX12_asks 290 = .ok (.iconst 0, 1) := by decide +kernel
theorem dX12_asks_291 : decode cX12_asks 291 = .ok (.ireturn, 1) := by decide +kernel
theorem dX12_asks_292 : decode cX12_asks 292 = .ok (.iload 10, 2) := by decide +kernel
theorem dX12_asks_294 : decode cX12_asks 294 = .ok (.ifCond .eq 5, 3) := by decide +kernel
theorem dX12_asks_297 : decode cX12_asks 297 = .ok (.iconst 1, 1) := by decide +kernel
theorem dX12_asks_298 : decode cX12_asks 298 = .ok (.ireturn, 1) := by decide +kernel
theorem dX12_asks_299 : decode cX12_asks 299 = .ok (.aload_n 0, 1) := by decide +kernel
theorem dX12_asks_300 : decode cX12_asks 300 = .ok (.getfield 34, 3) := by decide +kernel
theorem dX12_asks_303 : decode cX12_asks 303 = .ok (.iload_n 2, 1) := by decide +kernel
theorem dX12_asks_304 : decode cX12_asks 304 = .ok (.iconst 1, 1) := by decide +kernel
theorem dX12_asks_305 : decode cX12_asks 305 = .ok (.iadd, 1) := by decide +kernel
theorem dX12_asks_306 : decode cX12_asks 306 = .ok (.aaload, 1) := by decide +kernel
theorem dX12_asks_307 : decode cX12_asks 307 = .ok (.iload 8, 2) := by decide +kernel
theorem dX12_asks_309 : decode cX12_asks 309 = .ok (.iload_n 1, 1) := by decide +kernel
theorem dX12_asks_310 : decode cX12_asks 310 = .ok (.iastore, 1) := by decide +kernel
theorem dX12_asks_311 : decode cX12_asks 311 = .ok (.aload_n 0, 1) := by decide +kernel
theorem dX12_asks_312 : decode cX12_asks 312 = .ok (.getfield 40, 3) := by decide +kernel
theorem dX12_asks_315 : decode cX12_asks 315 = .ok (.iload_n 2, 1) := by decide +kernel
theorem dX12_asks_316 : decode cX12_asks 316 = .ok (.iconst 1, 1) := by decide +kernel
theorem dX12_asks_317 : decode cX12_asks 317 = .ok (.iadd, 1) := by decide +kernel
theorem dX12_asks_318 : decode cX12_asks 318 = .ok (.iload 8, 2) := by decide +kernel
theorem dX12_asks_320 : decode cX12_asks 320 = .ok (.iconst 1, 1) := by decide +kernel
theorem dX12_asks_321 : decode cX12_asks 321 = .ok (.iadd, 1) := by decide +kernel
theorem dX12_asks_322 : decode cX12_asks 322 = .ok (.iastore, 1) := by decide +kernel
theorem dX12_asks_323 : decode cX12_asks 323 = .ok (.iload 9, 2) := by decide +kernel
theorem dX12_asks_325 : decode cX12_asks 325 = .ok (.ifCond .eq 7, 3) := by decide +kernel
theorem dX12_asks_328 : decode cX12_asks 328 = .ok (.iconst 1, 1) := by decide +kernel
theorem dX12_asks_329 : decode cX12_asks 329 = .ok (.goto 4, 3) := by decide +kernel
theorem dX12_asks_332 : decode cX12_asks 332 = .ok (.iconst 0, 1) := by decide +kernel
theorem dX12_asks_333 : decode cX12_asks 333 = .ok (.ireturn, 1) := by decide +kernel
theorem dX12_reads_0 : decode cX12_reads 0 = .ok (.aload_n 0, 1) := by decide +kernel
theorem dX12_reads_1 : decode cX12_reads 1 = .ok (.getfield 43, 3) := by decide +kernel
theorem dX12_reads_4 : decode cX12_reads 4 = .ok (.iload_n 1, 1) := by decide +kernel
theorem dX12_reads_5 : decode cX12_reads 5 = .ok (.iload_n 2, 1) := by decide +kernel
theorem dX12_reads_6 : decode cX12_reads 6 = .ok (.iastore, 1) := by decide +kernel
theorem dX12_reads_7 : decode cX12_reads 7 = .ok (.iconst 0, 1) := by decide +kernel
theorem dX12_reads_8 : decode cX12_reads 8 = .ok (.istore 4, 2) := by decide +kernel
theorem dX12_reads_10 : decode cX12_reads 10 = .ok (.iload 4, 2) := by decide +kernel
theorem dX12_reads_12 : decode cX12_reads 12 = .ok (.iconst 3, 1) := by decide +kernel
theorem dX12_reads_13 : decode cX12_reads 13 = .ok (.aload_n 0, 1) := by decide +kernel
theorem dX12_reads_14 : decode cX12_reads 14 = .ok (.getfield 7, 3) := by decide +kernel
theorem dX12_reads_17 : decode cX12_reads 17 = .ok (.bipush 17, 2) := by decide +kernel
theorem dX12_reads_19 : decode cX12_reads 19 = .ok (.iaload, 1) := by decide +kernel
theorem dX12_reads_20 : decode cX12_reads 20 = .ok (.imul, 1) := by decide +kernel
theorem dX12_reads_21 : decode cX12_reads 21 = .ok (.if_icmp .ge 154, 3) := by decide +kernel
theorem dX12_reads_24 : decode cX12_reads 24 = .ok (.iload_n 3, 1) := by decide +kernel
theorem dX12_reads_25 : decode cX12_reads 25 = .ok (.iload 4, 2) := by decide +kernel
theorem dX12_reads_27 : decode cX12_reads 27 = .ok (.iconst 3, 1) := by decide +kernel
theorem dX12_reads_28 : decode cX12_reads 28 = .ok (.idiv, 1) := by decide +kernel
theorem dX12_reads_29 : decode cX12_reads 29 = .ok (.ishr, 1) := by decide +kernel
theorem dX12_reads_30 : decode cX12_reads 30 = .ok (.iconst 1, 1) := by decide +kernel
theorem dX12_reads_31 : decode cX12_reads 31 = .ok (.iand, 1) := by decide +kernel
theorem dX12_reads_32 : decode cX12_reads 32 = .ok (.ifCond .eq 137, 3) := by decide +kernel
theorem dX12_reads_35 : decode cX12_reads 35 = .ok (.iload 4, 2) := by decide +kernel
theorem dX12_reads_37 : decode cX12_reads 37 = .ok (.iconst 3, 1) := by decide +kernel
theorem dX12_reads_38 : decode cX12_reads 38 = .ok (.irem, 1) := by decide +kernel
theorem dX12_reads_39 : decode cX12_reads 39 = .ok (.aload_n 0, 1) := by decide +kernel
theorem dX12_reads_40 : decode cX12_reads 40 = .ok (.iload 4, 2) := by decide +kernel
theorem dX12_reads_42 : decode cX12_reads 42 = .ok (.iconst 3, 1) := by decide +kernel
theorem dX12_reads_43 : decode cX12_reads 43 = .ok (.idiv, 1) := by decide +kernel
theorem dX12_reads_44 : decode cX12_reads 44 = .ok (.iconst 3, 1) := by decide +kernel
theorem dX12_reads_45 : decode cX12_reads 45 = .ok (.invokevirtual 272, 3) := by decide +kernel
theorem dX12_reads_48 : decode cX12_reads 48 = .ok (.if_icmp .lt 6, 3) := by decide +kernel
theorem dX12_reads_51 : decode cX12_reads 51 = .ok (.goto 118, 3) := by decide +kernel
theorem dX12_reads_54 : decode cX12_reads 54 = .ok (.aload_n 0, 1) := by decide +kernel
theorem dX12_reads_55 : decode cX12_reads 55 = .ok (.getfield 28, 3) := by decide +kernel
theorem dX12_reads_58 : decode cX12_reads 58 = .ok (.iload_n 1, 1) := by decide +kernel
theorem dX12_reads_59 : decode cX12_reads 59 = .ok (.iconst 1, 1) := by decide +kernel
theorem dX12_reads_60 : decode cX12_reads 60 = .ok (.iadd, 1) := by decide +kernel
theorem dX12_reads_61 : decode cX12_reads 61 = .ok (.aaload, 1) := by decide +kernel
theorem dX12_reads_62 : decode cX12_reads 62 = .ok (.iload 4, 2) := by decide +kernel
theorem dX12_reads_64 : decode cX12_reads 64 = .ok (.aload_n 0, 1) := by decide +kernel
theorem dX12_reads_65 : decode cX12_reads 65 = .ok (.iload 4, 2) := by decide +kernel
theorem dX12_reads_67 : decode cX12_reads 67 = .ok (.iconst 0, 1) := by decide +kernel
theorem dX12_reads_68 : decode cX12_reads 68 = .ok (.aload_n 0, 1) := by decide +kernel
theorem dX12_reads_69 : decode cX12_reads 69 = .ok (.getfield 28, 3) := by decide +kernel
theorem dX12_reads_72 : decode cX12_reads 72 = .ok (.iload_n 1, 1) := by decide +kernel
theorem dX12_reads_73 : decode cX12_reads 73 = .ok (.aaload, 1) := by decide +kernel
theorem dX12_reads_74 : decode cX12_reads 74 = .ok (.iload 4, 2) := by decide +kernel
theorem dX12_reads_76 : decode cX12_reads 76 = .ok (.iaload, 1) := by decide +kernel
theorem dX12_reads_77 : decode cX12_reads 77 = .ok (.iload_n 2, 1) := by decide +kernel
theorem dX12_reads_78 : decode cX12_reads 78 = .ok (.invokevirtual 262, 3) := by decide +kernel
theorem dX12_reads_81 : decode cX12_reads 81 = .ok (.aload_n 0, 1) := by decide +kernel
theorem dX12_reads_82 : decode cX12_reads 82 = .ok (.iload 4, 2) := by decide +kernel
theorem dX12_reads_84 : decode cX12_reads 84 = .ok (.iconst 0, 1) := by decide +kernel
theorem dX12_reads_85 : decode cX12_reads 85 = .ok (.invokevirtual 266, 3) := by decide +kernel
theorem dX12_reads_88 : decode cX12_reads 88 = .ok (.ifCond .eq 7, 3) := by decide +kernel
theorem dX12_reads_91 : decode cX12_reads 91 = .ok (.iconst 0, 1) := by decide +kernel
theorem dX12_reads_92 : decode cX12_reads 92 = .ok (.goto 11, 3) := by decide +kernel
theorem dX12_reads_95 : decode cX12_reads 95 = .ok (.aload_n 0, 1) := by decide +kernel
theorem dX12_reads_96 : decode cX12_reads 96 = .ok (.iload 4, 2) := by decide +kernel
theorem dX12_reads_98 : decode cX12_reads 98 = .ok (.iconst 0, 1) := by decide +kernel
theorem dX12_reads_99 : decode cX12_reads 99 = .ok (.iconst 1, 1) := by decide +kernel
theorem dX12_reads_100 : decode cX12_reads 100 = .ok (.invokevirtual 258, 3) := by decide +kernel
theorem dX12_reads_103 : decode cX12_reads 103 = .ok (.ior, 1) := by decide +kernel
theorem dX12_reads_104 : decode cX12_reads 104 = .ok (.iastore, 1) := by decide +kernel
theorem dX12_reads_105 : decode cX12_reads 105 = .ok (.aload_n 0, 1) := by decide +kernel
theorem dX12_reads_106 : decode cX12_reads 106 = .ok (.getfield 31, 3) := by decide +kernel
theorem dX12_reads_109 : decode cX12_reads 109 = .ok (.iload_n 1, 1) := by decide +kernel
theorem dX12_reads_110 : decode cX12_reads 110 = .ok (.iconst 1, 1) := by decide +kernel
theorem dX12_reads_111 : decode cX12_reads 111 = .ok (.iadd, 1) := by decide +kernel
theorem dX12_reads_112 : decode cX12_reads 112 = .ok (.aaload, 1) := by decide +kernel
theorem dX12_reads_113 : decode cX12_reads 113 = .ok (.iload 4, 2) := by decide +kernel
theorem dX12_reads_115 : decode cX12_reads 115 = .ok (.aload_n 0, 1) := by decide +kernel
theorem dX12_reads_116 : decode cX12_reads 116 = .ok (.iload 4, 2) := by decide +kernel
theorem dX12_reads_118 : decode cX12_reads 118 = .ok (.iconst 1, 1) := by decide +kernel
theorem dX12_reads_119 : decode cX12_reads 119 = .ok (.aload_n 0, 1) := by decide +kernel
theorem dX12_reads_120 : decode cX12_reads 120 = .ok (.getfield 31, 3) := by decide +kernel
theorem dX12_reads_123 : decode cX12_reads 123 = .ok (.iload_n 1, 1) := by decide +kernel
theorem dX12_reads_124 : decode cX12_reads 124 = .ok (.aaload, 1) := by decide +kernel
theorem dX12_reads_125 : decode cX12_reads 125 = .ok (.iload 4, 2) := by decide +kernel
theorem dX12_reads_127 : decode cX12_reads 127 = .ok (.iaload, 1) := by decide +kernel
theorem dX12_reads_128 : decode cX12_reads 128 = .ok (.iload_n 2, 1) := by decide +kernel
theorem dX12_reads_129 : decode cX12_reads 129 = .ok (.invokevirtual 262, 3) := by decide +kernel
theorem dX12_reads_132 : decode cX12_reads 132 = .ok (.iastore, 1) := by decide +kernel
theorem dX12_reads_133 : decode cX12_reads 133 = .ok (.aload_n 0, 1) := by decide +kernel
theorem dX12_reads_134 : decode cX12_reads 134 = .ok (.getfield 31, 3) := by decide +kernel
theorem dX12_reads_137 : decode cX12_reads 137 = .ok (.iload_n 1, 1) := by decide +kernel
theorem dX12_reads_138 : decode cX12_reads 138 = .ok (.iconst 1, 1) := by decide +kernel
theorem dX12_reads_139 : decode cX12_reads 139 = .ok (.iadd, 1) := by decide +kernel
theorem dX12_reads_140 : decode cX12_reads 140 = .ok (.aaload, 1) := by decide +kernel
theorem dX12_reads_141 : decode cX12_reads 141 = .ok (.iload 4, 2) := by decide +kernel
theorem dX12_reads_143 : decode cX12_reads 143 = .ok (.iaload, 1) := by decide +kernel
theorem dX12_reads_144 : decode cX12_reads 144 = .ok (.ifCond .eq 25, 3) := by decide +kernel
theorem dX12_reads_147 : decode cX12_reads 147 = .ok (.aload_n 0, 1) := by decide +kernel
theorem dX12_reads_148 : decode cX12_reads 148 = .ok (.iload 4, 2) := by decide +kernel
theorem dX12_reads_150 : decode cX12_reads 150 = .ok (.aload_n 0, 1) := by decide +kernel
theorem dX12_reads_151 : decode cX12_reads 151 = .ok (.getfield 31, 3) := by decide +kernel
theorem dX12_reads_154 : decode cX12_reads 154 = .ok (.iload_n 1, 1) := by decide +kernel
theorem dX12_reads_155 : decode cX12_reads 155 = .ok (.iconst 1, 1) := by decide +kernel
theorem dX12_reads_156 : decode cX12_reads 156 = .ok (.iadd, 1) := by decide +kernel
theorem dX12_reads_157 : decode cX12_reads 157 = .ok (.aaload, 1) := by decide +kernel
theorem dX12_reads_158 : decode cX12_reads 158 = .ok (.iload 4, 2) := by decide +kernel
theorem dX12_reads_160 : decode cX12_reads 160 = .ok (.iaload, 1) := by decide +kernel
theorem dX12_reads_161 : decode cX12_reads 161 = .ok (.invokevirtual 282, 3) := by decide +kernel
theorem dX12_reads_164 : decode cX12_reads 164 = .ok (.ifCond .eq 5, 3) := by decide +kernel
theorem dX12_reads_167 : decode cX12_reads 167 = .ok (.iconst 0, 1) := by decide +kernel
theorem dX12_reads_168 : decode cX12_reads 168 = .ok (.ireturn, 1) := by decide +kernel
theorem dX12_reads_169 : decode cX12_reads 169 = .ok (.iinc 4 1, 3) := by decide +kernel
theorem dX12_reads_172 : decode cX12_reads 172 = .ok (.goto (-162), 3) := by decide +kernel
theorem dX12_reads_175 : decode cX12_reads 175 = .ok (.aload_n 0, 1) := by decide +kernel
theorem dX12_reads_176 : decode cX12_reads 176 = .ok (.iload_n 1, 1) := by decide +kernel
theorem dX12_reads_177 : decode cX12_reads 177 = .ok (.iload_n 2, 1) := by decide +kernel
theorem dX12_reads_178 : decode cX12_reads 178 = .ok (.invokevirtual 285, 3) := by decide +kernel
theorem dX12_reads_181 : decode cX12_reads 181 = .ok (.ifCond .ne 5, 3) := by decide +kernel
theorem dX12_reads_184 : decode cX12_reads 184 = .ok (.iconst 0, 1) := by decide +kernel
theorem dX12_reads_185 : decode cX12_reads 185 = .ok (.ireturn, 1) := by decide +kernel
theorem dX12_reads_186 : decode cX12_reads 186 = .ok (.iconst 0, 1) := by decide +kernel
theorem dX12_reads_187 : decode cX12_reads 187 = .ok (.istore 4, 2) := by decide +kernel
theorem dX12_reads_189 : decode cX12_reads 189 = .ok (.iload 4, 2) := by decide +kernel
theorem dX12_reads_191 : decode cX12_reads 191 = .ok (.aload_n 0, 1) := by decide +kernel
theorem dX12_reads_192 : decode cX12_reads 192 = .ok (.getfield 7, 3) := by decide +kernel
theorem dX12_reads_195 : decode cX12_reads 195 = .ok (.bipush 17, 2) := by decide +kernel
theorem dX12_reads_197 : decode cX12_reads 197 = .ok (.iaload, 1) := by decide +kernel
theorem dX12_reads_198 : decode cX12_reads 198 = .ok (.if_icmp .ge 32, 3) := by decide +kernel
theorem dX12_reads_201 : decode cX12_reads 201 = .ok (.iload_n 3, 1) := by decide +kernel
theorem dX12_reads_202 : decode cX12_reads 202 = .ok (.iload 4, 2) := by decide +kernel
theorem dX12_reads_204 : decode cX12_reads 204 = .ok (.ishr, 1) := by decide +kernel
theorem dX12_reads_205 : decode cX12_reads 205 = .ok (.iconst 1, 1) := by decide +kernel
theorem dX12_reads_206 : decode cX12_reads 206 = .ok (.iand, 1) := by decide +kernel
theorem dX12_reads_207 : decode cX12_reads 207 = .ok (.iconst 1, 1) := by decide +kernel
theorem dX12_reads_208 : decode cX12_reads 208 = .ok (.if_icmp .ne 16, 3) := by decide +kernel
theorem dX12_reads_211 : decode cX12_reads 211 = .ok (.aload_n 0, 1) := by decide +kernel
theorem dX12_reads_212 : decode cX12_reads 212 = .ok (.iload 4, 2) := by decide +kernel
theorem dX12_reads_214 : decode cX12_reads 214 = .ok (.iload_n 1, 1) := by decide +kernel
theorem dX12_reads_215 : decode cX12_reads 215 = .ok (.iload_n 2, 1) := by decide +kernel
theorem dX12_reads_216 : decode cX12_reads 216 = .ok (.invokevirtual 288, 3) := by decide +kernel
theorem dX12_reads_219 : decode cX12_reads 219 = .ok (.ifCond .ne 5, 3) := by decide +kernel
theorem dX12_reads_222 : decode cX12_reads 222 = .ok (.iconst 0, 1) := by decide +kernel
theorem dX12_reads_223 : decode cX12_reads 223 = .ok (.ireturn, 1) := by decide +kernel
theorem dX12_reads_224 : decode cX12_reads 224 = .ok (.iinc 4 1, 3) := by decide +kernel
theorem dX12_reads_227 : decode cX12_reads 227 = .ok (.goto (-38), 3) := by decide +kernel
theorem dX12_reads_230 : decode cX12_reads 230 = .ok (.iconst 1, 1) := by decide +kernel
theorem dX12_reads_231 : decode cX12_reads 231 = .ok (.ireturn, 1) := by decide +kernel
theorem dX12_closes_0 : decode cX12_closes 0 = .ok (.iconst 0, 1) := by decide +kernel
theorem dX12_closes_1 : decode cX12_closes 1 = .ok (.istore_n 3, 1) := by decide +kernel
theorem dX12_closes_2 : decode cX12_closes 2 = .ok (.iload_n 3, 1) := by decide +kernel
theorem dX12_closes_3 : decode cX12_closes 3 = .ok (.iconst 3, 1) := by decide +kernel
theorem dX12_closes_4 : decode cX12_closes 4 = .ok (.aload_n 0, 1) := by decide +kernel
theorem dX12_closes_5 : decode cX12_closes 5 = .ok (.getfield 7, 3) := by decide +kernel
theorem dX12_closes_8 : decode cX12_closes 8 = .ok (.bipush 17, 2) := by decide +kernel
theorem dX12_closes_10 : decode cX12_closes 10 = .ok (.iaload, 1) := by decide +kernel
theorem dX12_closes_11 : decode cX12_closes 11 = .ok (.imul, 1) := by decide +kernel
theorem dX12_closes_12 : decode cX12_closes 12 = .ok (.if_icmp .ge 53, 3) := by decide +kernel
theorem dX12_closes_15 : decode cX12_closes 15 = .ok (.iload_n 2, 1) := by decide +kernel
theorem dX12_closes_16 : decode cX12_closes 16 = .ok (.iload_n 3, 1) := by decide +kernel
theorem dX12_closes_17 : decode cX12_closes 17 = .ok (.iconst 3, 1) := by decide +kernel
theorem dX12_closes_18 : decode cX12_closes 18 = .ok (.idiv, 1) := by decide +kernel
theorem dX12_closes_19 : decode cX12_closes 19 = .ok (.ishr, 1) := by decide +kernel
theorem dX12_closes_20 : decode cX12_closes 20 = .ok (.iconst 1, 1) := by decide +kernel
theorem dX12_closes_21 : decode cX12_closes 21 = .ok (.iand, 1) := by decide +kernel
theorem dX12_closes_22 : decode cX12_closes 22 = .ok (.iconst 1, 1) := by decide +kernel
theorem dX12_closes_23 : decode cX12_closes 23 = .ok (.if_icmp .ne 36, 3) := by decide +kernel
theorem dX12_closes_26 : decode cX12_closes 26 = .ok (.iload_n 3, 1) := by decide +kernel
theorem dX12_closes_27 : decode cX12_closes 27 = .ok (.iconst 3, 1) := by decide +kernel
theorem dX12_closes_28 : decode cX12_closes 28 = .ok (.irem, 1) := by decide +kernel
theorem dX12_closes_29 : decode cX12_closes 29 = .ok (.aload_n 0, 1) := by decide +kernel
theorem dX12_closes_30 : decode cX12_closes 30 = .ok (.iload_n 3, 1) := by decide +kernel
theorem dX12_closes_31 : decode cX12_closes 31 = .ok (.iconst 3, 1) := by decide +kernel
theorem dX12_closes_32 : decode cX12_closes 32 = .ok (.idiv, 1) := by decide +kernel
theorem dX12_closes_33 : decode cX12_closes 33 = .ok (.iconst 3, 1) := by decide +kernel
theorem dX12_closes_34 : decode cX12_closes 34 = .ok (.invokevirtual 272, 3) := by decide +kernel
theorem dX12_closes_37 : decode cX12_closes 37 = .ok (.if_icmp .ge 22, 3) := by decide +kernel
theorem dX12_closes_40 : decode cX12_closes 40 = .ok (.aload_n 0, 1) := by decide +kernel
theorem dX12_closes_41 : decode cX12_closes 41 = .ok (.iload_n 3, 1) := by decide +kernel
theorem dX12_closes_42 : decode cX12_closes 42 = .ok (.iconst 1, 1) := by decide +kernel
theorem dX12_closes_43 : decode cX12_closes 43 = .ok (.aload_n 0, 1) := by decide +kernel
theorem dX12_closes_44 : decode cX12_closes 44 = .ok (.getfield 31, 3) := by decide +kernel
theorem dX12_closes_47 : decode cX12_closes 47 = .ok (.iload_n 1, 1) := by decide +kernel
theorem dX12_closes_48 : decode cX12_closes 48 = .ok (.aaload, 1) := by decide +kernel
theorem dX12_closes_49 : decode cX12_closes 49 = .ok (.iload_n 3, 1) := by decide +kernel
theorem dX12_closes_50 : decode cX12_closes 50 = .ok (.iaload, 1) := by decide +kernel
theorem dX12_closes_51 : decode cX12_closes 51 = .ok (.invokevirtual 269, 3) := by decide +kernel
theorem dX12_closes_54 : decode cX12_closes 54 = .ok (.ifCond .eq 5, 3) := by decide +kernel
theorem dX12_closes_57 : decode cX12_closes 57 = .ok (.iconst 0, 1) := by decide +kernel
theorem dX12_closes_58 : decode cX12_closes 58 = .ok (.ireturn, 1) := by decide +kernel
theorem dX12_closes_59 : decode cX12_closes 59 = .ok (.iinc 3 1, 3) := by decide +kernel
theorem dX12_closes_62 : decode cX12_closes 62 = .ok (.goto (-60), 3) := by decide +kernel
theorem dX12_closes_65 : decode cX12_closes 65 = .ok (.iconst 0, 1) := by decide +kernel
theorem dX12_closes_66 : decode cX12_closes 66 = .ok (.istore_n 3, 1) := by decide +kernel
theorem dX12_closes_67 : decode cX12_closes 67 = .ok (.iload_n 3, 1) := by decide +kernel
theorem dX12_closes_68 : decode cX12_closes 68 = .ok (.aload_n 0, 1) := by decide +kernel
theorem dX12_closes_69 : decode cX12_closes 69 = .ok (.getfield 40, 3) := by decide +kernel
theorem dX12_closes_72 : decode cX12_closes 72 = .ok (.iload_n 1, 1) := by decide +kernel
theorem dX12_closes_73 : decode cX12_closes 73 = .ok (.iaload, 1) := by decide +kernel
theorem dX12_closes_74 : decode cX12_closes 74 = .ok (.if_icmp .ge 96, 3) := by decide +kernel
theorem dX12_closes_77 : decode cX12_closes 77 = .ok (.iconst 0, 1) := by decide +kernel
theorem dX12_closes_78 : decode cX12_closes 78 = .ok (.istore 4, 2) := by decide +kernel
theorem dX12_closes_80 : decode cX12_closes 80 = .ok (.iconst 0, 1) := by decide +kernel
theorem dX12_closes_81 : decode cX12_closes 81 = .ok (.istore 5, 2) := by decide +kernel
theorem dX12_closes_83 : decode cX12_closes 83 = .ok (.iload 5, 2) := by decide +kernel
theorem dX12_closes_85 : decode cX12_closes 85 = .ok (.iconst 3, 1) := by decide +kernel
theorem dX12_closes_86 : decode cX12_closes 86 = .ok (.if_icmp .ge 71, 3) := by decide +kernel
theorem dX12_closes_89 : decode cX12_closes 89 = .ok (.iload 4, 2) := by decide +kernel
theorem dX12_closes_91 : decode cX12_closes 91 = .ok (.ifCond .ne 53, 3) := by decide +kernel
theorem dX12_closes_94 : decode cX12_closes 94 = .ok (.aload_n 0, 1) := by decide +kernel
theorem dX12_closes_95 : decode cX12_closes 95 = .ok (.getfield 37, 3) := by decide +kernel
theorem dX12_closes_98 : decode cX12_closes 98 = .ok (.iload_n 1, 1) := by decide +kernel
theorem dX12_closes_99 : decode cX12_closes 99 = .ok (.aaload, 1) := by decide +kernel
theorem dX12_closes_100 : decode cX12_closes 100 = .ok (.iconst 3, 1) := by decide +kernel
theorem dX12_closes_101 : decode cX12_closes 101 = .ok (.iload_n 3, 1) := by decide +kernel
theorem dX12_closes_102 : decode cX12_closes 102 = .ok (.imul, 1) := by decide +kernel
theorem dX12_closes_103 : decode cX12_closes 103 = .ok (.iload 5, 2) := by decide +kernel
theorem dX12_closes_105 : decode cX12_closes 105 = .ok (.iadd, 1) := by decide +kernel
theorem dX12_closes_106 : decode cX12_closes 106 = .ok (.iaload, 1) := by decide +kernel
theorem dX12_closes_107 : decode cX12_closes 107 = .ok (.ifCond .eq 41, 3) := by decide +kernel
theorem dX12_closes_110 : decode cX12_closes 110 = .ok (.aload_n 0, 1) := by decide +kernel
theorem dX12_closes_111 : decode cX12_closes 111 = .ok (.iconst 3, 1) := by decide +kernel
theorem dX12_closes_112 : decode cX12_closes 112 = .ok (.aload_n 0, 1) := by decide +kernel
theorem dX12_closes_113 : decode cX12_closes 113 = .ok (.getfield 34, 3) := by decide +kernel
theorem dX12_closes_116 : decode cX12_closes 116 = .ok (.iload_n 1, 1) := by decide +kernel
theorem dX12_closes_117 : decode cX12_closes 117 = .ok (.aaload, 1) := by decide +kernel
theorem dX12_closes_118 : decode cX12_closes 118 = .ok (.iload_n 3, 1) := by decide +kernel
theorem dX12_closes_119 : decode cX12_closes 119 = .ok (.iaload, 1) := by decide +kernel
theorem dX12_closes_120 : decode cX12_closes 120 = .ok (.imul, 1) := by decide +kernel
theorem dX12_closes_121 : decode cX12_closes 121 = .ok (.iload 5, 2) := by decide +kernel
theorem dX12_closes_123 : decode cX12_closes 123 = .ok (.iadd, 1) := by decide +kernel
theorem dX12_closes_124 : decode cX12_closes 124 = .ok (.iconst 1, 1) := by decide +kernel
theorem dX12_closes_125 : decode cX12_closes 125 = .ok (.aload_n 0, 1) := by decide +kernel
theorem dX12_closes_126 : decode cX12_closes 126 = .ok (.getfield 37, 3) := by decide +kernel
theorem dX12_closes_129 : decode cX12_closes 129 = .ok (.iload_n 1, 1) := by decide +kernel
theorem dX12_closes_130 : decode cX12_closes 130 = .ok (.aaload, 1) := by decide +kernel
theorem dX12_closes_131 : decode cX12_closes 131 = .ok (.iconst 3, 1) := by decide +kernel
theorem dX12_closes_132 : decode cX12_closes 132 = .ok (.iload_n 3, 1) := by decide +kernel
theorem dX12_closes_133 : decode cX12_closes 133 = .ok (.imul, 1) := by decide +kernel
theorem dX12_closes_134 : decode cX12_closes 134 = .ok (.iload 5, 2) := by decide +kernel
theorem dX12_closes_136 : decode cX12_closes 136 = .ok (.iadd, 1) := by decide +kernel
theorem dX12_closes_137 : decode cX12_closes 137 = .ok (.iaload, 1) := by decide +kernel
theorem dX12_closes_138 : decode cX12_closes 138 = .ok (.invokevirtual 269, 3) := by decide +kernel
theorem dX12_closes_141 : decode cX12_closes 141 = .ok (.ifCond .eq 7, 3) := by decide +kernel
theorem dX12_closes_144 : decode cX12_closes 144 = .ok (.iconst 1, 1) := by decide +kernel
theorem dX12_closes_145 : decode cX12_closes 145 = .ok (.goto 4, 3) := by decide +kernel
theorem dX12_closes_148 : decode cX12_closes 148 = .ok (.iconst 0, 1) := by decide +kernel
theorem dX12_closes_149 : decode cX12_closes 149 = .ok (.istore 4, 2) := by decide +kernel
theorem dX12_closes_151 : decode cX12_closes 151 = .ok (.iinc 5 1, 3) := by decide +kernel
theorem dX12_closes_154 : decode cX12_closes 154 = .ok (.goto (-71), 3) := by decide +kernel
theorem dX12_closes_157 : decode cX12_closes 157 = .ok (.iload 4, 2) := by decide +kernel
theorem dX12_closes_159 : decode cX12_closes 159 = .ok (.ifCond .ne 5, 3) := by decide +kernel
theorem dX12_closes_162 : decode cX12_closes 162 = .ok (.iconst 0, 1) := by decide +kernel
theorem dX12_closes_163 : decode cX12_closes 163 = .ok (.ireturn, 1) := by decide +kernel
theorem dX12_closes_164 : decode cX12_closes 164 = .ok (.iinc 3 1, 3) := by decide +kernel
theorem dX12_closes_167 : decode cX12_closes 167 = .ok (.goto (-100), 3) := by decide +kernel
theorem dX12_closes_170 : decode cX12_closes 170 = .ok (.iconst 1, 1) := by decide +kernel
theorem dX12_closes_171 : decode cX12_closes 171 = .ok (.ireturn, 1) := by decide +kernel
theorem dX12_takesWord_0 : decode cX12_takesWord 0 = .ok (.aload_n 0, 1) := by decide +kernel
theorem dX12_takesWord_1 : decode cX12_takesWord 1 = .ok (.getfield 116, 3) := by decide +kernel
theorem dX12_takesWord_4 : decode cX12_takesWord 4 = .ok (.istore_n 3, 1) := by decide +kernel
theorem dX12_takesWord_5 : decode cX12_takesWord 5 = .ok (.aload_n 0, 1) := by decide +kernel
theorem dX12_takesWord_6 : decode cX12_takesWord 6 = .ok (.iconst 0, 1) := by decide +kernel
theorem dX12_takesWord_7 : decode cX12_takesWord 7 = .ok (.putfield 116, 3) := by decide +kernel
theorem dX12_takesWord_10 : decode cX12_takesWord 10 = .ok (.iload_n 3, 1) := by decide +kernel
theorem dX12_takesWord_11 : decode cX12_takesWord 11 = .ok (.iload_n 1, 1) := by decide +kernel
theorem dX12_takesWord_12 : decode cX12_takesWord 12 = .ok (.iload_n 2, 1) := by decide +kernel
theorem dX12_takesWord_13 : decode cX12_takesWord 13 = .ok (.invokestatic 119, 3) := by decide +kernel
theorem dX12_takesWord_16 : decode cX12_takesWord 16 = .ok (.ifCond .ne 5, 3) := by decide +kernel
theorem dX12_takesWord_19 : decode cX12_takesWord 19 = .ok (.iconst 0, 1) := by decide +kernel
theorem dX12_takesWord_20 : decode cX12_takesWord 20 = .ok (.ireturn, 1) := by decide +kernel
theorem dX12_takesWord_21 : decode cX12_takesWord 21 = .ok (.aload_n 0, 1) := by decide +kernel
theorem dX12_takesWord_22 : decode cX12_takesWord 22 = .ok (.iconst 0, 1) := by decide +kernel
theorem dX12_takesWord_23 : decode cX12_takesWord 23 = .ok (.putfield 291, 3) := by decide +kernel
theorem dX12_takesWord_26 : decode cX12_takesWord 26 = .ok (.iconst 0, 1) := by decide +kernel
theorem dX12_takesWord_27 : decode cX12_takesWord 27 = .ok (.istore 4, 2) := by decide +kernel
theorem dX12_takesWord_29 : decode cX12_takesWord 29 = .ok (.iload 4, 2) := by decide +kernel
theorem dX12_takesWord_31 : decode cX12_takesWord 31 = .ok (.iload_n 3, 1) := by decide +kernel
theorem dX12_takesWord_32 : decode cX12_takesWord 32 = .ok (.if_icmp .ge 53, 3) := by decide +kernel
theorem dX12_takesWord_35 : decode cX12_takesWord 35 = .ok (.aload_n 0, 1) := by decide +kernel
theorem dX12_takesWord_36 : decode cX12_takesWord 36 = .ok (.getfield 7, 3) := by decide +kernel
theorem dX12_takesWord_39 : decode cX12_takesWord 39 = .ok (.aload_n 0, 1) := by decide +kernel
theorem dX12_takesWord_40 : decode cX12_takesWord 40 = .ok (.getfield 19, 3) := by decide +kernel
theorem dX12_takesWord_43 : decode cX12_takesWord 43 = .ok (.iload 4, 2) := by decide +kernel
theorem dX12_takesWord_45 : decode cX12_takesWord 45 = .ok (.iaload, 1) := by decide +kernel
theorem dX12_takesWord_46 : decode cX12_takesWord 46 = .ok (.invokestatic 163, 3) := by decide +kernel
theorem dX12_takesWord_49 : decode cX12_takesWord 49 = .ok (.istore 5, 2) := by decide +kernel
theorem dX12_takesWord_51 : decode cX12_takesWord 51 = .ok (.iload 5, 2) := by decide +kernel
theorem dX12_takesWord_53 : decode cX12_takesWord 53 = .ok (.ifCond .ne 5, 3) := by decide +kernel
theorem dX12_takesWord_56 : decode cX12_takesWord 56 = .ok (.iconst 0, 1) := by decide +kernel
theorem dX12_takesWord_57 : decode cX12_takesWord 57 = .ok (.ireturn, 1) := by decide +kernel
theorem dX12_takesWord_58 : decode cX12_takesWord 58 = .ok (.aload_n 0, 1) := by decide +kernel
theorem dX12_takesWord_59 : decode cX12_takesWord 59 = .ok (.getfield 46, 3) := by decide +kernel
theorem dX12_takesWord_62 : decode cX12_takesWord 62 = .ok (.aload_n 0, 1) := by decide +kernel
theorem dX12_takesWord_63 : decode cX12_takesWord 63 = .ok (.getfield 291, 3) := by decide +kernel
theorem dX12_takesWord_66 : decode cX12_takesWord 66 = .ok (.iload 5, 2) := by decide +kernel
theorem dX12_takesWord_68 : decode cX12_takesWord 68 = .ok (.iastore, 1) := by decide +kernel
theorem dX12_takesWord_69 : decode cX12_takesWord 69 = .ok (.aload_n 0, 1) := by decide +kernel
theorem dX12_takesWord_70 : decode cX12_takesWord 70 = .ok (.dup, 1) := by decide +kernel
theorem dX12_takesWord_71 : decode cX12_takesWord 71 = .ok (.getfield 291, 3) := by decide +kernel
theorem dX12_takesWord_74 : decode cX12_takesWord 74 = .ok (.iconst 1, 1) := by decide +kernel
theorem dX12_takesWord_75 : decode cX12_takesWord 75 = .ok (.iadd, 1) := by decide +kernel
theorem dX12_takesWord_76 : decode cX12_takesWord 76 = .ok (.putfield 291, 3) := by decide +kernel
theorem dX12_takesWord_79 : decode cX12_takesWord 79 = .ok (.iinc 4 1, 3) := by decide +kernel
theorem dX12_takesWord_82 : decode cX12_takesWord 82 = .ok (.goto (-53), 3) := by decide +kernel
theorem dX12_takesWord_85 : decode cX12_takesWord 85 = .ok (.iconst 1, 1) := by decide +kernel
theorem dX12_takesWord_86 : decode cX12_takesWord 86 = .ok (.ireturn, 1) := by decide +kernel
