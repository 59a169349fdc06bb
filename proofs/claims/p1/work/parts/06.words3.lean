theorem dX12_feed_93 : decode cX12_feed 93 = .ok (.ishr, 1) := by decide +kernel
theorem dX12_feed_94 : decode cX12_feed 94 = .ok (.sipush 255, 3) := by decide +kernel
theorem dX12_feed_97 : decode cX12_feed 97 = .ok (.iand, 1) := by decide +kernel
theorem dX12_feed_98 : decode cX12_feed 98 = .ok (.iastore, 1) := by decide +kernel
theorem dX12_feed_99 : decode cX12_feed 99 = .ok (.aload_n 0, 1) := by decide +kernel
theorem dX12_feed_100 : decode cX12_feed 100 = .ok (.dup, 1) := by decide +kernel
theorem dX12_feed_101 : decode cX12_feed 101 = .ok (.getfield 116, 3) := by decide +kernel
theorem dX12_feed_104 : decode cX12_feed 104 = .ok (.iconst 1, 1) := by decide +kernel
theorem dX12_feed_105 : decode cX12_feed 105 = .ok (.iadd, 1) := by decide +kernel
theorem dX12_feed_106 : decode cX12_feed 106 = .ok (.putfield 116, 3) := by decide +kernel
theorem dX12_feed_109 : decode cX12_feed 109 = .ok (.iinc 6 1, 3) := by decide +kernel
theorem dX12_feed_112 : decode cX12_feed 112 = .ok (.goto (-94), 3) := by decide +kernel
theorem dX12_feed_115 : decode cX12_feed 115 = .ok (.aload_n 0, 1) := by decide +kernel
theorem dX12_feed_116 : decode cX12_feed 116 = .ok (.getfield 116, 3) := by decide +kernel
theorem dX12_feed_119 : decode cX12_feed 119 = .ok (.ireturn, 1) := by decide +kernel
theorem dX12_end_0 : decode cX12_end 0 = .ok (.iload_n 1, 1) := by decide +kernel
theorem dX12_end_1 : decode cX12_end 1 = .ok (.iconst 0, 1) := by decide +kernel
theorem dX12_end_2 : decode cX12_end 2 = .ok (.aload_n 0, 1) := by decide +kernel
theorem dX12_end_3 : decode cX12_end 3 = .ok (.getfield 116, 3) := by decide +kernel
theorem dX12_end_6 : decode cX12_end 6 = .ok (.invokestatic 119, 3) := by decide +kernel
theorem dX12_end_9 : decode cX12_end 9 = .ok (.ifCond .ne 5, 3) := by decide +kernel
theorem dX12_end_12 : decode cX12_end 12 = .ok (.iconst 0, 1) := by decide +kernel
theorem dX12_end_13 : decode cX12_end 13 = .ok (.ireturn, 1) := by decide +kernel
theorem dX12_end_14 : decode cX12_end 14 = .ok (.aload_n 0, 1) := by decide +kernel
theorem dX12_end_15 : decode cX12_end 15 = .ok (.iload_n 1, 1) := by decide +kernel
theorem dX12_end_16 : decode cX12_end 16 = .ok (.putfield 116, 3) := by decide +kernel
theorem dX12_end_19 : decode cX12_end 19 = .ok (.iconst 1, 1) := by decide +kernel
theorem dX12_end_20 : decode cX12_end 20 = .ok (.ireturn, 1) := by decide +kernel
theorem dX12_isIn_0 : decode cX12_isIn 0 = .ok (.iload_n 0, 1) := by decide +kernel
theorem dX12_isIn_1 : decode cX12_isIn 1 = .ok (.iload_n 1, 1) := by decide +kernel
theorem dX12_isIn_2 : decode cX12_isIn 2 = .ok (.if_icmp .lt 12, 3) := by decide +kernel
theorem dX12_isIn_5 : decode cX12_isIn 5 = .ok (.iload_n 0, 1) := by decide +kernel
theorem dX12_isIn_6 : decode cX12_isIn 6 = .ok (.iload_n 2, 1) := by decide +kernel
theorem dX12_isIn_7 : decode cX12_isIn 7 = .ok (.if_icmp .gt 7, 3) := by decide +kernel
theorem dX12_isIn_10 : decode cX12_isIn 10 = .ok (.iconst 1, 1) := by decide +kernel
theorem dX12_isIn_11 : decode cX12_isIn 11 = .ok (.goto 4, 3) := by decide +kernel
theorem dX12_isIn_14 : decode cX12_isIn 14 = .ok (.iconst 0, 1) := by decide +kernel
theorem dX12_isIn_15 : decode cX12_isIn 15 = .ok (.ireturn, 1) := by decide +kernel
theorem dX12_text_0 : decode cX12_text 0 = .ok (.iconst 0, 1) := by decide +kernel
theorem dX12_text_1 : decode cX12_text 1 = .ok (.istore_n 1, 1) := by decide +kernel
theorem dX12_text_2 : decode cX12_text 2 = .ok (.iload_n 1, 1) := by decide +kernel
theorem dX12_text_3 : decode cX12_text 3 = .ok (.sipush 1560, 3) := by decide +kernel
theorem dX12_text_6 : decode cX12_text 6 = .ok (.if_icmp .ge 16, 3) := by decide +kernel
theorem dX12_text_9 : decode cX12_text 9 = .ok (.aload_n 0, 1) := by decide +kernel
theorem dX12_text_10 : decode cX12_text 10 = .ok (.getfield 13, 3) := by decide +kernel
theorem dX12_text_13 : decode cX12_text 13 = .ok (.iload_n 1, 1) := by decide +kernel
theorem dX12_text_14 : decode cX12_text 14 = .ok (.iconst 0, 1) := by decide +kernel
theorem dX12_text_15 : decode cX12_text 15 = .ok (.iastore, 1) := by decide +kernel
theorem dX12_text_16 : decode cX12_text 16 = .ok (.iinc 1 1, 3) := by decide +kernel
theorem dX12_text_19 : decode cX12_text 19 = .ok (.goto (-17), 3) := by decide +kernel
theorem dX12_text_22 : decode cX12_text 22 = .ok (.aload_n 0, 1) := by decide +kernel
theorem dX12_text_23 : decode cX12_text 23 = .ok (.iconst 0, 1) := by decide +kernel
theorem dX12_text_24 : decode cX12_text 24 = .ok (.putfield 123, 3) := by decide +kernel
theorem dX12_text_27 : decode cX12_text 27 = .ok (.aload_n 0, 1) := by decide +kernel
theorem dX12_text_28 : decode cX12_text 28 = .ok (.iconst 0, 1) := by decide +kernel
theorem dX12_text_29 : decode cX12_text 29 = .ok (.putfield 133, 3) := by decide +kernel
theorem dX12_text_32 : decode cX12_text 32 = .ok (.iconst 1, 1) := by decide +kernel
theorem dX12_text_33 : decode cX12_text 33 = .ok (.istore_n 1, 1) := by decide +kernel
theorem dX12_text_34 : decode cX12_text 34 = .ok (.iload_n 1, 1) := by decide +kernel
theorem dX12_text_35 : decode cX12_text 35 = .ok (.ifCond .eq 36, 3) := by decide +kernel
theorem dX12_text_38 : decode cX12_text 38 = .ok (.aload_n 0, 1) := by decide +kernel
theorem dX12_text_39 : decode cX12_text 39 = .ok (.invokevirtual 139, 3) := by decide +kernel
theorem dX12_text_42 : decode cX12_text 42 = .ok (.iconst (-1), 1) := by decide +kernel
theorem dX12_text_43 : decode cX12_text 43 = .ok (.if_icmp .eq 28, 3) := by decide +kernel
theorem dX12_text_71 : decode cX12_text 71 = .ok (.aload_n 0, 1) := by decide +kernel
theorem dX12_text_72 : decode cX12_text 72 = .ok (.iconst 0, 1) := by decide +kernel
theorem dX12_text_73 : decode cX12_text 73 = .ok (.putfield 116, 3) := by decide +kernel
theorem dX12_text_76 : decode cX12_text 76 = .ok (.aload_n 0, 1) := by decide +kernel
theorem dX12_text_77 : decode cX12_text 77 = .ok (.iload_n 1, 1) := by decide +kernel
theorem dX12_text_78 : decode cX12_text 78 = .ok (.ifCond .eq 7, 3) := by decide +kernel
theorem dX12_text_81 : decode cX12_text 81 = .ok (.iconst 0, 1) := by decide +kernel
theorem dX12_text_82 : decode cX12_text 82 = .ok (.goto 7, 3) := by decide +kernel
theorem dX12_text_89 : decode cX12_text 89 = .ok (.putfield 239, 3) := by decide +kernel
theorem dX12_text_92 : decode cX12_text 92 = .ok (.aload_n 0, 1) := by decide +kernel
theorem dX12_text_93 : decode cX12_text 93 = .ok (.iload_n 1, 1) := by decide +kernel
theorem dX12_text_94 : decode cX12_text 94 = .ok (.ifCond .eq 7, 3) := by decide +kernel
theorem dX12_text_97 : decode cX12_text 97 = .ok (.iconst (-1), 1) := by decide +kernel
theorem dX12_text_98 : decode cX12_text 98 = .ok (.goto 7, 3) := by decide +kernel
theorem dX12_text_105 : decode cX12_text 105 = .ok (.putfield 22, 3) := by decide +kernel
theorem dX12_text_108 : decode cX12_text 108 = .ok (.iload_n 1, 1) := by decide +kernel
theorem dX12_text_109 : decode cX12_text 109 = .ok (.ifCond .ne 5, 3) := by decide +kernel
theorem dX12_text_114 : decode cX12_text 114 = .ok (.aload_n 0, 1) := by decide +kernel
theorem dX12_text_115 : decode cX12_text 115 = .ok (.getfield 13, 3) := by decide +kernel
theorem dX12_text_118 : decode cX12_text 118 = .ok (.bipush 41, 2) := by decide +kernel
theorem dX12_text_120 : decode cX12_text 120 = .ok (.aload_n 0, 1) := by decide +kernel
theorem dX12_text_121 : decode cX12_text 121 = .ok (.getfield 7, 3) := by decide +kernel
theorem dX12_text_124 : decode cX12_text 124 = .ok (.bipush 41, 2) := by decide +kernel
theorem dX12_text_126 : decode cX12_text 126 = .ok (.iaload, 1) := by decide +kernel
theorem dX12_text_127 : decode cX12_text 127 = .ok (.iastore, 1) := by decide +kernel
theorem dX12_text_128 : decode cX12_text 128 = .ok (.aload_n 0, 1) := by decide +kernel
theorem dX12_text_129 : decode cX12_text 129 = .ok (.getfield 13, 3) := by decide +kernel
theorem dX12_text_132 : decode cX12_text 132 = .ok (.bipush 40, 2) := by decide +kernel
theorem dX12_text_134 : decode cX12_text 134 = .ok (.iconst 1, 1) := by decide +kernel
theorem dX12_text_135 : decode cX12_text 135 = .ok (.aload_n 0, 1) := by decide +kernel
theorem dX12_text_136 : decode cX12_text 136 = .ok (.getfield 13, 3) := by decide +kernel
theorem dX12_text_139 : decode cX12_text 139 = .ok (.bipush 17, 2) := by decide +kernel
theorem dX12_text_141 : decode cX12_text 141 = .ok (.iaload, 1) := by decide +kernel
theorem dX12_text_142 : decode cX12_text 142 = .ok (.ishl, 1) := by decide +kernel
theorem dX12_text_143 : decode cX12_text 143 = .ok (.iconst 1, 1) := by decide +kernel
theorem dX12_text_144 : decode cX12_text 144 = .ok (.isub, 1) := by decide +kernel
theorem dX12_text_145 : decode cX12_text 145 = .ok (.iastore, 1) := by decide +kernel
theorem dX12_text_146 : decode cX12_text 146 = .ok (.iconst 0, 1) := by decide +kernel
theorem dX12_text_147 : decode cX12_text 147 = .ok (.istore_n 2, 1) := by decide +kernel
theorem dX12_text_148 : decode cX12_text 148 = .ok (.iload_n 2, 1) := by decide +kernel
theorem dX12_text_149 : decode cX12_text 149 = .ok (.bipush 8, 2) := by decide +kernel
theorem dX12_text_151 : decode cX12_text 151 = .ok (.if_icmp .ge 19, 3) := by decide +kernel
theorem dX12_text_154 : decode cX12_text 154 = .ok (.aload_n 0, 1) := by decide +kernel
theorem dX12_text_155 : decode cX12_text 155 = .ok (.getfield 13, 3) := by decide +kernel
theorem dX12_text_158 : decode cX12_text 158 = .ok (.bipush 43, 2) := by decide +kernel
theorem dX12_text_160 : decode cX12_text 160 = .ok (.iload_n 2, 1) := by decide +kernel
theorem dX12_text_161 : decode cX12_text 161 = .ok (.iadd, 1) := by decide +kernel
theorem dX12_text_162 : decode cX12_text 162 = .ok (.iload_n 2, 1) := by decide +kernel
theorem dX12_text_163 : decode cX12_text 163 = .ok (.iastore, 1) := by decide +kernel
theorem dX12_text_164 : decode cX12_text 164 = .ok (.iinc 2 1, 3) := by decide +kernel
theorem dX12_text_167 : decode cX12_text 167 = .ok (.goto (-19), 3) := by decide +kernel
theorem dX12_text_170 : decode cX12_text 170 = .ok (.iconst 0, 1) := by decide +kernel
theorem dX12_text_171 : decode cX12_text 171 = .ok (.istore_n 2, 1) := by decide +kernel
theorem dX12_text_172 : decode cX12_text 172 = .ok (.iload_n 2, 1) := by decide +kernel
theorem dX12_text_173 : decode cX12_text 173 = .ok (.sipush 1560, 3) := by decide +kernel
theorem dX12_text_176 : decode cX12_text 176 = .ok (.if_icmp .ge 21, 3) := by decide +kernel
theorem dX12_text_179 : decode cX12_text 179 = .ok (.aload_n 0, 1) := by decide +kernel
theorem dX12_text_180 : decode cX12_text 180 = .ok (.getfield 7, 3) := by decide +kernel
theorem dX12_text_183 : decode cX12_text 183 = .ok (.iload_n 2, 1) := by decide +kernel
theorem dX12_text_184 : decode cX12_text 184 = .ok (.aload_n 0, 1) := by decide +kernel
theorem dX12_text_185 : decode cX12_text 185 = .ok (.getfield 13, 3) := by decide +kernel
theorem dX12_text_188 : decode cX12_text 188 = .ok (.iload_n 2, 1) := by decide +kernel
theorem dX12_text_189 : decode cX12_text 189 = .ok (.iaload, 1) := by decide +kernel
theorem dX12_text_190 : decode cX12_text 190 = .ok (.iastore, 1) := by decide +kernel
theorem dX12_text_191 : decode cX12_text 191 = .ok (.iinc 2 1, 3) := by decide +kernel
theorem dX12_text_194 : decode cX12_text 194 = .ok (.goto (-22), 3) := by decide +kernel
theorem dX12_text_197 : decode cX12_text 197 = .ok (.aload_n 0, 1) := by decide +kernel
theorem dX12_text_198 : decode cX12_text 198 = .ok (.iconst 0, 1) := by decide +kernel
theorem dX12_text_199 : decode cX12_text 199 = .ok (.putfield 242, 3) := by decide +kernel
theorem dX12_text_202 : decode cX12_text 202 = .ok (.aload_n 0, 1) := by decide +kernel
theorem dX12_text_203 : decode cX12_text 203 = .ok (.iconst 0, 1) := by decide +kernel
theorem dX12_text_204 : decode cX12_text 204 = .ok (.putfield 245, 3) := by decide +kernel
theorem dX12_text_207 : decode cX12_text 207 = .ok (.aload_n 0, 1) := by decide +kernel
theorem dX12_text_208 : decode cX12_text 208 = .ok (.iconst (-1), 1) := by decide +kernel
theorem dX12_text_209 : decode cX12_text 209 = .ok (.putfield 71, 3) := by decide +kernel
theorem dX12_text_212 : decode cX12_text 212 = .ok (.aload_n 0, 1) := by decide +kernel
theorem dX12_text_213 : decode cX12_text 213 = .ok (.iconst 0, 1) := by decide +kernel
theorem dX12_text_214 : decode cX12_text 214 = .ok (.putfield 248, 3) := by decide +kernel
theorem dX12_text_217 : decode cX12_text 217 = .ok (.aload_n 0, 1) := by decide +kernel
theorem dX12_text_218 : decode cX12_text 218 = .ok (.getfield 7, 3) := by decide +kernel
theorem dX12_text_221 : decode cX12_text 221 = .ok (.bipush 17, 2) := by decide +kernel
theorem dX12_text_223 : decode cX12_text 223 = .ok (.iaload, 1) := by decide +kernel
theorem dX12_text_224 : decode cX12_text 224 = .ok (.ireturn, 1) := by decide +kernel
theorem dX12_sign_0 : decode cX12_sign 0 = .ok (.aload_n 0, 1) := by decide +kernel
theorem dX12_sign_1 : decode cX12_sign 1 = .ok (.invokevirtual 130, 3) := by decide +kernel
theorem dX12_sign_4 : decode cX12_sign 4 = .ok (.aload_n 0, 1) := by decide +kernel
theorem dX12_sign_5 : decode cX12_sign 5 = .ok (.aload_n 0, 1) := by decide +kernel
theorem dX12_sign_6 : decode cX12_sign 6 = .ok (.getfield 123, 3) := by decide +kernel
theorem dX12_sign_9 : decode cX12_sign 9 = .ok (.invokevirtual 126, 3) := by decide +kernel
theorem dX12_sign_12 : decode cX12_sign 12 = .ok (.ireturn, 1) := by decide +kernel
theorem dX12_blanks_0 : decode cX12_blanks 0 = .ok (.aload_n 0, 1) := by decide +kernel
theorem dX12_blanks_1 : decode cX12_blanks 1 = .ok (.aload_n 0, 1) := by decide +kernel
theorem dX12_blanks_2 : decode cX12_blanks 2 = .ok (.getfield 123, 3) := by decide +kernel
theorem dX12_blanks_5 : decode cX12_blanks 5 = .ok (.invokevirtual 126, 3) := by decide +kernel
theorem dX12_blanks_8 : decode cX12_blanks 8 = .ok (.bipush 32, 2) := by decide +kernel
theorem dX12_blanks_10 : decode cX12_blanks 10 = .ok (.if_icmp .eq 16, 3) := by decide +kernel
theorem dX12_blanks_13 : decode cX12_blanks 13 = .ok (.aload_n 0, 1) := by decide +kernel
theorem dX12_blanks_14 : decode cX12_blanks 14 = .ok (.aload_n 0, 1) := by decide +kernel
theorem dX12_blanks_15 : decode cX12_blanks 15 = .ok (.getfield 123, 3) := by decide +kernel
theorem dX12_blanks_18 : decode cX12_blanks 18 = .ok (.invokevirtual 126, 3) := by decide +kernel
theorem dX12_blanks_21 : decode cX12_blanks 21 = .ok (.bipush 10, 2) := by decide +kernel
theorem dX12_blanks_23 : decode cX12_blanks 23 = .ok (.if_icmp .ne 16, 3) := by decide +kernel
theorem dX12_blanks_39 : decode cX12_blanks 39 = .ok (.return_, 1) := by decide +kernel
theorem dX12_see_0 : decode cX12_see 0 = .ok (.iload_n 1, 1) := by decide +kernel
theorem dX12_see_1 : decode cX12_see 1 = .ok (.aload_n 0, 1) := by decide +kernel
theorem dX12_see_2 : decode cX12_see 2 = .ok (.getfield 116, 3) := by decide +kernel
theorem dX12_see_5 : decode cX12_see 5 = .ok (.if_icmp .ge 12, 3) := by decide +kernel
theorem dX12_see_17 : decode cX12_see 17 = .ok (.iconst (-1), 1) := by decide +kernel
theorem dX12_see_18 : decode cX12_see 18 = .ok (.ireturn, 1) := by decide +kernel
theorem dX12_fault_0 : decode cX12_fault 0 = .ok (.iload_n 1, 1) := by decide +kernel
theorem dX12_fault_1 : decode cX12_fault 1 = .ok (.ifCond .ne 10, 3) := by decide +kernel
theorem dX12_fault_4 : decode cX12_fault 4 = .ok (.aload_n 0, 1) := by decide +kernel
theorem dX12_fault_5 : decode cX12_fault 5 = .ok (.getfield 239, 3) := by decide +kernel
theorem dX12_fault_8 : decode cX12_fault 8 = .ok (.goto 16, 3) := by decide +kernel
theorem dX12_fault_11 : decode cX12_fault 11 = .ok (.iload_n 1, 1) := by decide +kernel
theorem dX12_fault_12 : decode cX12_fault 12 = .ok (.iconst 1, 1) := by decide +kernel
theorem dX12_fault_13 : decode cX12_fault 13 = .ok (.if_icmp .ne 10, 3) := by decide +kernel
theorem dX12_fault_16 : decode cX12_fault 16 = .ok (.aload_n 0, 1) := by decide +kernel
theorem dX12_fault_17 : decode cX12_fault 17 = .ok (.getfield 22, 3) := by decide +kernel
theorem dX12_fault_20 : decode cX12_fault 20 = .ok (.goto 4, 3) := by decide +kernel
theorem dX12_fault_23 : decode cX12_fault 23 = .ok (.iconst (-1), 1) := by decide +kernel
theorem dX12_fault_24 : decode cX12_fault 24 = .ok (.ireturn, 1) := by decide +kernel
theorem dX12_use_0 : decode cX12_use 0 = .ok (.iload_n 1, 1) := by decide +kernel
theorem dX12_use_1 : decode cX12_use 1 = .ok (.iconst 0, 1) := by decide +kernel
theorem dX12_use_2 : decode cX12_use 2 = .ok (.aload_n 0, 1) := by decide +kernel
theorem dX12_use_3 : decode cX12_use 3 = .ok (.invokevirtual 251, 3) := by decide +kernel
theorem dX12_use_6 : decode cX12_use 6 = .ok (.invokestatic 119, 3) := by decide +kernel
theorem dX12_use_9 : decode cX12_use 9 = .ok (.ifCond .ne 5, 3) := by decide +kernel
theorem dX12_use_12 : decode cX12_use 12 = .ok (.iconst 0, 1) := by decide +kernel
theorem dX12_use_13 : decode cX12_use 13 = .ok (.ireturn, 1) := by decide +kernel
theorem dX12_use_14 : decode cX12_use 14 = .ok (.aload_n 0, 1) := by decide +kernel
theorem dX12_use_15 : decode cX12_use 15 = .ok (.getfield 7, 3) := by decide +kernel
theorem dX12_use_18 : decode cX12_use 18 = .ok (.bipush 40, 2) := by decide +kernel
theorem dX12_use_20 : decode cX12_use 20 = .ok (.iload_n 1, 1) := by decide +kernel
theorem dX12_use_21 : decode cX12_use 21 = .ok (.iastore, 1) := by decide +kernel
theorem dX12_use_22 : decode cX12_use 22 = .ok (.iconst 1, 1) := by decide +kernel
theorem dX12_use_23 : decode cX12_use 23 = .ok (.ireturn, 1) := by decide +kernel
theorem dX12_allRules_0 : decode cX12_allRules 0 = .ok (.iconst 1, 1) := by decide +kernel
theorem dX12_allRules_1 : decode cX12_allRules 1 = .ok (.aload_n 0, 1) := by decide +kernel
theorem dX12_allRules_2 : decode cX12_allRules 2 = .ok (.getfield 7, 3) := by decide +kernel
theorem dX12_allRules_5 : decode cX12_allRules 5 = .ok (.bipush 17, 2) := by decide +kernel
theorem dX12_allRules_7 : decode cX12_allRules 7 = .ok (.iaload, 1) := by decide +kernel
theorem dX12_allRules_8 : decode cX12_allRules 8 = .ok (.ishl, 1) := by decide +kernel
theorem dX12_allRules_9 : decode cX12_allRules 9 = .ok (.iconst 1, 1) := by decide +kernel
theorem dX12_allRules_10 : decode cX12_allRules 10 = .ok (.isub, 1) := by decide +kernel
theorem dX12_allRules_11 : decode cX12_allRules 11 = .ok (.ireturn, 1) := by decide +kernel
theorem dX12_slack_0 : decode cX12_slack 0 = .ok (.iload_n 1, 1) := by decide +kernel
theorem dX12_slack_1 : decode cX12_slack 1 = .ok (.iconst 0, 1) := by decide +kernel
theorem dX12_slack_2 : decode cX12_slack 2 = .ok (.iconst 1, 1) := by decide +kernel
theorem dX12_slack_3 : decode cX12_slack 3 = .ok (.invokestatic 119, 3) := by decide +kernel
theorem dX12_slack_6 : decode cX12_slack 6 = .ok (.ifCond .ne 5, 3) := by decide +kernel
theorem dX12_slack_9 : decode cX12_slack 9 = .ok (.iconst 0, 1) := by decide +kernel
theorem dX12_slack_10 : decode cX12_slack 10 = .ok (.ireturn, 1) := by decide +kernel
theorem dX12_slack_11 : decode cX12_slack 11 = .ok (.aload_n 0, 1) := by decide +kernel
theorem dX12_slack_12 : decode cX12_slack 12 = .ok (.getfield 7, 3) := by decide +kernel
theorem dX12_slack_15 : decode cX12_slack 15 = .ok (.bipush 41, 2) := by decide +kernel
theorem dX12_slack_17 : decode cX12_slack 17 = .ok (.iload_n 1, 1) := by decide +kernel
theorem dX12_slack_18 : decode cX12_slack 18 = .ok (.iastore, 1) := by decide +kernel
theorem dX12_slack_19 : decode cX12_slack 19 = .ok (.iconst 1, 1) := by decide +kernel
theorem dX12_slack_20 : decode cX12_slack 20 = .ok (.ireturn, 1) := by decide +kernel
theorem dX12_say_0 : decode cX12_say 0 = .ok (.aload_n 0, 1) := by decide +kernel
theorem dX12_say_1 : decode cX12_say 1 = .ok (.iconst 0, 1) := by decide +kernel
theorem dX12_say_2 : decode cX12_say 2 = .ok (.invokevirtual 352, 3) := by decide +kernel
theorem dX12_say_5 : decode cX12_say 5 = .ok (.ireturn, 1) := by decide +kernel
theorem dX12_words_0 : decode cX12_words 0 = .ok (.aload_n 0, 1) := by decide +kernel
theorem dX12_words_1 : decode cX12_words 1 = .ok (.iconst 0, 1) := by decide +kernel
theorem dX12_words_2 : decode cX12_words 2 = .ok (.putfield 242, 3) := by decide +kernel
theorem dX12_words_5 : decode cX12_words 5 = .ok (.aload_n 0, 1) := by decide +kernel
theorem dX12_words_6 : decode cX12_words 6 = .ok (.iconst 1, 1) := by decide +kernel
theorem dX12_words_7 : decode cX12_words 7 = .ok (.bipush 8, 2) := by decide +kernel
theorem dX12_words_9 : decode cX12_words 9 = .ok (.invokevirtual 346, 3) := by decide +kernel
theorem dX12_words_12 : decode cX12_words 12 = .ok (.ifCond .ne 5, 3) := by decide +kernel
theorem dX12_words_15 : decode cX12_words 15 = .ok (.iconst (-1), 1) := by decide +kernel
theorem dX12_words_16 : decode cX12_words 16 = .ok (.ireturn, 1) := by decide +kernel
theorem dX12_takesWord_0 : decode cX12_takesWord 0 = .ok (.aload_n 0, 1) := by decide +kernel
theorem dX12_takesWord_1 : decode cX12_takesWord 1 = .ok (.getfield 116, 3) := by decide +kernel
theorem dX12_takesWord_4 : decode cX12_takesWord 4 = .ok (.istore_n 3, 1) := by decide +kernel
theorem dX12_takesWord_5 : decode cX12_takesWord 5 = .ok (.aload_n 0, 1) := by decide +kernel
theorem dX12_takesWord_6 : decode cX12_takesWord 6 = .ok (.iconst 0, 1) := by decide +kernel
theorem dX12_takesWord_7 : decode cX12_takesWord 7 = .ok (.putfield 116, 3) := by decide +kernel
theorem dX12_takesWord_10 : decode cX12_takesWord 10 = .ok (.iload_n 3, 1) := by decide +kernel
theorem dX12_takesWord_11 : decode cX12_takesWord 11 = .ok (.iload_n 1, 1) := by decide +kernel
theorem dX12_takesWord_12 : decode cX12_takesWord 12 = .ok (.iload_n 2, 1) := by decide +kernel
theorem dX12_takesWord_13 : decode cX12_takesWord 13 = .ok (.invokestatic 119, 3) := by decide +kernel
theorem dX12_takesWord_16 : decode cX12_takesWord 16 = .ok (.ifCond .ne 5, 3) := by decide +kernel
theorem dX12_takesWord_19 : decode cX12_takesWord 19 = .ok (.iconst 0, 1) := by decide +kernel
theorem dX12_takesWord_20 : decode cX12_takesWord 20 = .ok (.ireturn, 1) := by decide +kernel
theorem dX12_hear_0 : decode cX12_hear 0 = .ok (.aload_n 0, 1) := by decide +kernel
theorem dX12_hear_1 : decode cX12_hear 1 = .ok (.iconst 1, 1) := by decide +kernel
theorem dX12_hear_2 : decode cX12_hear 2 = .ok (.invokevirtual 352, 3) := by decide +kernel
theorem dX12_hear_5 : decode cX12_hear 5 = .ok (.ireturn, 1) := by decide +kernel
theorem dX12_found_0 : decode cX12_found 0 = .ok (.iload_n 1, 1) := by decide +kernel
theorem dX12_found_1 : decode cX12_found 1 = .ok (.iconst 0, 1) := by decide +kernel
theorem dX12_found_2 : decode cX12_found 2 = .ok (.aload_n 0, 1) := by decide +kernel
theorem dX12_found_3 : decode cX12_found 3 = .ok (.getfield 242, 3) := by decide +kernel
theorem dX12_found_6 : decode cX12_found 6 = .ok (.iconst 1, 1) := by decide +kernel
theorem dX12_found_7 : decode cX12_found 7 = .ok (.isub, 1) := by decide +kernel
theorem dX12_found_8 : decode cX12_found 8 = .ok (.invokestatic 119, 3) := by decide +kernel
theorem dX12_found_11 : decode cX12_found 11 = .ok (.ifCond .eq 13, 3) := by decide +kernel
theorem dX12_found_24 : decode cX12_found 24 = .ok (.iconst (-1), 1) := by decide +kernel
theorem dX12_found_25 : decode cX12_found 25 = .ok (.ireturn, 1) := by decide +kernel
theorem dX12_understand_0 : decode cX12_understand 0 = .ok (.aload_n 0, 1) := by decide +kernel
theorem dX12_understand_1 : decode cX12_understand 1 = .ok (.iconst 0, 1) := by decide +kernel
theorem dX12_understand_2 : decode cX12_understand 2 = .ok (.putfield 245, 3) := by decide +kernel
theorem dX12_understand_5 : decode cX12_understand 5 = .ok (.aload_n 0, 1) := by decide +kernel
theorem dX12_understand_6 : decode cX12_understand 6 = .ok (.iconst 1, 1) := by decide +kernel
theorem dX12_understand_7 : decode cX12_understand 7 = .ok (.bipush 8, 2) := by decide +kernel
theorem dX12_understand_9 : decode cX12_understand 9 = .ok (.invokevirtual 346, 3) := by decide +kernel
theorem dX12_understand_12 : decode cX12_understand 12 = .ok (.ifCond .ne 5, 3) := by decide +kernel
theorem dX12_understand_15 : decode cX12_understand 15 = .ok (.iconst (-1), 1) := by decide +kernel
theorem dX12_understand_16 : decode cX12_understand 16 = .ok (.ireturn, 1) := by decide +kernel
theorem dX12_meant_0 : decode cX12_meant 0 = .ok (.iload_n 1, 1) := by decide +kernel
theorem dX12_meant_1 : decode cX12_meant 1 = .ok (.iconst 0, 1) := by decide +kernel
theorem dX12_meant_2 : decode cX12_meant 2 = .ok (.aload_n 0, 1) := by decide +kernel
theorem dX12_meant_3 : decode cX12_meant 3 = .ok (.getfield 245, 3) := by decide +kernel
theorem dX12_meant_6 : decode cX12_meant 6 = .ok (.iconst 1, 1) := by decide +kernel
theorem dX12_meant_7 : decode cX12_meant 7 = .ok (.isub, 1) := by decide +kernel
theorem dX12_meant_8 : decode cX12_meant 8 = .ok (.invokestatic 119, 3) := by decide +kernel
theorem dX12_meant_11 : decode cX12_meant 11 = .ok (.ifCond .ne 7, 3) := by decide +kernel
theorem dX12_meant_14 : decode cX12_meant 14 = .ok (.iconst (-1), 1) := by decide +kernel
theorem dX12_meant_15 : decode cX12_meant 15 = .ok (.goto 31, 3) := by decide +kernel
theorem dX12_meant_46 : decode cX12_meant 46 = .ok (.ireturn, 1) := by decide +kernel
theorem dX12_walk_0 : decode cX12_walk 0 = .ok (.aload_n 0, 1) := by decide +kernel
theorem dX12_walk_1 : decode cX12_walk 1 = .ok (.iconst (-1), 1) := by decide +kernel
theorem dX12_walk_2 : decode cX12_walk 2 = .ok (.putfield 71, 3) := by decide +kernel
theorem dX12_walk_5 : decode cX12_walk 5 = .ok (.aload_n 0, 1) := by decide +kernel
theorem dX12_walk_6 : decode cX12_walk 6 = .ok (.invokevirtual 365, 3) := by decide +kernel
theorem dX12_walk_9 : decode cX12_walk 9 = .ok (.istore_n 1, 1) := by decide +kernel
theorem dX12_walk_10 : decode cX12_walk 10 = .ok (.iload_n 1, 1) := by decide +kernel
theorem dX12_walk_11 : decode cX12_walk 11 = .ok (.iconst (-1), 1) := by decide +kernel
theorem dX12_walk_12 : decode cX12_walk 12 = .ok (.if_icmp .ne 6, 3) := by decide +kernel
theorem dX12_walk_15 : decode cX12_walk 15 = .ok (.bipush (-2), 2) := by decide +kernel
theorem dX12_walk_17 : decode cX12_walk 17 = .ok (.ireturn, 1) := by decide +kernel
theorem dX12_takesRow_0 : decode cX12_takesRow 0 = .ok (.aload_n 0, 1) := by decide +kernel
theorem dX12_takesRow_1 : decode cX12_takesRow 1 = .ok (.getfield 116, 3) := by decide +kernel
theorem dX12_takesRow_4 : decode cX12_takesRow 4 = .ok (.istore_n 1, 1) := by decide +kernel
theorem dX12_takesRow_5 : decode cX12_takesRow 5 = .ok (.aload_n 0, 1) := by decide +kernel
theorem dX12_takesRow_6 : decode cX12_takesRow 6 = .ok (.iconst 0, 1) := by decide +kernel
theorem dX12_takesRow_7 : decode cX12_takesRow 7 = .ok (.putfield 116, 3) := by decide +kernel
theorem dX12_takesRow_10 : decode cX12_takesRow 10 = .ok (.iload_n 1, 1) := by decide +kernel
theorem dX12_takesRow_11 : decode cX12_takesRow 11 = .ok (.iconst 2, 1) := by decide +kernel
theorem dX12_takesRow_12 : decode cX12_takesRow 12 = .ok (.irem, 1) := by decide +kernel
theorem dX12_takesRow_13 : decode cX12_takesRow 13 = .ok (.iconst 1, 1) := by decide +kernel
theorem dX12_takesRow_14 : decode cX12_takesRow 14 = .ok (.if_icmp .eq 13, 3) := by decide +kernel
theorem dX12_takesRow_17 : decode cX12_takesRow 17 = .ok (.iload_n 1, 1) := by decide +kernel
theorem dX12_takesRow_18 : decode cX12_takesRow 18 = .ok (.iconst 2, 1) := by decide +kernel
theorem dX12_takesRow_19 : decode cX12_takesRow 19 = .ok (.bipush 32, 2) := by decide +kernel
theorem dX12_takesRow_21 : decode cX12_takesRow 21 = .ok (.invokestatic 119, 3) := by decide +kernel
theorem dX12_takesRow_24 : decode cX12_takesRow 24 = .ok (.ifCond .ne 5, 3) := by decide +kernel
theorem dX12_takesRow_27 : decode cX12_takesRow 27 = .ok (.iconst (-1), 1) := by decide +kernel
theorem dX12_takesRow_28 : decode cX12_takesRow 28 = .ok (.ireturn, 1) := by decide +kernel
theorem dX12_where_0 : decode cX12_where 0 = .ok (.aload_n 0, 1) := by decide +kernel
theorem dX12_where_1 : decode cX12_where 1 = .ok (.getfield 71, 3) := by decide +kernel
theorem dX12_where_4 : decode cX12_where 4 = .ok (.ireturn, 1) := by decide +kernel
theorem dX12_ages_0 : decode cX12_ages 0 = .ok (.aload_n 0, 1) := by decide +kernel
theorem dX12_ages_1 : decode cX12_ages 1 = .ok (.iconst 0, 1) := by decide +kernel
theorem dX12_ages_2 : decode cX12_ages 2 = .ok (.putfield 248, 3) := by decide +kernel
theorem dX12_ages_5 : decode cX12_ages 5 = .ok (.aload_n 0, 1) := by decide +kernel
theorem dX12_ages_6 : decode cX12_ages 6 = .ok (.iconst 1, 1) := by decide +kernel
theorem dX12_ages_7 : decode cX12_ages 7 = .ok (.bipush 8, 2) := by decide +kernel
theorem dX12_ages_9 : decode cX12_ages 9 = .ok (.invokevirtual 346, 3) := by decide +kernel
theorem dX12_ages_12 : decode cX12_ages 12 = .ok (.ifCond .ne 5, 3) := by decide +kernel
theorem dX12_ages_15 : decode cX12_ages 15 = .ok (.iconst (-1), 1) := by decide +kernel
theorem dX12_ages_16 : decode cX12_ages 16 = .ok (.ireturn, 1) := by decide +kernel
theorem dX12_aged_0 : decode cX12_aged 0 = .ok (.iload_n 1, 1) := by decide +kernel
theorem dX12_aged_1 : decode cX12_aged 1 = .ok (.iconst 0, 1) := by decide +kernel
theorem dX12_aged_2 : decode cX12_aged 2 = .ok (.aload_n 0, 1) := by decide +kernel
theorem dX12_aged_3 : decode cX12_aged 3 = .ok (.getfield 248, 3) := by decide +kernel
theorem dX12_aged_6 : decode cX12_aged 6 = .ok (.iconst 1, 1) := by decide +kernel
theorem dX12_aged_7 : decode cX12_aged 7 = .ok (.isub, 1) := by decide +kernel
theorem dX12_aged_8 : decode cX12_aged 8 = .ok (.invokestatic 119, 3) := by decide +kernel
theorem dX12_aged_11 : decode cX12_aged 11 = .ok (.ifCond .eq 14, 3) := by decide +kernel
theorem dX12_aged_25 : decode cX12_aged 25 = .ok (.iconst (-1), 1) := by decide +kernel
theorem dX12_aged_26 : decode cX12_aged 26 = .ok (.ireturn, 1) := by decide +kernel
theorem dX12_order_0 : decode cX12_order 0 = .ok (.iload_n 1, 1) := by decide +kernel
theorem dX12_order_1 : decode cX12_order 1 = .ok (.iconst 0, 1) := by decide +kernel
theorem dX12_order_2 : decode cX12_order 2 = .ok (.aload_n 0, 1) := by decide +kernel
theorem dX12_order_3 : decode cX12_order 3 = .ok (.getfield 7, 3) := by decide +kernel
theorem dX12_order_6 : decode cX12_order 6 = .ok (.bipush 17, 2) := by decide +kernel
theorem dX12_order_8 : decode cX12_order 8 = .ok (.iaload, 1) := by decide +kernel
theorem dX12_order_9 : decode cX12_order 9 = .ok (.iconst 1, 1) := by decide +kernel
theorem dX12_order_10 : decode cX12_order 10 = .ok (.isub, 1) := by decide +kernel
theorem dX12_order_11 : decode cX12_order 11 = .ok (.invokestatic 119, 3) := by decide +kernel
theorem dX12_order_14 : decode cX12_order 14 = .ok (.ifCond .eq 20, 3) := by decide +kernel
theorem dX12_order_34 : decode cX12_order 34 = .ok (.iconst 0, 1) := by decide +kernel
theorem dX12_order_35 : decode cX12_order 35 = .ok (.ireturn, 1) := by decide +kernel
theorem dX12_lives_0 : decode cX12_lives 0 = .ok (.iload_n 1, 1) := by decide +kernel
theorem dX12_lives_1 : decode cX12_lives 1 = .ok (.iconst 0, 1) := by decide +kernel
theorem dX12_lives_2 : decode cX12_lives 2 = .ok (.aload_n 0, 1) := by decide +kernel
theorem dX12_lives_3 : decode cX12_lives 3 = .ok (.getfield 7, 3) := by decide +kernel
theorem dX12_lives_6 : decode cX12_lives 6 = .ok (.iconst 0, 1) := by decide +kernel
theorem dX12_lives_7 : decode cX12_lives 7 = .ok (.iaload, 1) := by decide +kernel
theorem dX12_lives_8 : decode cX12_lives 8 = .ok (.invokestatic 119, 3) := by decide +kernel
theorem dX12_lives_11 : decode cX12_lives 11 = .ok (.ifCond .eq 38, 3) := by decide +kernel
theorem dX12_lives_14 : decode cX12_lives 14 = .ok (.iload_n 2, 1) := by decide +kernel
theorem dX12_lives_15 : decode cX12_lives 15 = .ok (.iconst 0, 1) := by decide +kernel
theorem dX12_lives_16 : decode cX12_lives 16 = .ok (.aload_n 0, 1) := by decide +kernel
theorem dX12_lives_17 : decode cX12_lives 17 = .ok (.getfield 7, 3) := by decide +kernel
theorem dX12_lives_20 : decode cX12_lives 20 = .ok (.iconst 0, 1) := by decide +kernel
theorem dX12_lives_21 : decode cX12_lives 21 = .ok (.iaload, 1) := by decide +kernel
theorem dX12_lives_22 : decode cX12_lives 22 = .ok (.invokestatic 119, 3) := by decide +kernel
theorem dX12_lives_25 : decode cX12_lives 25 = .ok (.ifCond .eq 24, 3) := by decide +kernel
theorem dX12_lives_28 : decode cX12_lives 28 = .ok (.aload_n 0, 1) := by decide +kernel
theorem dX12_lives_29 : decode cX12_lives 29 = .ok (.getfield 7, 3) := by decide +kernel
theorem dX12_lives_32 : decode cX12_lives 32 = .ok (.iload_n 1, 1) := by decide +kernel
theorem dX12_lives_33 : decode cX12_lives 33 = .ok (.iload_n 2, 1) := by decide +kernel
theorem dX12_lives_34 : decode cX12_lives 34 = .ok (.invokestatic 180, 3) := by decide +kernel
theorem dX12_lives_37 : decode cX12_lives 37 = .ok (.ifCond .eq 12, 3) := by decide +kernel
theorem dX12_lives_49 : decode cX12_lives 49 = .ok (.iconst (-1), 1) := by decide +kernel
theorem dX12_lives_50 : decode cX12_lives 50 = .ok (.ireturn, 1) := by decide +kernel
theorem dX12_hasPair_0 : decode cX12_hasPair 0 = .ok (.iconst 0, 1) := by decide +kernel
theorem dX12_hasPair_1 : decode cX12_hasPair 1 = .ok (.istore_n 3, 1) := by decide +kernel
theorem dX12_hasPair_2 : decode cX12_hasPair 2 = .ok (.iload_n 3, 1) := by decide +kernel
theorem dX12_hasPair_3 : decode cX12_hasPair 3 = .ok (.aload_n 0, 1) := by decide +kernel
theorem dX12_hasPair_4 : decode cX12_hasPair 4 = .ok (.bipush 16, 2) := by decide +kernel
theorem dX12_hasPair_6 : decode cX12_hasPair 6 = .ok (.iaload, 1) := by decide +kernel
theorem dX12_hasPair_7 : decode cX12_hasPair 7 = .ok (.if_icmp .ge 26, 3) := by decide +kernel
theorem dX12_hasPair_33 : decode cX12_hasPair 33 = .ok (.iconst 0, 1) := by decide +kernel
theorem dX12_hasPair_34 : decode cX12_hasPair 34 = .ok (.ireturn, 1) := by decide +kernel
theorem dX12_orders_0 : decode cX12_orders 0 = .ok (.aload_n 0, 1) := by decide +kernel
theorem dX12_orders_1 : decode cX12_orders 1 = .ok (.iconst 0, 1) := by decide +kernel
theorem dX12_orders_2 : decode cX12_orders 2 = .ok (.putfield 410, 3) := by decide +kernel
theorem dX12_orders_5 : decode cX12_orders 5 = .ok (.iconst 0, 1) := by decide +kernel
theorem dX12_orders_6 : decode cX12_orders 6 = .ok (.istore_n 3, 1) := by decide +kernel
theorem dX12_orders_7 : decode cX12_orders 7 = .ok (.iload_n 3, 1) := by decide +kernel
theorem dX12_orders_8 : decode cX12_orders 8 = .ok (.aload_n 0, 1) := by decide +kernel
theorem dX12_orders_9 : decode cX12_orders 9 = .ok (.getfield 7, 3) := by decide +kernel
theorem dX12_orders_12 : decode cX12_orders 12 = .ok (.bipush 17, 2) := by decide +kernel
theorem dX12_orders_14 : decode cX12_orders 14 = .ok (.iaload, 1) := by decide +kernel
theorem dX12_orders_15 : decode cX12_orders 15 = .ok (.if_icmp .ge 46, 3) := by decide +kernel
theorem dX12_orders_61 : decode cX12_orders 61 = .ok (.iload_n 1, 1) := by decide +kernel
theorem dX12_orders_62 : decode cX12_orders 62 = .ok (.iconst 1, 1) := by decide +kernel
theorem dX12_orders_63 : decode cX12_orders 63 = .ok (.iconst 2, 1) := by decide +kernel
theorem dX12_orders_64 : decode cX12_orders 64 = .ok (.invokestatic 119, 3) := by decide +kernel
theorem dX12_orders_67 : decode cX12_orders 67 = .ok (.ifCond .eq 37, 3) := by decide +kernel
theorem dX12_orders_70 : decode cX12_orders 70 = .ok (.aload_n 0, 1) := by decide +kernel
theorem dX12_orders_71 : decode cX12_orders 71 = .ok (.getfield 410, 3) := by decide +kernel
theorem dX12_orders_74 : decode cX12_orders 74 = .ok (.bipush 6, 2) := by decide +kernel
theorem dX12_orders_76 : decode cX12_orders 76 = .ok (.if_icmp .gt 28, 3) := by decide +kernel
theorem dX12_orders_79 : decode cX12_orders 79 = .ok (.iload_n 2, 1) := by decide +kernel
theorem dX12_orders_80 : decode cX12_orders 80 = .ok (.iconst 0, 1) := by decide +kernel
theorem dX12_orders_81 : decode cX12_orders 81 = .ok (.iconst 1, 1) := by decide +kernel
theorem dX12_orders_82 : decode cX12_orders 82 = .ok (.invokestatic 119, 3) := by decide +kernel
theorem dX12_orders_85 : decode cX12_orders 85 = .ok (.ifCond .ne 21, 3) := by decide +kernel
theorem dX12_orders_88 : decode cX12_orders 88 = .ok (.iload_n 2, 1) := by decide +kernel
theorem dX12_orders_89 : decode cX12_orders 89 = .ok (.bipush 10, 2) := by decide +kernel
theorem dX12_orders_91 : decode cX12_orders 91 = .ok (.bipush 9, 2) := by decide +kernel
theorem dX12_orders_93 : decode cX12_orders 93 = .ok (.aload_n 0, 1) := by decide +kernel
theorem dX12_orders_94 : decode cX12_orders 94 = .ok (.getfield 410, 3) := by decide +kernel
theorem dX12_orders_97 : decode cX12_orders 97 = .ok (.iadd, 1) := by decide +kernel
theorem dX12_orders_98 : decode cX12_orders 98 = .ok (.invokestatic 119, 3) := by decide +kernel
theorem dX12_orders_101 : decode cX12_orders 101 = .ok (.ifCond .ne 5, 3) := by decide +kernel
theorem dX12_orders_104 : decode cX12_orders 104 = .ok (.iconst (-1), 1) := by decide +kernel
theorem dX12_orders_105 : decode cX12_orders 105 = .ok (.ireturn, 1) := by decide +kernel
theorem dX12_orders_106 : decode cX12_orders 106 = .ok (.aload_n 0, 1) := by decide +kernel
theorem dX12_orders_107 : decode cX12_orders 107 = .ok (.iload_n 1, 1) := by decide +kernel
theorem dX12_orders_108 : decode cX12_orders 108 = .ok (.invokevirtual 392, 3) := by decide +kernel
theorem dX12_orders_111 : decode cX12_orders 111 = .ok (.istore_n 3, 1) := by decide +kernel
theorem dX12_orders_112 : decode cX12_orders 112 = .ok (.iload_n 2, 1) := by decide +kernel
theorem dX12_orders_113 : decode cX12_orders 113 = .ok (.iconst 1, 1) := by decide +kernel
theorem dX12_orders_114 : decode cX12_orders 114 = .ok (.if_icmp .ne 5, 3) := by decide +kernel
theorem dX12_orders_117 : decode cX12_orders 117 = .ok (.iload_n 3, 1) := by decide +kernel
theorem dX12_orders_118 : decode cX12_orders 118 = .ok (.ireturn, 1) := by decide +kernel
theorem dX12_orders_119 : decode cX12_orders 119 = .ok (.iconst 0, 1) := by decide +kernel
theorem dX12_orders_120 : decode cX12_orders 120 = .ok (.istore 4, 2) := by decide +kernel
theorem dX12_orders_122 : decode cX12_orders 122 = .ok (.iload 4, 2) := by decide +kernel
theorem dX12_orders_124 : decode cX12_orders 124 = .ok (.iload_n 3, 1) := by decide +kernel
theorem dX12_orders_125 : decode cX12_orders 125 = .ok (.if_icmp .ge 99, 3) := by decide +kernel
theorem dX12_orders_224 : decode cX12_orders 224 = .ok (.aload_n 0, 1) := by decide +kernel
theorem dX12_orders_225 : decode cX12_orders 225 = .ok (.getfield 248, 3) := by decide +kernel
theorem dX12_orders_228 : decode cX12_orders 228 = .ok (.istore 4, 2) := by decide +kernel
theorem dX12_orders_230 : decode cX12_orders 230 = .ok (.iconst 0, 1) := by decide +kernel
theorem dX12_orders_231 : decode cX12_orders 231 = .ok (.istore 5, 2) := by decide +kernel
theorem dX12_orders_233 : decode cX12_orders 233 = .ok (.iload 5, 2) := by decide +kernel
theorem dX12_orders_235 : decode cX12_orders 235 = .ok (.bipush 16, 2) := by decide +kernel
theorem dX12_orders_237 : decode cX12_orders 237 = .ok (.if_icmp .ge 23, 3) := by decide +kernel
theorem dX12_orders_240 : decode cX12_orders 240 = .ok (.aload_n 0, 1) := by decide +kernel
theorem dX12_orders_241 : decode cX12_orders 241 = .ok (.getfield 113, 3) := by decide +kernel
theorem dX12_orders_244 : decode cX12_orders 244 = .ok (.iload 5, 2) := by decide +kernel
theorem dX12_orders_246 : decode cX12_orders 246 = .ok (.aload_n 0, 1) := by decide +kernel
theorem dX12_orders_247 : decode cX12_orders 247 = .ok (.getfield 74, 3) := by decide +kernel
theorem dX12_orders_250 : decode cX12_orders 250 = .ok (.iload 5, 2) := by decide +kernel
theorem dX12_orders_252 : decode cX12_orders 252 = .ok (.iaload, 1) := by decide +kernel
theorem dX12_orders_253 : decode cX12_orders 253 = .ok (.iastore, 1) := by decide +kernel
theorem dX12_orders_254 : decode cX12_orders 254 = .ok (.iinc 5 1, 3) := by decide +kernel
theorem dX12_orders_257 : decode cX12_orders 257 = .ok (.goto (-24), 3) := by decide +kernel
theorem dX12_orders_260 : decode cX12_orders 260 = .ok (.aload_n 0, 1) := by decide +kernel
theorem dX12_orders_261 : decode cX12_orders 261 = .ok (.iconst (-1), 1) := by decide +kernel
theorem dX12_orders_262 : decode cX12_orders 262 = .ok (.putfield 416, 3) := by decide +kernel
theorem dX12_orders_265 : decode cX12_orders 265 = .ok (.aload_n 0, 1) := by decide +kernel
theorem dX12_orders_266 : decode cX12_orders 266 = .ok (.iconst 0, 1) := by decide +kernel
theorem dX12_orders_267 : decode cX12_orders 267 = .ok (.iload_n 3, 1) := by decide +kernel
theorem dX12_orders_268 : decode cX12_orders 268 = .ok (.invokevirtual 419, 3) := by decide +kernel
theorem dX12_orders_271 : decode cX12_orders 271 = .ok (.aload_n 0, 1) := by decide +kernel
theorem dX12_orders_272 : decode cX12_orders 272 = .ok (.iload 4, 2) := by decide +kernel
theorem dX12_orders_274 : decode cX12_orders 274 = .ok (.putfield 248, 3) := by decide +kernel
theorem dX12_orders_277 : decode cX12_orders 277 = .ok (.iconst 0, 1) := by decide +kernel
theorem dX12_orders_278 : decode cX12_orders 278 = .ok (.istore 5, 2) := by decide +kernel
theorem dX12_orders_280 : decode cX12_orders 280 = .ok (.iload 5, 2) := by decide +kernel
theorem dX12_orders_282 : decode cX12_orders 282 = .ok (.bipush 16, 2) := by decide +kernel
theorem dX12_orders_284 : decode cX12_orders 284 = .ok (.if_icmp .ge 23, 3) := by decide +kernel
theorem dX12_orders_287 : decode cX12_orders 287 = .ok (.aload_n 0, 1) := by decide +kernel
theorem dX12_orders_288 : decode cX12_orders 288 = .ok (.getfield 74, 3) := by decide +kernel
theorem dX12_orders_291 : decode cX12_orders 291 = .ok (.iload 5, 2) := by decide +kernel
theorem dX12_orders_293 : decode cX12_orders 293 = .ok (.aload_n 0, 1) := by decide +kernel
theorem dX12_orders_294 : decode cX12_orders 294 = .ok (.getfield 113, 3) := by decide +kernel
theorem dX12_orders_297 : decode cX12_orders 297 = .ok (.iload 5, 2) := by decide +kernel
theorem dX12_orders_299 : decode cX12_orders 299 = .ok (.iaload, 1) := by decide +kernel
theorem dX12_orders_300 : decode cX12_orders 300 = .ok (.iastore, 1) := by decide +kernel
theorem dX12_orders_301 : decode cX12_orders 301 = .ok (.iinc 5 1, 3) := by decide +kernel
theorem dX12_orders_304 : decode cX12_orders 304 = .ok (.goto (-24), 3) := by decide +kernel
theorem dX12_orders_307 : decode cX12_orders 307 = .ok (.iload_n 2, 1) := by decide +kernel
theorem dX12_orders_308 : decode cX12_orders 308 = .ok (.ifCond .ne 10, 3) := by decide +kernel
theorem dX12_orders_311 : decode cX12_orders 311 = .ok (.aload_n 0, 1) := by decide +kernel
theorem dX12_orders_312 : decode cX12_orders 312 = .ok (.getfield 416, 3) := by decide +kernel
theorem dX12_orders_315 : decode cX12_orders 315 = .ok (.goto 12, 3) := by decide +kernel
theorem dX12_orders_327 : decode cX12_orders 327 = .ok (.ireturn, 1) := by decide +kernel
theorem dX12_wordsUpTo_0 : decode cX12_wordsUpTo 0 = .ok (.iconst 0, 1) := by decide +kernel
theorem dX12_wordsUpTo_1 : decode cX12_wordsUpTo 1 = .ok (.istore_n 2, 1) := by decide +kernel
theorem dX12_wordsUpTo_2 : decode cX12_wordsUpTo 2 = .ok (.iconst 1, 1) := by decide +kernel
theorem dX12_wordsUpTo_3 : decode cX12_wordsUpTo 3 = .ok (.istore_n 3, 1) := by decide +kernel
theorem dX12_wordsUpTo_4 : decode cX12_wordsUpTo 4 = .ok (.iconst 0, 1) := by decide +kernel
theorem dX12_wordsUpTo_5 : decode cX12_wordsUpTo 5 = .ok (.istore 4, 2) := by decide +kernel
theorem dX12_wordsUpTo_7 : decode cX12_wordsUpTo 7 = .ok (.iload 4, 2) := by decide +kernel
theorem dX12_wordsUpTo_9 : decode cX12_wordsUpTo 9 = .ok (.iload_n 1, 1) := by decide +kernel
theorem dX12_wordsUpTo_10 : decode cX12_wordsUpTo 10 = .ok (.if_icmp .ge 22, 3) := by decide +kernel
theorem dX12_wordsUpTo_13 : decode cX12_wordsUpTo 13 = .ok (.iload_n 3, 1) := by decide +kernel
theorem dX12_wordsUpTo_14 : decode cX12_wordsUpTo 14 = .ok (.aload_n 0, 1) := by decide +kernel
theorem dX12_wordsUpTo_15 : decode cX12_wordsUpTo 15 = .ok (.getfield 7, 3) := by decide +kernel
theorem dX12_wordsUpTo_18 : decode cX12_wordsUpTo 18 = .ok (.iconst 0, 1) := by decide +kernel
theorem dX12_wordsUpTo_19 : decode cX12_wordsUpTo 19 = .ok (.iaload, 1) := by decide +kernel
theorem dX12_wordsUpTo_20 : decode cX12_wordsUpTo 20 = .ok (.imul, 1) := by decide +kernel
theorem dX12_wordsUpTo_21 : decode cX12_wordsUpTo 21 = .ok (.istore_n 3, 1) := by decide +kernel
theorem dX12_wordsUpTo_22 : decode cX12_wordsUpTo 22 = .ok (.iload_n 2, 1) := by decide +kernel
theorem dX12_wordsUpTo_23 : decode cX12_wordsUpTo 23 = .ok (.iload_n 3, 1) := by decide +kernel
theorem dX12_wordsUpTo_24 : decode cX12_wordsUpTo 24 = .ok (.iadd, 1) := by decide +kernel
theorem dX12_wordsUpTo_25 : decode cX12_wordsUpTo 25 = .ok (.istore_n 2, 1) := by decide +kernel
theorem dX12_wordsUpTo_26 : decode cX12_wordsUpTo 26 = .ok (.iinc 4 1, 3) := by decide +kernel
theorem dX12_wordsUpTo_29 : decode cX12_wordsUpTo 29 = .ok (.goto (-22), 3) := by decide +kernel
theorem dX12_wordsUpTo_32 : decode cX12_wordsUpTo 32 = .ok (.iload_n 2, 1) := by decide +kernel
theorem dX12_wordsUpTo_33 : decode cX12_wordsUpTo 33 = .ok (.ireturn, 1) := by decide +kernel
theorem dX12_triesOrders_0 : decode cX12_triesOrders 0 = .ok (.iload_n 1, 1) := by decide +kernel
theorem dX12_triesOrders_1 : decode cX12_triesOrders 1 = .ok (.aload_n 0, 1) := by decide +kernel
theorem dX12_triesOrders_2 : decode cX12_triesOrders 2 = .ok (.getfield 410, 3) := by decide +kernel
theorem dX12_triesOrders_5 : decode cX12_triesOrders 5 = .ok (.if_icmp .ne 56, 3) := by decide +kernel
theorem dX12_triesOrders_8 : decode cX12_triesOrders 8 = .ok (.aload_n 0, 1) := by decide +kernel
theorem dX12_triesOrders_9 : decode cX12_triesOrders 9 = .ok (.iload_n 2, 1) := by decide +kernel
theorem dX12_triesOrders_10 : decode cX12_triesOrders 10 = .ok (.invokevirtual 413, 3) := by decide +kernel
theorem dX12_triesOrders_13 : decode cX12_triesOrders 13 = .ok (.istore_n 3, 1) := by decide +kernel
theorem dX12_triesOrders_14 : decode cX12_triesOrders 14 = .ok (.iload_n 3, 1) := by decide +kernel
theorem dX12_triesOrders_15 : decode cX12_triesOrders 15 = .ok (.aload_n 0, 1) := by decide +kernel
theorem dX12_triesOrders_16 : decode cX12_triesOrders 16 = .ok (.getfield 416, 3) := by decide +kernel
theorem dX12_triesOrders_19 : decode cX12_triesOrders 19 = .ok (.if_icmp .gt 4, 3) := by decide +kernel
theorem dX12_triesOrders_23 : decode cX12_triesOrders 23 = .ok (.aload_n 0, 1) := by decide +kernel
theorem dX12_triesOrders_24 : decode cX12_triesOrders 24 = .ok (.iload_n 3, 1) := by decide +kernel
theorem dX12_triesOrders_25 : decode cX12_triesOrders 25 = .ok (.putfield 416, 3) := by decide +kernel
theorem dX12_triesOrders_28 : decode cX12_triesOrders 28 = .ok (.iconst 0, 1) := by decide +kernel
theorem dX12_triesOrders_29 : decode cX12_triesOrders 29 = .ok (.istore 4, 2) := by decide +kernel
theorem dX12_triesOrders_31 : decode cX12_triesOrders 31 = .ok (.iload 4, 2) := by decide +kernel
theorem dX12_triesOrders_33 : decode cX12_triesOrders 33 = .ok (.aload_n 0, 1) := by decide +kernel
theorem dX12_triesOrders_34 : decode cX12_triesOrders 34 = .ok (.getfield 410, 3) := by decide +kernel
theorem dX12_triesOrders_37 : decode cX12_triesOrders 37 = .ok (.if_icmp .ge 23, 3) := by decide +kernel
theorem dX12_triesOrders_60 : decode cX12_triesOrders 60 = .ok (.return_, 1) := by decide +kernel
theorem dX12_agreeing_0 : decode cX12_agreeing 0 = .ok (.iconst 0, 1) := by decide +kernel
theorem dX12_agreeing_1 : decode cX12_agreeing 1 = .ok (.istore_n 2, 1) := by decide +kernel
theorem dX12_agreeing_2 : decode cX12_agreeing 2 = .ok (.iconst 0, 1) := by decide +kernel
theorem dX12_agreeing_3 : decode cX12_agreeing 3 = .ok (.istore_n 3, 1) := by decide +kernel
theorem dX12_agreeing_4 : decode cX12_agreeing 4 = .ok (.iload_n 3, 1) := by decide +kernel
theorem dX12_agreeing_5 : decode cX12_agreeing 5 = .ok (.iload_n 1, 1) := by decide +kernel
theorem dX12_agreeing_6 : decode cX12_agreeing 6 = .ok (.if_icmp .ge 139, 3) := by decide +kernel
theorem dX12_agreeing_145 : decode cX12_agreeing 145 = .ok (.iload_n 2, 1) := by decide +kernel
theorem dX12_agreeing_146 : decode cX12_agreeing 146 = .ok (.ireturn, 1) := by decide +kernel
theorem dX12_quarrel_0 : decode cX12_quarrel 0 = .ok (.aload_n 0, 1) := by decide +kernel
theorem dX12_quarrel_1 : decode cX12_quarrel 1 = .ok (.iload_n 1, 1) := by decide +kernel
theorem dX12_quarrel_2 : decode cX12_quarrel 2 = .ok (.invokevirtual 380, 3) := by decide +kernel
theorem dX12_quarrel_5 : decode cX12_quarrel 5 = .ok (.ifCond .eq 25, 3) := by decide +kernel
theorem dX12_quarrel_30 : decode cX12_quarrel 30 = .ok (.iconst (-1), 1) := by decide +kernel
theorem dX12_quarrel_31 : decode cX12_quarrel 31 = .ok (.ireturn, 1) := by decide +kernel
theorem dX12_isRule_0 : decode cX12_isRule 0 = .ok (.iload_n 1, 1) := by decide +kernel
theorem dX12_isRule_1 : decode cX12_isRule 1 = .ok (.iconst 0, 1) := by decide +kernel
theorem dX12_isRule_2 : decode cX12_isRule 2 = .ok (.aload_n 0, 1) := by decide +kernel
theorem dX12_isRule_3 : decode cX12_isRule 3 = .ok (.getfield 7, 3) := by decide +kernel
theorem dX12_isRule_6 : decode cX12_isRule 6 = .ok (.bipush 17, 2) := by decide +kernel
theorem dX12_isRule_8 : decode cX12_isRule 8 = .ok (.iaload, 1) := by decide +kernel
theorem dX12_isRule_9 : decode cX12_isRule 9 = .ok (.iconst 1, 1) := by decide +kernel
theorem dX12_isRule_10 : decode cX12_isRule 10 = .ok (.isub, 1) := by decide +kernel
theorem dX12_isRule_11 : decode cX12_isRule 11 = .ok (.invokestatic 119, 3) := by decide +kernel
theorem dX12_isRule_14 : decode cX12_isRule 14 = .ok (.ireturn, 1) := by decide +kernel
theorem dX12_parts_0 : decode cX12_parts 0 = .ok (.iload_n 1, 1) := by decide +kernel
theorem dX12_parts_1 : decode cX12_parts 1 = .ok (.iconst 0, 1) := by decide +kernel
theorem dX12_parts_2 : decode cX12_parts 2 = .ok (.aload_n 0, 1) := by decide +kernel
theorem dX12_parts_3 : decode cX12_parts 3 = .ok (.invokevirtual 251, 3) := by decide +kernel
theorem dX12_parts_6 : decode cX12_parts 6 = .ok (.invokestatic 119, 3) := by decide +kernel
theorem dX12_parts_9 : decode cX12_parts 9 = .ok (.ifCond .eq 24, 3) := by decide +kernel
theorem dX12_parts_12 : decode cX12_parts 12 = .ok (.iload_n 2, 1) := by decide +kernel
theorem dX12_parts_13 : decode cX12_parts 13 = .ok (.iconst 0, 1) := by decide +kernel
theorem dX12_parts_14 : decode cX12_parts 14 = .ok (.aload_n 0, 1) := by decide +kernel
theorem dX12_parts_15 : decode cX12_parts 15 = .ok (.invokevirtual 251, 3) := by decide +kernel
theorem dX12_parts_18 : decode cX12_parts 18 = .ok (.invokestatic 119, 3) := by decide +kernel
theorem dX12_parts_21 : decode cX12_parts 21 = .ok (.ifCond .eq 12, 3) := by decide +kernel
theorem dX12_parts_24 : decode cX12_parts 24 = .ok (.iload_n 3, 1) := by decide +kernel
theorem dX12_parts_25 : decode cX12_parts 25 = .ok (.iconst 1, 1) := by decide +kernel
theorem dX12_parts_26 : decode cX12_parts 26 = .ok (.iconst 3, 1) := by decide +kernel
theorem dX12_parts_27 : decode cX12_parts 27 = .ok (.invokestatic 119, 3) := by decide +kernel
theorem dX12_parts_30 : decode cX12_parts 30 = .ok (.ifCond .ne 6, 3) := by decide +kernel
theorem dX12_parts_33 : decode cX12_parts 33 = .ok (.bipush (-2), 2) := by decide +kernel
theorem dX12_parts_35 : decode cX12_parts 35 = .ok (.ireturn, 1) := by decide +kernel
theorem dX12_parts_36 : decode cX12_parts 36 = .ok (.aload_n 0, 1) := by decide +kernel
theorem dX12_parts_37 : decode cX12_parts 37 = .ok (.iload_n 1, 1) := by decide +kernel
theorem dX12_parts_38 : decode cX12_parts 38 = .ok (.iload_n 2, 1) := by decide +kernel
theorem dX12_parts_39 : decode cX12_parts 39 = .ok (.iload_n 3, 1) := by decide +kernel
theorem dX12_parts_40 : decode cX12_parts 40 = .ok (.invokevirtual 401, 3) := by decide +kernel
theorem dX12_parts_43 : decode cX12_parts 43 = .ok (.ireturn, 1) := by decide +kernel
theorem dX12_partsOf_0 : decode cX12_partsOf 0 = .ok (.aload_n 0, 1) := by decide +kernel
theorem dX12_partsOf_1 : decode cX12_partsOf 1 = .ok (.iload_n 3, 1) := by decide +kernel
theorem dX12_partsOf_2 : decode cX12_partsOf 2 = .ok (.invokevirtual 392, 3) := by decide +kernel
theorem dX12_partsOf_5 : decode cX12_partsOf 5 = .ok (.istore 4, 2) := by decide +kernel
theorem dX12_partsOf_7 : decode cX12_partsOf 7 = .ok (.iconst 0, 1) := by decide +kernel
theorem dX12_partsOf_8 : decode cX12_partsOf 8 = .ok (.istore 5, 2) := by decide +kernel
theorem dX12_partsOf_10 : decode cX12_partsOf 10 = .ok (.iload 5, 2) := by decide +kernel
theorem dX12_partsOf_12 : decode cX12_partsOf 12 = .ok (.iload 4, 2) := by decide +kernel
theorem dX12_partsOf_14 : decode cX12_partsOf 14 = .ok (.if_icmp .ge 27, 3) := by decide +kernel
theorem dX12_partsOf_41 : decode cX12_partsOf 41 = .ok (.iconst (-1), 1) := by decide +kernel
theorem dX12_partsOf_42 : decode cX12_partsOf 42 = .ok (.ireturn, 1) := by decide +kernel
theorem dX12_idle_0 : decode cX12_idle 0 = .ok (.aload_n 0, 1) := by decide +kernel
theorem dX12_idle_1 : decode cX12_idle 1 = .ok (.iload_n 1, 1) := by decide +kernel
theorem dX12_idle_2 : decode cX12_idle 2 = .ok (.invokevirtual 404, 3) := by decide +kernel
theorem dX12_idle_5 : decode cX12_idle 5 = .ok (.ifCond .eq 12, 3) := by decide +kernel
theorem dX12_idle_17 : decode cX12_idle 17 = .ok (.iconst (-1), 1) := by decide +kernel
theorem dX12_idle_18 : decode cX12_idle 18 = .ok (.goto 37, 3) := by decide +kernel
theorem dX12_idle_55 : decode cX12_idle 55 = .ok (.ireturn, 1) := by decide +kernel
theorem dX12_isUsed_0 : decode cX12_isUsed 0 = .ok (.aload_n 0, 1) := by decide +kernel
theorem dX12_isUsed_1 : decode cX12_isUsed 1 = .ok (.iload_n 1, 1) := by decide +kernel
theorem dX12_isUsed_2 : decode cX12_isUsed 2 = .ok (.invokevirtual 380, 3) := by decide +kernel
theorem dX12_isUsed_5 : decode cX12_isUsed 5 = .ok (.ifCond .eq 22, 3) := by decide +kernel
theorem dX12_isUsed_27 : decode cX12_isUsed 27 = .ok (.iconst 0, 1) := by decide +kernel
