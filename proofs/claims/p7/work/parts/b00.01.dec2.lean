theorem dX7_addPair_96 : decode cX7_addPair 96 = .ok (.iconst 1, 1) := by decide +kernel
theorem dX7_addPair_97 : decode cX7_addPair 97 = .ok (.ireturn, 1) := by decide +kernel
theorem dX8_begin_0 : decode cX8_begin 0 = .ok (.aload_n 0, 1) := by decide +kernel
theorem dX8_begin_1 : decode cX8_begin 1 = .ok (.getfield 26, 3) := by decide +kernel
theorem dX8_begin_4 : decode cX8_begin 4 = .ok (.iconst 0, 1) := by decide +kernel
theorem dX8_begin_5 : decode cX8_begin 5 = .ok (.iconst 0, 1) := by decide +kernel
theorem dX8_begin_6 : decode cX8_begin 6 = .ok (.iastore, 1) := by decide +kernel
theorem dX8_begin_7 : decode cX8_begin 7 = .ok (.iconst 0, 1) := by decide +kernel
theorem dX8_begin_8 : decode cX8_begin 8 = .ok (.istore_n 2, 1) := by decide +kernel
theorem dX8_begin_9 : decode cX8_begin 9 = .ok (.iload_n 2, 1) := by decide +kernel
theorem dX8_begin_10 : decode cX8_begin 10 = .ok (.aload_n 1, 1) := by decide +kernel
theorem dX8_begin_11 : decode cX8_begin 11 = .ok (.getfield 29, 3) := by decide +kernel
theorem dX8_begin_14 : decode cX8_begin 14 = .ok (.if_icmp .ge 38, 3) := by decide +kernel
theorem dX8_begin_17 : decode cX8_begin 17 = .ok (.aload_n 0, 1) := by decide +kernel
theorem dX8_begin_18 : decode cX8_begin 18 = .ok (.getfield 13, 3) := by decide +kernel
theorem dX8_begin_21 : decode cX8_begin 21 = .ok (.iload_n 2, 1) := by decide +kernel
theorem dX8_begin_22 : decode cX8_begin 22 = .ok (.aload_n 1, 1) := by decide +kernel
theorem dX8_begin_23 : decode cX8_begin 23 = .ok (.getfield 35, 3) := by decide +kernel
theorem dX8_begin_26 : decode cX8_begin 26 = .ok (.iload_n 2, 1) := by decide +kernel
theorem dX8_begin_27 : decode cX8_begin 27 = .ok (.aaload, 1) := by decide +kernel
theorem dX8_begin_28 : decode cX8_begin 28 = .ok (.getfield 39, 3) := by decide +kernel
theorem dX8_begin_31 : decode cX8_begin 31 = .ok (.iastore, 1) := by decide +kernel
theorem dX8_begin_32 : decode cX8_begin 32 = .ok (.aload_n 0, 1) := by decide +kernel
theorem dX8_begin_33 : decode cX8_begin 33 = .ok (.getfield 17, 3) := by decide +kernel
theorem dX8_begin_36 : decode cX8_begin 36 = .ok (.iload_n 2, 1) := by decide +kernel
theorem dX8_begin_37 : decode cX8_begin 37 = .ok (.iconst 0, 1) := by decide +kernel
theorem dX8_begin_38 : decode cX8_begin 38 = .ok (.iastore, 1) := by decide +kernel
theorem dX8_begin_39 : decode cX8_begin 39 = .ok (.aload_n 0, 1) := by decide +kernel
theorem dX8_begin_40 : decode cX8_begin 40 = .ok (.getfield 20, 3) := by decide +kernel
theorem dX8_begin_43 : decode cX8_begin 43 = .ok (.iload_n 2, 1) := by decide +kernel
theorem dX8_begin_44 : decode cX8_begin 44 = .ok (.iconst 0, 1) := by decide +kernel
theorem dX8_begin_45 : decode cX8_begin 45 = .ok (.iastore, 1) := by decide +kernel
theorem dX8_begin_46 : decode cX8_begin 46 = .ok (.iinc 2 1, 3) := by decide +kernel
theorem dX8_begin_49 : decode cX8_begin 49 = .ok (.goto (-40), 3) := by decide +kernel
theorem dX8_begin_52 : decode cX8_begin 52 = .ok (.return_, 1) := by decide +kernel
theorem dX8_owe_0 : decode cX8_owe 0 = .ok (.iload_n 3, 1) := by decide +kernel
theorem dX8_owe_1 : decode cX8_owe 1 = .ok (.aload_n 1, 1) := by decide +kernel
theorem dX8_owe_2 : decode cX8_owe 2 = .ok (.getfield 71, 3) := by decide +kernel
theorem dX8_owe_5 : decode cX8_owe 5 = .ok (.iand, 1) := by decide +kernel
theorem dX8_owe_6 : decode cX8_owe 6 = .ok (.ifCond .eq 5, 3) := by decide +kernel
theorem dX8_owe_9 : decode cX8_owe 9 = .ok (.iconst 1, 1) := by decide +kernel
theorem dX8_owe_10 : decode cX8_owe 10 = .ok (.ireturn, 1) := by decide +kernel
theorem dX8_owe_11 : decode cX8_owe 11 = .ok (.iload_n 2, 1) := by decide +kernel
theorem dX8_owe_12 : decode cX8_owe 12 = .ok (.bipush 10, 2) := by decide +kernel
theorem dX8_owe_14 : decode cX8_owe 14 = .ok (.imul, 1) := by decide +kernel
theorem dX8_owe_15 : decode cX8_owe 15 = .ok (.istore 4, 2) := by decide +kernel
theorem dX8_owe_17 : decode cX8_owe 17 = .ok (.iload 4, 2) := by decide +kernel
theorem dX8_owe_19 : decode cX8_owe 19 = .ok (.aload_n 0, 1) := by decide +kernel
theorem dX8_owe_20 : decode cX8_owe 20 = .ok (.getfield 20, 3) := by decide +kernel
theorem dX8_owe_23 : decode cX8_owe 23 = .ok (.iload_n 2, 1) := by decide +kernel
theorem dX8_owe_24 : decode cX8_owe 24 = .ok (.iaload, 1) := by decide +kernel
theorem dX8_owe_25 : decode cX8_owe 25 = .ok (.iadd, 1) := by decide +kernel
theorem dX8_owe_26 : decode cX8_owe 26 = .ok (.istore 5, 2) := by decide +kernel
theorem dX8_owe_28 : decode cX8_owe 28 = .ok (.iload 5, 2) := by decide +kernel
theorem dX8_owe_30 : decode cX8_owe 30 = .ok (.iload 4, 2) := by decide +kernel
theorem dX8_owe_32 : decode cX8_owe 32 = .ok (.if_icmp .le 22, 3) := by decide +kernel
theorem dX8_owe_35 : decode cX8_owe 35 = .ok (.aload_n 0, 1) := by decide +kernel
theorem dX8_owe_36 : decode cX8_owe 36 = .ok (.getfield 23, 3) := by decide +kernel
theorem dX8_owe_39 : decode cX8_owe 39 = .ok (.iload 5, 2) := by decide +kernel
theorem dX8_owe_41 : decode cX8_owe 41 = .ok (.iconst 1, 1) := by decide +kernel
theorem dX8_owe_42 : decode cX8_owe 42 = .ok (.isub, 1) := by decide +kernel
theorem dX8_owe_43 : decode cX8_owe 43 = .ok (.iaload, 1) := by decide +kernel
theorem dX8_owe_44 : decode cX8_owe 44 = .ok (.iload_n 3, 1) := by decide +kernel
theorem dX8_owe_45 : decode cX8_owe 45 = .ok (.if_icmp .le 9, 3) := by decide +kernel
theorem dX8_owe_48 : decode cX8_owe 48 = .ok (.iinc 5 (-1), 3) := by decide +kernel
theorem dX8_owe_51 : decode cX8_owe 51 = .ok (.goto (-23), 3) := by decide +kernel
theorem dX8_owe_54 : decode cX8_owe 54 = .ok (.iload 5, 2) := by decide +kernel
theorem dX8_owe_56 : decode cX8_owe 56 = .ok (.iload 4, 2) := by decide +kernel
theorem dX8_owe_58 : decode cX8_owe 58 = .ok (.if_icmp .le 20, 3) := by decide +kernel
theorem dX8_owe_61 : decode cX8_owe 61 = .ok (.aload_n 0, 1) := by decide +kernel
theorem dX8_owe_62 : decode cX8_owe 62 = .ok (.getfield 23, 3) := by decide +kernel
theorem dX8_owe_65 : decode cX8_owe 65 = .ok (.iload 5, 2) := by decide +kernel
theorem dX8_owe_67 : decode cX8_owe 67 = .ok (.iconst 1, 1) := by decide +kernel
theorem dX8_owe_68 : decode cX8_owe 68 = .ok (.isub, 1) := by decide +kernel
theorem dX8_owe_69 : decode cX8_owe 69 = .ok (.iaload, 1) := by decide +kernel
theorem dX8_owe_70 : decode cX8_owe 70 = .ok (.iload_n 3, 1) := by decide +kernel
theorem dX8_owe_71 : decode cX8_owe 71 = .ok (.if_icmp .ne 7, 3) := by decide +kernel
theorem dX8_owe_74 : decode cX8_owe 74 = .ok (.iconst 1, 1) := by decide +kernel
theorem dX8_owe_75 : decode cX8_owe 75 = .ok (.goto 4, 3) := by decide +kernel
theorem dX8_owe_78 : decode cX8_owe 78 = .ok (.iconst 0, 1) := by decide +kernel
theorem dX8_owe_79 : decode cX8_owe 79 = .ok (.istore 6, 2) := by decide +kernel
theorem dX8_owe_81 : decode cX8_owe 81 = .ok (.iload_n 3, 1) := by decide +kernel
theorem dX8_owe_82 : decode cX8_owe 82 = .ok (.ifCond .eq 19, 3) := by decide +kernel
theorem dX8_owe_85 : decode cX8_owe 85 = .ok (.iload 6, 2) := by decide +kernel
theorem dX8_owe_87 : decode cX8_owe 87 = .ok (.ifCond .ne 14, 3) := by decide +kernel
theorem dX8_owe_90 : decode cX8_owe 90 = .ok (.aload_n 0, 1) := by decide +kernel
theorem dX8_owe_91 : decode cX8_owe 91 = .ok (.getfield 20, 3) := by decide +kernel
theorem dX8_owe_94 : decode cX8_owe 94 = .ok (.iload_n 2, 1) := by decide +kernel
theorem dX8_owe_95 : decode cX8_owe 95 = .ok (.iaload, 1) := by decide +kernel
theorem dX8_owe_96 : decode cX8_owe 96 = .ok (.bipush 10, 2) := by decide +kernel
theorem dX8_owe_98 : decode cX8_owe 98 = .ok (.if_icmp .lt 13, 3) := by decide +kernel
theorem dX8_owe_101 : decode cX8_owe 101 = .ok (.iload_n 3, 1) := by decide +kernel
theorem dX8_owe_102 : decode cX8_owe 102 = .ok (.ifCond .eq 7, 3) := by decide +kernel
theorem dX8_owe_105 : decode cX8_owe 105 = .ok (.iconst 1, 1) := by decide +kernel
theorem dX8_owe_106 : decode cX8_owe 106 = .ok (.goto 4, 3) := by decide +kernel
theorem dX8_owe_109 : decode cX8_owe 109 = .ok (.iconst 0, 1) := by decide +kernel
theorem dX8_owe_110 : decode cX8_owe 110 = .ok (.ireturn, 1) := by decide +kernel
theorem dX8_owe_111 : decode cX8_owe 111 = .ok (.iload 4, 2) := by decide +kernel
theorem dX8_owe_113 : decode cX8_owe 113 = .ok (.aload_n 0, 1) := by decide +kernel
theorem dX8_owe_114 : decode cX8_owe 114 = .ok (.getfield 20, 3) := by decide +kernel
theorem dX8_owe_117 : decode cX8_owe 117 = .ok (.iload_n 2, 1) := by decide +kernel
theorem dX8_owe_118 : decode cX8_owe 118 = .ok (.iaload, 1) := by decide +kernel
theorem dX8_owe_119 : decode cX8_owe 119 = .ok (.iadd, 1) := by decide +kernel
theorem dX8_owe_120 : decode cX8_owe 120 = .ok (.istore 7, 2) := by decide +kernel
theorem dX8_owe_122 : decode cX8_owe 122 = .ok (.iload 7, 2) := by decide +kernel
theorem dX8_owe_124 : decode cX8_owe 124 = .ok (.iload 5, 2) := by decide +kernel
theorem dX8_owe_126 : decode cX8_owe 126 = .ok (.if_icmp .le 25, 3) := by decide +kernel
theorem dX8_owe_129 : decode cX8_owe 129 = .ok (.aload_n 0, 1) := by decide +kernel
theorem dX8_owe_130 : decode cX8_owe 130 = .ok (.getfield 23, 3) := by decide +kernel
theorem dX8_owe_133 : decode cX8_owe 133 = .ok (.iload 7, 2) := by decide +kernel
theorem dX8_owe_135 : decode cX8_owe 135 = .ok (.aload_n 0, 1) := by decide +kernel
theorem dX8_owe_136 : decode cX8_owe 136 = .ok (.getfield 23, 3) := by decide +kernel
theorem dX8_owe_139 : decode cX8_owe 139 = .ok (.iload 7, 2) := by decide +kernel
theorem dX8_owe_141 : decode cX8_owe 141 = .ok (.iconst 1, 1) := by decide +kernel
theorem dX8_owe_142 : decode cX8_owe 142 = .ok (.isub, 1) := by decide +kernel
theorem dX8_owe_143 : decode cX8_owe 143 = .ok (.iaload, 1) := by decide +kernel
theorem dX8_owe_144 : decode cX8_owe 144 = .ok (.iastore, 1) := by decide +kernel
theorem dX8_owe_145 : decode cX8_owe 145 = .ok (.iinc 7 (-1), 3) := by decide +kernel
theorem dX8_owe_148 : decode cX8_owe 148 = .ok (.goto (-26), 3) := by decide +kernel
theorem dX8_owe_151 : decode cX8_owe 151 = .ok (.aload_n 0, 1) := by decide +kernel
theorem dX8_owe_152 : decode cX8_owe 152 = .ok (.getfield 23, 3) := by decide +kernel
theorem dX8_owe_155 : decode cX8_owe 155 = .ok (.iload 5, 2) := by decide +kernel
theorem dX8_owe_157 : decode cX8_owe 157 = .ok (.iload_n 3, 1) := by decide +kernel
theorem dX8_owe_158 : decode cX8_owe 158 = .ok (.iastore, 1) := by decide +kernel
theorem dX8_owe_159 : decode cX8_owe 159 = .ok (.aload_n 0, 1) := by decide +kernel
theorem dX8_owe_160 : decode cX8_owe 160 = .ok (.getfield 20, 3) := by decide +kernel
theorem dX8_owe_163 : decode cX8_owe 163 = .ok (.iload_n 2, 1) := by decide +kernel
theorem dX8_owe_164 : decode cX8_owe 164 = .ok (.dup2, 1) := by decide +kernel
theorem dX8_owe_165 : decode cX8_owe 165 = .ok (.iaload, 1) := by decide +kernel
theorem dX8_owe_166 : decode cX8_owe 166 = .ok (.iconst 1, 1) := by decide +kernel
theorem dX8_owe_167 : decode cX8_owe 167 = .ok (.iadd, 1) := by decide +kernel
theorem dX8_owe_168 : decode cX8_owe 168 = .ok (.iastore, 1) := by decide +kernel
theorem dX8_owe_169 : decode cX8_owe 169 = .ok (.iconst 1, 1) := by decide +kernel
theorem dX8_owe_170 : decode cX8_owe 170 = .ok (.ireturn, 1) := by decide +kernel
theorem dX8_endsWell_0 : decode cX8_endsWell 0 = .ok (.aload_n 0, 1) := by decide +kernel
theorem dX8_endsWell_1 : decode cX8_endsWell 1 = .ok (.getfield 17, 3) := by decide +kernel
theorem dX8_endsWell_4 : decode cX8_endsWell 4 = .ok (.iload_n 1, 1) := by decide +kernel
theorem dX8_endsWell_5 : decode cX8_endsWell 5 = .ok (.iaload, 1) := by decide +kernel
theorem dX8_endsWell_6 : decode cX8_endsWell 6 = .ok (.ldc 81, 2) := by decide +kernel
theorem dX8_endsWell_8 : decode cX8_endsWell 8 = .ok (.iand, 1) := by decide +kernel
theorem dX8_endsWell_9 : decode cX8_endsWell 9 = .ok (.ifCond .eq 5, 3) := by decide +kernel
theorem dX8_endsWell_12 : decode cX8_endsWell 12 = .ok (.iconst 0, 1) := by decide +kernel
theorem dX8_endsWell_13 : decode cX8_endsWell 13 = .ok (.ireturn, 1) := by decide +kernel
theorem dX8_endsWell_14 : decode cX8_endsWell 14 = .ok (.iconst 0, 1) := by decide +kernel
theorem dX8_endsWell_15 : decode cX8_endsWell 15 = .ok (.istore_n 2, 1) := by decide +kernel
theorem dX8_endsWell_16 : decode cX8_endsWell 16 = .ok (.iload_n 2, 1) := by decide +kernel
theorem dX8_endsWell_17 : decode cX8_endsWell 17 = .ok (.aload_n 0, 1) := by decide +kernel
theorem dX8_endsWell_18 : decode cX8_endsWell 18 = .ok (.getfield 20, 3) := by decide +kernel
theorem dX8_endsWell_21 : decode cX8_endsWell 21 = .ok (.iload_n 1, 1) := by decide +kernel
theorem dX8_endsWell_22 : decode cX8_endsWell 22 = .ok (.iaload, 1) := by decide +kernel
theorem dX8_endsWell_23 : decode cX8_endsWell 23 = .ok (.if_icmp .ge 28, 3) := by decide +kernel
theorem dX8_endsWell_26 : decode cX8_endsWell 26 = .ok (.aload_n 0, 1) := by decide +kernel
theorem dX8_endsWell_27 : decode cX8_endsWell 27 = .ok (.getfield 23, 3) := by decide +kernel
theorem dX8_endsWell_30 : decode cX8_endsWell 30 = .ok (.iload_n 1, 1) := by decide +kernel
theorem dX8_endsWell_31 : decode cX8_endsWell 31 = .ok (.bipush 10, 2) := by decide +kernel
theorem dX8_endsWell_33 : decode cX8_endsWell 33 = .ok (.imul, 1) := by decide +kernel
theorem dX8_endsWell_34 : decode cX8_endsWell 34 = .ok (.iload_n 2, 1) := by decide +kernel
theorem dX8_endsWell_35 : decode cX8_endsWell 35 = .ok (.iadd, 1) := by decide +kernel
theorem dX8_endsWell_36 : decode cX8_endsWell 36 = .ok (.iaload, 1) := by decide +kernel
theorem dX8_endsWell_37 : decode cX8_endsWell 37 = .ok (.ldc 81, 2) := by decide +kernel
theorem dX8_endsWell_39 : decode cX8_endsWell 39 = .ok (.iand, 1) := by decide +kernel
theorem dX8_endsWell_40 : decode cX8_endsWell 40 = .ok (.ifCond .ne 5, 3) := by decide +kernel
theorem dX8_endsWell_43 : decode cX8_endsWell 43 = .ok (.iconst 0, 1) := by decide +kernel
theorem dX8_endsWell_44 : decode cX8_endsWell 44 = .ok (.ireturn, 1) := by decide +kernel
theorem dX8_endsWell_45 : decode cX8_endsWell 45 = .ok (.iinc 2 1, 3) := by decide +kernel
theorem dX8_endsWell_48 : decode cX8_endsWell 48 = .ok (.goto (-32), 3) := by decide +kernel
theorem dX8_endsWell_51 : decode cX8_endsWell 51 = .ok (.iconst 1, 1) := by decide +kernel
theorem dX8_endsWell_52 : decode cX8_endsWell 52 = .ok (.ireturn, 1) := by decide +kernel
theorem dX8_finish_0 : decode cX8_finish 0 = .ok (.aload_n 0, 1) := by decide +kernel
theorem dX8_finish_1 : decode cX8_finish 1 = .ok (.getfield 26, 3) := by decide +kernel
theorem dX8_finish_4 : decode cX8_finish 4 = .ok (.iload_n 2, 1) := by decide +kernel
theorem dX8_finish_5 : decode cX8_finish 5 = .ok (.iaload, 1) := by decide +kernel
theorem dX8_finish_6 : decode cX8_finish 6 = .ok (.istore_n 3, 1) := by decide +kernel
theorem dX8_finish_7 : decode cX8_finish 7 = .ok (.iload_n 1, 1) := by decide +kernel
theorem dX8_finish_8 : decode cX8_finish 8 = .ok (.iload_n 3, 1) := by decide +kernel
theorem dX8_finish_9 : decode cX8_finish 9 = .ok (.iconst (-1), 1) := by decide +kernel
theorem dX8_finish_10 : decode cX8_finish 10 = .ok (.ixor, 1) := by decide +kernel
theorem dX8_finish_11 : decode cX8_finish 11 = .ok (.iand, 1) := by decide +kernel
theorem dX8_finish_12 : decode cX8_finish 12 = .ok (.istore 4, 2) := by decide +kernel
theorem dX8_finish_14 : decode cX8_finish 14 = .ok (.iload_n 2, 1) := by decide +kernel
theorem dX8_finish_15 : decode cX8_finish 15 = .ok (.bipush 8, 2) := by decide +kernel
theorem dX8_finish_17 : decode cX8_finish 17 = .ok (.imul, 1) := by decide +kernel
theorem dX8_finish_18 : decode cX8_finish 18 = .ok (.istore 5, 2) := by decide +kernel
theorem dX8_finish_20 : decode cX8_finish 20 = .ok (.iconst 0, 1) := by decide +kernel
theorem dX8_finish_21 : decode cX8_finish 21 = .ok (.istore 6, 2) := by decide +kernel
theorem dX8_finish_23 : decode cX8_finish 23 = .ok (.iload 6, 2) := by decide +kernel
theorem dX8_finish_25 : decode cX8_finish 25 = .ok (.bipush 8, 2) := by decide +kernel
theorem dX8_finish_27 : decode cX8_finish 27 = .ok (.if_icmp .ge 83, 3) := by decide +kernel
theorem dX8_finish_30 : decode cX8_finish 30 = .ok (.iload 4, 2) := by decide +kernel
theorem dX8_finish_32 : decode cX8_finish 32 = .ok (.iload 6, 2) := by decide +kernel
theorem dX8_finish_34 : decode cX8_finish 34 = .ok (.ishr, 1) := by decide +kernel
theorem dX8_finish_35 : decode cX8_finish 35 = .ok (.ifCond .eq 75, 3) := by decide +kernel
theorem dX8_finish_38 : decode cX8_finish 38 = .ok (.aload_n 0, 1) := by decide +kernel
theorem dX8_finish_39 : decode cX8_finish 39 = .ok (.getfield 17, 3) := by decide +kernel
theorem dX8_finish_42 : decode cX8_finish 42 = .ok (.iload 5, 2) := by decide +kernel
theorem dX8_finish_44 : decode cX8_finish 44 = .ok (.iload 6, 2) := by decide +kernel
theorem dX8_finish_46 : decode cX8_finish 46 = .ok (.iadd, 1) := by decide +kernel
theorem dX8_finish_47 : decode cX8_finish 47 = .ok (.iaload, 1) := by decide +kernel
theorem dX8_finish_48 : decode cX8_finish 48 = .ok (.aload_n 0, 1) := by decide +kernel
theorem dX8_finish_49 : decode cX8_finish 49 = .ok (.getfield 20, 3) := by decide +kernel
theorem dX8_finish_52 : decode cX8_finish 52 = .ok (.iload 5, 2) := by decide +kernel
theorem dX8_finish_54 : decode cX8_finish 54 = .ok (.iload 6, 2) := by decide +kernel
theorem dX8_finish_56 : decode cX8_finish 56 = .ok (.iadd, 1) := by decide +kernel
theorem dX8_finish_57 : decode cX8_finish 57 = .ok (.iaload, 1) := by decide +kernel
theorem dX8_finish_58 : decode cX8_finish 58 = .ok (.ior, 1) := by decide +kernel
theorem dX8_finish_59 : decode cX8_finish 59 = .ok (.ifCond .ne 7, 3) := by decide +kernel
theorem dX8_finish_62 : decode cX8_finish 62 = .ok (.iconst 1, 1) := by decide +kernel
theorem dX8_finish_63 : decode cX8_finish 63 = .ok (.goto 4, 3) := by decide +kernel
theorem dX8_finish_66 : decode cX8_finish 66 = .ok (.iconst 0, 1) := by decide +kernel
theorem dX8_finish_67 : decode cX8_finish 67 = .ok (.istore 7, 2) := by decide +kernel
theorem dX8_finish_69 : decode cX8_finish 69 = .ok (.iload 4, 2) := by decide +kernel
theorem dX8_finish_71 : decode cX8_finish 71 = .ok (.iload 6, 2) := by decide +kernel
theorem dX8_finish_73 : decode cX8_finish 73 = .ok (.ishr, 1) := by decide +kernel
theorem dX8_finish_74 : decode cX8_finish 74 = .ok (.iconst 1, 1) := by decide +kernel
theorem dX8_finish_75 : decode cX8_finish 75 = .ok (.iand, 1) := by decide +kernel
theorem dX8_finish_76 : decode cX8_finish 76 = .ok (.iconst 1, 1) := by decide +kernel
theorem dX8_finish_77 : decode cX8_finish 77 = .ok (.if_icmp .ne 27, 3) := by decide +kernel
theorem dX8_finish_80 : decode cX8_finish 80 = .ok (.iload 7, 2) := by decide +kernel
theorem dX8_finish_82 : decode cX8_finish 82 = .ok (.ifCond .ne 22, 3) := by decide +kernel
theorem dX8_finish_85 : decode cX8_finish 85 = .ok (.aload_n 0, 1) := by decide +kernel
theorem dX8_finish_86 : decode cX8_finish 86 = .ok (.iload 5, 2) := by decide +kernel
theorem dX8_finish_88 : decode cX8_finish 88 = .ok (.iload 6, 2) := by decide +kernel
theorem dX8_finish_90 : decode cX8_finish 90 = .ok (.iadd, 1) := by decide +kernel
theorem dX8_finish_91 : decode cX8_finish 91 = .ok (.invokevirtual 77, 3) := by decide +kernel
theorem dX8_finish_94 : decode cX8_finish 94 = .ok (.ifCond .ne 10, 3) := by decide +kernel
theorem dX8_finish_97 : decode cX8_finish 97 = .ok (.iload_n 3, 1) := by decide +kernel
theorem dX8_finish_98 : decode cX8_finish 98 = .ok (.iconst 1, 1) := by decide +kernel
theorem dX8_finish_99 : decode cX8_finish 99 = .ok (.iload 6, 2) := by decide +kernel
theorem dX8_finish_101 : decode cX8_finish 101 = .ok (.ishl, 1) := by decide +kernel
theorem dX8_finish_102 : decode cX8_finish 102 = .ok (.ior, 1) := by decide +kernel
theorem dX8_finish_103 : decode cX8_finish 103 = .ok (.istore_n 3, 1) := by decide +kernel
theorem dX8_finish_104 : decode cX8_finish 104 = .ok (.iinc 6 1, 3) := by decide +kernel
theorem dX8_finish_107 : decode cX8_finish 107 = .ok (.goto (-84), 3) := by decide +kernel
theorem dX8_finish_110 : decode cX8_finish 110 = .ok (.iload_n 3, 1) := by decide +kernel
theorem dX8_finish_111 : decode cX8_finish 111 = .ok (.ireturn, 1) := by decide +kernel
theorem dX8_advance_0 : decode cX8_advance 0 = .ok (.iload_n 2, 1) := by decide +kernel
theorem dX8_advance_1 : decode cX8_advance 1 = .ok (.bipush 8, 2) := by decide +kernel
theorem dX8_advance_3 : decode cX8_advance 3 = .ok (.iadd, 1) := by decide +kernel
theorem dX8_advance_4 : decode cX8_advance 4 = .ok (.istore 4, 2) := by decide +kernel
theorem dX8_advance_6 : decode cX8_advance 6 = .ok (.aload_n 1, 1) := by decide +kernel
theorem dX8_advance_7 : decode cX8_advance 7 = .ok (.getfield 54, 3) := by decide +kernel
theorem dX8_advance_10 : decode cX8_advance 10 = .ok (.iload_n 3, 1) := by decide +kernel
theorem dX8_advance_11 : decode cX8_advance 11 = .ok (.iaload, 1) := by decide +kernel
theorem dX8_advance_12 : decode cX8_advance 12 = .ok (.istore 5, 2) := by decide +kernel
theorem dX8_advance_14 : decode cX8_advance 14 = .ok (.iload 5, 2) := by decide +kernel
theorem dX8_advance_16 : decode cX8_advance 16 = .ok (.ifCond .ne 7, 3) := by decide +kernel
theorem dX8_advance_19 : decode cX8_advance 19 = .ok (.iconst 0, 1) := by decide +kernel
theorem dX8_advance_20 : decode cX8_advance 20 = .ok (.goto 17, 3) := by decide +kernel
theorem dX8_advance_23 : decode cX8_advance 23 = .ok (.aload_n 1, 1) := by decide +kernel
theorem dX8_advance_24 : decode cX8_advance 24 = .ok (.getfield 61, 3) := by decide +kernel
theorem dX8_advance_27 : decode cX8_advance 27 = .ok (.aload_n 0, 1) := by decide +kernel
theorem dX8_advance_28 : decode cX8_advance 28 = .ok (.getfield 13, 3) := by decide +kernel
theorem dX8_advance_31 : decode cX8_advance 31 = .ok (.iload_n 2, 1) := by decide +kernel
theorem dX8_advance_32 : decode cX8_advance 32 = .ok (.iaload, 1) := by decide +kernel
theorem dX8_advance_33 : decode cX8_advance 33 = .ok (.invokestatic 64, 3) := by decide +kernel
theorem dX8_advance_36 : decode cX8_advance 36 = .ok (.iaload, 1) := by decide +kernel
theorem dX8_advance_37 : decode cX8_advance 37 = .ok (.istore 6, 2) := by decide +kernel
theorem dX8_advance_39 : decode cX8_advance 39 = .ok (.aload_n 1, 1) := by decide +kernel
theorem dX8_advance_40 : decode cX8_advance 40 = .ok (.getfield 68, 3) := by decide +kernel
theorem dX8_advance_43 : decode cX8_advance 43 = .ok (.aload_n 0, 1) := by decide +kernel
theorem dX8_advance_44 : decode cX8_advance 44 = .ok (.getfield 17, 3) := by decide +kernel
theorem dX8_advance_47 : decode cX8_advance 47 = .ok (.iload_n 2, 1) := by decide +kernel
theorem dX8_advance_48 : decode cX8_advance 48 = .ok (.iaload, 1) := by decide +kernel
theorem dX8_advance_49 : decode cX8_advance 49 = .ok (.iload_n 3, 1) := by decide +kernel
theorem dX8_advance_50 : decode cX8_advance 50 = .ok (.invokevirtual 47, 3) := by decide +kernel
theorem dX8_advance_53 : decode cX8_advance 53 = .ok (.istore 7, 2) := by decide +kernel
theorem dX8_advance_55 : decode cX8_advance 55 = .ok (.iload 5, 2) := by decide +kernel
theorem dX8_advance_57 : decode cX8_advance 57 = .ok (.iconst 2, 1) := by decide +kernel
theorem dX8_advance_58 : decode cX8_advance 58 = .ok (.if_icmp .ne 10, 3) := by decide +kernel
theorem dX8_advance_61 : decode cX8_advance 61 = .ok (.iload 7, 2) := by decide +kernel
theorem dX8_advance_63 : decode cX8_advance 63 = .ok (.iload 6, 2) := by decide +kernel
theorem dX8_advance_65 : decode cX8_advance 65 = .ok (.ior, 1) := by decide +kernel
theorem dX8_advance_66 : decode cX8_advance 66 = .ok (.istore 7, 2) := by decide +kernel
theorem dX8_advance_68 : decode cX8_advance 68 = .ok (.aload_n 0, 1) := by decide +kernel
theorem dX8_advance_69 : decode cX8_advance 69 = .ok (.getfield 17, 3) := by decide +kernel
theorem dX8_advance_72 : decode cX8_advance 72 = .ok (.iload 4, 2) := by decide +kernel
theorem dX8_advance_74 : decode cX8_advance 74 = .ok (.iload 7, 2) := by decide +kernel
theorem dX8_advance_76 : decode cX8_advance 76 = .ok (.iastore, 1) := by decide +kernel
theorem dX8_advance_77 : decode cX8_advance 77 = .ok (.iload 7, 2) := by decide +kernel
theorem dX8_advance_79 : decode cX8_advance 79 = .ok (.aload_n 1, 1) := by decide +kernel
theorem dX8_advance_80 : decode cX8_advance 80 = .ok (.getfield 71, 3) := by decide +kernel
theorem dX8_advance_83 : decode cX8_advance 83 = .ok (.iand, 1) := by decide +kernel
theorem dX8_advance_84 : decode cX8_advance 84 = .ok (.ifCond .eq 7, 3) := by decide +kernel
theorem dX8_advance_87 : decode cX8_advance 87 = .ok (.iconst 1, 1) := by decide +kernel
theorem dX8_advance_88 : decode cX8_advance 88 = .ok (.goto 4, 3) := by decide +kernel
theorem dX8_advance_91 : decode cX8_advance 91 = .ok (.iconst 0, 1) := by decide +kernel
theorem dX8_advance_92 : decode cX8_advance 92 = .ok (.istore 8, 2) := by decide +kernel
theorem dX8_advance_94 : decode cX8_advance 94 = .ok (.iconst 0, 1) := by decide +kernel
theorem dX8_advance_95 : decode cX8_advance 95 = .ok (.istore 9, 2) := by decide +kernel
theorem dX8_advance_97 : decode cX8_advance 97 = .ok (.iload 9, 2) := by decide +kernel
theorem dX8_advance_99 : decode cX8_advance 99 = .ok (.aload_n 0, 1) := by decide +kernel
theorem dX8_advance_100 : decode cX8_advance 100 = .ok (.getfield 20, 3) := by decide +kernel
theorem dX8_advance_103 : decode cX8_advance 103 = .ok (.iload_n 2, 1) := by decide +kernel
theorem dX8_advance_104 : decode cX8_advance 104 = .ok (.iaload, 1) := by decide +kernel
theorem dX8_advance_105 : decode cX8_advance 105 = .ok (.if_icmp .ge 51, 3) := by decide +kernel
theorem dX8_advance_108 : decode cX8_advance 108 = .ok (.iload 8, 2) := by decide +kernel
theorem dX8_advance_110 : decode cX8_advance 110 = .ok (.ifCond .ne 46, 3) := by decide +kernel
theorem dX8_advance_113 : decode cX8_advance 113 = .ok (.aload_n 0, 1) := by decide +kernel
theorem dX8_advance_114 : decode cX8_advance 114 = .ok (.aload_n 1, 1) := by decide +kernel
theorem dX8_advance_115 : decode cX8_advance 115 = .ok (.iload 4, 2) := by decide +kernel
theorem dX8_advance_117 : decode cX8_advance 117 = .ok (.aload_n 1, 1) := by decide +kernel
theorem dX8_advance_118 : decode cX8_advance 118 = .ok (.getfield 68, 3) := by decide +kernel
theorem dX8_advance_121 : decode cX8_advance 121 = .ok (.aload_n 0, 1) := by decide +kernel
theorem dX8_advance_122 : decode cX8_advance 122 = .ok (.getfield 23, 3) := by decide +kernel
theorem dX8_advance_125 : decode cX8_advance 125 = .ok (.iload_n 2, 1) := by decide +kernel
theorem dX8_advance_126 : decode cX8_advance 126 = .ok (.bipush 10, 2) := by decide +kernel
theorem dX8_advance_128 : decode cX8_advance 128 = .ok (.imul, 1) := by decide +kernel
theorem dX8_advance_129 : decode cX8_advance 129 = .ok (.iload 9, 2) := by decide +kernel
theorem dX8_advance_131 : decode cX8_advance 131 = .ok (.iadd, 1) := by decide +kernel
theorem dX8_advance_132 : decode cX8_advance 132 = .ok (.iaload, 1) := by decide +kernel
theorem dX8_advance_133 : decode cX8_advance 133 = .ok (.iload_n 3, 1) := by decide +kernel
theorem dX8_advance_134 : decode cX8_advance 134 = .ok (.invokevirtual 47, 3) := by decide +kernel
theorem dX8_advance_137 : decode cX8_advance 137 = .ok (.invokevirtual 74, 3) := by decide +kernel
theorem dX8_advance_140 : decode cX8_advance 140 = .ok (.ifCond .ne 7, 3) := by decide +kernel
theorem dX8_advance_143 : decode cX8_advance 143 = .ok (.iconst 1, 1) := by decide +kernel
theorem dX8_advance_144 : decode cX8_advance 144 = .ok (.goto 4, 3) := by decide +kernel
theorem dX8_advance_147 : decode cX8_advance 147 = .ok (.iconst 0, 1) := by decide +kernel
theorem dX8_advance_148 : decode cX8_advance 148 = .ok (.istore 8, 2) := by decide +kernel
theorem dX8_advance_150 : decode cX8_advance 150 = .ok (.iinc 9 1, 3) := by decide +kernel
theorem dX8_advance_153 : decode cX8_advance 153 = .ok (.goto (-56), 3) := by decide +kernel
theorem dX8_advance_156 : decode cX8_advance 156 = .ok (.iload 5, 2) := by decide +kernel
theorem dX8_advance_158 : decode cX8_advance 158 = .ok (.iconst 1, 1) := by decide +kernel
theorem dX8_advance_159 : decode cX8_advance 159 = .ok (.if_icmp .ne 27, 3) := by decide +kernel
theorem dX8_advance_162 : decode cX8_advance 162 = .ok (.iload 8, 2) := by decide +kernel
theorem dX8_advance_164 : decode cX8_advance 164 = .ok (.ifCond .ne 22, 3) := by decide +kernel
theorem dX8_advance_167 : decode cX8_advance 167 = .ok (.aload_n 0, 1) := by decide +kernel
theorem dX8_advance_168 : decode cX8_advance 168 = .ok (.aload_n 1, 1) := by decide +kernel
theorem dX8_advance_169 : decode cX8_advance 169 = .ok (.iload 4, 2) := by decide +kernel
theorem dX8_advance_171 : decode cX8_advance 171 = .ok (.iload 6, 2) := by decide +kernel
theorem dX8_advance_173 : decode cX8_advance 173 = .ok (.invokevirtual 74, 3) := by decide +kernel
theorem dX8_advance_176 : decode cX8_advance 176 = .ok (.ifCond .ne 7, 3) := by decide +kernel
theorem dX8_advance_179 : decode cX8_advance 179 = .ok (.iconst 1, 1) := by decide +kernel
theorem dX8_advance_180 : decode cX8_advance 180 = .ok (.goto 4, 3) := by decide +kernel
theorem dX8_advance_183 : decode cX8_advance 183 = .ok (.iconst 0, 1) := by decide +kernel
theorem dX8_advance_184 : decode cX8_advance 184 = .ok (.istore 8, 2) := by decide +kernel
theorem dX8_advance_186 : decode cX8_advance 186 = .ok (.iload 8, 2) := by decide +kernel
theorem dX8_advance_188 : decode cX8_advance 188 = .ok (.ireturn, 1) := by decide +kernel
theorem dX8_step_0 : decode cX8_step 0 = .ok (.aload_n 0, 1) := by decide +kernel
theorem dX8_step_1 : decode cX8_step 1 = .ok (.getfield 26, 3) := by decide +kernel
theorem dX8_step_4 : decode cX8_step 4 = .ok (.iload_n 3, 1) := by decide +kernel
theorem dX8_step_5 : decode cX8_step 5 = .ok (.iaload, 1) := by decide +kernel
theorem dX8_step_6 : decode cX8_step 6 = .ok (.istore 5, 2) := by decide +kernel
theorem dX8_step_8 : decode cX8_step 8 = .ok (.iload_n 2, 1) := by decide +kernel
theorem dX8_step_9 : decode cX8_step 9 = .ok (.iload 5, 2) := by decide +kernel
theorem dX8_step_11 : decode cX8_step 11 = .ok (.iconst (-1), 1) := by decide +kernel
theorem dX8_step_12 : decode cX8_step 12 = .ok (.ixor, 1) := by decide +kernel
theorem dX8_step_13 : decode cX8_step 13 = .ok (.iand, 1) := by decide +kernel
theorem dX8_step_14 : decode cX8_step 14 = .ok (.istore 6, 2) := by decide +kernel
theorem dX8_step_16 : decode cX8_step 16 = .ok (.iload_n 3, 1) := by decide +kernel
theorem dX8_step_17 : decode cX8_step 17 = .ok (.bipush 8, 2) := by decide +kernel
theorem dX8_step_19 : decode cX8_step 19 = .ok (.imul, 1) := by decide +kernel
theorem dX8_step_20 : decode cX8_step 20 = .ok (.istore 7, 2) := by decide +kernel
theorem dX8_step_22 : decode cX8_step 22 = .ok (.iconst 0, 1) := by decide +kernel
theorem dX8_step_23 : decode cX8_step 23 = .ok (.istore 8, 2) := by decide +kernel
theorem dX8_step_25 : decode cX8_step 25 = .ok (.iload 8, 2) := by decide +kernel
theorem dX8_step_27 : decode cX8_step 27 = .ok (.bipush 8, 2) := by decide +kernel
theorem dX8_step_29 : decode cX8_step 29 = .ok (.if_icmp .ge 166, 3) := by decide +kernel
theorem dX8_step_32 : decode cX8_step 32 = .ok (.iload 6, 2) := by decide +kernel
theorem dX8_step_34 : decode cX8_step 34 = .ok (.iload 8, 2) := by decide +kernel
theorem dX8_step_36 : decode cX8_step 36 = .ok (.ishr, 1) := by decide +kernel
theorem dX8_step_37 : decode cX8_step 37 = .ok (.ifCond .eq 158, 3) := by decide +kernel
theorem dX8_step_40 : decode cX8_step 40 = .ok (.iload 6, 2) := by decide +kernel
theorem dX8_step_42 : decode cX8_step 42 = .ok (.iload 8, 2) := by decide +kernel
theorem dX8_step_44 : decode cX8_step 44 = .ok (.ishr, 1) := by decide +kernel
theorem dX8_step_45 : decode cX8_step 45 = .ok (.iconst 1, 1) := by decide +kernel
theorem dX8_step_46 : decode cX8_step 46 = .ok (.iand, 1) := by decide +kernel
theorem dX8_step_47 : decode cX8_step 47 = .ok (.iconst 1, 1) := by decide +kernel
theorem dX8_step_48 : decode cX8_step 48 = .ok (.if_icmp .ne 141, 3) := by decide +kernel
theorem dX8_step_51 : decode cX8_step 51 = .ok (.aload_n 1, 1) := by decide +kernel
theorem dX8_step_52 : decode cX8_step 52 = .ok (.getfield 35, 3) := by decide +kernel
theorem dX8_step_55 : decode cX8_step 55 = .ok (.iload 8, 2) := by decide +kernel
theorem dX8_step_57 : decode cX8_step 57 = .ok (.aaload, 1) := by decide +kernel
theorem dX8_step_58 : decode cX8_step 58 = .ok (.astore 9, 2) := by decide +kernel
theorem dX8_step_60 : decode cX8_step 60 = .ok (.iload 7, 2) := by decide +kernel
theorem dX8_step_62 : decode cX8_step 62 = .ok (.iload 8, 2) := by decide +kernel
theorem dX8_step_64 : decode cX8_step 64 = .ok (.iadd, 1) := by decide +kernel
theorem dX8_step_65 : decode cX8_step 65 = .ok (.bipush 8, 2) := by decide +kernel
theorem dX8_step_67 : decode cX8_step 67 = .ok (.iadd, 1) := by decide +kernel
theorem dX8_step_68 : decode cX8_step 68 = .ok (.istore 10, 2) := by decide +kernel
theorem dX8_step_70 : decode cX8_step 70 = .ok (.aload_n 0, 1) := by decide +kernel
theorem dX8_step_71 : decode cX8_step 71 = .ok (.getfield 13, 3) := by decide +kernel
theorem dX8_step_74 : decode cX8_step 74 = .ok (.iload 10, 2) := by decide +kernel
theorem dX8_step_76 : decode cX8_step 76 = .ok (.aload 9, 2) := by decide +kernel
theorem dX8_step_78 : decode cX8_step 78 = .ok (.getfield 44, 3) := by decide +kernel
theorem dX8_step_81 : decode cX8_step 81 = .ok (.aload_n 0, 1) := by decide +kernel
theorem dX8_step_82 : decode cX8_step 82 = .ok (.getfield 13, 3) := by decide +kernel
theorem dX8_step_85 : decode cX8_step 85 = .ok (.iload 7, 2) := by decide +kernel
theorem dX8_step_87 : decode cX8_step 87 = .ok (.iload 8, 2) := by decide +kernel
theorem dX8_step_89 : decode cX8_step 89 = .ok (.iadd, 1) := by decide +kernel
theorem dX8_step_90 : decode cX8_step 90 = .ok (.iaload, 1) := by decide +kernel
theorem dX8_step_91 : decode cX8_step 91 = .ok (.iload 4, 2) := by decide +kernel
theorem dX8_step_93 : decode cX8_step 93 = .ok (.invokevirtual 47, 3) := by decide +kernel
theorem dX8_step_96 : decode cX8_step 96 = .ok (.aload 9, 2) := by decide +kernel
theorem dX8_step_98 : decode cX8_step 98 = .ok (.getfield 51, 3) := by decide +kernel
theorem dX8_step_101 : decode cX8_step 101 = .ok (.ior, 1) := by decide +kernel
theorem dX8_step_102 : decode cX8_step 102 = .ok (.iastore, 1) := by decide +kernel
theorem dX8_step_103 : decode cX8_step 103 = .ok (.aload_n 0, 1) := by decide +kernel
theorem dX8_step_104 : decode cX8_step 104 = .ok (.getfield 17, 3) := by decide +kernel
theorem dX8_step_107 : decode cX8_step 107 = .ok (.iload 10, 2) := by decide +kernel
theorem dX8_step_109 : decode cX8_step 109 = .ok (.iconst 0, 1) := by decide +kernel
theorem dX8_step_110 : decode cX8_step 110 = .ok (.iastore, 1) := by decide +kernel
theorem dX8_step_111 : decode cX8_step 111 = .ok (.aload_n 0, 1) := by decide +kernel
theorem dX8_step_112 : decode cX8_step 112 = .ok (.getfield 20, 3) := by decide +kernel
theorem dX8_step_115 : decode cX8_step 115 = .ok (.iload 10, 2) := by decide +kernel
theorem dX8_step_117 : decode cX8_step 117 = .ok (.iconst 0, 1) := by decide +kernel
theorem dX8_step_118 : decode cX8_step 118 = .ok (.iastore, 1) := by decide +kernel
theorem dX8_step_119 : decode cX8_step 119 = .ok (.aload 9, 2) := by decide +kernel
theorem dX8_step_121 : decode cX8_step 121 = .ok (.getfield 54, 3) := by decide +kernel
theorem dX8_step_124 : decode cX8_step 124 = .ok (.iload 4, 2) := by decide +kernel
theorem dX8_step_126 : decode cX8_step 126 = .ok (.iaload, 1) := by decide +kernel
theorem dX8_step_127 : decode cX8_step 127 = .ok (.aload_n 0, 1) := by decide +kernel
theorem dX8_step_128 : decode cX8_step 128 = .ok (.getfield 17, 3) := by decide +kernel
theorem dX8_step_131 : decode cX8_step 131 = .ok (.iload 7, 2) := by decide +kernel
theorem dX8_step_133 : decode cX8_step 133 = .ok (.iload 8, 2) := by decide +kernel
theorem dX8_step_135 : decode cX8_step 135 = .ok (.iadd, 1) := by decide +kernel
theorem dX8_step_136 : decode cX8_step 136 = .ok (.iaload, 1) := by decide +kernel
theorem dX8_step_137 : decode cX8_step 137 = .ok (.ior, 1) := by decide +kernel
theorem dX8_step_138 : decode cX8_step 138 = .ok (.aload_n 0, 1) := by decide +kernel
theorem dX8_step_139 : decode cX8_step 139 = .ok (.getfield 20, 3) := by decide +kernel
theorem dX8_step_142 : decode cX8_step 142 = .ok (.iload 7, 2) := by decide +kernel
theorem dX8_step_144 : decode cX8_step 144 = .ok (.iload 8, 2) := by decide +kernel
theorem dX8_step_146 : decode cX8_step 146 = .ok (.iadd, 1) := by decide +kernel
theorem dX8_step_147 : decode cX8_step 147 = .ok (.iaload, 1) := by decide +kernel
theorem dX8_step_148 : decode cX8_step 148 = .ok (.ior, 1) := by decide +kernel
theorem dX8_step_149 : decode cX8_step 149 = .ok (.ifCond .ne 7, 3) := by decide +kernel
theorem dX8_step_152 : decode cX8_step 152 = .ok (.iconst 1, 1) := by decide +kernel
theorem dX8_step_153 : decode cX8_step 153 = .ok (.goto 4, 3) := by decide +kernel
theorem dX8_step_156 : decode cX8_step 156 = .ok (.iconst 0, 1) := by decide +kernel
theorem dX8_step_157 : decode cX8_step 157 = .ok (.istore 11, 2) := by decide +kernel
theorem dX8_step_159 : decode cX8_step 159 = .ok (.iload 11, 2) := by decide +kernel
theorem dX8_step_161 : decode cX8_step 161 = .ok (.ifCond .ne 28, 3) := by decide +kernel
theorem dX8_step_164 : decode cX8_step 164 = .ok (.aload_n 0, 1) := by decide +kernel
theorem dX8_step_165 : decode cX8_step 165 = .ok (.aload 9, 2) := by decide +kernel
theorem dX8_step_167 : decode cX8_step 167 = .ok (.iload 7, 2) := by decide +kernel
theorem dX8_step_169 : decode cX8_step 169 = .ok (.iload 8, 2) := by decide +kernel
theorem dX8_step_171 : decode cX8_step 171 = .ok (.iadd, 1) := by decide +kernel
theorem dX8_step_172 : decode cX8_step 172 = .ok (.iload 4, 2) := by decide +kernel
theorem dX8_step_174 : decode cX8_step 174 = .ok (.invokevirtual 57, 3) := by decide +kernel
theorem dX8_step_177 : decode cX8_step 177 = .ok (.ifCond .eq 12, 3) := by decide +kernel
theorem dX8_step_180 : decode cX8_step 180 = .ok (.iload 5, 2) := by decide +kernel
theorem dX8_step_182 : decode cX8_step 182 = .ok (.iconst 1, 1) := by decide +kernel
theorem dX8_step_183 : decode cX8_step 183 = .ok (.iload 8, 2) := by decide +kernel
theorem dX8_step_185 : decode cX8_step 185 = .ok (.ishl, 1) := by decide +kernel
theorem dX8_step_186 : decode cX8_step 186 = .ok (.ior, 1) := by decide +kernel
theorem dX8_step_187 : decode cX8_step 187 = .ok (.istore 5, 2) := by decide +kernel
theorem dX8_step_189 : decode cX8_step 189 = .ok (.iinc 8 1, 3) := by decide +kernel
theorem dX8_step_192 : decode cX8_step 192 = .ok (.goto (-167), 3) := by decide +kernel
theorem dX8_step_195 : decode cX8_step 195 = .ok (.aload_n 0, 1) := by decide +kernel
theorem dX8_step_196 : decode cX8_step 196 = .ok (.getfield 26, 3) := by decide +kernel
theorem dX8_step_199 : decode cX8_step 199 = .ok (.iload_n 3, 1) := by decide +kernel
theorem dX8_step_200 : decode cX8_step 200 = .ok (.iconst 1, 1) := by decide +kernel
theorem dX8_step_201 : decode cX8_step 201 = .ok (.iadd, 1) := by decide +kernel
theorem dX8_step_202 : decode cX8_step 202 = .ok (.iload 5, 2) := by decide +kernel
theorem dX8_step_204 : decode cX8_step 204 = .ok (.iastore, 1) := by decide +kernel
theorem dX8_step_205 : decode cX8_step 205 = .ok (.iload 5, 2) := by decide +kernel
theorem dX8_step_207 : decode cX8_step 207 = .ok (.ireturn, 1) := by decide +kernel
theorem dX0_wordCount_0 : decode cX0_wordCount 0 = .ok (.aload_n 0, 1) := by decide +kernel
theorem dX0_wordCount_1 : decode cX0_wordCount 1 = .ok (.getfield 37, 3) := by decide +kernel
theorem dX0_wordCount_4 : decode cX0_wordCount 4 = .ok (.iconst 2, 1) := by decide +kernel
theorem dX0_wordCount_5 : decode cX0_wordCount 5 = .ok (.if_icmp .ne 11, 3) := by decide +kernel
theorem dX0_wordCount_8 : decode cX0_wordCount 8 = .ok (.iload_n 1, 1) := by decide +kernel
theorem dX0_wordCount_9 : decode cX0_wordCount 9 = .ok (.iload_n 1, 1) := by decide +kernel
theorem dX0_wordCount_10 : decode cX0_wordCount 10 = .ok (.iload_n 1, 1) := by decide +kernel
theorem dX0_wordCount_11 : decode cX0_wordCount 11 = .ok (.imul, 1) := by decide +kernel
theorem dX0_wordCount_12 : decode cX0_wordCount 12 = .ok (.iadd, 1) := by decide +kernel
theorem dX0_wordCount_13 : decode cX0_wordCount 13 = .ok (.goto 4, 3) := by decide +kernel
theorem dX0_wordCount_16 : decode cX0_wordCount 16 = .ok (.iload_n 1, 1) := by decide +kernel
theorem dX0_wordCount_17 : decode cX0_wordCount 17 = .ok (.ireturn, 1) := by decide +kernel
theorem dX0_numberOf_0 : decode cX0_numberOf 0 = .ok (.iload_n 0, 1) := by decide +kernel
theorem dX0_numberOf_1 : decode cX0_numberOf 1 = .ok (.ifCond .ne 5, 3) := by decide +kernel
theorem dX0_numberOf_4 : decode cX0_numberOf 4 = .ok (.iconst 0, 1) := by decide +kernel
theorem dX0_numberOf_5 : decode cX0_numberOf 5 = .ok (.ireturn, 1) := by decide +kernel
theorem dX0_numberOf_6 : decode cX0_numberOf 6 = .ok (.iload_n 1, 1) := by decide +kernel
theorem dX0_numberOf_7 : decode cX0_numberOf 7 = .ok (.ifCond .ne 7, 3) := by decide +kernel
theorem dX0_numberOf_10 : decode cX0_numberOf 10 = .ok (.iload_n 0, 1) := by decide +kernel
theorem dX0_numberOf_11 : decode cX0_numberOf 11 = .ok (.goto 16, 3) := by decide +kernel
theorem dX0_numberOf_14 : decode cX0_numberOf 14 = .ok (.bipush 9, 2) := by decide +kernel
theorem dX0_numberOf_16 : decode cX0_numberOf 16 = .ok (.iload_n 0, 1) := by decide +kernel
theorem dX0_numberOf_17 : decode cX0_numberOf 17 = .ok (.iconst 1, 1) := by decide +kernel
theorem dX0_numberOf_18 : decode cX0_numberOf 18 = .ok (.isub, 1) := by decide +kernel
theorem dX0_numberOf_19 : decode cX0_numberOf 19 = .ok (.bipush 8, 2) := by decide +kernel
theorem dX0_numberOf_21 : decode cX0_numberOf 21 = .ok (.imul, 1) := by decide +kernel
theorem dX0_numberOf_22 : decode cX0_numberOf 22 = .ok (.iadd, 1) := by decide +kernel
theorem dX0_numberOf_23 : decode cX0_numberOf 23 = .ok (.iload_n 1, 1) := by decide +kernel
theorem dX0_numberOf_24 : decode cX0_numberOf 24 = .ok (.iadd, 1) := by decide +kernel
theorem dX0_numberOf_25 : decode cX0_numberOf 25 = .ok (.iconst 1, 1) := by decide +kernel
theorem dX0_numberOf_26 : decode cX0_numberOf 26 = .ok (.isub, 1) := by decide +kernel
theorem dX0_numberOf_27 : decode cX0_numberOf 27 = .ok (.ireturn, 1) := by decide +kernel
theorem dX0_judge_0 : decode cX0_judge 0 = .ok (.iconst 0, 1) := by decide +kernel
theorem dX0_judge_1 : decode cX0_judge 1 = .ok (.istore_n 2, 1) := by decide +kernel
theorem dX0_judge_2 : decode cX0_judge 2 = .ok (.iconst 0, 1) := by decide +kernel
theorem dX0_judge_3 : decode cX0_judge 3 = .ok (.istore_n 3, 1) := by decide +kernel
theorem dX0_judge_4 : decode cX0_judge 4 = .ok (.iload_n 3, 1) := by decide +kernel
theorem dX0_judge_5 : decode cX0_judge 5 = .ok (.bipush 73, 2) := by decide +kernel
theorem dX0_judge_7 : decode cX0_judge 7 = .ok (.if_icmp .ge 33, 3) := by decide +kernel
theorem dX0_judge_10 : decode cX0_judge 10 = .ok (.iload_n 2, 1) := by decide +kernel
theorem dX0_judge_11 : decode cX0_judge 11 = .ok (.aload_n 0, 1) := by decide +kernel
theorem dX0_judge_12 : decode cX0_judge 12 = .ok (.getfield 15, 3) := by decide +kernel
theorem dX0_judge_15 : decode cX0_judge 15 = .ok (.iload_n 3, 1) := by decide +kernel
theorem dX0_judge_16 : decode cX0_judge 16 = .ok (.bipush 73, 2) := by decide +kernel
theorem dX0_judge_18 : decode cX0_judge 18 = .ok (.imul, 1) := by decide +kernel
theorem dX0_judge_19 : decode cX0_judge 19 = .ok (.aload_n 0, 1) := by decide +kernel
theorem dX0_judge_20 : decode cX0_judge 20 = .ok (.getfield 24, 3) := by decide +kernel
theorem dX0_judge_23 : decode cX0_judge 23 = .ok (.iload_n 1, 1) := by decide +kernel
theorem dX0_judge_24 : decode cX0_judge 24 = .ok (.bipush 73, 2) := by decide +kernel
theorem dX0_judge_26 : decode cX0_judge 26 = .ok (.imul, 1) := by decide +kernel
theorem dX0_judge_27 : decode cX0_judge 27 = .ok (.iload_n 3, 1) := by decide +kernel
theorem dX0_judge_28 : decode cX0_judge 28 = .ok (.iadd, 1) := by decide +kernel
theorem dX0_judge_29 : decode cX0_judge 29 = .ok (.iaload, 1) := by decide +kernel
theorem dX0_judge_30 : decode cX0_judge 30 = .ok (.iadd, 1) := by decide +kernel
theorem dX0_judge_31 : decode cX0_judge 31 = .ok (.iaload, 1) := by decide +kernel
theorem dX0_judge_32 : decode cX0_judge 32 = .ok (.iadd, 1) := by decide +kernel
theorem dX0_judge_33 : decode cX0_judge 33 = .ok (.istore_n 2, 1) := by decide +kernel
theorem dX0_judge_34 : decode cX0_judge 34 = .ok (.iinc 3 1, 3) := by decide +kernel
theorem dX0_judge_37 : decode cX0_judge 37 = .ok (.goto (-33), 3) := by decide +kernel
theorem dX0_judge_40 : decode cX0_judge 40 = .ok (.iload_n 2, 1) := by decide +kernel
theorem dX0_judge_41 : decode cX0_judge 41 = .ok (.aload_n 0, 1) := by decide +kernel
theorem dX0_judge_42 : decode cX0_judge 42 = .ok (.getfield 66, 3) := by decide +kernel
theorem dX0_judge_45 : decode cX0_judge 45 = .ok (.if_icmp .le 25, 3) := by decide +kernel
theorem dX0_judge_48 : decode cX0_judge 48 = .ok (.aload_n 0, 1) := by decide +kernel
theorem dX0_judge_49 : decode cX0_judge 49 = .ok (.iload_n 2, 1) := by decide +kernel
theorem dX0_judge_50 : decode cX0_judge 50 = .ok (.putfield 66, 3) := by decide +kernel
theorem dX0_judge_53 : decode cX0_judge 53 = .ok (.aload_n 0, 1) := by decide +kernel
theorem dX0_judge_54 : decode cX0_judge 54 = .ok (.getfield 21, 3) := by decide +kernel
theorem dX0_judge_57 : decode cX0_judge 57 = .ok (.iconst 0, 1) := by decide +kernel
theorem dX0_judge_58 : decode cX0_judge 58 = .ok (.aload_n 0, 1) := by decide +kernel
theorem dX0_judge_59 : decode cX0_judge 59 = .ok (.getfield 27, 3) := by decide +kernel
theorem dX0_judge_62 : decode cX0_judge 62 = .ok (.iconst 0, 1) := by decide +kernel
theorem dX0_judge_63 : decode cX0_judge 63 = .ok (.aload_n 0, 1) := by decide +kernel
theorem dX0_judge_64 : decode cX0_judge 64 = .ok (.getfield 40, 3) := by decide +kernel
theorem dX0_judge_67 : decode cX0_judge 67 = .ok (.invokestatic 119, 3) := by decide +kernel
theorem dX0_judge_70 : decode cX0_judge 70 = .ok (.return_, 1) := by decide +kernel
theorem dX6_restart_0 : decode cX6_restart 0 = .ok (.aload_n 0, 1) := by decide +kernel
theorem dX6_restart_1 : decode cX6_restart 1 = .ok (.iconst 1, 1) := by decide +kernel
theorem dX6_restart_2 : decode cX6_restart 2 = .ok (.iload_n 1, 1) := by decide +kernel
theorem dX6_restart_3 : decode cX6_restart 3 = .ok (.ishl, 1) := by decide +kernel
theorem dX6_restart_4 : decode cX6_restart 4 = .ok (.iconst 1, 1) := by decide +kernel
theorem dX6_restart_5 : decode cX6_restart 5 = .ok (.isub, 1) := by decide +kernel
theorem dX6_restart_6 : decode cX6_restart 6 = .ok (.putfield 40, 3) := by decide +kernel
theorem dX6_restart_9 : decode cX6_restart 9 = .ok (.iconst 0, 1) := by decide +kernel
theorem dX6_restart_10 : decode cX6_restart 10 = .ok (.istore_n 2, 1) := by decide +kernel
theorem dX6_restart_11 : decode cX6_restart 11 = .ok (.iload_n 2, 1) := by decide +kernel
theorem dX6_restart_12 : decode cX6_restart 12 = .ok (.bipush 8, 2) := by decide +kernel
theorem dX6_restart_14 : decode cX6_restart 14 = .ok (.if_icmp .ge 16, 3) := by decide +kernel
theorem dX6_restart_17 : decode cX6_restart 17 = .ok (.aload_n 0, 1) := by decide +kernel
theorem dX6_restart_18 : decode cX6_restart 18 = .ok (.getfield 15, 3) := by decide +kernel
theorem dX6_restart_21 : decode cX6_restart 21 = .ok (.iload_n 2, 1) := by decide +kernel
theorem dX6_restart_22 : decode cX6_restart 22 = .ok (.iload_n 2, 1) := by decide +kernel
theorem dX6_restart_23 : decode cX6_restart 23 = .ok (.iastore, 1) := by decide +kernel
theorem dX6_restart_24 : decode cX6_restart 24 = .ok (.iinc 2 1, 3) := by decide +kernel
theorem dX6_restart_27 : decode cX6_restart 27 = .ok (.goto (-16), 3) := by decide +kernel
theorem dX6_restart_30 : decode cX6_restart 30 = .ok (.aload_n 0, 1) := by decide +kernel
theorem dX6_restart_31 : decode cX6_restart 31 = .ok (.getfield 24, 3) := by decide +kernel
theorem dX6_restart_34 : decode cX6_restart 34 = .ok (.invokevirtual 43, 3) := by decide +kernel
theorem dX6_restart_37 : decode cX6_restart 37 = .ok (.aload_n 0, 1) := by decide +kernel
theorem dX6_restart_38 : decode cX6_restart 38 = .ok (.getfield 28, 3) := by decide +kernel
theorem dX6_restart_41 : decode cX6_restart 41 = .ok (.invokevirtual 43, 3) := by decide +kernel
theorem dX6_restart_44 : decode cX6_restart 44 = .ok (.aload_n 0, 1) := by decide +kernel
theorem dX6_restart_45 : decode cX6_restart 45 = .ok (.iconst 0, 1) := by decide +kernel
theorem dX6_restart_46 : decode cX6_restart 46 = .ok (.putfield 46, 3) := by decide +kernel
theorem dX6_restart_49 : decode cX6_restart 49 = .ok (.return_, 1) := by decide +kernel
theorem dX6_copyFrom_0 : decode cX6_copyFrom 0 = .ok (.aload_n 0, 1) := by decide +kernel
theorem dX6_copyFrom_1 : decode cX6_copyFrom 1 = .ok (.aload_n 1, 1) := by decide +kernel
theorem dX6_copyFrom_2 : decode cX6_copyFrom 2 = .ok (.getfield 40, 3) := by decide +kernel
theorem dX6_copyFrom_5 : decode cX6_copyFrom 5 = .ok (.putfield 40, 3) := by decide +kernel
theorem dX6_copyFrom_8 : decode cX6_copyFrom 8 = .ok (.aload_n 0, 1) := by decide +kernel
theorem dX6_copyFrom_9 : decode cX6_copyFrom 9 = .ok (.aload_n 1, 1) := by decide +kernel
theorem dX6_copyFrom_10 : decode cX6_copyFrom 10 = .ok (.getfield 9, 3) := by decide +kernel
theorem dX6_copyFrom_13 : decode cX6_copyFrom 13 = .ok (.putfield 9, 3) := by decide +kernel
theorem dX6_copyFrom_16 : decode cX6_copyFrom 16 = .ok (.aload_n 1, 1) := by decide +kernel
theorem dX6_copyFrom_17 : decode cX6_copyFrom 17 = .ok (.getfield 15, 3) := by decide +kernel
theorem dX6_copyFrom_20 : decode cX6_copyFrom 20 = .ok (.iconst 0, 1) := by decide +kernel
theorem dX6_copyFrom_21 : decode cX6_copyFrom 21 = .ok (.aload_n 0, 1) := by decide +kernel
theorem dX6_copyFrom_22 : decode cX6_copyFrom 22 = .ok (.getfield 15, 3) := by decide +kernel
theorem dX6_copyFrom_25 : decode cX6_copyFrom 25 = .ok (.iconst 0, 1) := by decide +kernel
theorem dX6_copyFrom_26 : decode cX6_copyFrom 26 = .ok (.aload_n 0, 1) := by decide +kernel
theorem dX6_copyFrom_27 : decode cX6_copyFrom 27 = .ok (.getfield 15, 3) := by decide +kernel
theorem dX6_copyFrom_30 : decode cX6_copyFrom 30 = .ok (.arraylength, 1) := by decide +kernel
theorem dX6_copyFrom_31 : decode cX6_copyFrom 31 = .ok (.invokestatic 49, 3) := by decide +kernel
theorem dX6_copyFrom_34 : decode cX6_copyFrom 34 = .ok (.aload_n 0, 1) := by decide +kernel
theorem dX6_copyFrom_35 : decode cX6_copyFrom 35 = .ok (.getfield 24, 3) := by decide +kernel
theorem dX6_copyFrom_38 : decode cX6_copyFrom 38 = .ok (.aload_n 1, 1) := by decide +kernel
theorem dX6_copyFrom_39 : decode cX6_copyFrom 39 = .ok (.getfield 24, 3) := by decide +kernel
theorem dX6_copyFrom_42 : decode cX6_copyFrom 42 = .ok (.invokevirtual 55, 3) := by decide +kernel
theorem dX6_copyFrom_45 : decode cX6_copyFrom 45 = .ok (.aload_n 0, 1) := by decide +kernel
theorem dX6_copyFrom_46 : decode cX6_copyFrom 46 = .ok (.getfield 28, 3) := by decide +kernel
theorem dX6_copyFrom_49 : decode cX6_copyFrom 49 = .ok (.aload_n 1, 1) := by decide +kernel
theorem dX6_copyFrom_50 : decode cX6_copyFrom 50 = .ok (.getfield 28, 3) := by decide +kernel
theorem dX6_copyFrom_53 : decode cX6_copyFrom 53 = .ok (.invokevirtual 55, 3) := by decide +kernel
theorem dX6_copyFrom_56 : decode cX6_copyFrom 56 = .ok (.aload_n 0, 1) := by decide +kernel
theorem dX6_copyFrom_57 : decode cX6_copyFrom 57 = .ok (.aload_n 1, 1) := by decide +kernel
theorem dX6_copyFrom_58 : decode cX6_copyFrom 58 = .ok (.getfield 46, 3) := by decide +kernel
theorem dX6_copyFrom_61 : decode cX6_copyFrom 61 = .ok (.putfield 46, 3) := by decide +kernel
theorem dX6_copyFrom_64 : decode cX6_copyFrom 64 = .ok (.return_, 1) := by decide +kernel
theorem dX6_moveRule_0 : decode cX6_moveRule 0 = .ok (.iconst 0, 1) := by decide +kernel
theorem dX6_moveRule_1 : decode cX6_moveRule 1 = .ok (.istore 4, 2) := by decide +kernel
theorem dX6_moveRule_3 : decode cX6_moveRule 3 = .ok (.iload 4, 2) := by decide +kernel
theorem dX6_moveRule_5 : decode cX6_moveRule 5 = .ok (.iload_n 3, 1) := by decide +kernel
theorem dX6_moveRule_6 : decode cX6_moveRule 6 = .ok (.if_icmp .ge 41, 3) := by decide +kernel
theorem dX6_moveRule_9 : decode cX6_moveRule 9 = .ok (.aload_n 0, 1) := by decide +kernel
