theorem dX2_readItems_139 : decode cX2_readItems 139 = .ok (.getfield 225, 3) := by decide +kernel
theorem dX2_readItems_142 : decode cX2_readItems 142 = .ok (.istore 7, 2) := by decide +kernel
theorem dX2_readItems_144 : decode cX2_readItems 144 = .ok (.aload_n 1, 1) := by decide +kernel
theorem dX2_readItems_145 : decode cX2_readItems 145 = .ok (.iload_n 2, 1) := by decide +kernel
theorem dX2_readItems_146 : decode cX2_readItems 146 = .ok (.iload 6, 2) := by decide +kernel
theorem dX2_readItems_148 : decode cX2_readItems 148 = .ok (.iload 7, 2) := by decide +kernel
theorem dX2_readItems_150 : decode cX2_readItems 150 = .ok (.aload_n 0, 1) := by decide +kernel
theorem dX2_readItems_151 : decode cX2_readItems 151 = .ok (.bipush 42, 2) := by decide +kernel
theorem dX2_readItems_153 : decode cX2_readItems 153 = .ok (.invokevirtual 61, 3) := by decide +kernel
theorem dX2_readItems_156 : decode cX2_readItems 156 = .ok (.invokevirtual 228, 3) := by decide +kernel
theorem dX2_readItems_159 : decode cX2_readItems 159 = .ok (.iinc 3 1, 3) := by decide +kernel
theorem dX2_readItems_162 : decode cX2_readItems 162 = .ok (.goto (-160), 3) := by decide +kernel
theorem dX2_readItems_165 : decode cX2_readItems 165 = .ok (.iconst 1, 1) := by decide +kernel
theorem dX2_readItems_166 : decode cX2_readItems 166 = .ok (.ireturn, 1) := by decide +kernel
theorem dX2_readContext_0 : decode cX2_readContext 0 = .ok (.aload_n 1, 1) := by decide +kernel
theorem dX2_readContext_1 : decode cX2_readContext 1 = .ok (.getfield 176, 3) := by decide +kernel
theorem dX2_readContext_4 : decode cX2_readContext 4 = .ok (.istore_n 2, 1) := by decide +kernel
theorem dX2_readContext_5 : decode cX2_readContext 5 = .ok (.aload_n 1, 1) := by decide +kernel
theorem dX2_readContext_6 : decode cX2_readContext 6 = .ok (.getfield 200, 3) := by decide +kernel
theorem dX2_readContext_9 : decode cX2_readContext 9 = .ok (.iload_n 2, 1) := by decide +kernel
theorem dX2_readContext_10 : decode cX2_readContext 10 = .ok (.invokevirtual 204, 3) := by decide +kernel
theorem dX2_readContext_13 : decode cX2_readContext 13 = .ok (.aload_n 1, 1) := by decide +kernel
theorem dX2_readContext_14 : decode cX2_readContext 14 = .ok (.getfield 209, 3) := by decide +kernel
theorem dX2_readContext_17 : decode cX2_readContext 17 = .ok (.iload_n 2, 1) := by decide +kernel
theorem dX2_readContext_18 : decode cX2_readContext 18 = .ok (.invokevirtual 204, 3) := by decide +kernel
theorem dX2_readContext_21 : decode cX2_readContext 21 = .ok (.aload_n 0, 1) := by decide +kernel
theorem dX2_readContext_22 : decode cX2_readContext 22 = .ok (.bipush 35, 2) := by decide +kernel
theorem dX2_readContext_24 : decode cX2_readContext 24 = .ok (.invokevirtual 61, 3) := by decide +kernel
theorem dX2_readContext_27 : decode cX2_readContext 27 = .ok (.ifCond .eq 11, 3) := by decide +kernel
theorem dX2_readContext_30 : decode cX2_readContext 30 = .ok (.aload_n 1, 1) := by decide +kernel
theorem dX2_readContext_31 : decode cX2_readContext 31 = .ok (.getfield 200, 3) := by decide +kernel
theorem dX2_readContext_34 : decode cX2_readContext 34 = .ok (.iload_n 2, 1) := by decide +kernel
theorem dX2_readContext_35 : decode cX2_readContext 35 = .ok (.invokevirtual 212, 3) := by decide +kernel
theorem dX2_readContext_38 : decode cX2_readContext 38 = .ok (.aload_n 0, 1) := by decide +kernel
theorem dX2_readContext_39 : decode cX2_readContext 39 = .ok (.aload_n 1, 1) := by decide +kernel
theorem dX2_readContext_40 : decode cX2_readContext 40 = .ok (.getfield 200, 3) := by decide +kernel
theorem dX2_readContext_43 : decode cX2_readContext 43 = .ok (.iload_n 2, 1) := by decide +kernel
theorem dX2_readContext_44 : decode cX2_readContext 44 = .ok (.invokevirtual 215, 3) := by decide +kernel
theorem dX2_readContext_47 : decode cX2_readContext 47 = .ok (.ifCond .eq 24, 3) := by decide +kernel
theorem dX2_readContext_50 : decode cX2_readContext 50 = .ok (.aload_n 0, 1) := by decide +kernel
theorem dX2_readContext_51 : decode cX2_readContext 51 = .ok (.bipush 95, 2) := by decide +kernel
theorem dX2_readContext_53 : decode cX2_readContext 53 = .ok (.invokevirtual 114, 3) := by decide +kernel
theorem dX2_readContext_56 : decode cX2_readContext 56 = .ok (.ifCond .eq 15, 3) := by decide +kernel
theorem dX2_readContext_59 : decode cX2_readContext 59 = .ok (.aload_n 0, 1) := by decide +kernel
theorem dX2_readContext_60 : decode cX2_readContext 60 = .ok (.aload_n 1, 1) := by decide +kernel
theorem dX2_readContext_61 : decode cX2_readContext 61 = .ok (.getfield 209, 3) := by decide +kernel
theorem dX2_readContext_64 : decode cX2_readContext 64 = .ok (.iload_n 2, 1) := by decide +kernel
theorem dX2_readContext_65 : decode cX2_readContext 65 = .ok (.invokevirtual 215, 3) := by decide +kernel
theorem dX2_readContext_68 : decode cX2_readContext 68 = .ok (.ifCond .ne 5, 3) := by decide +kernel
theorem dX2_readContext_71 : decode cX2_readContext 71 = .ok (.iconst 0, 1) := by decide +kernel
theorem dX2_readContext_72 : decode cX2_readContext 72 = .ok (.ireturn, 1) := by decide +kernel
theorem dX2_readContext_73 : decode cX2_readContext 73 = .ok (.aload_n 0, 1) := by decide +kernel
theorem dX2_readContext_74 : decode cX2_readContext 74 = .ok (.bipush 35, 2) := by decide +kernel
theorem dX2_readContext_76 : decode cX2_readContext 76 = .ok (.invokevirtual 61, 3) := by decide +kernel
theorem dX2_readContext_79 : decode cX2_readContext 79 = .ok (.ifCond .eq 11, 3) := by decide +kernel
theorem dX2_readContext_82 : decode cX2_readContext 82 = .ok (.aload_n 1, 1) := by decide +kernel
theorem dX2_readContext_83 : decode cX2_readContext 83 = .ok (.getfield 209, 3) := by decide +kernel
theorem dX2_readContext_86 : decode cX2_readContext 86 = .ok (.iload_n 2, 1) := by decide +kernel
theorem dX2_readContext_87 : decode cX2_readContext 87 = .ok (.invokevirtual 212, 3) := by decide +kernel
theorem dX2_readContext_90 : decode cX2_readContext 90 = .ok (.aload_n 1, 1) := by decide +kernel
theorem dX2_readContext_91 : decode cX2_readContext 91 = .ok (.dup, 1) := by decide +kernel
theorem dX2_readContext_92 : decode cX2_readContext 92 = .ok (.getfield 176, 3) := by decide +kernel
theorem dX2_readContext_95 : decode cX2_readContext 95 = .ok (.iconst 1, 1) := by decide +kernel
theorem dX2_readContext_96 : decode cX2_readContext 96 = .ok (.iadd, 1) := by decide +kernel
theorem dX2_readContext_97 : decode cX2_readContext 97 = .ok (.putfield 176, 3) := by decide +kernel
theorem dX2_readContext_100 : decode cX2_readContext 100 = .ok (.iconst 1, 1) := by decide +kernel
theorem dX2_readContext_101 : decode cX2_readContext 101 = .ok (.ireturn, 1) := by decide +kernel
theorem dX2_readOp_0 : decode cX2_readOp 0 = .ok (.aload_n 0, 1) := by decide +kernel
theorem dX2_readOp_1 : decode cX2_readOp 1 = .ok (.invokevirtual 50, 3) := by decide +kernel
theorem dX2_readOp_4 : decode cX2_readOp 4 = .ok (.pop, 1) := by decide +kernel
theorem dX2_readOp_5 : decode cX2_readOp 5 = .ok (.aload_n 0, 1) := by decide +kernel
theorem dX2_readOp_6 : decode cX2_readOp 6 = .ok (.getfield 41, 3) := by decide +kernel
theorem dX2_readOp_9 : decode cX2_readOp 9 = .ok (.istore_n 2, 1) := by decide +kernel
theorem dX2_readOp_10 : decode cX2_readOp 10 = .ok (.aload_n 0, 1) := by decide +kernel
theorem dX2_readOp_11 : decode cX2_readOp 11 = .ok (.ldc 179, 2) := by decide +kernel
theorem dX2_readOp_13 : decode cX2_readOp 13 = .ok (.invokevirtual 181, 3) := by decide +kernel
theorem dX2_readOp_16 : decode cX2_readOp 16 = .ok (.ifCond .eq 11, 3) := by decide +kernel
theorem dX2_readOp_19 : decode cX2_readOp 19 = .ok (.aload_n 1, 1) := by decide +kernel
theorem dX2_readOp_20 : decode cX2_readOp 20 = .ok (.iconst 0, 1) := by decide +kernel
theorem dX2_readOp_21 : decode cX2_readOp 21 = .ok (.putfield 185, 3) := by decide +kernel
theorem dX2_readOp_24 : decode cX2_readOp 24 = .ok (.goto 61, 3) := by decide +kernel
theorem dX2_readOp_27 : decode cX2_readOp 27 = .ok (.aload_n 0, 1) := by decide +kernel
theorem dX2_readOp_28 : decode cX2_readOp 28 = .ok (.ldc 188, 2) := by decide +kernel
theorem dX2_readOp_30 : decode cX2_readOp 30 = .ok (.invokevirtual 181, 3) := by decide +kernel
theorem dX2_readOp_33 : decode cX2_readOp 33 = .ok (.ifCond .eq 11, 3) := by decide +kernel
theorem dX2_readOp_36 : decode cX2_readOp 36 = .ok (.aload_n 1, 1) := by decide +kernel
theorem dX2_readOp_37 : decode cX2_readOp 37 = .ok (.iconst 2, 1) := by decide +kernel
theorem dX2_readOp_38 : decode cX2_readOp 38 = .ok (.putfield 185, 3) := by decide +kernel
theorem dX2_readOp_41 : decode cX2_readOp 41 = .ok (.goto 44, 3) := by decide +kernel
theorem dX2_readOp_44 : decode cX2_readOp 44 = .ok (.aload_n 0, 1) := by decide +kernel
theorem dX2_readOp_45 : decode cX2_readOp 45 = .ok (.ldc 190, 2) := by decide +kernel
theorem dX2_readOp_47 : decode cX2_readOp 47 = .ok (.invokevirtual 181, 3) := by decide +kernel
theorem dX2_readOp_50 : decode cX2_readOp 50 = .ok (.ifCond .eq 11, 3) := by decide +kernel
theorem dX2_readOp_53 : decode cX2_readOp 53 = .ok (.aload_n 1, 1) := by decide +kernel
theorem dX2_readOp_54 : decode cX2_readOp 54 = .ok (.iconst 1, 1) := by decide +kernel
theorem dX2_readOp_55 : decode cX2_readOp 55 = .ok (.putfield 185, 3) := by decide +kernel
theorem dX2_readOp_58 : decode cX2_readOp 58 = .ok (.goto 27, 3) := by decide +kernel
theorem dX2_readOp_61 : decode cX2_readOp 61 = .ok (.aload_n 0, 1) := by decide +kernel
theorem dX2_readOp_62 : decode cX2_readOp 62 = .ok (.ldc 192, 2) := by decide +kernel
theorem dX2_readOp_64 : decode cX2_readOp 64 = .ok (.invokevirtual 181, 3) := by decide +kernel
theorem dX2_readOp_67 : decode cX2_readOp 67 = .ok (.ifCond .eq 11, 3) := by decide +kernel
theorem dX2_readOp_70 : decode cX2_readOp 70 = .ok (.aload_n 1, 1) := by decide +kernel
theorem dX2_readOp_71 : decode cX2_readOp 71 = .ok (.iconst 3, 1) := by decide +kernel
theorem dX2_readOp_72 : decode cX2_readOp 72 = .ok (.putfield 185, 3) := by decide +kernel
theorem dX2_readOp_75 : decode cX2_readOp 75 = .ok (.goto 10, 3) := by decide +kernel
theorem dX2_readOp_78 : decode cX2_readOp 78 = .ok (.aload_n 0, 1) := by decide +kernel
theorem dX2_readOp_79 : decode cX2_readOp 79 = .ok (.iconst 1, 1) := by decide +kernel
theorem dX2_readOp_80 : decode cX2_readOp 80 = .ok (.iload_n 2, 1) := by decide +kernel
theorem dX2_readOp_81 : decode cX2_readOp 81 = .ok (.invokevirtual 65, 3) := by decide +kernel
theorem dX2_readOp_84 : decode cX2_readOp 84 = .ok (.ireturn, 1) := by decide +kernel
theorem dX2_readOp_85 : decode cX2_readOp 85 = .ok (.aload_n 1, 1) := by decide +kernel
theorem dX2_readOp_86 : decode cX2_readOp 86 = .ok (.getfield 194, 3) := by decide +kernel
theorem dX2_readOp_89 : decode cX2_readOp 89 = .ok (.ifCond .ne 19, 3) := by decide +kernel
theorem dX2_readOp_92 : decode cX2_readOp 92 = .ok (.aload_n 1, 1) := by decide +kernel
theorem dX2_readOp_93 : decode cX2_readOp 93 = .ok (.invokevirtual 197, 3) := by decide +kernel
theorem dX2_readOp_96 : decode cX2_readOp 96 = .ok (.ifCond .eq 12, 3) := by decide +kernel
theorem dX2_readOp_99 : decode cX2_readOp 99 = .ok (.aload_n 0, 1) := by decide +kernel
theorem dX2_readOp_100 : decode cX2_readOp 100 = .ok (.iconst 2, 1) := by decide +kernel
theorem dX2_readOp_101 : decode cX2_readOp 101 = .ok (.iload_n 2, 1) := by decide +kernel
theorem dX2_readOp_102 : decode cX2_readOp 102 = .ok (.invokevirtual 65, 3) := by decide +kernel
theorem dX2_readOp_105 : decode cX2_readOp 105 = .ok (.ifCond .eq 7, 3) := by decide +kernel
theorem dX2_readOp_108 : decode cX2_readOp 108 = .ok (.iconst 1, 1) := by decide +kernel
theorem dX2_readOp_109 : decode cX2_readOp 109 = .ok (.goto 4, 3) := by decide +kernel
theorem dX2_readOp_112 : decode cX2_readOp 112 = .ok (.iconst 0, 1) := by decide +kernel
theorem dX2_readOp_113 : decode cX2_readOp 113 = .ok (.ireturn, 1) := by decide +kernel
theorem dX2_readPart_0 : decode cX2_readPart 0 = .ok (.aload_n 1, 1) := by decide +kernel
theorem dX2_readPart_1 : decode cX2_readPart 1 = .ok (.getfield 232, 3) := by decide +kernel
theorem dX2_readPart_4 : decode cX2_readPart 4 = .ok (.aload_n 1, 1) := by decide +kernel
theorem dX2_readPart_5 : decode cX2_readPart 5 = .ok (.getfield 237, 3) := by decide +kernel
theorem dX2_readPart_8 : decode cX2_readPart 8 = .ok (.arraylength, 1) := by decide +kernel
theorem dX2_readPart_9 : decode cX2_readPart 9 = .ok (.if_icmp .ne 10, 3) := by decide +kernel
theorem dX2_readPart_12 : decode cX2_readPart 12 = .ok (.aload_n 0, 1) := by decide +kernel
theorem dX2_readPart_13 : decode cX2_readPart 13 = .ok (.iconst 3, 1) := by decide +kernel
theorem dX2_readPart_14 : decode cX2_readPart 14 = .ok (.iload_n 2, 1) := by decide +kernel
theorem dX2_readPart_15 : decode cX2_readPart 15 = .ok (.invokevirtual 65, 3) := by decide +kernel
theorem dX2_readPart_18 : decode cX2_readPart 18 = .ok (.ireturn, 1) := by decide +kernel
theorem dX2_readPart_19 : decode cX2_readPart 19 = .ok (.aload_n 1, 1) := by decide +kernel
theorem dX2_readPart_20 : decode cX2_readPart 20 = .ok (.invokevirtual 240, 3) := by decide +kernel
theorem dX2_readPart_23 : decode cX2_readPart 23 = .ok (.iconst 0, 1) := by decide +kernel
theorem dX2_readPart_24 : decode cX2_readPart 24 = .ok (.istore 4, 2) := by decide +kernel
theorem dX2_readPart_26 : decode cX2_readPart 26 = .ok (.aload_n 0, 1) := by decide +kernel
theorem dX2_readPart_27 : decode cX2_readPart 27 = .ok (.getfield 41, 3) := by decide +kernel
theorem dX2_readPart_30 : decode cX2_readPart 30 = .ok (.aload_n 0, 1) := by decide +kernel
theorem dX2_readPart_31 : decode cX2_readPart 31 = .ok (.getfield 32, 3) := by decide +kernel
theorem dX2_readPart_34 : decode cX2_readPart 34 = .ok (.if_icmp .ge 85, 3) := by decide +kernel
theorem dX2_readPart_37 : decode cX2_readPart 37 = .ok (.aload_n 0, 1) := by decide +kernel
theorem dX2_readPart_38 : decode cX2_readPart 38 = .ok (.invokevirtual 50, 3) := by decide +kernel
theorem dX2_readPart_41 : decode cX2_readPart 41 = .ok (.invokestatic 69, 3) := by decide +kernel
theorem dX2_readPart_44 : decode cX2_readPart 44 = .ok (.ifCond .eq 75, 3) := by decide +kernel
theorem dX2_readPart_47 : decode cX2_readPart 47 = .ok (.aload_n 0, 1) := by decide +kernel
theorem dX2_readPart_48 : decode cX2_readPart 48 = .ok (.getfield 12, 3) := by decide +kernel
theorem dX2_readPart_51 : decode cX2_readPart 51 = .ok (.aload_n 0, 1) := by decide +kernel
theorem dX2_readPart_52 : decode cX2_readPart 52 = .ok (.getfield 22, 3) := by decide +kernel
theorem dX2_readPart_55 : decode cX2_readPart 55 = .ok (.aload_n 0, 1) := by decide +kernel
theorem dX2_readPart_56 : decode cX2_readPart 56 = .ok (.getfield 41, 3) := by decide +kernel
theorem dX2_readPart_59 : decode cX2_readPart 59 = .ok (.iaload, 1) := by decide +kernel
theorem dX2_readPart_60 : decode cX2_readPart 60 = .ok (.invokevirtual 125, 3) := by decide +kernel
theorem dX2_readPart_63 : decode cX2_readPart 63 = .ok (.istore 5, 2) := by decide +kernel
theorem dX2_readPart_65 : decode cX2_readPart 65 = .ok (.iload 5, 2) := by decide +kernel
theorem dX2_readPart_67 : decode cX2_readPart 67 = .ok (.ifCond .ne 13, 3) := by decide +kernel
theorem dX2_readPart_70 : decode cX2_readPart 70 = .ok (.aload_n 0, 1) := by decide +kernel
theorem dX2_readPart_71 : decode cX2_readPart 71 = .ok (.iconst 2, 1) := by decide +kernel
theorem dX2_readPart_72 : decode cX2_readPart 72 = .ok (.aload_n 0, 1) := by decide +kernel
theorem dX2_readPart_73 : decode cX2_readPart 73 = .ok (.getfield 41, 3) := by decide +kernel
theorem dX2_readPart_76 : decode cX2_readPart 76 = .ok (.invokevirtual 65, 3) := by decide +kernel
theorem dX2_readPart_79 : decode cX2_readPart 79 = .ok (.ireturn, 1) := by decide +kernel
theorem dX2_readPart_80 : decode cX2_readPart 80 = .ok (.iload 4, 2) := by decide +kernel
theorem dX2_readPart_82 : decode cX2_readPart 82 = .ok (.bipush 6, 2) := by decide +kernel
theorem dX2_readPart_84 : decode cX2_readPart 84 = .ok (.if_icmp .ne 13, 3) := by decide +kernel
theorem dX2_readPart_87 : decode cX2_readPart 87 = .ok (.aload_n 0, 1) := by decide +kernel
theorem dX2_readPart_88 : decode cX2_readPart 88 = .ok (.iconst 3, 1) := by decide +kernel
theorem dX2_readPart_89 : decode cX2_readPart 89 = .ok (.aload_n 0, 1) := by decide +kernel
theorem dX2_readPart_90 : decode cX2_readPart 90 = .ok (.getfield 41, 3) := by decide +kernel
theorem dX2_readPart_93 : decode cX2_readPart 93 = .ok (.invokevirtual 65, 3) := by decide +kernel
theorem dX2_readPart_96 : decode cX2_readPart 96 = .ok (.ireturn, 1) := by decide +kernel
theorem dX2_readPart_97 : decode cX2_readPart 97 = .ok (.aload_n 1, 1) := by decide +kernel
theorem dX2_readPart_98 : decode cX2_readPart 98 = .ok (.iload 5, 2) := by decide +kernel
theorem dX2_readPart_100 : decode cX2_readPart 100 = .ok (.invokevirtual 243, 3) := by decide +kernel
theorem dX2_readPart_103 : decode cX2_readPart 103 = .ok (.aload_n 0, 1) := by decide +kernel
theorem dX2_readPart_104 : decode cX2_readPart 104 = .ok (.dup, 1) := by decide +kernel
theorem dX2_readPart_105 : decode cX2_readPart 105 = .ok (.getfield 41, 3) := by decide +kernel
theorem dX2_readPart_108 : decode cX2_readPart 108 = .ok (.iconst 1, 1) := by decide +kernel
theorem dX2_readPart_109 : decode cX2_readPart 109 = .ok (.iadd, 1) := by decide +kernel
theorem dX2_readPart_110 : decode cX2_readPart 110 = .ok (.putfield 41, 3) := by decide +kernel
theorem dX2_readPart_113 : decode cX2_readPart 113 = .ok (.iinc 4 1, 3) := by decide +kernel
theorem dX2_readPart_116 : decode cX2_readPart 116 = .ok (.goto (-90), 3) := by decide +kernel
theorem dX2_readPart_119 : decode cX2_readPart 119 = .ok (.iload 4, 2) := by decide +kernel
theorem dX2_readPart_121 : decode cX2_readPart 121 = .ok (.iload_n 3, 1) := by decide +kernel
theorem dX2_readPart_122 : decode cX2_readPart 122 = .ok (.if_icmp .ge 15, 3) := by decide +kernel
theorem dX2_readPart_125 : decode cX2_readPart 125 = .ok (.aload_n 0, 1) := by decide +kernel
theorem dX2_readPart_126 : decode cX2_readPart 126 = .ok (.iconst 1, 1) := by decide +kernel
theorem dX2_readPart_127 : decode cX2_readPart 127 = .ok (.aload_n 0, 1) := by decide +kernel
theorem dX2_readPart_128 : decode cX2_readPart 128 = .ok (.getfield 41, 3) := by decide +kernel
theorem dX2_readPart_131 : decode cX2_readPart 131 = .ok (.invokevirtual 65, 3) := by decide +kernel
theorem dX2_readPart_134 : decode cX2_readPart 134 = .ok (.ifCond .eq 7, 3) := by decide +kernel
theorem dX2_readPart_137 : decode cX2_readPart 137 = .ok (.iconst 1, 1) := by decide +kernel
theorem dX2_readPart_138 : decode cX2_readPart 138 = .ok (.goto 4, 3) := by decide +kernel
theorem dX2_readPart_141 : decode cX2_readPart 141 = .ok (.iconst 0, 1) := by decide +kernel
theorem dX2_readPart_142 : decode cX2_readPart 142 = .ok (.ireturn, 1) := by decide +kernel
theorem dX2_readRule_0 : decode cX2_readRule 0 = .ok (.aload_n 0, 1) := by decide +kernel
theorem dX2_readRule_1 : decode cX2_readRule 1 = .ok (.getfield 12, 3) := by decide +kernel
theorem dX2_readRule_4 : decode cX2_readRule 4 = .ok (.getfield 154, 3) := by decide +kernel
theorem dX2_readRule_7 : decode cX2_readRule 7 = .ok (.bipush 8, 2) := by decide +kernel
theorem dX2_readRule_9 : decode cX2_readRule 9 = .ok (.if_icmp .ne 10, 3) := by decide +kernel
theorem dX2_readRule_12 : decode cX2_readRule 12 = .ok (.aload_n 0, 1) := by decide +kernel
theorem dX2_readRule_13 : decode cX2_readRule 13 = .ok (.iconst 3, 1) := by decide +kernel
theorem dX2_readRule_14 : decode cX2_readRule 14 = .ok (.iload_n 1, 1) := by decide +kernel
theorem dX2_readRule_15 : decode cX2_readRule 15 = .ok (.invokevirtual 65, 3) := by decide +kernel
theorem dX2_readRule_18 : decode cX2_readRule 18 = .ok (.ireturn, 1) := by decide +kernel
theorem dX2_readRule_19 : decode cX2_readRule 19 = .ok (.aload_n 0, 1) := by decide +kernel
theorem dX2_readRule_20 : decode cX2_readRule 20 = .ok (.invokevirtual 91, 3) := by decide +kernel
theorem dX2_readRule_23 : decode cX2_readRule 23 = .ok (.ifCond .ne 5, 3) := by decide +kernel
theorem dX2_readRule_26 : decode cX2_readRule 26 = .ok (.iconst 0, 1) := by decide +kernel
theorem dX2_readRule_27 : decode cX2_readRule 27 = .ok (.ireturn, 1) := by decide +kernel
theorem dX2_readRule_28 : decode cX2_readRule 28 = .ok (.aload_n 0, 1) := by decide +kernel
theorem dX2_readRule_29 : decode cX2_readRule 29 = .ok (.getfield 12, 3) := by decide +kernel
theorem dX2_readRule_32 : decode cX2_readRule 32 = .ok (.getfield 157, 3) := by decide +kernel
theorem dX2_readRule_35 : decode cX2_readRule 35 = .ok (.aload_n 0, 1) := by decide +kernel
theorem dX2_readRule_36 : decode cX2_readRule 36 = .ok (.getfield 12, 3) := by decide +kernel
theorem dX2_readRule_39 : decode cX2_readRule 39 = .ok (.getfield 154, 3) := by decide +kernel
theorem dX2_readRule_42 : decode cX2_readRule 42 = .ok (.aaload, 1) := by decide +kernel
theorem dX2_readRule_43 : decode cX2_readRule 43 = .ok (.astore_n 2, 1) := by decide +kernel
theorem dX2_readRule_44 : decode cX2_readRule 44 = .ok (.aload_n 2, 1) := by decide +kernel
theorem dX2_readRule_45 : decode cX2_readRule 45 = .ok (.aload_n 0, 1) := by decide +kernel
theorem dX2_readRule_46 : decode cX2_readRule 46 = .ok (.getfield 145, 3) := by decide +kernel
theorem dX2_readRule_49 : decode cX2_readRule 49 = .ok (.aload_n 0, 1) := by decide +kernel
theorem dX2_readRule_50 : decode cX2_readRule 50 = .ok (.getfield 148, 3) := by decide +kernel
theorem dX2_readRule_53 : decode cX2_readRule 53 = .ok (.invokevirtual 161, 3) := by decide +kernel
theorem dX2_readRule_56 : decode cX2_readRule 56 = .ok (.aload_n 0, 1) := by decide +kernel
theorem dX2_readRule_57 : decode cX2_readRule 57 = .ok (.aload_n 2, 1) := by decide +kernel
theorem dX2_readRule_58 : decode cX2_readRule 58 = .ok (.invokevirtual 166, 3) := by decide +kernel
theorem dX2_readRule_61 : decode cX2_readRule 61 = .ok (.ifCond .ne 5, 3) := by decide +kernel
theorem dX2_readRule_64 : decode cX2_readRule 64 = .ok (.iconst 0, 1) := by decide +kernel
theorem dX2_readRule_65 : decode cX2_readRule 65 = .ok (.ireturn, 1) := by decide +kernel
theorem dX2_readRule_66 : decode cX2_readRule 66 = .ok (.iconst 0, 1) := by decide +kernel
theorem dX2_readRule_67 : decode cX2_readRule 67 = .ok (.istore_n 3, 1) := by decide +kernel
theorem dX2_readRule_68 : decode cX2_readRule 68 = .ok (.iload_n 3, 1) := by decide +kernel
theorem dX2_readRule_69 : decode cX2_readRule 69 = .ok (.iconst 3, 1) := by decide +kernel
theorem dX2_readRule_70 : decode cX2_readRule 70 = .ok (.if_icmp .gt 59, 3) := by decide +kernel
theorem dX2_readRule_73 : decode cX2_readRule 73 = .ok (.aload_n 0, 1) := by decide +kernel
theorem dX2_readRule_74 : decode cX2_readRule 74 = .ok (.aload_n 2, 1) := by decide +kernel
theorem dX2_readRule_75 : decode cX2_readRule 75 = .ok (.invokevirtual 170, 3) := by decide +kernel
theorem dX2_readRule_78 : decode cX2_readRule 78 = .ok (.ifCond .ne 5, 3) := by decide +kernel
theorem dX2_readRule_81 : decode cX2_readRule 81 = .ok (.iconst 0, 1) := by decide +kernel
theorem dX2_readRule_82 : decode cX2_readRule 82 = .ok (.ireturn, 1) := by decide +kernel
theorem dX2_readRule_83 : decode cX2_readRule 83 = .ok (.aload_n 0, 1) := by decide +kernel
theorem dX2_readRule_84 : decode cX2_readRule 84 = .ok (.bipush 124, 2) := by decide +kernel
theorem dX2_readRule_86 : decode cX2_readRule 86 = .ok (.invokevirtual 173, 3) := by decide +kernel
theorem dX2_readRule_89 : decode cX2_readRule 89 = .ok (.ifCond .ne 6, 3) := by decide +kernel
theorem dX2_readRule_92 : decode cX2_readRule 92 = .ok (.goto 37, 3) := by decide +kernel
theorem dX2_readRule_95 : decode cX2_readRule 95 = .ok (.aload_n 2, 1) := by decide +kernel
theorem dX2_readRule_96 : decode cX2_readRule 96 = .ok (.getfield 176, 3) := by decide +kernel
theorem dX2_readRule_99 : decode cX2_readRule 99 = .ok (.iconst 3, 1) := by decide +kernel
theorem dX2_readRule_100 : decode cX2_readRule 100 = .ok (.if_icmp .ne 13, 3) := by decide +kernel
theorem dX2_readRule_103 : decode cX2_readRule 103 = .ok (.aload_n 0, 1) := by decide +kernel
theorem dX2_readRule_104 : decode cX2_readRule 104 = .ok (.iconst 3, 1) := by decide +kernel
theorem dX2_readRule_105 : decode cX2_readRule 105 = .ok (.aload_n 0, 1) := by decide +kernel
theorem dX2_readRule_106 : decode cX2_readRule 106 = .ok (.getfield 41, 3) := by decide +kernel
theorem dX2_readRule_109 : decode cX2_readRule 109 = .ok (.invokevirtual 65, 3) := by decide +kernel
theorem dX2_readRule_112 : decode cX2_readRule 112 = .ok (.ireturn, 1) := by decide +kernel
theorem dX2_readRule_113 : decode cX2_readRule 113 = .ok (.aload_n 0, 1) := by decide +kernel
theorem dX2_readRule_114 : decode cX2_readRule 114 = .ok (.dup, 1) := by decide +kernel
theorem dX2_readRule_115 : decode cX2_readRule 115 = .ok (.getfield 41, 3) := by decide +kernel
theorem dX2_readRule_118 : decode cX2_readRule 118 = .ok (.iconst 1, 1) := by decide +kernel
theorem dX2_readRule_119 : decode cX2_readRule 119 = .ok (.iadd, 1) := by decide +kernel
theorem dX2_readRule_120 : decode cX2_readRule 120 = .ok (.putfield 41, 3) := by decide +kernel
theorem dX2_readRule_123 : decode cX2_readRule 123 = .ok (.iinc 3 1, 3) := by decide +kernel
theorem dX2_readRule_126 : decode cX2_readRule 126 = .ok (.goto (-58), 3) := by decide +kernel
theorem dX2_readRule_129 : decode cX2_readRule 129 = .ok (.aload_n 0, 1) := by decide +kernel
theorem dX2_readRule_130 : decode cX2_readRule 130 = .ok (.getfield 12, 3) := by decide +kernel
theorem dX2_readRule_133 : decode cX2_readRule 133 = .ok (.dup, 1) := by decide +kernel
theorem dX2_readRule_134 : decode cX2_readRule 134 = .ok (.getfield 154, 3) := by decide +kernel
theorem dX2_readRule_137 : decode cX2_readRule 137 = .ok (.iconst 1, 1) := by decide +kernel
theorem dX2_readRule_138 : decode cX2_readRule 138 = .ok (.iadd, 1) := by decide +kernel
theorem dX2_readRule_139 : decode cX2_readRule 139 = .ok (.putfield 154, 3) := by decide +kernel
theorem dX2_readRule_142 : decode cX2_readRule 142 = .ok (.iconst 1, 1) := by decide +kernel
theorem dX2_readRule_143 : decode cX2_readRule 143 = .ok (.ireturn, 1) := by decide +kernel
theorem dX2_readStatement_0 : decode cX2_readStatement 0 = .ok (.aload_n 0, 1) := by decide +kernel
theorem dX2_readStatement_1 : decode cX2_readStatement 1 = .ok (.getfield 41, 3) := by decide +kernel
theorem dX2_readStatement_4 : decode cX2_readStatement 4 = .ok (.istore_n 1, 1) := by decide +kernel
theorem dX2_readStatement_5 : decode cX2_readStatement 5 = .ok (.aload_n 0, 1) := by decide +kernel
theorem dX2_readStatement_6 : decode cX2_readStatement 6 = .ok (.getfield 41, 3) := by decide +kernel
theorem dX2_readStatement_9 : decode cX2_readStatement 9 = .ok (.aload_n 0, 1) := by decide +kernel
theorem dX2_readStatement_10 : decode cX2_readStatement 10 = .ok (.getfield 32, 3) := by decide +kernel
theorem dX2_readStatement_13 : decode cX2_readStatement 13 = .ok (.if_icmp .ge 31, 3) := by decide +kernel
theorem dX2_readStatement_16 : decode cX2_readStatement 16 = .ok (.aload_n 0, 1) := by decide +kernel
theorem dX2_readStatement_17 : decode cX2_readStatement 17 = .ok (.getfield 22, 3) := by decide +kernel
theorem dX2_readStatement_20 : decode cX2_readStatement 20 = .ok (.aload_n 0, 1) := by decide +kernel
theorem dX2_readStatement_21 : decode cX2_readStatement 21 = .ok (.getfield 41, 3) := by decide +kernel
theorem dX2_readStatement_24 : decode cX2_readStatement 24 = .ok (.iaload, 1) := by decide +kernel
theorem dX2_readStatement_25 : decode cX2_readStatement 25 = .ok (.invokestatic 69, 3) := by decide +kernel
theorem dX2_readStatement_28 : decode cX2_readStatement 28 = .ok (.ifCond .eq 16, 3) := by decide +kernel
theorem dX2_readStatement_31 : decode cX2_readStatement 31 = .ok (.aload_n 0, 1) := by decide +kernel
theorem dX2_readStatement_32 : decode cX2_readStatement 32 = .ok (.dup, 1) := by decide +kernel
theorem dX2_readStatement_33 : decode cX2_readStatement 33 = .ok (.getfield 41, 3) := by decide +kernel
theorem dX2_readStatement_36 : decode cX2_readStatement 36 = .ok (.iconst 1, 1) := by decide +kernel
theorem dX2_readStatement_37 : decode cX2_readStatement 37 = .ok (.iadd, 1) := by decide +kernel
theorem dX2_readStatement_38 : decode cX2_readStatement 38 = .ok (.putfield 41, 3) := by decide +kernel
theorem dX2_readStatement_41 : decode cX2_readStatement 41 = .ok (.goto (-36), 3) := by decide +kernel
theorem dX2_readStatement_44 : decode cX2_readStatement 44 = .ok (.aload_n 0, 1) := by decide +kernel
theorem dX2_readStatement_45 : decode cX2_readStatement 45 = .ok (.ldc 75, 2) := by decide +kernel
theorem dX2_readStatement_47 : decode cX2_readStatement 47 = .ok (.iload_n 1, 1) := by decide +kernel
theorem dX2_readStatement_48 : decode cX2_readStatement 48 = .ok (.invokevirtual 77, 3) := by decide +kernel
theorem dX2_readStatement_51 : decode cX2_readStatement 51 = .ok (.ifCond .eq 11, 3) := by decide +kernel
theorem dX2_readStatement_54 : decode cX2_readStatement 54 = .ok (.aload_n 0, 1) := by decide +kernel
theorem dX2_readStatement_55 : decode cX2_readStatement 55 = .ok (.invokevirtual 81, 3) := by decide +kernel
theorem dX2_readStatement_58 : decode cX2_readStatement 58 = .ok (.istore_n 2, 1) := by decide +kernel
theorem dX2_readStatement_59 : decode cX2_readStatement 59 = .ok (.goto 119, 3) := by decide +kernel
theorem dX2_readStatement_62 : decode cX2_readStatement 62 = .ok (.aload_n 0, 1) := by decide +kernel
theorem dX2_readStatement_63 : decode cX2_readStatement 63 = .ok (.ldc 84, 2) := by decide +kernel
theorem dX2_readStatement_65 : decode cX2_readStatement 65 = .ok (.iload_n 1, 1) := by decide +kernel
theorem dX2_readStatement_66 : decode cX2_readStatement 66 = .ok (.invokevirtual 77, 3) := by decide +kernel
theorem dX2_readStatement_69 : decode cX2_readStatement 69 = .ok (.ifCond .eq 11, 3) := by decide +kernel
theorem dX2_readStatement_72 : decode cX2_readStatement 72 = .ok (.aload_n 0, 1) := by decide +kernel
theorem dX2_readStatement_73 : decode cX2_readStatement 73 = .ok (.invokevirtual 86, 3) := by decide +kernel
theorem dX2_readStatement_76 : decode cX2_readStatement 76 = .ok (.istore_n 2, 1) := by decide +kernel
theorem dX2_readStatement_77 : decode cX2_readStatement 77 = .ok (.goto 101, 3) := by decide +kernel
theorem dX2_readStatement_80 : decode cX2_readStatement 80 = .ok (.aload_n 0, 1) := by decide +kernel
theorem dX2_readStatement_81 : decode cX2_readStatement 81 = .ok (.ldc 89, 2) := by decide +kernel
theorem dX2_readStatement_83 : decode cX2_readStatement 83 = .ok (.iload_n 1, 1) := by decide +kernel
theorem dX2_readStatement_84 : decode cX2_readStatement 84 = .ok (.invokevirtual 77, 3) := by decide +kernel
theorem dX2_readStatement_87 : decode cX2_readStatement 87 = .ok (.ifCond .eq 11, 3) := by decide +kernel
theorem dX2_readStatement_90 : decode cX2_readStatement 90 = .ok (.aload_n 0, 1) := by decide +kernel
theorem dX2_readStatement_91 : decode cX2_readStatement 91 = .ok (.invokevirtual 91, 3) := by decide +kernel
theorem dX2_readStatement_94 : decode cX2_readStatement 94 = .ok (.istore_n 2, 1) := by decide +kernel
theorem dX2_readStatement_95 : decode cX2_readStatement 95 = .ok (.goto 83, 3) := by decide +kernel
theorem dX2_readStatement_98 : decode cX2_readStatement 98 = .ok (.aload_n 0, 1) := by decide +kernel
theorem dX2_readStatement_99 : decode cX2_readStatement 99 = .ok (.ldc 94, 2) := by decide +kernel
theorem dX2_readStatement_101 : decode cX2_readStatement 101 = .ok (.iload_n 1, 1) := by decide +kernel
theorem dX2_readStatement_102 : decode cX2_readStatement 102 = .ok (.invokevirtual 77, 3) := by decide +kernel
theorem dX2_readStatement_105 : decode cX2_readStatement 105 = .ok (.ifCond .eq 12, 3) := by decide +kernel
theorem dX2_readStatement_108 : decode cX2_readStatement 108 = .ok (.aload_n 0, 1) := by decide +kernel
theorem dX2_readStatement_109 : decode cX2_readStatement 109 = .ok (.iload_n 1, 1) := by decide +kernel
theorem dX2_readStatement_110 : decode cX2_readStatement 110 = .ok (.invokevirtual 96, 3) := by decide +kernel
theorem dX2_readStatement_113 : decode cX2_readStatement 113 = .ok (.istore_n 2, 1) := by decide +kernel
theorem dX2_readStatement_114 : decode cX2_readStatement 114 = .ok (.goto 64, 3) := by decide +kernel
theorem dX2_readStatement_117 : decode cX2_readStatement 117 = .ok (.aload_n 0, 1) := by decide +kernel
theorem dX2_readStatement_118 : decode cX2_readStatement 118 = .ok (.ldc 99, 2) := by decide +kernel
theorem dX2_readStatement_120 : decode cX2_readStatement 120 = .ok (.iload_n 1, 1) := by decide +kernel
theorem dX2_readStatement_121 : decode cX2_readStatement 121 = .ok (.invokevirtual 77, 3) := by decide +kernel
theorem dX2_readStatement_124 : decode cX2_readStatement 124 = .ok (.ifCond .eq 20, 3) := by decide +kernel
theorem dX2_readStatement_127 : decode cX2_readStatement 127 = .ok (.aload_n 0, 1) := by decide +kernel
theorem dX2_readStatement_128 : decode cX2_readStatement 128 = .ok (.aload_n 0, 1) := by decide +kernel
theorem dX2_readStatement_129 : decode cX2_readStatement 129 = .ok (.getfield 12, 3) := by decide +kernel
theorem dX2_readStatement_132 : decode cX2_readStatement 132 = .ok (.getfield 101, 3) := by decide +kernel
theorem dX2_readStatement_135 : decode cX2_readStatement 135 = .ok (.iload_n 1, 1) := by decide +kernel
theorem dX2_readStatement_136 : decode cX2_readStatement 136 = .ok (.iconst 1, 1) := by decide +kernel
theorem dX2_readStatement_137 : decode cX2_readStatement 137 = .ok (.invokevirtual 105, 3) := by decide +kernel
theorem dX2_readStatement_140 : decode cX2_readStatement 140 = .ok (.istore_n 2, 1) := by decide +kernel
theorem dX2_readStatement_141 : decode cX2_readStatement 141 = .ok (.goto 37, 3) := by decide +kernel
theorem dX2_readStatement_144 : decode cX2_readStatement 144 = .ok (.aload_n 0, 1) := by decide +kernel
theorem dX2_readStatement_145 : decode cX2_readStatement 145 = .ok (.ldc 109, 2) := by decide +kernel
theorem dX2_readStatement_147 : decode cX2_readStatement 147 = .ok (.iload_n 1, 1) := by decide +kernel
theorem dX2_readStatement_148 : decode cX2_readStatement 148 = .ok (.invokevirtual 77, 3) := by decide +kernel
theorem dX2_readStatement_151 : decode cX2_readStatement 151 = .ok (.ifCond .eq 20, 3) := by decide +kernel
theorem dX2_readStatement_154 : decode cX2_readStatement 154 = .ok (.aload_n 0, 1) := by decide +kernel
theorem dX2_readStatement_155 : decode cX2_readStatement 155 = .ok (.aload_n 0, 1) := by decide +kernel
theorem dX2_readStatement_156 : decode cX2_readStatement 156 = .ok (.getfield 12, 3) := by decide +kernel
theorem dX2_readStatement_159 : decode cX2_readStatement 159 = .ok (.getfield 111, 3) := by decide +kernel
theorem dX2_readStatement_162 : decode cX2_readStatement 162 = .ok (.iload_n 1, 1) := by decide +kernel
theorem dX2_readStatement_163 : decode cX2_readStatement 163 = .ok (.iconst 0, 1) := by decide +kernel
theorem dX2_readStatement_164 : decode cX2_readStatement 164 = .ok (.invokevirtual 105, 3) := by decide +kernel
theorem dX2_readStatement_167 : decode cX2_readStatement 167 = .ok (.istore_n 2, 1) := by decide +kernel
theorem dX2_readStatement_168 : decode cX2_readStatement 168 = .ok (.goto 10, 3) := by decide +kernel
theorem dX2_readStatement_171 : decode cX2_readStatement 171 = .ok (.aload_n 0, 1) := by decide +kernel
theorem dX2_readStatement_172 : decode cX2_readStatement 172 = .ok (.iconst 1, 1) := by decide +kernel
theorem dX2_readStatement_173 : decode cX2_readStatement 173 = .ok (.iload_n 1, 1) := by decide +kernel
theorem dX2_readStatement_174 : decode cX2_readStatement 174 = .ok (.invokevirtual 65, 3) := by decide +kernel
theorem dX2_readStatement_177 : decode cX2_readStatement 177 = .ok (.istore_n 2, 1) := by decide +kernel
theorem dX2_readStatement_178 : decode cX2_readStatement 178 = .ok (.iload_n 2, 1) := by decide +kernel
theorem dX2_readStatement_179 : decode cX2_readStatement 179 = .ok (.ifCond .eq 16, 3) := by decide +kernel
theorem dX2_readStatement_182 : decode cX2_readStatement 182 = .ok (.aload_n 0, 1) := by decide +kernel
theorem dX2_readStatement_183 : decode cX2_readStatement 183 = .ok (.bipush 59, 2) := by decide +kernel
theorem dX2_readStatement_185 : decode cX2_readStatement 185 = .ok (.invokevirtual 114, 3) := by decide +kernel
theorem dX2_readStatement_188 : decode cX2_readStatement 188 = .ok (.ifCond .eq 7, 3) := by decide +kernel
theorem dX2_readStatement_191 : decode cX2_readStatement 191 = .ok (.iconst 1, 1) := by decide +kernel
theorem dX2_readStatement_192 : decode cX2_readStatement 192 = .ok (.goto 4, 3) := by decide +kernel
theorem dX2_readStatement_195 : decode cX2_readStatement 195 = .ok (.iconst 0, 1) := by decide +kernel
theorem dX2_readStatement_196 : decode cX2_readStatement 196 = .ok (.ireturn, 1) := by decide +kernel
theorem dX2_read_0 : decode cX2_read 0 = .ok (.aload_n 0, 1) := by decide +kernel
theorem dX2_read_1 : decode cX2_read 1 = .ok (.iload_n 2, 1) := by decide +kernel
theorem dX2_read_2 : decode cX2_read 2 = .ok (.aload_n 0, 1) := by decide +kernel
theorem dX2_read_3 : decode cX2_read 3 = .ok (.getfield 22, 3) := by decide +kernel
theorem dX2_read_6 : decode cX2_read 6 = .ok (.arraylength, 1) := by decide +kernel
theorem dX2_read_7 : decode cX2_read 7 = .ok (.invokestatic 26, 3) := by decide +kernel
theorem dX2_read_10 : decode cX2_read 10 = .ok (.putfield 32, 3) := by decide +kernel
theorem dX2_read_13 : decode cX2_read 13 = .ok (.aload_n 1, 1) := by decide +kernel
theorem dX2_read_14 : decode cX2_read 14 = .ok (.iconst 0, 1) := by decide +kernel
theorem dX2_read_15 : decode cX2_read 15 = .ok (.aload_n 0, 1) := by decide +kernel
theorem dX2_read_16 : decode cX2_read 16 = .ok (.getfield 22, 3) := by decide +kernel
theorem dX2_read_19 : decode cX2_read 19 = .ok (.iconst 0, 1) := by decide +kernel
theorem dX2_read_20 : decode cX2_read 20 = .ok (.aload_n 0, 1) := by decide +kernel
theorem dX2_read_21 : decode cX2_read 21 = .ok (.getfield 32, 3) := by decide +kernel
theorem dX2_read_24 : decode cX2_read 24 = .ok (.invokestatic 35, 3) := by decide +kernel
theorem dX2_read_27 : decode cX2_read 27 = .ok (.aload_n 0, 1) := by decide +kernel
theorem dX2_read_28 : decode cX2_read 28 = .ok (.iconst 0, 1) := by decide +kernel
theorem dX2_read_29 : decode cX2_read 29 = .ok (.putfield 41, 3) := by decide +kernel
theorem dX2_read_32 : decode cX2_read 32 = .ok (.aload_n 0, 1) := by decide +kernel
theorem dX2_read_33 : decode cX2_read 33 = .ok (.iconst 0, 1) := by decide +kernel
theorem dX2_read_34 : decode cX2_read 34 = .ok (.putfield 44, 3) := by decide +kernel
theorem dX2_read_37 : decode cX2_read 37 = .ok (.aload_n 0, 1) := by decide +kernel
theorem dX2_read_38 : decode cX2_read 38 = .ok (.iconst (-1), 1) := by decide +kernel
theorem dX2_read_39 : decode cX2_read 39 = .ok (.putfield 18, 3) := by decide +kernel
theorem dX2_read_42 : decode cX2_read 42 = .ok (.aload_n 0, 1) := by decide +kernel
theorem dX2_read_43 : decode cX2_read 43 = .ok (.getfield 12, 3) := by decide +kernel
theorem dX2_read_46 : decode cX2_read 46 = .ok (.invokevirtual 47, 3) := by decide +kernel
theorem dX2_read_49 : decode cX2_read 49 = .ok (.iconst 0, 1) := by decide +kernel
theorem dX2_read_50 : decode cX2_read 50 = .ok (.istore_n 3, 1) := by decide +kernel
theorem dX2_read_51 : decode cX2_read 51 = .ok (.iload_n 3, 1) := by decide +kernel
theorem dX2_read_52 : decode cX2_read 52 = .ok (.aload_n 0, 1) := by decide +kernel
theorem dX2_read_53 : decode cX2_read 53 = .ok (.getfield 32, 3) := by decide +kernel
theorem dX2_read_56 : decode cX2_read 56 = .ok (.if_icmp .gt 26, 3) := by decide +kernel
theorem dX2_read_59 : decode cX2_read 59 = .ok (.aload_n 0, 1) := by decide +kernel
theorem dX2_read_60 : decode cX2_read 60 = .ok (.invokevirtual 50, 3) := by decide +kernel
theorem dX2_read_63 : decode cX2_read 63 = .ok (.iconst (-1), 1) := by decide +kernel
theorem dX2_read_64 : decode cX2_read 64 = .ok (.if_icmp .eq 18, 3) := by decide +kernel
theorem dX2_read_67 : decode cX2_read 67 = .ok (.aload_n 0, 1) := by decide +kernel
theorem dX2_read_68 : decode cX2_read 68 = .ok (.invokevirtual 54, 3) := by decide +kernel
theorem dX2_read_71 : decode cX2_read 71 = .ok (.ifCond .ne 5, 3) := by decide +kernel
theorem dX2_read_74 : decode cX2_read 74 = .ok (.iconst 0, 1) := by decide +kernel
theorem dX2_read_75 : decode cX2_read 75 = .ok (.ireturn, 1) := by decide +kernel
theorem dX2_read_76 : decode cX2_read 76 = .ok (.iinc 3 1, 3) := by decide +kernel
theorem dX2_read_79 : decode cX2_read 79 = .ok (.goto (-28), 3) := by decide +kernel
theorem dX2_read_82 : decode cX2_read 82 = .ok (.aload_n 0, 1) := by decide +kernel
theorem dX2_read_83 : decode cX2_read 83 = .ok (.getfield 12, 3) := by decide +kernel
theorem dX2_read_86 : decode cX2_read 86 = .ok (.invokevirtual 58, 3) := by decide +kernel
theorem dX2_read_89 : decode cX2_read 89 = .ok (.iconst 1, 1) := by decide +kernel
theorem dX2_read_90 : decode cX2_read 90 = .ok (.ireturn, 1) := by decide +kernel
