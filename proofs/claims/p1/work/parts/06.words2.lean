theorem dJ6_bitCount_0f7a4_25 : decode cJ6_bitCount_0f7a4 25 = .ok (.iload_n 0, 1) := by decide +kernel
theorem dJ6_bitCount_0f7a4_26 : decode cJ6_bitCount_0f7a4 26 = .ok (.iconst 4, 1) := by decide +kernel
theorem dJ6_bitCount_0f7a4_27 : decode cJ6_bitCount_0f7a4 27 = .ok (.iushr, 1) := by decide +kernel
theorem dJ6_bitCount_0f7a4_28 : decode cJ6_bitCount_0f7a4 28 = .ok (.iadd, 1) := by decide +kernel
theorem dJ6_bitCount_0f7a4_29 : decode cJ6_bitCount_0f7a4 29 = .ok (.ldc_w 267, 3) := by decide +kernel
theorem dJ6_bitCount_0f7a4_32 : decode cJ6_bitCount_0f7a4 32 = .ok (.iand, 1) := by decide +kernel
theorem dJ6_bitCount_0f7a4_33 : decode cJ6_bitCount_0f7a4 33 = .ok (.istore_n 0, 1) := by decide +kernel
theorem dJ6_bitCount_0f7a4_34 : decode cJ6_bitCount_0f7a4 34 = .ok (.iload_n 0, 1) := by decide +kernel
theorem dJ6_bitCount_0f7a4_35 : decode cJ6_bitCount_0f7a4 35 = .ok (.iload_n 0, 1) := by decide +kernel
theorem dJ6_bitCount_0f7a4_36 : decode cJ6_bitCount_0f7a4 36 = .ok (.bipush 8, 2) := by decide +kernel
theorem dJ6_bitCount_0f7a4_38 : decode cJ6_bitCount_0f7a4 38 = .ok (.iushr, 1) := by decide +kernel
theorem dJ6_bitCount_0f7a4_39 : decode cJ6_bitCount_0f7a4 39 = .ok (.iadd, 1) := by decide +kernel
theorem dJ6_bitCount_0f7a4_40 : decode cJ6_bitCount_0f7a4 40 = .ok (.istore_n 0, 1) := by decide +kernel
theorem dJ6_bitCount_0f7a4_41 : decode cJ6_bitCount_0f7a4 41 = .ok (.iload_n 0, 1) := by decide +kernel
theorem dJ6_bitCount_0f7a4_42 : decode cJ6_bitCount_0f7a4 42 = .ok (.iload_n 0, 1) := by decide +kernel
theorem dJ6_bitCount_0f7a4_43 : decode cJ6_bitCount_0f7a4 43 = .ok (.bipush 16, 2) := by decide +kernel
theorem dJ6_bitCount_0f7a4_45 : decode cJ6_bitCount_0f7a4 45 = .ok (.iushr, 1) := by decide +kernel
theorem dJ6_bitCount_0f7a4_46 : decode cJ6_bitCount_0f7a4 46 = .ok (.iadd, 1) := by decide +kernel
theorem dJ6_bitCount_0f7a4_47 : decode cJ6_bitCount_0f7a4 47 = .ok (.istore_n 0, 1) := by decide +kernel
theorem dJ6_bitCount_0f7a4_48 : decode cJ6_bitCount_0f7a4 48 = .ok (.iload_n 0, 1) := by decide +kernel
theorem dJ6_bitCount_0f7a4_49 : decode cJ6_bitCount_0f7a4 49 = .ok (.bipush 63, 2) := by decide +kernel
theorem dJ6_bitCount_0f7a4_51 : decode cJ6_bitCount_0f7a4 51 = .ok (.iand, 1) := by decide +kernel
theorem dJ6_bitCount_0f7a4_52 : decode cJ6_bitCount_0f7a4 52 = .ok (.ireturn, 1) := by decide +kernel
theorem dX0_refresh_0 : decode cX0_refresh 0 = .ok (.aload_n 0, 1) := by decide +kernel
theorem dX0_refresh_1 : decode cX0_refresh 1 = .ok (.getfield 33, 3) := by decide +kernel
theorem dX0_refresh_4 : decode cX0_refresh 4 = .ok (.iload 4, 2) := by decide +kernel
theorem dX0_refresh_6 : decode cX0_refresh 6 = .ok (.if_icmp .ne 12, 3) := by decide +kernel
theorem dX0_refresh_18 : decode cX0_refresh 18 = .ok (.aload_n 0, 1) := by decide +kernel
theorem dX0_refresh_19 : decode cX0_refresh 19 = .ok (.iload 4, 2) := by decide +kernel
theorem dX0_refresh_21 : decode cX0_refresh 21 = .ok (.putfield 33, 3) := by decide +kernel
theorem dX0_refresh_24 : decode cX0_refresh 24 = .ok (.aload_n 0, 1) := by decide +kernel
theorem dX0_refresh_25 : decode cX0_refresh 25 = .ok (.iload_n 1, 1) := by decide +kernel
theorem dX0_refresh_26 : decode cX0_refresh 26 = .ok (.putfield 37, 3) := by decide +kernel
theorem dX0_refresh_29 : decode cX0_refresh 29 = .ok (.aload_n 0, 1) := by decide +kernel
theorem dX0_refresh_30 : decode cX0_refresh 30 = .ok (.iconst 0, 1) := by decide +kernel
theorem dX0_refresh_31 : decode cX0_refresh 31 = .ok (.putfield 40, 3) := by decide +kernel
theorem dX0_refresh_34 : decode cX0_refresh 34 = .ok (.iconst 0, 1) := by decide +kernel
theorem dX0_refresh_35 : decode cX0_refresh 35 = .ok (.istore 5, 2) := by decide +kernel
theorem dX0_refresh_37 : decode cX0_refresh 37 = .ok (.iload 5, 2) := by decide +kernel
theorem dX0_refresh_39 : decode cX0_refresh 39 = .ok (.aload_n 2, 1) := by decide +kernel
theorem dX0_refresh_40 : decode cX0_refresh 40 = .ok (.getfield 43, 3) := by decide +kernel
theorem dX0_refresh_43 : decode cX0_refresh 43 = .ok (.getfield 49, 3) := by decide +kernel
theorem dX0_refresh_46 : decode cX0_refresh 46 = .ok (.if_icmp .ge 62, 3) := by decide +kernel
theorem dX0_refresh_108 : decode cX0_refresh 108 = .ok (.aload_n 0, 1) := by decide +kernel
theorem dX0_refresh_109 : decode cX0_refresh 109 = .ok (.aload_n 2, 1) := by decide +kernel
theorem dX0_refresh_110 : decode cX0_refresh 110 = .ok (.aload_n 3, 1) := by decide +kernel
theorem dX0_refresh_111 : decode cX0_refresh 111 = .ok (.invokevirtual 62, 3) := by decide +kernel
theorem dX0_refresh_114 : decode cX0_refresh 114 = .ok (.iconst 0, 1) := by decide +kernel
theorem dX0_refresh_115 : decode cX0_refresh 115 = .ok (.istore 5, 2) := by decide +kernel
theorem dX0_refresh_117 : decode cX0_refresh 117 = .ok (.iload 5, 2) := by decide +kernel
theorem dX0_refresh_119 : decode cX0_refresh 119 = .ok (.bipush 73, 2) := by decide +kernel
theorem dX0_refresh_121 : decode cX0_refresh 121 = .ok (.if_icmp .ge 18, 3) := by decide +kernel
theorem dX0_refresh_124 : decode cX0_refresh 124 = .ok (.aload_n 0, 1) := by decide +kernel
theorem dX0_refresh_125 : decode cX0_refresh 125 = .ok (.getfield 24, 3) := by decide +kernel
theorem dX0_refresh_128 : decode cX0_refresh 128 = .ok (.iload 5, 2) := by decide +kernel
theorem dX0_refresh_130 : decode cX0_refresh 130 = .ok (.iload 5, 2) := by decide +kernel
theorem dX0_refresh_132 : decode cX0_refresh 132 = .ok (.iastore, 1) := by decide +kernel
theorem dX0_refresh_133 : decode cX0_refresh 133 = .ok (.iinc 5 1, 3) := by decide +kernel
theorem dX0_refresh_136 : decode cX0_refresh 136 = .ok (.goto (-19), 3) := by decide +kernel
theorem dX0_refresh_139 : decode cX0_refresh 139 = .ok (.aload_n 0, 1) := by decide +kernel
theorem dX0_refresh_140 : decode cX0_refresh 140 = .ok (.iconst (-1), 1) := by decide +kernel
theorem dX0_refresh_141 : decode cX0_refresh 141 = .ok (.putfield 66, 3) := by decide +kernel
theorem dX0_refresh_144 : decode cX0_refresh 144 = .ok (.aload_n 0, 1) := by decide +kernel
theorem dX0_refresh_145 : decode cX0_refresh 145 = .ok (.iconst 0, 1) := by decide +kernel
theorem dX0_refresh_146 : decode cX0_refresh 146 = .ok (.iconst 0, 1) := by decide +kernel
theorem dX0_refresh_147 : decode cX0_refresh 147 = .ok (.invokevirtual 69, 3) := by decide +kernel
theorem dX0_refresh_150 : decode cX0_refresh 150 = .ok (.return_, 1) := by decide +kernel
theorem dX0_fillAgrees_0 : decode cX0_fillAgrees 0 = .ok (.aload_n 0, 1) := by decide +kernel
theorem dX0_fillAgrees_1 : decode cX0_fillAgrees 1 = .ok (.getfield 15, 3) := by decide +kernel
theorem dX0_fillAgrees_4 : decode cX0_fillAgrees 4 = .ok (.iconst 0, 1) := by decide +kernel
theorem dX0_fillAgrees_5 : decode cX0_fillAgrees 5 = .ok (.invokestatic 84, 3) := by decide +kernel
theorem dX0_fillAgrees_8 : decode cX0_fillAgrees 8 = .ok (.aload_n 1, 1) := by decide +kernel
theorem dX0_fillAgrees_9 : decode cX0_fillAgrees 9 = .ok (.getfield 43, 3) := by decide +kernel
theorem dX0_fillAgrees_12 : decode cX0_fillAgrees 12 = .ok (.getfield 73, 3) := by decide +kernel
theorem dX0_fillAgrees_15 : decode cX0_fillAgrees 15 = .ok (.istore_n 3, 1) := by decide +kernel
theorem dX0_fillAgrees_16 : decode cX0_fillAgrees 16 = .ok (.iconst 1, 1) := by decide +kernel
theorem dX0_fillAgrees_17 : decode cX0_fillAgrees 17 = .ok (.istore 4, 2) := by decide +kernel
theorem dX0_fillAgrees_19 : decode cX0_fillAgrees 19 = .ok (.iload 4, 2) := by decide +kernel
theorem dX0_fillAgrees_21 : decode cX0_fillAgrees 21 = .ok (.iload_n 3, 1) := by decide +kernel
theorem dX0_fillAgrees_22 : decode cX0_fillAgrees 22 = .ok (.if_icmp .gt 106, 3) := by decide +kernel
theorem dX0_fillAgrees_128 : decode cX0_fillAgrees 128 = .ok (.return_, 1) := by decide +kernel
theorem dX0_tryOrders_0 : decode cX0_tryOrders 0 = .ok (.iload_n 1, 1) := by decide +kernel
theorem dX0_tryOrders_1 : decode cX0_tryOrders 1 = .ok (.aload_n 0, 1) := by decide +kernel
theorem dX0_tryOrders_2 : decode cX0_tryOrders 2 = .ok (.getfield 40, 3) := by decide +kernel
theorem dX0_tryOrders_5 : decode cX0_tryOrders 5 = .ok (.if_icmp .lt 9, 3) := by decide +kernel
theorem dX0_tryOrders_8 : decode cX0_tryOrders 8 = .ok (.aload_n 0, 1) := by decide +kernel
theorem dX0_tryOrders_9 : decode cX0_tryOrders 9 = .ok (.iload_n 1, 1) := by decide +kernel
theorem dX0_tryOrders_10 : decode cX0_tryOrders 10 = .ok (.invokevirtual 115, 3) := by decide +kernel
theorem dX0_tryOrders_13 : decode cX0_tryOrders 13 = .ok (.return_, 1) := by decide +kernel
theorem dX0_judge_0 : decode cX0_judge 0 = .ok (.iconst 0, 1) := by decide +kernel
theorem dX0_judge_1 : decode cX0_judge 1 = .ok (.istore_n 2, 1) := by decide +kernel
theorem dX0_judge_2 : decode cX0_judge 2 = .ok (.iconst 0, 1) := by decide +kernel
theorem dX0_judge_3 : decode cX0_judge 3 = .ok (.istore_n 3, 1) := by decide +kernel
theorem dX0_judge_4 : decode cX0_judge 4 = .ok (.iload_n 3, 1) := by decide +kernel
theorem dX0_judge_5 : decode cX0_judge 5 = .ok (.bipush 73, 2) := by decide +kernel
theorem dX0_judge_7 : decode cX0_judge 7 = .ok (.if_icmp .ge 33, 3) := by decide +kernel
theorem dX0_judge_10 : decode cX0_judge 10 = .ok (.iload_n 2, 1) := by decide +kernel
theorem dX0_judge_11 : decode cX0_judge 11 = .ok (.aload_n 0, 1) := by decide +kernel
theorem dX0_judge_12 : decode cX0_judge 12 = .ok (.getfield 15, 3) := by decide +kernel
theorem dX0_judge_15 : decode cX0_judge 15 = .ok (.iload_n 3, 1) := by decide +kernel
theorem dX0_judge_16 : decode cX0_judge 16 = .ok (.bipush 73, 2) := by decide +kernel
theorem dX0_judge_18 : decode cX0_judge 18 = .ok (.imul, 1) := by decide +kernel
theorem dX0_judge_19 : decode cX0_judge 19 = .ok (.aload_n 0, 1) := by decide +kernel
theorem dX0_judge_20 : decode cX0_judge 20 = .ok (.getfield 24, 3) := by decide +kernel
theorem dX0_judge_23 : decode cX0_judge 23 = .ok (.iload_n 1, 1) := by decide +kernel
theorem dX0_judge_24 : decode cX0_judge 24 = .ok (.bipush 73, 2) := by decide +kernel
theorem dX0_judge_26 : decode cX0_judge 26 = .ok (.imul, 1) := by decide +kernel
theorem dX0_judge_27 : decode cX0_judge 27 = .ok (.iload_n 3, 1) := by decide +kernel
theorem dX0_judge_28 : decode cX0_judge 28 = .ok (.iadd, 1) := by decide +kernel
theorem dX0_judge_29 : decode cX0_judge 29 = .ok (.iaload, 1) := by decide +kernel
theorem dX0_judge_30 : decode cX0_judge 30 = .ok (.iadd, 1) := by decide +kernel
theorem dX0_judge_31 : decode cX0_judge 31 = .ok (.iaload, 1) := by decide +kernel
theorem dX0_judge_32 : decode cX0_judge 32 = .ok (.iadd, 1) := by decide +kernel
theorem dX0_judge_33 : decode cX0_judge 33 = .ok (.istore_n 2, 1) := by decide +kernel
theorem dX0_judge_34 : decode cX0_judge 34 = .ok (.iinc 3 1, 3) := by decide +kernel
theorem dX0_judge_37 : decode cX0_judge 37 = .ok (.goto (-33), 3) := by decide +kernel
theorem dX0_judge_40 : decode cX0_judge 40 = .ok (.iload_n 2, 1) := by decide +kernel
theorem dX0_judge_41 : decode cX0_judge 41 = .ok (.aload_n 0, 1) := by decide +kernel
theorem dX0_judge_42 : decode cX0_judge 42 = .ok (.getfield 66, 3) := by decide +kernel
theorem dX0_judge_45 : decode cX0_judge 45 = .ok (.if_icmp .le 25, 3) := by decide +kernel
theorem dX0_judge_48 : decode cX0_judge 48 = .ok (.aload_n 0, 1) := by decide +kernel
theorem dX0_judge_49 : decode cX0_judge 49 = .ok (.iload_n 2, 1) := by decide +kernel
theorem dX0_judge_50 : decode cX0_judge 50 = .ok (.putfield 66, 3) := by decide +kernel
theorem dX0_judge_53 : decode cX0_judge 53 = .ok (.aload_n 0, 1) := by decide +kernel
theorem dX0_judge_54 : decode cX0_judge 54 = .ok (.getfield 21, 3) := by decide +kernel
theorem dX0_judge_57 : decode cX0_judge 57 = .ok (.iconst 0, 1) := by decide +kernel
theorem dX0_judge_58 : decode cX0_judge 58 = .ok (.aload_n 0, 1) := by decide +kernel
theorem dX0_judge_59 : decode cX0_judge 59 = .ok (.getfield 27, 3) := by decide +kernel
theorem dX0_judge_62 : decode cX0_judge 62 = .ok (.iconst 0, 1) := by decide +kernel
theorem dX0_judge_63 : decode cX0_judge 63 = .ok (.aload_n 0, 1) := by decide +kernel
theorem dX0_judge_64 : decode cX0_judge 64 = .ok (.getfield 40, 3) := by decide +kernel
theorem dX0_judge_67 : decode cX0_judge 67 = .ok (.invokestatic 119, 3) := by decide +kernel
theorem dX0_judge_70 : decode cX0_judge 70 = .ok (.return_, 1) := by decide +kernel
theorem dX0_wordCount_0 : decode cX0_wordCount 0 = .ok (.aload_n 0, 1) := by decide +kernel
theorem dX0_wordCount_1 : decode cX0_wordCount 1 = .ok (.getfield 37, 3) := by decide +kernel
theorem dX0_wordCount_4 : decode cX0_wordCount 4 = .ok (.iconst 2, 1) := by decide +kernel
theorem dX0_wordCount_5 : decode cX0_wordCount 5 = .ok (.if_icmp .ne 11, 3) := by decide +kernel
theorem dX0_wordCount_8 : decode cX0_wordCount 8 = .ok (.iload_n 1, 1) := by decide +kernel
theorem dX0_wordCount_9 : decode cX0_wordCount 9 = .ok (.iload_n 1, 1) := by decide +kernel
theorem dX0_wordCount_10 : decode cX0_wordCount 10 = .ok (.iload_n 1, 1) := by decide +kernel
theorem dX0_wordCount_11 : decode cX0_wordCount 11 = .ok (.imul, 1) := by decide +kernel
theorem dX0_wordCount_12 : decode cX0_wordCount 12 = .ok (.iadd, 1) := by decide +kernel
theorem dX0_wordCount_13 : decode cX0_wordCount 13 = .ok (.goto 4, 3) := by decide +kernel
theorem dX0_wordCount_16 : decode cX0_wordCount 16 = .ok (.iload_n 1, 1) := by decide +kernel
theorem dX0_wordCount_17 : decode cX0_wordCount 17 = .ok (.ireturn, 1) := by decide +kernel
theorem dX11_quarrel_0 : decode cX11_quarrel 0 = .ok (.aload_n 0, 1) := by decide +kernel
theorem dX11_quarrel_1 : decode cX11_quarrel 1 = .ok (.iload_n 1, 1) := by decide +kernel
theorem dX11_quarrel_2 : decode cX11_quarrel 2 = .ok (.invokevirtual 192, 3) := by decide +kernel
theorem dX11_quarrel_5 : decode cX11_quarrel 5 = .ok (.ifCond .eq 16, 3) := by decide +kernel
theorem dX11_quarrel_21 : decode cX11_quarrel 21 = .ok (.iconst (-1), 1) := by decide +kernel
theorem dX11_quarrel_22 : decode cX11_quarrel 22 = .ok (.ireturn, 1) := by decide +kernel
theorem dX11_parts_0 : decode cX11_parts 0 = .ok (.aload_n 0, 1) := by decide +kernel
theorem dX11_parts_1 : decode cX11_parts 1 = .ok (.iload_n 1, 1) := by decide +kernel
theorem dX11_parts_2 : decode cX11_parts 2 = .ok (.invokevirtual 124, 3) := by decide +kernel
theorem dX11_parts_5 : decode cX11_parts 5 = .ok (.ifCond .eq 21, 3) := by decide +kernel
theorem dX11_parts_8 : decode cX11_parts 8 = .ok (.aload_n 0, 1) := by decide +kernel
theorem dX11_parts_9 : decode cX11_parts 9 = .ok (.iload_n 2, 1) := by decide +kernel
theorem dX11_parts_10 : decode cX11_parts 10 = .ok (.invokevirtual 124, 3) := by decide +kernel
theorem dX11_parts_13 : decode cX11_parts 13 = .ok (.ifCond .eq 13, 3) := by decide +kernel
theorem dX11_parts_16 : decode cX11_parts 16 = .ok (.iload_n 3, 1) := by decide +kernel
theorem dX11_parts_17 : decode cX11_parts 17 = .ok (.iconst 1, 1) := by decide +kernel
theorem dX11_parts_18 : decode cX11_parts 18 = .ok (.if_icmp .lt 8, 3) := by decide +kernel
theorem dX11_parts_21 : decode cX11_parts 21 = .ok (.iload_n 3, 1) := by decide +kernel
theorem dX11_parts_22 : decode cX11_parts 22 = .ok (.iconst 3, 1) := by decide +kernel
theorem dX11_parts_23 : decode cX11_parts 23 = .ok (.if_icmp .le 6, 3) := by decide +kernel
theorem dX11_parts_26 : decode cX11_parts 26 = .ok (.bipush (-2), 2) := by decide +kernel
theorem dX11_parts_28 : decode cX11_parts 28 = .ok (.ireturn, 1) := by decide +kernel
theorem dX11_parts_29 : decode cX11_parts 29 = .ok (.aload_n 0, 1) := by decide +kernel
theorem dX11_parts_30 : decode cX11_parts 30 = .ok (.iload_n 1, 1) := by decide +kernel
theorem dX11_parts_31 : decode cX11_parts 31 = .ok (.iload_n 2, 1) := by decide +kernel
theorem dX11_parts_32 : decode cX11_parts 32 = .ok (.iload_n 3, 1) := by decide +kernel
theorem dX11_parts_33 : decode cX11_parts 33 = .ok (.invokevirtual 241, 3) := by decide +kernel
theorem dX11_parts_36 : decode cX11_parts 36 = .ok (.ireturn, 1) := by decide +kernel
theorem dX11_firstParted_0 : decode cX11_firstParted 0 = .ok (.iconst 0, 1) := by decide +kernel
theorem dX11_firstParted_1 : decode cX11_firstParted 1 = .ok (.istore 4, 2) := by decide +kernel
theorem dX11_firstParted_3 : decode cX11_firstParted 3 = .ok (.iconst 1, 1) := by decide +kernel
theorem dX11_firstParted_4 : decode cX11_firstParted 4 = .ok (.istore 5, 2) := by decide +kernel
theorem dX11_firstParted_6 : decode cX11_firstParted 6 = .ok (.iconst 1, 1) := by decide +kernel
theorem dX11_firstParted_7 : decode cX11_firstParted 7 = .ok (.istore 6, 2) := by decide +kernel
theorem dX11_firstParted_9 : decode cX11_firstParted 9 = .ok (.iload 6, 2) := by decide +kernel
theorem dX11_firstParted_11 : decode cX11_firstParted 11 = .ok (.iload_n 3, 1) := by decide +kernel
theorem dX11_firstParted_12 : decode cX11_firstParted 12 = .ok (.if_icmp .gt 78, 3) := by decide +kernel
theorem dX11_firstParted_15 : decode cX11_firstParted 15 = .ok (.iload_n 1, 1) := by decide +kernel
theorem dX11_firstParted_16 : decode cX11_firstParted 16 = .ok (.iload_n 2, 1) := by decide +kernel
theorem dX11_firstParted_17 : decode cX11_firstParted 17 = .ok (.if_icmp .eq 73, 3) := by decide +kernel
theorem dX11_firstParted_90 : decode cX11_firstParted 90 = .ok (.iconst (-1), 1) := by decide +kernel
theorem dX11_firstParted_91 : decode cX11_firstParted 91 = .ok (.ireturn, 1) := by decide +kernel
theorem dX11_idle_0 : decode cX11_idle 0 = .ok (.aload_n 0, 1) := by decide +kernel
theorem dX11_idle_1 : decode cX11_idle 1 = .ok (.iload_n 1, 1) := by decide +kernel
theorem dX11_idle_2 : decode cX11_idle 2 = .ok (.invokevirtual 192, 3) := by decide +kernel
theorem dX11_idle_5 : decode cX11_idle 5 = .ok (.ifCond .eq 27, 3) := by decide +kernel
theorem dX11_idle_32 : decode cX11_idle 32 = .ok (.iconst (-1), 1) := by decide +kernel
theorem dX11_idle_33 : decode cX11_idle 33 = .ok (.ireturn, 1) := by decide +kernel
theorem dX11_fewest_0 : decode cX11_fewest 0 = .ok (.iload_n 1, 1) := by decide +kernel
theorem dX11_fewest_1 : decode cX11_fewest 1 = .ok (.iconst 1, 1) := by decide +kernel
theorem dX11_fewest_2 : decode cX11_fewest 2 = .ok (.if_icmp .lt 8, 3) := by decide +kernel
theorem dX11_fewest_5 : decode cX11_fewest 5 = .ok (.iload_n 1, 1) := by decide +kernel
theorem dX11_fewest_6 : decode cX11_fewest 6 = .ok (.iconst 2, 1) := by decide +kernel
theorem dX11_fewest_7 : decode cX11_fewest 7 = .ok (.if_icmp .le 5, 3) := by decide +kernel
theorem dX11_fewest_10 : decode cX11_fewest 10 = .ok (.iconst (-1), 1) := by decide +kernel
theorem dX11_fewest_11 : decode cX11_fewest 11 = .ok (.ireturn, 1) := by decide +kernel
theorem dX11_fewest_12 : decode cX11_fewest 12 = .ok (.aload_n 0, 1) := by decide +kernel
theorem dX11_fewest_13 : decode cX11_fewest 13 = .ok (.getfield 16, 3) := by decide +kernel
theorem dX11_fewest_16 : decode cX11_fewest 16 = .ok (.invokevirtual 245, 3) := by decide +kernel
theorem dX11_fewest_19 : decode cX11_fewest 19 = .ok (.iconst 1, 1) := by decide +kernel
theorem dX11_fewest_20 : decode cX11_fewest 20 = .ok (.istore_n 2, 1) := by decide +kernel
theorem dX11_fewest_21 : decode cX11_fewest 21 = .ok (.iconst 1, 1) := by decide +kernel
theorem dX11_fewest_22 : decode cX11_fewest 22 = .ok (.istore_n 3, 1) := by decide +kernel
theorem dX11_fewest_23 : decode cX11_fewest 23 = .ok (.iload_n 3, 1) := by decide +kernel
theorem dX11_fewest_24 : decode cX11_fewest 24 = .ok (.iload_n 1, 1) := by decide +kernel
theorem dX11_fewest_25 : decode cX11_fewest 25 = .ok (.if_icmp .gt 65, 3) := by decide +kernel
theorem dX11_fewest_28 : decode cX11_fewest 28 = .ok (.iload_n 2, 1) := by decide +kernel
theorem dX11_fewest_29 : decode cX11_fewest 29 = .ok (.aload_n 0, 1) := by decide +kernel
theorem dX11_fewest_30 : decode cX11_fewest 30 = .ok (.getfield 24, 3) := by decide +kernel
theorem dX11_fewest_33 : decode cX11_fewest 33 = .ok (.getfield 201, 3) := by decide +kernel
theorem dX11_fewest_36 : decode cX11_fewest 36 = .ok (.imul, 1) := by decide +kernel
theorem dX11_fewest_37 : decode cX11_fewest 37 = .ok (.istore_n 2, 1) := by decide +kernel
theorem dX11_fewest_38 : decode cX11_fewest 38 = .ok (.iconst 0, 1) := by decide +kernel
theorem dX11_fewest_39 : decode cX11_fewest 39 = .ok (.istore 4, 2) := by decide +kernel
theorem dX11_fewest_41 : decode cX11_fewest 41 = .ok (.iload 4, 2) := by decide +kernel
theorem dX11_fewest_43 : decode cX11_fewest 43 = .ok (.iload_n 2, 1) := by decide +kernel
theorem dX11_fewest_44 : decode cX11_fewest 44 = .ok (.if_icmp .ge 40, 3) := by decide +kernel
theorem dX11_fewest_84 : decode cX11_fewest 84 = .ok (.iinc 3 1, 3) := by decide +kernel
theorem dX11_fewest_87 : decode cX11_fewest 87 = .ok (.goto (-64), 3) := by decide +kernel
theorem dX11_fewest_90 : decode cX11_fewest 90 = .ok (.aload_n 0, 1) := by decide +kernel
theorem dX11_fewest_91 : decode cX11_fewest 91 = .ok (.getfield 16, 3) := by decide +kernel
theorem dX11_fewest_94 : decode cX11_fewest 94 = .ok (.aload_n 0, 1) := by decide +kernel
theorem dX11_fewest_95 : decode cX11_fewest 95 = .ok (.getfield 33, 3) := by decide +kernel
theorem dX11_fewest_98 : decode cX11_fewest 98 = .ok (.getfield 128, 3) := by decide +kernel
theorem dX11_fewest_101 : decode cX11_fewest 101 = .ok (.invokevirtual 251, 3) := by decide +kernel
theorem dX11_fewest_104 : decode cX11_fewest 104 = .ok (.ireturn, 1) := by decide +kernel
theorem dX3_clearNeeded_0 : decode cX3_clearNeeded 0 = .ok (.aload_n 0, 1) := by decide +kernel
theorem dX3_clearNeeded_1 : decode cX3_clearNeeded 1 = .ok (.getfield 59, 3) := by decide +kernel
theorem dX3_clearNeeded_4 : decode cX3_clearNeeded 4 = .ok (.iconst 0, 1) := by decide +kernel
theorem dX3_clearNeeded_5 : decode cX3_clearNeeded 5 = .ok (.invokestatic 197, 3) := by decide +kernel
theorem dX3_clearNeeded_8 : decode cX3_clearNeeded 8 = .ok (.return_, 1) := by decide +kernel
theorem dX3_leastThatMeetsNeeds_0 : decode cX3_leastThatMeetsNeeds 0 = .ok (.iload_n 1, 1) := by decide +kernel
theorem dX3_leastThatMeetsNeeds_1 : decode cX3_leastThatMeetsNeeds 1 = .ok (.istore_n 2, 1) := by decide +kernel
theorem dX3_leastThatMeetsNeeds_2 : decode cX3_leastThatMeetsNeeds 2 = .ok (.iconst 0, 1) := by decide +kernel
theorem dX3_leastThatMeetsNeeds_3 : decode cX3_leastThatMeetsNeeds 3 = .ok (.istore_n 3, 1) := by decide +kernel
theorem dX3_leastThatMeetsNeeds_4 : decode cX3_leastThatMeetsNeeds 4 = .ok (.iload_n 3, 1) := by decide +kernel
theorem dX3_leastThatMeetsNeeds_5 : decode cX3_leastThatMeetsNeeds 5 = .ok (.sipush 256, 3) := by decide +kernel
theorem dX3_leastThatMeetsNeeds_8 : decode cX3_leastThatMeetsNeeds 8 = .ok (.if_icmp .ge 50, 3) := by decide +kernel
theorem dX3_leastThatMeetsNeeds_11 : decode cX3_leastThatMeetsNeeds 11 = .ok (.iload_n 3, 1) := by decide +kernel
theorem dX3_leastThatMeetsNeeds_12 : decode cX3_leastThatMeetsNeeds 12 = .ok (.invokestatic 203, 3) := by decide +kernel
theorem dX3_leastThatMeetsNeeds_15 : decode cX3_leastThatMeetsNeeds 15 = .ok (.iload_n 2, 1) := by decide +kernel
theorem dX3_leastThatMeetsNeeds_16 : decode cX3_leastThatMeetsNeeds 16 = .ok (.invokestatic 203, 3) := by decide +kernel
theorem dX3_leastThatMeetsNeeds_19 : decode cX3_leastThatMeetsNeeds 19 = .ok (.if_icmp .ge 7, 3) := by decide +kernel
theorem dX3_leastThatMeetsNeeds_26 : decode cX3_leastThatMeetsNeeds 26 = .ok (.iconst 0, 1) := by decide +kernel
theorem dX3_leastThatMeetsNeeds_27 : decode cX3_leastThatMeetsNeeds 27 = .ok (.istore 4, 2) := by decide +kernel
theorem dX3_leastThatMeetsNeeds_29 : decode cX3_leastThatMeetsNeeds 29 = .ok (.iload_n 3, 1) := by decide +kernel
theorem dX3_leastThatMeetsNeeds_30 : decode cX3_leastThatMeetsNeeds 30 = .ok (.iload_n 1, 1) := by decide +kernel
theorem dX3_leastThatMeetsNeeds_31 : decode cX3_leastThatMeetsNeeds 31 = .ok (.iconst (-1), 1) := by decide +kernel
theorem dX3_leastThatMeetsNeeds_32 : decode cX3_leastThatMeetsNeeds 32 = .ok (.ixor, 1) := by decide +kernel
theorem dX3_leastThatMeetsNeeds_33 : decode cX3_leastThatMeetsNeeds 33 = .ok (.iand, 1) := by decide +kernel
theorem dX3_leastThatMeetsNeeds_34 : decode cX3_leastThatMeetsNeeds 34 = .ok (.ifCond .ne 18, 3) := by decide +kernel
theorem dX3_leastThatMeetsNeeds_37 : decode cX3_leastThatMeetsNeeds 37 = .ok (.iload 4, 2) := by decide +kernel
theorem dX3_leastThatMeetsNeeds_39 : decode cX3_leastThatMeetsNeeds 39 = .ok (.ifCond .eq 13, 3) := by decide +kernel
theorem dX3_leastThatMeetsNeeds_52 : decode cX3_leastThatMeetsNeeds 52 = .ok (.iinc 3 1, 3) := by decide +kernel
theorem dX3_leastThatMeetsNeeds_55 : decode cX3_leastThatMeetsNeeds 55 = .ok (.goto (-51), 3) := by decide +kernel
theorem dX3_leastThatMeetsNeeds_58 : decode cX3_leastThatMeetsNeeds 58 = .ok (.iload_n 2, 1) := by decide +kernel
theorem dX3_leastThatMeetsNeeds_59 : decode cX3_leastThatMeetsNeeds 59 = .ok (.ireturn, 1) := by decide +kernel
theorem dX11_example_0 : decode cX11_example 0 = .ok (.aload_n 0, 1) := by decide +kernel
theorem dX11_example_1 : decode cX11_example 1 = .ok (.invokevirtual 83, 3) := by decide +kernel
theorem dX11_example_4 : decode cX11_example 4 = .ok (.istore_n 2, 1) := by decide +kernel
theorem dX11_example_5 : decode cX11_example 5 = .ok (.aload_n 0, 1) := by decide +kernel
theorem dX11_example_6 : decode cX11_example 6 = .ok (.getfield 33, 3) := by decide +kernel
theorem dX11_example_9 : decode cX11_example 9 = .ok (.getfield 254, 3) := by decide +kernel
theorem dX11_example_12 : decode cX11_example 12 = .ok (.getfield 156, 3) := by decide +kernel
theorem dX11_example_15 : decode cX11_example 15 = .ok (.bipush 12, 2) := by decide +kernel
theorem dX11_example_17 : decode cX11_example 17 = .ok (.if_icmp .lt 5, 3) := by decide +kernel
theorem dX11_example_22 : decode cX11_example 22 = .ok (.aload_n 0, 1) := by decide +kernel
theorem dX11_example_23 : decode cX11_example 23 = .ok (.iload_n 2, 1) := by decide +kernel
theorem dX11_example_24 : decode cX11_example 24 = .ok (.invokevirtual 257, 3) := by decide +kernel
theorem dX11_example_27 : decode cX11_example 27 = .ok (.istore_n 3, 1) := by decide +kernel
theorem dX11_example_28 : decode cX11_example 28 = .ok (.iload_n 2, 1) := by decide +kernel
theorem dX11_example_29 : decode cX11_example 29 = .ok (.iload_n 3, 1) := by decide +kernel
theorem dX11_example_30 : decode cX11_example 30 = .ok (.isub, 1) := by decide +kernel
theorem dX11_example_31 : decode cX11_example 31 = .ok (.iconst 1, 1) := by decide +kernel
theorem dX11_example_32 : decode cX11_example 32 = .ok (.isub, 1) := by decide +kernel
theorem dX11_example_33 : decode cX11_example 33 = .ok (.istore 4, 2) := by decide +kernel
theorem dX11_example_35 : decode cX11_example 35 = .ok (.iload_n 3, 1) := by decide +kernel
theorem dX11_example_36 : decode cX11_example 36 = .ok (.iconst (-1), 1) := by decide +kernel
theorem dX11_example_37 : decode cX11_example 37 = .ok (.if_icmp .eq 21, 3) := by decide +kernel
theorem dX11_example_58 : decode cX11_example 58 = .ok (.iconst (-1), 1) := by decide +kernel
theorem dX11_example_59 : decode cX11_example 59 = .ok (.ireturn, 1) := by decide +kernel
theorem dX11_placeOfColon_0 : decode cX11_placeOfColon 0 = .ok (.iconst 0, 1) := by decide +kernel
theorem dX11_placeOfColon_1 : decode cX11_placeOfColon 1 = .ok (.istore_n 2, 1) := by decide +kernel
theorem dX11_placeOfColon_2 : decode cX11_placeOfColon 2 = .ok (.iload_n 2, 1) := by decide +kernel
theorem dX11_placeOfColon_3 : decode cX11_placeOfColon 3 = .ok (.iload_n 1, 1) := by decide +kernel
theorem dX11_placeOfColon_4 : decode cX11_placeOfColon 4 = .ok (.if_icmp .ge 22, 3) := by decide +kernel
theorem dX11_placeOfColon_26 : decode cX11_placeOfColon 26 = .ok (.iconst (-1), 1) := by decide +kernel
theorem dX11_placeOfColon_27 : decode cX11_placeOfColon 27 = .ok (.ireturn, 1) := by decide +kernel
theorem dX11_fits_0 : decode cX11_fits 0 = .ok (.aload_n 0, 1) := by decide +kernel
theorem dX11_fits_1 : decode cX11_fits 1 = .ok (.iload_n 1, 1) := by decide +kernel
theorem dX11_fits_2 : decode cX11_fits 2 = .ok (.invokevirtual 124, 3) := by decide +kernel
theorem dX11_fits_5 : decode cX11_fits 5 = .ok (.ifCond .ne 5, 3) := by decide +kernel
theorem dX11_fits_8 : decode cX11_fits 8 = .ok (.iconst (-1), 1) := by decide +kernel
theorem dX11_fits_9 : decode cX11_fits 9 = .ok (.ireturn, 1) := by decide +kernel
theorem dX11_fits_10 : decode cX11_fits 10 = .ok (.aload_n 0, 1) := by decide +kernel
theorem dX11_fits_11 : decode cX11_fits 11 = .ok (.getfield 33, 3) := by decide +kernel
theorem dX11_fits_14 : decode cX11_fits 14 = .ok (.aload_n 0, 1) := by decide +kernel
theorem dX11_fits_15 : decode cX11_fits 15 = .ok (.getfield 16, 3) := by decide +kernel
theorem dX11_fits_18 : decode cX11_fits 18 = .ok (.aload_n 0, 1) := by decide +kernel
theorem dX11_fits_19 : decode cX11_fits 19 = .ok (.getfield 24, 3) := by decide +kernel
theorem dX11_fits_22 : decode cX11_fits 22 = .ok (.getfield 98, 3) := by decide +kernel
theorem dX11_fits_25 : decode cX11_fits 25 = .ok (.invokevirtual 277, 3) := by decide +kernel
theorem dX11_fits_28 : decode cX11_fits 28 = .ok (.aload_n 0, 1) := by decide +kernel
theorem dX11_fits_29 : decode cX11_fits 29 = .ok (.getfield 33, 3) := by decide +kernel
theorem dX11_fits_32 : decode cX11_fits 32 = .ok (.iload_n 1, 1) := by decide +kernel
theorem dX11_fits_33 : decode cX11_fits 33 = .ok (.invokevirtual 281, 3) := by decide +kernel
theorem dX11_fits_36 : decode cX11_fits 36 = .ok (.iconst (-1), 1) := by decide +kernel
theorem dX11_fits_37 : decode cX11_fits 37 = .ok (.if_icmp .ne 7, 3) := by decide +kernel
theorem dX11_fits_40 : decode cX11_fits 40 = .ok (.iconst 1, 1) := by decide +kernel
theorem dX11_fits_41 : decode cX11_fits 41 = .ok (.goto 4, 3) := by decide +kernel
theorem dX11_fits_45 : decode cX11_fits 45 = .ok (.ireturn, 1) := by decide +kernel
theorem dX6_study_0 : decode cX6_study 0 = .ok (.iconst 1, 1) := by decide +kernel
theorem dX6_study_1 : decode cX6_study 1 = .ok (.iload_n 2, 1) := by decide +kernel
theorem dX6_study_2 : decode cX6_study 2 = .ok (.ishl, 1) := by decide +kernel
theorem dX6_study_3 : decode cX6_study 3 = .ok (.iconst 1, 1) := by decide +kernel
theorem dX6_study_4 : decode cX6_study 4 = .ok (.isub, 1) := by decide +kernel
theorem dX6_study_5 : decode cX6_study 5 = .ok (.istore_n 3, 1) := by decide +kernel
theorem dX6_study_6 : decode cX6_study 6 = .ok (.iconst 0, 1) := by decide +kernel
theorem dX6_study_7 : decode cX6_study 7 = .ok (.istore 4, 2) := by decide +kernel
theorem dX6_study_9 : decode cX6_study 9 = .ok (.iload 4, 2) := by decide +kernel
theorem dX6_study_11 : decode cX6_study 11 = .ok (.aload_n 0, 1) := by decide +kernel
theorem dX6_study_12 : decode cX6_study 12 = .ok (.getfield 24, 3) := by decide +kernel
theorem dX6_study_15 : decode cX6_study 15 = .ok (.getfield 59, 3) := by decide +kernel
theorem dX6_study_18 : decode cX6_study 18 = .ok (.if_icmp .ge 110, 3) := by decide +kernel
theorem dX6_study_128 : decode cX6_study 128 = .ok (.return_, 1) := by decide +kernel
theorem dX6_firstUntrue_0 : decode cX6_firstUntrue 0 = .ok (.iconst 0, 1) := by decide +kernel
theorem dX6_firstUntrue_1 : decode cX6_firstUntrue 1 = .ok (.istore_n 2, 1) := by decide +kernel
theorem dX6_firstUntrue_2 : decode cX6_firstUntrue 2 = .ok (.iload_n 2, 1) := by decide +kernel
theorem dX6_firstUntrue_3 : decode cX6_firstUntrue 3 = .ok (.aload_n 0, 1) := by decide +kernel
theorem dX6_firstUntrue_4 : decode cX6_firstUntrue 4 = .ok (.getfield 24, 3) := by decide +kernel
theorem dX6_firstUntrue_7 : decode cX6_firstUntrue 7 = .ok (.getfield 59, 3) := by decide +kernel
theorem dX6_firstUntrue_10 : decode cX6_firstUntrue 10 = .ok (.if_icmp .ge 79, 3) := by decide +kernel
theorem dX6_firstUntrue_89 : decode cX6_firstUntrue 89 = .ok (.iconst (-1), 1) := by decide +kernel
theorem dX6_firstUntrue_90 : decode cX6_firstUntrue 90 = .ok (.ireturn, 1) := by decide +kernel
theorem dX11_learn_0 : decode cX11_learn 0 = .ok (.aload_n 0, 1) := by decide +kernel
theorem dX11_learn_1 : decode cX11_learn 1 = .ok (.getfield 33, 3) := by decide +kernel
theorem dX11_learn_4 : decode cX11_learn 4 = .ok (.aload_n 0, 1) := by decide +kernel
theorem dX11_learn_5 : decode cX11_learn 5 = .ok (.getfield 16, 3) := by decide +kernel
theorem dX11_learn_8 : decode cX11_learn 8 = .ok (.aload_n 0, 1) := by decide +kernel
theorem dX11_learn_9 : decode cX11_learn 9 = .ok (.getfield 24, 3) := by decide +kernel
theorem dX11_learn_12 : decode cX11_learn 12 = .ok (.getfield 98, 3) := by decide +kernel
theorem dX11_learn_15 : decode cX11_learn 15 = .ok (.invokevirtual 277, 3) := by decide +kernel
theorem dX11_learn_18 : decode cX11_learn 18 = .ok (.aload_n 0, 1) := by decide +kernel
theorem dX11_learn_19 : decode cX11_learn 19 = .ok (.getfield 33, 3) := by decide +kernel
theorem dX11_learn_22 : decode cX11_learn 22 = .ok (.aload_n 0, 1) := by decide +kernel
theorem dX11_learn_23 : decode cX11_learn 23 = .ok (.getfield 24, 3) := by decide +kernel
theorem dX11_learn_26 : decode cX11_learn 26 = .ok (.getfield 98, 3) := by decide +kernel
theorem dX11_learn_29 : decode cX11_learn 29 = .ok (.invokevirtual 284, 3) := by decide +kernel
theorem dX11_learn_32 : decode cX11_learn 32 = .ok (.ireturn, 1) := by decide +kernel
theorem dX6_leastTrue_0 : decode cX6_leastTrue 0 = .ok (.iconst (-1), 1) := by decide +kernel
theorem dX6_leastTrue_1 : decode cX6_leastTrue 1 = .ok (.istore_n 2, 1) := by decide +kernel
theorem dX6_leastTrue_2 : decode cX6_leastTrue 2 = .ok (.bipush 9, 2) := by decide +kernel
theorem dX6_leastTrue_4 : decode cX6_leastTrue 4 = .ok (.istore_n 3, 1) := by decide +kernel
theorem dX6_leastTrue_5 : decode cX6_leastTrue 5 = .ok (.iconst 0, 1) := by decide +kernel
theorem dX6_leastTrue_6 : decode cX6_leastTrue 6 = .ok (.istore 4, 2) := by decide +kernel
theorem dX6_leastTrue_8 : decode cX6_leastTrue 8 = .ok (.iload 4, 2) := by decide +kernel
theorem dX6_leastTrue_10 : decode cX6_leastTrue 10 = .ok (.iconst 1, 1) := by decide +kernel
theorem dX6_leastTrue_11 : decode cX6_leastTrue 11 = .ok (.iload_n 1, 1) := by decide +kernel
theorem dX6_leastTrue_12 : decode cX6_leastTrue 12 = .ok (.ishl, 1) := by decide +kernel
theorem dX6_leastTrue_13 : decode cX6_leastTrue 13 = .ok (.if_icmp .ge 37, 3) := by decide +kernel
theorem dX6_leastTrue_16 : decode cX6_leastTrue 16 = .ok (.iload 4, 2) := by decide +kernel
theorem dX6_leastTrue_18 : decode cX6_leastTrue 18 = .ok (.invokestatic 82, 3) := by decide +kernel
theorem dX6_leastTrue_21 : decode cX6_leastTrue 21 = .ok (.iload_n 3, 1) := by decide +kernel
theorem dX6_leastTrue_22 : decode cX6_leastTrue 22 = .ok (.if_icmp .ge 22, 3) := by decide +kernel
theorem dX6_leastTrue_25 : decode cX6_leastTrue 25 = .ok (.aload_n 0, 1) := by decide +kernel
theorem dX6_leastTrue_26 : decode cX6_leastTrue 26 = .ok (.iload 4, 2) := by decide +kernel
theorem dX6_leastTrue_28 : decode cX6_leastTrue 28 = .ok (.invokevirtual 88, 3) := by decide +kernel
theorem dX6_leastTrue_31 : decode cX6_leastTrue 31 = .ok (.iconst (-1), 1) := by decide +kernel
theorem dX6_leastTrue_32 : decode cX6_leastTrue 32 = .ok (.if_icmp .ne 12, 3) := by decide +kernel
theorem dX6_leastTrue_35 : decode cX6_leastTrue 35 = .ok (.iload 4, 2) := by decide +kernel
theorem dX6_leastTrue_37 : decode cX6_leastTrue 37 = .ok (.istore_n 2, 1) := by decide +kernel
theorem dX6_leastTrue_38 : decode cX6_leastTrue 38 = .ok (.iload 4, 2) := by decide +kernel
theorem dX6_leastTrue_40 : decode cX6_leastTrue 40 = .ok (.invokestatic 82, 3) := by decide +kernel
theorem dX6_leastTrue_43 : decode cX6_leastTrue 43 = .ok (.istore_n 3, 1) := by decide +kernel
theorem dX6_leastTrue_44 : decode cX6_leastTrue 44 = .ok (.iinc 4 1, 3) := by decide +kernel
theorem dX6_leastTrue_47 : decode cX6_leastTrue 47 = .ok (.goto (-39), 3) := by decide +kernel
theorem dX6_leastTrue_50 : decode cX6_leastTrue 50 = .ok (.iload_n 2, 1) := by decide +kernel
theorem dX6_leastTrue_51 : decode cX6_leastTrue 51 = .ok (.ireturn, 1) := by decide +kernel
theorem dX11_forced_0 : decode cX11_forced 0 = .ok (.aload_n 0, 1) := by decide +kernel
theorem dX11_forced_1 : decode cX11_forced 1 = .ok (.iload_n 1, 1) := by decide +kernel
theorem dX11_forced_2 : decode cX11_forced 2 = .ok (.invokevirtual 192, 3) := by decide +kernel
theorem dX11_forced_5 : decode cX11_forced 5 = .ok (.ifCond .ne 5, 3) := by decide +kernel
theorem dX11_forced_8 : decode cX11_forced 8 = .ok (.iconst (-1), 1) := by decide +kernel
theorem dX11_forced_9 : decode cX11_forced 9 = .ok (.ireturn, 1) := by decide +kernel
theorem dX11_rule_0 : decode cX11_rule 0 = .ok (.aload_n 0, 1) := by decide +kernel
theorem dX11_rule_1 : decode cX11_rule 1 = .ok (.iload_n 1, 1) := by decide +kernel
theorem dX11_rule_2 : decode cX11_rule 2 = .ok (.invokevirtual 192, 3) := by decide +kernel
theorem dX11_rule_5 : decode cX11_rule 5 = .ok (.ifCond .ne 5, 3) := by decide +kernel
theorem dX11_rule_8 : decode cX11_rule 8 = .ok (.iconst (-1), 1) := by decide +kernel
theorem dX11_rule_9 : decode cX11_rule 9 = .ok (.ireturn, 1) := by decide +kernel
theorem dX11_image_0 : decode cX11_image 0 = .ok (.iload_n 1, 1) := by decide +kernel
theorem dX11_image_1 : decode cX11_image 1 = .ok (.ifCond .eq 32, 3) := by decide +kernel
theorem dX11_image_4 : decode cX11_image 4 = .ok (.aload_n 0, 1) := by decide +kernel
theorem dX11_image_5 : decode cX11_image 5 = .ok (.getfield 40, 3) := by decide +kernel
theorem dX11_image_8 : decode cX11_image 8 = .ok (.aload_n 0, 1) := by decide +kernel
theorem dX11_image_9 : decode cX11_image 9 = .ok (.getfield 24, 3) := by decide +kernel
theorem dX11_image_12 : decode cX11_image 12 = .ok (.invokevirtual 94, 3) := by decide +kernel
theorem dX11_image_15 : decode cX11_image 15 = .ok (.aload_n 0, 1) := by decide +kernel
theorem dX11_image_16 : decode cX11_image 16 = .ok (.getfield 43, 3) := by decide +kernel
theorem dX11_image_19 : decode cX11_image 19 = .ok (.aload_n 0, 1) := by decide +kernel
theorem dX11_image_20 : decode cX11_image 20 = .ok (.getfield 33, 3) := by decide +kernel
theorem dX11_image_23 : decode cX11_image 23 = .ok (.invokevirtual 302, 3) := by decide +kernel
theorem dX11_image_26 : decode cX11_image 26 = .ok (.aload_n 0, 1) := by decide +kernel
theorem dX11_image_27 : decode cX11_image 27 = .ok (.iconst 1, 1) := by decide +kernel
theorem dX11_image_28 : decode cX11_image 28 = .ok (.putfield 305, 3) := by decide +kernel
theorem dX11_image_31 : decode cX11_image 31 = .ok (.iconst 1, 1) := by decide +kernel
theorem dX11_image_32 : decode cX11_image 32 = .ok (.ireturn, 1) := by decide +kernel
theorem dX11_image_33 : decode cX11_image 33 = .ok (.aload_n 0, 1) := by decide +kernel
theorem dX11_image_34 : decode cX11_image 34 = .ok (.getfield 305, 3) := by decide +kernel
theorem dX11_image_37 : decode cX11_image 37 = .ok (.ifCond .ne 5, 3) := by decide +kernel
theorem dX11_image_40 : decode cX11_image 40 = .ok (.iconst 0, 1) := by decide +kernel
theorem dX11_image_41 : decode cX11_image 41 = .ok (.ireturn, 1) := by decide +kernel
theorem dX6_copyFrom_0 : decode cX6_copyFrom 0 = .ok (.aload_n 0, 1) := by decide +kernel
theorem dX6_copyFrom_1 : decode cX6_copyFrom 1 = .ok (.aload_n 1, 1) := by decide +kernel
theorem dX6_copyFrom_2 : decode cX6_copyFrom 2 = .ok (.getfield 40, 3) := by decide +kernel
theorem dX6_copyFrom_5 : decode cX6_copyFrom 5 = .ok (.putfield 40, 3) := by decide +kernel
theorem dX6_copyFrom_8 : decode cX6_copyFrom 8 = .ok (.aload_n 0, 1) := by decide +kernel
theorem dX6_copyFrom_9 : decode cX6_copyFrom 9 = .ok (.aload_n 1, 1) := by decide +kernel
theorem dX6_copyFrom_10 : decode cX6_copyFrom 10 = .ok (.getfield 9, 3) := by decide +kernel
theorem dX6_copyFrom_13 : decode cX6_copyFrom 13 = .ok (.putfield 9, 3) := by decide +kernel
theorem dX6_copyFrom_16 : decode cX6_copyFrom 16 = .ok (.aload_n 1, 1) := by decide +kernel
theorem dX6_copyFrom_17 : decode cX6_copyFrom 17 = .ok (.getfield 15, 3) := by decide +kernel
theorem dX6_copyFrom_20 : decode cX6_copyFrom 20 = .ok (.iconst 0, 1) := by decide +kernel
theorem dX6_copyFrom_21 : decode cX6_copyFrom 21 = .ok (.aload_n 0, 1) := by decide +kernel
theorem dX6_copyFrom_22 : decode cX6_copyFrom 22 = .ok (.getfield 15, 3) := by decide +kernel
theorem dX6_copyFrom_25 : decode cX6_copyFrom 25 = .ok (.iconst 0, 1) := by decide +kernel
theorem dX6_copyFrom_26 : decode cX6_copyFrom 26 = .ok (.aload_n 0, 1) := by decide +kernel
theorem dX6_copyFrom_27 : decode cX6_copyFrom 27 = .ok (.getfield 15, 3) := by decide +kernel
theorem dX6_copyFrom_30 : decode cX6_copyFrom 30 = .ok (.arraylength, 1) := by decide +kernel
theorem dX6_copyFrom_31 : decode cX6_copyFrom 31 = .ok (.invokestatic 49, 3) := by decide +kernel
theorem dX6_copyFrom_34 : decode cX6_copyFrom 34 = .ok (.aload_n 0, 1) := by decide +kernel
theorem dX6_copyFrom_35 : decode cX6_copyFrom 35 = .ok (.getfield 24, 3) := by decide +kernel
theorem dX6_copyFrom_38 : decode cX6_copyFrom 38 = .ok (.aload_n 1, 1) := by decide +kernel
theorem dX6_copyFrom_39 : decode cX6_copyFrom 39 = .ok (.getfield 24, 3) := by decide +kernel
theorem dX6_copyFrom_42 : decode cX6_copyFrom 42 = .ok (.invokevirtual 55, 3) := by decide +kernel
theorem dX6_copyFrom_45 : decode cX6_copyFrom 45 = .ok (.aload_n 0, 1) := by decide +kernel
theorem dX6_copyFrom_46 : decode cX6_copyFrom 46 = .ok (.getfield 28, 3) := by decide +kernel
theorem dX6_copyFrom_49 : decode cX6_copyFrom 49 = .ok (.aload_n 1, 1) := by decide +kernel
theorem dX6_copyFrom_50 : decode cX6_copyFrom 50 = .ok (.getfield 28, 3) := by decide +kernel
theorem dX6_copyFrom_53 : decode cX6_copyFrom 53 = .ok (.invokevirtual 55, 3) := by decide +kernel
theorem dX6_copyFrom_56 : decode cX6_copyFrom 56 = .ok (.aload_n 0, 1) := by decide +kernel
theorem dX6_copyFrom_57 : decode cX6_copyFrom 57 = .ok (.aload_n 1, 1) := by decide +kernel
theorem dX6_copyFrom_58 : decode cX6_copyFrom 58 = .ok (.getfield 46, 3) := by decide +kernel
theorem dX6_copyFrom_61 : decode cX6_copyFrom 61 = .ok (.putfield 46, 3) := by decide +kernel
theorem dX6_copyFrom_64 : decode cX6_copyFrom 64 = .ok (.return_, 1) := by decide +kernel
theorem dX11_look_0 : decode cX11_look 0 = .ok (.iload_n 1, 1) := by decide +kernel
theorem dX11_look_1 : decode cX11_look 1 = .ok (.tableswitch 120 0 7 #[47, 55, 63, 71, 82, 93, 101, 109], 47) := by decide +kernel
theorem dX11_look_48 : decode cX11_look 48 = .ok (.aload_n 0, 1) := by decide +kernel
theorem dX11_look_49 : decode cX11_look 49 = .ok (.getfield 24, 3) := by decide +kernel
theorem dX11_look_52 : decode cX11_look 52 = .ok (.getfield 201, 3) := by decide +kernel
theorem dX11_look_55 : decode cX11_look 55 = .ok (.ireturn, 1) := by decide +kernel
theorem dX11_look_56 : decode cX11_look 56 = .ok (.aload_n 0, 1) := by decide +kernel
theorem dX11_look_57 : decode cX11_look 57 = .ok (.getfield 24, 3) := by decide +kernel
theorem dX11_look_60 : decode cX11_look 60 = .ok (.getfield 234, 3) := by decide +kernel
theorem dX11_look_63 : decode cX11_look 63 = .ok (.ireturn, 1) := by decide +kernel
theorem dX11_look_64 : decode cX11_look 64 = .ok (.aload_n 0, 1) := by decide +kernel
theorem dX11_look_65 : decode cX11_look 65 = .ok (.getfield 24, 3) := by decide +kernel
theorem dX11_look_68 : decode cX11_look 68 = .ok (.getfield 98, 3) := by decide +kernel
theorem dX11_look_71 : decode cX11_look 71 = .ok (.ireturn, 1) := by decide +kernel
theorem dX11_look_72 : decode cX11_look 72 = .ok (.aload_n 0, 1) := by decide +kernel
theorem dX11_look_73 : decode cX11_look 73 = .ok (.getfield 24, 3) := by decide +kernel
theorem dX11_look_76 : decode cX11_look 76 = .ok (.getfield 152, 3) := by decide +kernel
theorem dX11_look_79 : decode cX11_look 79 = .ok (.getfield 156, 3) := by decide +kernel
theorem dX11_look_82 : decode cX11_look 82 = .ok (.ireturn, 1) := by decide +kernel
theorem dX11_look_83 : decode cX11_look 83 = .ok (.aload_n 0, 1) := by decide +kernel
theorem dX11_look_84 : decode cX11_look 84 = .ok (.getfield 24, 3) := by decide +kernel
theorem dX11_look_87 : decode cX11_look 87 = .ok (.getfield 159, 3) := by decide +kernel
theorem dX11_look_90 : decode cX11_look 90 = .ok (.getfield 156, 3) := by decide +kernel
theorem dX11_look_93 : decode cX11_look 93 = .ok (.ireturn, 1) := by decide +kernel
theorem dX11_look_94 : decode cX11_look 94 = .ok (.aload_n 0, 1) := by decide +kernel
theorem dX11_look_95 : decode cX11_look 95 = .ok (.getfield 33, 3) := by decide +kernel
theorem dX11_look_98 : decode cX11_look 98 = .ok (.getfield 128, 3) := by decide +kernel
theorem dX11_look_101 : decode cX11_look 101 = .ok (.ireturn, 1) := by decide +kernel
theorem dX11_look_102 : decode cX11_look 102 = .ok (.aload_n 0, 1) := by decide +kernel
theorem dX11_look_103 : decode cX11_look 103 = .ok (.getfield 33, 3) := by decide +kernel
theorem dX11_look_106 : decode cX11_look 106 = .ok (.getfield 131, 3) := by decide +kernel
theorem dX11_look_109 : decode cX11_look 109 = .ok (.ireturn, 1) := by decide +kernel
theorem dX11_look_110 : decode cX11_look 110 = .ok (.aload_n 0, 1) := by decide +kernel
theorem dX11_look_111 : decode cX11_look 111 = .ok (.getfield 33, 3) := by decide +kernel
theorem dX11_look_114 : decode cX11_look 114 = .ok (.getfield 254, 3) := by decide +kernel
theorem dX11_look_117 : decode cX11_look 117 = .ok (.getfield 156, 3) := by decide +kernel
theorem dX11_look_120 : decode cX11_look 120 = .ok (.ireturn, 1) := by decide +kernel
theorem dX11_look_121 : decode cX11_look 121 = .ok (.aload_n 0, 1) := by decide +kernel
theorem dX11_look_122 : decode cX11_look 122 = .ok (.iload_n 1, 1) := by decide +kernel
theorem dX11_look_123 : decode cX11_look 123 = .ok (.invokevirtual 309, 3) := by decide +kernel
theorem dX11_look_126 : decode cX11_look 126 = .ok (.ireturn, 1) := by decide +kernel
theorem dX11_lookFurther_0 : decode cX11_lookFurther 0 = .ok (.iload_n 1, 1) := by decide +kernel
theorem dX11_lookFurther_1 : decode cX11_lookFurther 1 = .ok (.bipush 10, 2) := by decide +kernel
theorem dX11_lookFurther_3 : decode cX11_lookFurther 3 = .ok (.if_icmp .lt 25, 3) := by decide +kernel
theorem dX11_lookFurther_6 : decode cX11_lookFurther 6 = .ok (.iload_n 1, 1) := by decide +kernel
theorem dX11_lookFurther_7 : decode cX11_lookFurther 7 = .ok (.bipush 16, 2) := by decide +kernel
theorem dX11_lookFurther_9 : decode cX11_lookFurther 9 = .ok (.if_icmp .ge 19, 3) := by decide +kernel
theorem dX11_lookFurther_12 : decode cX11_lookFurther 12 = .ok (.aload_n 0, 1) := by decide +kernel
theorem dX11_lookFurther_13 : decode cX11_lookFurther 13 = .ok (.getfield 24, 3) := by decide +kernel
theorem dX11_lookFurther_16 : decode cX11_lookFurther 16 = .ok (.getfield 312, 3) := by decide +kernel
theorem dX11_lookFurther_19 : decode cX11_lookFurther 19 = .ok (.iload_n 1, 1) := by decide +kernel
theorem dX11_lookFurther_20 : decode cX11_lookFurther 20 = .ok (.bipush 10, 2) := by decide +kernel
theorem dX11_lookFurther_22 : decode cX11_lookFurther 22 = .ok (.isub, 1) := by decide +kernel
theorem dX11_lookFurther_23 : decode cX11_lookFurther 23 = .ok (.iaload, 1) := by decide +kernel
theorem dX11_lookFurther_24 : decode cX11_lookFurther 24 = .ok (.invokestatic 212, 3) := by decide +kernel
theorem dX11_lookFurther_27 : decode cX11_lookFurther 27 = .ok (.ireturn, 1) := by decide +kernel
theorem dX11_lookFurther_28 : decode cX11_lookFurther 28 = .ok (.iload_n 1, 1) := by decide +kernel
theorem dX11_lookFurther_29 : decode cX11_lookFurther 29 = .ok (.bipush 20, 2) := by decide +kernel
theorem dX11_lookFurther_31 : decode cX11_lookFurther 31 = .ok (.if_icmp .lt 24, 3) := by decide +kernel
theorem dX11_lookFurther_34 : decode cX11_lookFurther 34 = .ok (.iload_n 1, 1) := by decide +kernel
theorem dX11_lookFurther_35 : decode cX11_lookFurther 35 = .ok (.bipush 40, 2) := by decide +kernel
theorem dX11_lookFurther_37 : decode cX11_lookFurther 37 = .ok (.if_icmp .ge 18, 3) := by decide +kernel
theorem dX11_lookFurther_40 : decode cX11_lookFurther 40 = .ok (.aload_n 0, 1) := by decide +kernel
theorem dX11_lookFurther_41 : decode cX11_lookFurther 41 = .ok (.getfield 24, 3) := by decide +kernel
theorem dX11_lookFurther_44 : decode cX11_lookFurther 44 = .ok (.getfield 152, 3) := by decide +kernel
theorem dX11_lookFurther_47 : decode cX11_lookFurther 47 = .ok (.iload_n 1, 1) := by decide +kernel
theorem dX11_lookFurther_48 : decode cX11_lookFurther 48 = .ok (.bipush 20, 2) := by decide +kernel
theorem dX11_lookFurther_50 : decode cX11_lookFurther 50 = .ok (.isub, 1) := by decide +kernel
theorem dX11_lookFurther_51 : decode cX11_lookFurther 51 = .ok (.invokevirtual 315, 3) := by decide +kernel
theorem dX11_lookFurther_54 : decode cX11_lookFurther 54 = .ok (.ireturn, 1) := by decide +kernel
theorem dX11_lookFurther_55 : decode cX11_lookFurther 55 = .ok (.iload_n 1, 1) := by decide +kernel
theorem dX11_lookFurther_56 : decode cX11_lookFurther 56 = .ok (.bipush 40, 2) := by decide +kernel
theorem dX11_lookFurther_58 : decode cX11_lookFurther 58 = .ok (.if_icmp .lt 24, 3) := by decide +kernel
theorem dX11_lookFurther_61 : decode cX11_lookFurther 61 = .ok (.iload_n 1, 1) := by decide +kernel
theorem dX11_lookFurther_62 : decode cX11_lookFurther 62 = .ok (.bipush 50, 2) := by decide +kernel
theorem dX11_lookFurther_64 : decode cX11_lookFurther 64 = .ok (.if_icmp .ge 18, 3) := by decide +kernel
theorem dX11_lookFurther_67 : decode cX11_lookFurther 67 = .ok (.aload_n 0, 1) := by decide +kernel
theorem dX11_lookFurther_68 : decode cX11_lookFurther 68 = .ok (.getfield 24, 3) := by decide +kernel
theorem dX11_lookFurther_71 : decode cX11_lookFurther 71 = .ok (.getfield 159, 3) := by decide +kernel
theorem dX11_lookFurther_74 : decode cX11_lookFurther 74 = .ok (.iload_n 1, 1) := by decide +kernel
theorem dX11_lookFurther_75 : decode cX11_lookFurther 75 = .ok (.bipush 40, 2) := by decide +kernel
theorem dX11_lookFurther_77 : decode cX11_lookFurther 77 = .ok (.isub, 1) := by decide +kernel
theorem dX11_lookFurther_78 : decode cX11_lookFurther 78 = .ok (.invokevirtual 315, 3) := by decide +kernel
theorem dX11_lookFurther_81 : decode cX11_lookFurther 81 = .ok (.ireturn, 1) := by decide +kernel
theorem dX11_lookFurther_82 : decode cX11_lookFurther 82 = .ok (.iload_n 1, 1) := by decide +kernel
theorem dX11_lookFurther_83 : decode cX11_lookFurther 83 = .ok (.bipush 50, 2) := by decide +kernel
theorem dX11_lookFurther_85 : decode cX11_lookFurther 85 = .ok (.if_icmp .lt 30, 3) := by decide +kernel
theorem dX11_lookFurther_88 : decode cX11_lookFurther 88 = .ok (.iload_n 1, 1) := by decide +kernel
theorem dX11_lookFurther_89 : decode cX11_lookFurther 89 = .ok (.bipush 50, 2) := by decide +kernel
theorem dX11_lookFurther_91 : decode cX11_lookFurther 91 = .ok (.aload_n 0, 1) := by decide +kernel
theorem dX11_lookFurther_92 : decode cX11_lookFurther 92 = .ok (.getfield 24, 3) := by decide +kernel
theorem dX11_lookFurther_95 : decode cX11_lookFurther 95 = .ok (.getfield 98, 3) := by decide +kernel
theorem dX11_lookFurther_98 : decode cX11_lookFurther 98 = .ok (.iadd, 1) := by decide +kernel
theorem dX11_lookFurther_99 : decode cX11_lookFurther 99 = .ok (.if_icmp .ge 16, 3) := by decide +kernel
theorem dX11_lookFurther_115 : decode cX11_lookFurther 115 = .ok (.iconst (-1), 1) := by decide +kernel
theorem dX11_lookFurther_116 : decode cX11_lookFurther 116 = .ok (.ireturn, 1) := by decide +kernel
theorem dX9_lengthOf_0 : decode cX9_lengthOf 0 = .ok (.iload_n 1, 1) := by decide +kernel
theorem dX9_lengthOf_1 : decode cX9_lengthOf 1 = .ok (.ifCond .lt 11, 3) := by decide +kernel
theorem dX9_lengthOf_4 : decode cX9_lengthOf 4 = .ok (.iload_n 1, 1) := by decide +kernel
theorem dX9_lengthOf_5 : decode cX9_lengthOf 5 = .ok (.aload_n 0, 1) := by decide +kernel
theorem dX9_lengthOf_6 : decode cX9_lengthOf 6 = .ok (.getfield 18, 3) := by decide +kernel
theorem dX9_lengthOf_9 : decode cX9_lengthOf 9 = .ok (.if_icmp .lt 7, 3) := by decide +kernel
theorem dX9_lengthOf_12 : decode cX9_lengthOf 12 = .ok (.iconst (-1), 1) := by decide +kernel
theorem dX9_lengthOf_13 : decode cX9_lengthOf 13 = .ok (.goto 9, 3) := by decide +kernel
theorem dX9_lengthOf_22 : decode cX9_lengthOf 22 = .ok (.ireturn, 1) := by decide +kernel
theorem dX12_feed_0 : decode cX12_feed 0 = .ok (.aload_n 0, 1) := by decide +kernel
theorem dX12_feed_1 : decode cX12_feed 1 = .ok (.getfield 116, 3) := by decide +kernel
theorem dX12_feed_4 : decode cX12_feed 4 = .ok (.bipush 20, 2) := by decide +kernel
theorem dX12_feed_6 : decode cX12_feed 6 = .ok (.iadd, 1) := by decide +kernel
theorem dX12_feed_7 : decode cX12_feed 7 = .ok (.sipush 600, 3) := by decide +kernel
theorem dX12_feed_10 : decode cX12_feed 10 = .ok (.if_icmp .le 5, 3) := by decide +kernel
theorem dX12_feed_15 : decode cX12_feed 15 = .ok (.iconst 0, 1) := by decide +kernel
theorem dX12_feed_16 : decode cX12_feed 16 = .ok (.istore 6, 2) := by decide +kernel
theorem dX12_feed_18 : decode cX12_feed 18 = .ok (.iload 6, 2) := by decide +kernel
theorem dX12_feed_20 : decode cX12_feed 20 = .ok (.bipush 20, 2) := by decide +kernel
theorem dX12_feed_22 : decode cX12_feed 22 = .ok (.if_icmp .ge 93, 3) := by decide +kernel
theorem dX12_feed_25 : decode cX12_feed 25 = .ok (.iload 6, 2) := by decide +kernel
theorem dX12_feed_27 : decode cX12_feed 27 = .ok (.iconst 4, 1) := by decide +kernel
theorem dX12_feed_28 : decode cX12_feed 28 = .ok (.if_icmp .ge 7, 3) := by decide +kernel
theorem dX12_feed_31 : decode cX12_feed 31 = .ok (.iload_n 1, 1) := by decide +kernel
theorem dX12_feed_32 : decode cX12_feed 32 = .ok (.goto 39, 3) := by decide +kernel
theorem dX12_feed_35 : decode cX12_feed 35 = .ok (.iload 6, 2) := by decide +kernel
theorem dX12_feed_37 : decode cX12_feed 37 = .ok (.bipush 8, 2) := by decide +kernel
theorem dX12_feed_39 : decode cX12_feed 39 = .ok (.if_icmp .ge 7, 3) := by decide +kernel
theorem dX12_feed_42 : decode cX12_feed 42 = .ok (.iload_n 2, 1) := by decide +kernel
theorem dX12_feed_43 : decode cX12_feed 43 = .ok (.goto 28, 3) := by decide +kernel
theorem dX12_feed_46 : decode cX12_feed 46 = .ok (.iload 6, 2) := by decide +kernel
theorem dX12_feed_48 : decode cX12_feed 48 = .ok (.bipush 12, 2) := by decide +kernel
theorem dX12_feed_50 : decode cX12_feed 50 = .ok (.if_icmp .ge 7, 3) := by decide +kernel
theorem dX12_feed_53 : decode cX12_feed 53 = .ok (.iload_n 3, 1) := by decide +kernel
theorem dX12_feed_54 : decode cX12_feed 54 = .ok (.goto 17, 3) := by decide +kernel
theorem dX12_feed_57 : decode cX12_feed 57 = .ok (.iload 6, 2) := by decide +kernel
theorem dX12_feed_59 : decode cX12_feed 59 = .ok (.bipush 16, 2) := by decide +kernel
theorem dX12_feed_61 : decode cX12_feed 61 = .ok (.if_icmp .ge 8, 3) := by decide +kernel
theorem dX12_feed_64 : decode cX12_feed 64 = .ok (.iload 4, 2) := by decide +kernel
theorem dX12_feed_66 : decode cX12_feed 66 = .ok (.goto 5, 3) := by decide +kernel
theorem dX12_feed_69 : decode cX12_feed 69 = .ok (.iload 5, 2) := by decide +kernel
theorem dX12_feed_71 : decode cX12_feed 71 = .ok (.istore 7, 2) := by decide +kernel
theorem dX12_feed_73 : decode cX12_feed 73 = .ok (.aload_n 0, 1) := by decide +kernel
theorem dX12_feed_74 : decode cX12_feed 74 = .ok (.getfield 19, 3) := by decide +kernel
theorem dX12_feed_77 : decode cX12_feed 77 = .ok (.aload_n 0, 1) := by decide +kernel
theorem dX12_feed_78 : decode cX12_feed 78 = .ok (.getfield 116, 3) := by decide +kernel
theorem dX12_feed_81 : decode cX12_feed 81 = .ok (.iload 7, 2) := by decide +kernel
theorem dX12_feed_83 : decode cX12_feed 83 = .ok (.bipush 24, 2) := by decide +kernel
theorem dX12_feed_85 : decode cX12_feed 85 = .ok (.bipush 8, 2) := by decide +kernel
theorem dX12_feed_87 : decode cX12_feed 87 = .ok (.iload 6, 2) := by decide +kernel
theorem dX12_feed_89 : decode cX12_feed 89 = .ok (.iconst 4, 1) := by decide +kernel
theorem dX12_feed_90 : decode cX12_feed 90 = .ok (.irem, 1) := by decide +kernel
theorem dX12_feed_91 : decode cX12_feed 91 = .ok (.imul, 1) := by decide +kernel
theorem dX12_feed_92 : decode cX12_feed 92 = .ok (.isub, 1) := by decide +kernel
