theorem dX12_op_0 : decode cX12_op 0 = .ok (.aload_n 0, 1) := by decide +kernel
theorem dX12_op_1 : decode cX12_op 1 = .ok (.invokevirtual 139, 3) := by decide +kernel
theorem dX12_op_4 : decode cX12_op 4 = .ok (.istore_n 1, 1) := by decide +kernel
theorem dX12_op_5 : decode cX12_op 5 = .ok (.aload_n 0, 1) := by decide +kernel
theorem dX12_op_6 : decode cX12_op 6 = .ok (.aload_n 0, 1) := by decide +kernel
theorem dX12_op_7 : decode cX12_op 7 = .ok (.getfield 123, 3) := by decide +kernel
theorem dX12_op_10 : decode cX12_op 10 = .ok (.iconst 1, 1) := by decide +kernel
theorem dX12_op_11 : decode cX12_op 11 = .ok (.iadd, 1) := by decide +kernel
theorem dX12_op_12 : decode cX12_op 12 = .ok (.invokevirtual 126, 3) := by decide +kernel
theorem dX12_op_15 : decode cX12_op 15 = .ok (.istore_n 2, 1) := by decide +kernel
theorem dX12_op_16 : decode cX12_op 16 = .ok (.aload_n 0, 1) := by decide +kernel
theorem dX12_op_17 : decode cX12_op 17 = .ok (.aload_n 0, 1) := by decide +kernel
theorem dX12_op_18 : decode cX12_op 18 = .ok (.getfield 123, 3) := by decide +kernel
theorem dX12_op_21 : decode cX12_op 21 = .ok (.iconst 2, 1) := by decide +kernel
theorem dX12_op_22 : decode cX12_op 22 = .ok (.iadd, 1) := by decide +kernel
theorem dX12_op_23 : decode cX12_op 23 = .ok (.invokevirtual 126, 3) := by decide +kernel
theorem dX12_op_26 : decode cX12_op 26 = .ok (.istore_n 3, 1) := by decide +kernel
theorem dX12_op_27 : decode cX12_op 27 = .ok (.iload_n 1, 1) := by decide +kernel
theorem dX12_op_28 : decode cX12_op 28 = .ok (.bipush 61, 2) := by decide +kernel
theorem dX12_op_30 : decode cX12_op 30 = .ok (.if_icmp .ne 11, 3) := by decide +kernel
theorem dX12_op_33 : decode cX12_op 33 = .ok (.iload_n 2, 1) := by decide +kernel
theorem dX12_op_34 : decode cX12_op 34 = .ok (.bipush 62, 2) := by decide +kernel
theorem dX12_op_36 : decode cX12_op 36 = .ok (.if_icmp .ne 5, 3) := by decide +kernel
theorem dX12_op_39 : decode cX12_op 39 = .ok (.iconst 0, 1) := by decide +kernel
theorem dX12_op_40 : decode cX12_op 40 = .ok (.ireturn, 1) := by decide +kernel
theorem dX12_op_41 : decode cX12_op 41 = .ok (.iload_n 1, 1) := by decide +kernel
theorem dX12_op_42 : decode cX12_op 42 = .ok (.bipush 60, 2) := by decide +kernel
theorem dX12_op_44 : decode cX12_op 44 = .ok (.if_icmp .ne 21, 3) := by decide +kernel
theorem dX12_op_47 : decode cX12_op 47 = .ok (.iload_n 2, 1) := by decide +kernel
theorem dX12_op_48 : decode cX12_op 48 = .ok (.bipush 61, 2) := by decide +kernel
theorem dX12_op_50 : decode cX12_op 50 = .ok (.if_icmp .ne 15, 3) := by decide +kernel
theorem dX12_op_53 : decode cX12_op 53 = .ok (.iload_n 3, 1) := by decide +kernel
theorem dX12_op_54 : decode cX12_op 54 = .ok (.bipush 62, 2) := by decide +kernel
theorem dX12_op_56 : decode cX12_op 56 = .ok (.if_icmp .ne 7, 3) := by decide +kernel
theorem dX12_op_59 : decode cX12_op 59 = .ok (.iconst 2, 1) := by decide +kernel
theorem dX12_op_60 : decode cX12_op 60 = .ok (.goto 4, 3) := by decide +kernel
theorem dX12_op_63 : decode cX12_op 63 = .ok (.iconst 1, 1) := by decide +kernel
theorem dX12_op_64 : decode cX12_op 64 = .ok (.ireturn, 1) := by decide +kernel
theorem dX12_op_65 : decode cX12_op 65 = .ok (.iload_n 1, 1) := by decide +kernel
theorem dX12_op_66 : decode cX12_op 66 = .ok (.bipush 47, 2) := by decide +kernel
theorem dX12_op_68 : decode cX12_op 68 = .ok (.if_icmp .ne 19, 3) := by decide +kernel
theorem dX12_op_71 : decode cX12_op 71 = .ok (.iload_n 2, 1) := by decide +kernel
theorem dX12_op_72 : decode cX12_op 72 = .ok (.bipush 60, 2) := by decide +kernel
theorem dX12_op_74 : decode cX12_op 74 = .ok (.if_icmp .ne 13, 3) := by decide +kernel
theorem dX12_op_77 : decode cX12_op 77 = .ok (.iload_n 3, 1) := by decide +kernel
theorem dX12_op_78 : decode cX12_op 78 = .ok (.bipush 61, 2) := by decide +kernel
theorem dX12_op_80 : decode cX12_op 80 = .ok (.if_icmp .ne 7, 3) := by decide +kernel
theorem dX12_op_83 : decode cX12_op 83 = .ok (.iconst 3, 1) := by decide +kernel
theorem dX12_op_84 : decode cX12_op 84 = .ok (.goto 4, 3) := by decide +kernel
theorem dX12_op_87 : decode cX12_op 87 = .ok (.iconst (-1), 1) := by decide +kernel
theorem dX12_op_88 : decode cX12_op 88 = .ok (.ireturn, 1) := by decide +kernel
theorem dX12_takesX_0 : decode cX12_takesX 0 = .ok (.aload_n 0, 1) := by decide +kernel
theorem dX12_takesX_1 : decode cX12_takesX 1 = .ok (.invokevirtual 139, 3) := by decide +kernel
theorem dX12_takesX_4 : decode cX12_takesX 4 = .ok (.istore_n 1, 1) := by decide +kernel
theorem dX12_takesX_5 : decode cX12_takesX 5 = .ok (.iload_n 1, 1) := by decide +kernel
theorem dX12_takesX_6 : decode cX12_takesX 6 = .ok (.bipush 63, 2) := by decide +kernel
theorem dX12_takesX_8 : decode cX12_takesX 8 = .ok (.if_icmp .ne 13, 3) := by decide +kernel
theorem dX12_takesX_11 : decode cX12_takesX 11 = .ok (.aload_n 0, 1) := by decide +kernel
theorem dX12_takesX_12 : decode cX12_takesX 12 = .ok (.sipush 511, 3) := by decide +kernel
theorem dX12_takesX_15 : decode cX12_takesX 15 = .ok (.putfield 184, 3) := by decide +kernel
theorem dX12_takesX_18 : decode cX12_takesX 18 = .ok (.goto 111, 3) := by decide +kernel
theorem dX12_takesX_21 : decode cX12_takesX 21 = .ok (.iload_n 1, 1) := by decide +kernel
theorem dX12_takesX_22 : decode cX12_takesX 22 = .ok (.bipush 48, 2) := by decide +kernel
theorem dX12_takesX_24 : decode cX12_takesX 24 = .ok (.if_icmp .ne 11, 3) := by decide +kernel
theorem dX12_takesX_27 : decode cX12_takesX 27 = .ok (.aload_n 0, 1) := by decide +kernel
theorem dX12_takesX_28 : decode cX12_takesX 28 = .ok (.iconst 1, 1) := by decide +kernel
theorem dX12_takesX_29 : decode cX12_takesX 29 = .ok (.putfield 184, 3) := by decide +kernel
theorem dX12_takesX_32 : decode cX12_takesX 32 = .ok (.goto 97, 3) := by decide +kernel
theorem dX12_takesX_35 : decode cX12_takesX 35 = .ok (.iload_n 1, 1) := by decide +kernel
theorem dX12_takesX_36 : decode cX12_takesX 36 = .ok (.bipush 65, 2) := by decide +kernel
theorem dX12_takesX_38 : decode cX12_takesX 38 = .ok (.bipush 70, 2) := by decide +kernel
theorem dX12_takesX_40 : decode cX12_takesX 40 = .ok (.invokestatic 119, 3) := by decide +kernel
theorem dX12_takesX_43 : decode cX12_takesX 43 = .ok (.ifCond .eq 36, 3) := by decide +kernel
theorem dX12_takesX_46 : decode cX12_takesX 46 = .ok (.aload_n 0, 1) := by decide +kernel
theorem dX12_takesX_47 : decode cX12_takesX 47 = .ok (.aload_n 0, 1) := by decide +kernel
theorem dX12_takesX_48 : decode cX12_takesX 48 = .ok (.getfield 13, 3) := by decide +kernel
theorem dX12_takesX_51 : decode cX12_takesX 51 = .ok (.bipush 10, 2) := by decide +kernel
theorem dX12_takesX_53 : decode cX12_takesX 53 = .ok (.iload_n 1, 1) := by decide +kernel
theorem dX12_takesX_54 : decode cX12_takesX 54 = .ok (.iadd, 1) := by decide +kernel
theorem dX12_takesX_55 : decode cX12_takesX 55 = .ok (.bipush 65, 2) := by decide +kernel
theorem dX12_takesX_57 : decode cX12_takesX 57 = .ok (.isub, 1) := by decide +kernel
theorem dX12_takesX_58 : decode cX12_takesX 58 = .ok (.iaload, 1) := by decide +kernel
theorem dX12_takesX_59 : decode cX12_takesX 59 = .ok (.putfield 184, 3) := by decide +kernel
theorem dX12_takesX_62 : decode cX12_takesX 62 = .ok (.aload_n 0, 1) := by decide +kernel
theorem dX12_takesX_63 : decode cX12_takesX 63 = .ok (.getfield 184, 3) := by decide +kernel
theorem dX12_takesX_66 : decode cX12_takesX 66 = .ok (.ifCond .ne 63, 3) := by decide +kernel
theorem dX12_takesX_69 : decode cX12_takesX 69 = .ok (.aload_n 0, 1) := by decide +kernel
theorem dX12_takesX_70 : decode cX12_takesX 70 = .ok (.iconst 2, 1) := by decide +kernel
theorem dX12_takesX_71 : decode cX12_takesX 71 = .ok (.aload_n 0, 1) := by decide +kernel
theorem dX12_takesX_72 : decode cX12_takesX 72 = .ok (.getfield 123, 3) := by decide +kernel
theorem dX12_takesX_75 : decode cX12_takesX 75 = .ok (.invokevirtual 143, 3) := by decide +kernel
theorem dX12_takesX_78 : decode cX12_takesX 78 = .ok (.ireturn, 1) := by decide +kernel
theorem dX12_takesX_79 : decode cX12_takesX 79 = .ok (.iload_n 1, 1) := by decide +kernel
theorem dX12_takesX_80 : decode cX12_takesX 80 = .ok (.invokestatic 159, 3) := by decide +kernel
theorem dX12_takesX_83 : decode cX12_takesX 83 = .ok (.ifCond .eq 36, 3) := by decide +kernel
theorem dX12_takesX_86 : decode cX12_takesX 86 = .ok (.aload_n 0, 1) := by decide +kernel
theorem dX12_takesX_87 : decode cX12_takesX 87 = .ok (.getfield 13, 3) := by decide +kernel
theorem dX12_takesX_90 : decode cX12_takesX 90 = .ok (.iload_n 1, 1) := by decide +kernel
theorem dX12_takesX_91 : decode cX12_takesX 91 = .ok (.invokestatic 163, 3) := by decide +kernel
theorem dX12_takesX_94 : decode cX12_takesX 94 = .ok (.istore_n 2, 1) := by decide +kernel
theorem dX12_takesX_95 : decode cX12_takesX 95 = .ok (.iload_n 2, 1) := by decide +kernel
theorem dX12_takesX_96 : decode cX12_takesX 96 = .ok (.ifCond .ne 13, 3) := by decide +kernel
theorem dX12_takesX_99 : decode cX12_takesX 99 = .ok (.aload_n 0, 1) := by decide +kernel
theorem dX12_takesX_100 : decode cX12_takesX 100 = .ok (.iconst 2, 1) := by decide +kernel
theorem dX12_takesX_101 : decode cX12_takesX 101 = .ok (.aload_n 0, 1) := by decide +kernel
theorem dX12_takesX_102 : decode cX12_takesX 102 = .ok (.getfield 123, 3) := by decide +kernel
theorem dX12_takesX_105 : decode cX12_takesX 105 = .ok (.invokevirtual 143, 3) := by decide +kernel
theorem dX12_takesX_108 : decode cX12_takesX 108 = .ok (.ireturn, 1) := by decide +kernel
theorem dX12_takesX_109 : decode cX12_takesX 109 = .ok (.aload_n 0, 1) := by decide +kernel
theorem dX12_takesX_110 : decode cX12_takesX 110 = .ok (.iconst 1, 1) := by decide +kernel
theorem dX12_takesX_111 : decode cX12_takesX 111 = .ok (.iload_n 2, 1) := by decide +kernel
theorem dX12_takesX_112 : decode cX12_takesX 112 = .ok (.ishl, 1) := by decide +kernel
theorem dX12_takesX_113 : decode cX12_takesX 113 = .ok (.putfield 184, 3) := by decide +kernel
theorem dX12_takesX_116 : decode cX12_takesX 116 = .ok (.goto 13, 3) := by decide +kernel
theorem dX12_takesX_119 : decode cX12_takesX 119 = .ok (.aload_n 0, 1) := by decide +kernel
theorem dX12_takesX_120 : decode cX12_takesX 120 = .ok (.iconst 1, 1) := by decide +kernel
theorem dX12_takesX_121 : decode cX12_takesX 121 = .ok (.aload_n 0, 1) := by decide +kernel
theorem dX12_takesX_122 : decode cX12_takesX 122 = .ok (.getfield 123, 3) := by decide +kernel
theorem dX12_takesX_125 : decode cX12_takesX 125 = .ok (.invokevirtual 143, 3) := by decide +kernel
theorem dX12_takesX_128 : decode cX12_takesX 128 = .ok (.ireturn, 1) := by decide +kernel
theorem dX12_takesX_129 : decode cX12_takesX 129 = .ok (.aload_n 0, 1) := by decide +kernel
theorem dX12_takesX_130 : decode cX12_takesX 130 = .ok (.dup, 1) := by decide +kernel
theorem dX12_takesX_131 : decode cX12_takesX 131 = .ok (.getfield 123, 3) := by decide +kernel
theorem dX12_takesX_134 : decode cX12_takesX 134 = .ok (.iconst 1, 1) := by decide +kernel
theorem dX12_takesX_135 : decode cX12_takesX 135 = .ok (.iadd, 1) := by decide +kernel
theorem dX12_takesX_136 : decode cX12_takesX 136 = .ok (.putfield 123, 3) := by decide +kernel
theorem dX12_takesX_139 : decode cX12_takesX 139 = .ok (.iconst 1, 1) := by decide +kernel
theorem dX12_takesX_140 : decode cX12_takesX 140 = .ok (.ireturn, 1) := by decide +kernel
theorem dX12_isX_0 : decode cX12_isX 0 = .ok (.iload_n 0, 1) := by decide +kernel
theorem dX12_isX_1 : decode cX12_isX 1 = .ok (.bipush 63, 2) := by decide +kernel
theorem dX12_isX_3 : decode cX12_isX 3 = .ok (.if_icmp .eq 27, 3) := by decide +kernel
theorem dX12_isX_6 : decode cX12_isX 6 = .ok (.iload_n 0, 1) := by decide +kernel
theorem dX12_isX_7 : decode cX12_isX 7 = .ok (.bipush 48, 2) := by decide +kernel
theorem dX12_isX_9 : decode cX12_isX 9 = .ok (.if_icmp .eq 21, 3) := by decide +kernel
theorem dX12_isX_12 : decode cX12_isX 12 = .ok (.iload_n 0, 1) := by decide +kernel
theorem dX12_isX_13 : decode cX12_isX 13 = .ok (.bipush 65, 2) := by decide +kernel
theorem dX12_isX_15 : decode cX12_isX 15 = .ok (.bipush 70, 2) := by decide +kernel
theorem dX12_isX_17 : decode cX12_isX 17 = .ok (.invokestatic 119, 3) := by decide +kernel
theorem dX12_isX_20 : decode cX12_isX 20 = .ok (.ifCond .ne 10, 3) := by decide +kernel
theorem dX12_isX_23 : decode cX12_isX 23 = .ok (.iload_n 0, 1) := by decide +kernel
theorem dX12_isX_24 : decode cX12_isX 24 = .ok (.invokestatic 159, 3) := by decide +kernel
theorem dX12_isX_27 : decode cX12_isX 27 = .ok (.ifCond .eq 7, 3) := by decide +kernel
theorem dX12_isX_30 : decode cX12_isX 30 = .ok (.iconst 1, 1) := by decide +kernel
theorem dX12_isX_31 : decode cX12_isX 31 = .ok (.goto 4, 3) := by decide +kernel
theorem dX12_isX_34 : decode cX12_isX 34 = .ok (.iconst 0, 1) := by decide +kernel
theorem dX12_isX_35 : decode cX12_isX 35 = .ok (.ireturn, 1) := by decide +kernel
theorem dX12_item_0 : decode cX12_item 0 = .ok (.aload_n 0, 1) := by decide +kernel
theorem dX12_item_1 : decode cX12_item 1 = .ok (.invokevirtual 139, 3) := by decide +kernel
theorem dX12_item_4 : decode cX12_item 4 = .ok (.bipush 63, 2) := by decide +kernel
theorem dX12_item_6 : decode cX12_item 6 = .ok (.if_icmp .ne 7, 3) := by decide +kernel
theorem dX12_item_9 : decode cX12_item 9 = .ok (.iconst 1, 1) := by decide +kernel
theorem dX12_item_10 : decode cX12_item 10 = .ok (.goto 4, 3) := by decide +kernel
theorem dX12_item_13 : decode cX12_item 13 = .ok (.iconst 0, 1) := by decide +kernel
theorem dX12_item_14 : decode cX12_item 14 = .ok (.istore_n 2, 1) := by decide +kernel
theorem dX12_item_15 : decode cX12_item 15 = .ok (.aload_n 0, 1) := by decide +kernel
theorem dX12_item_16 : decode cX12_item 16 = .ok (.invokevirtual 187, 3) := by decide +kernel
theorem dX12_item_19 : decode cX12_item 19 = .ok (.ifCond .ne 5, 3) := by decide +kernel
theorem dX12_item_22 : decode cX12_item 22 = .ok (.iconst 0, 1) := by decide +kernel
theorem dX12_item_23 : decode cX12_item 23 = .ok (.ireturn, 1) := by decide +kernel
theorem dX12_item_24 : decode cX12_item 24 = .ok (.aload_n 0, 1) := by decide +kernel
theorem dX12_item_25 : decode cX12_item 25 = .ok (.getfield 13, 3) := by decide +kernel
theorem dX12_item_28 : decode cX12_item 28 = .ok (.iload_n 1, 1) := by decide +kernel
theorem dX12_item_29 : decode cX12_item 29 = .ok (.aload_n 0, 1) := by decide +kernel
theorem dX12_item_30 : decode cX12_item 30 = .ok (.getfield 184, 3) := by decide +kernel
theorem dX12_item_33 : decode cX12_item 33 = .ok (.iastore, 1) := by decide +kernel
theorem dX12_item_34 : decode cX12_item 34 = .ok (.aload_n 0, 1) := by decide +kernel
theorem dX12_item_35 : decode cX12_item 35 = .ok (.getfield 13, 3) := by decide +kernel
theorem dX12_item_38 : decode cX12_item 38 = .ok (.iload_n 1, 1) := by decide +kernel
theorem dX12_item_39 : decode cX12_item 39 = .ok (.iconst 1, 1) := by decide +kernel
theorem dX12_item_40 : decode cX12_item 40 = .ok (.iadd, 1) := by decide +kernel
theorem dX12_item_41 : decode cX12_item 41 = .ok (.aload_n 0, 1) := by decide +kernel
theorem dX12_item_42 : decode cX12_item 42 = .ok (.getfield 184, 3) := by decide +kernel
theorem dX12_item_45 : decode cX12_item 45 = .ok (.iastore, 1) := by decide +kernel
theorem dX12_item_46 : decode cX12_item 46 = .ok (.aload_n 0, 1) := by decide +kernel
theorem dX12_item_47 : decode cX12_item 47 = .ok (.getfield 13, 3) := by decide +kernel
theorem dX12_item_50 : decode cX12_item 50 = .ok (.iload_n 1, 1) := by decide +kernel
theorem dX12_item_51 : decode cX12_item 51 = .ok (.iconst 2, 1) := by decide +kernel
theorem dX12_item_52 : decode cX12_item 52 = .ok (.iadd, 1) := by decide +kernel
theorem dX12_item_53 : decode cX12_item 53 = .ok (.iload_n 2, 1) := by decide +kernel
theorem dX12_item_54 : decode cX12_item 54 = .ok (.ifCond .eq 7, 3) := by decide +kernel
theorem dX12_item_57 : decode cX12_item 57 = .ok (.iconst 0, 1) := by decide +kernel
theorem dX12_item_58 : decode cX12_item 58 = .ok (.goto 4, 3) := by decide +kernel
theorem dX12_item_61 : decode cX12_item 61 = .ok (.iconst 1, 1) := by decide +kernel
theorem dX12_item_62 : decode cX12_item 62 = .ok (.iastore, 1) := by decide +kernel
theorem dX12_item_63 : decode cX12_item 63 = .ok (.aload_n 0, 1) := by decide +kernel
theorem dX12_item_64 : decode cX12_item 64 = .ok (.invokevirtual 139, 3) := by decide +kernel
theorem dX12_item_67 : decode cX12_item 67 = .ok (.bipush 58, 2) := by decide +kernel
theorem dX12_item_69 : decode cX12_item 69 = .ok (.if_icmp .ne 43, 3) := by decide +kernel
theorem dX12_item_72 : decode cX12_item 72 = .ok (.aload_n 0, 1) := by decide +kernel
theorem dX12_item_73 : decode cX12_item 73 = .ok (.dup, 1) := by decide +kernel
theorem dX12_item_74 : decode cX12_item 74 = .ok (.getfield 123, 3) := by decide +kernel
theorem dX12_item_77 : decode cX12_item 77 = .ok (.iconst 1, 1) := by decide +kernel
theorem dX12_item_78 : decode cX12_item 78 = .ok (.iadd, 1) := by decide +kernel
theorem dX12_item_79 : decode cX12_item 79 = .ok (.putfield 123, 3) := by decide +kernel
theorem dX12_item_82 : decode cX12_item 82 = .ok (.aload_n 0, 1) := by decide +kernel
theorem dX12_item_83 : decode cX12_item 83 = .ok (.invokevirtual 187, 3) := by decide +kernel
theorem dX12_item_86 : decode cX12_item 86 = .ok (.ifCond .ne 5, 3) := by decide +kernel
theorem dX12_item_89 : decode cX12_item 89 = .ok (.iconst 0, 1) := by decide +kernel
theorem dX12_item_90 : decode cX12_item 90 = .ok (.ireturn, 1) := by decide +kernel
theorem dX12_item_91 : decode cX12_item 91 = .ok (.aload_n 0, 1) := by decide +kernel
theorem dX12_item_92 : decode cX12_item 92 = .ok (.getfield 13, 3) := by decide +kernel
theorem dX12_item_95 : decode cX12_item 95 = .ok (.iload_n 1, 1) := by decide +kernel
theorem dX12_item_96 : decode cX12_item 96 = .ok (.iconst 1, 1) := by decide +kernel
theorem dX12_item_97 : decode cX12_item 97 = .ok (.iadd, 1) := by decide +kernel
theorem dX12_item_98 : decode cX12_item 98 = .ok (.aload_n 0, 1) := by decide +kernel
theorem dX12_item_99 : decode cX12_item 99 = .ok (.getfield 184, 3) := by decide +kernel
theorem dX12_item_102 : decode cX12_item 102 = .ok (.iastore, 1) := by decide +kernel
theorem dX12_item_103 : decode cX12_item 103 = .ok (.aload_n 0, 1) := by decide +kernel
theorem dX12_item_104 : decode cX12_item 104 = .ok (.getfield 13, 3) := by decide +kernel
theorem dX12_item_107 : decode cX12_item 107 = .ok (.iload_n 1, 1) := by decide +kernel
theorem dX12_item_108 : decode cX12_item 108 = .ok (.iconst 2, 1) := by decide +kernel
theorem dX12_item_109 : decode cX12_item 109 = .ok (.iadd, 1) := by decide +kernel
theorem dX12_item_110 : decode cX12_item 110 = .ok (.iconst 0, 1) := by decide +kernel
theorem dX12_item_111 : decode cX12_item 111 = .ok (.iastore, 1) := by decide +kernel
theorem dX12_item_112 : decode cX12_item 112 = .ok (.aload_n 0, 1) := by decide +kernel
theorem dX12_item_113 : decode cX12_item 113 = .ok (.getfield 13, 3) := by decide +kernel
theorem dX12_item_116 : decode cX12_item 116 = .ok (.iload_n 1, 1) := by decide +kernel
theorem dX12_item_117 : decode cX12_item 117 = .ok (.iconst 3, 1) := by decide +kernel
theorem dX12_item_118 : decode cX12_item 118 = .ok (.iadd, 1) := by decide +kernel
theorem dX12_item_119 : decode cX12_item 119 = .ok (.aload_n 0, 1) := by decide +kernel
theorem dX12_item_120 : decode cX12_item 120 = .ok (.invokevirtual 139, 3) := by decide +kernel
theorem dX12_item_123 : decode cX12_item 123 = .ok (.bipush 42, 2) := by decide +kernel
theorem dX12_item_125 : decode cX12_item 125 = .ok (.if_icmp .ne 7, 3) := by decide +kernel
theorem dX12_item_128 : decode cX12_item 128 = .ok (.iconst 1, 1) := by decide +kernel
theorem dX12_item_129 : decode cX12_item 129 = .ok (.goto 4, 3) := by decide +kernel
theorem dX12_item_132 : decode cX12_item 132 = .ok (.iconst 0, 1) := by decide +kernel
theorem dX12_item_133 : decode cX12_item 133 = .ok (.iastore, 1) := by decide +kernel
theorem dX12_item_134 : decode cX12_item 134 = .ok (.aload_n 0, 1) := by decide +kernel
theorem dX12_item_135 : decode cX12_item 135 = .ok (.invokevirtual 139, 3) := by decide +kernel
theorem dX12_item_138 : decode cX12_item 138 = .ok (.bipush 42, 2) := by decide +kernel
theorem dX12_item_140 : decode cX12_item 140 = .ok (.if_icmp .ne 13, 3) := by decide +kernel
theorem dX12_item_143 : decode cX12_item 143 = .ok (.aload_n 0, 1) := by decide +kernel
theorem dX12_item_144 : decode cX12_item 144 = .ok (.dup, 1) := by decide +kernel
theorem dX12_item_145 : decode cX12_item 145 = .ok (.getfield 123, 3) := by decide +kernel
theorem dX12_item_148 : decode cX12_item 148 = .ok (.iconst 1, 1) := by decide +kernel
theorem dX12_item_149 : decode cX12_item 149 = .ok (.iadd, 1) := by decide +kernel
theorem dX12_item_150 : decode cX12_item 150 = .ok (.putfield 123, 3) := by decide +kernel
theorem dX12_item_153 : decode cX12_item 153 = .ok (.iconst 1, 1) := by decide +kernel
theorem dX12_item_154 : decode cX12_item 154 = .ok (.ireturn, 1) := by decide +kernel
theorem dX12_side_0 : decode cX12_side 0 = .ok (.iconst 0, 1) := by decide +kernel
theorem dX12_side_1 : decode cX12_side 1 = .ok (.istore_n 3, 1) := by decide +kernel
theorem dX12_side_2 : decode cX12_side 2 = .ok (.aload_n 0, 1) := by decide +kernel
theorem dX12_side_3 : decode cX12_side 3 = .ok (.invokevirtual 139, 3) := by decide +kernel
theorem dX12_side_6 : decode cX12_side 6 = .ok (.invokestatic 190, 3) := by decide +kernel
theorem dX12_side_9 : decode cX12_side 9 = .ok (.ifCond .eq 68, 3) := by decide +kernel
theorem dX12_side_12 : decode cX12_side 12 = .ok (.iload_n 3, 1) := by decide +kernel
theorem dX12_side_13 : decode cX12_side 13 = .ok (.iconst 5, 1) := by decide +kernel
theorem dX12_side_14 : decode cX12_side 14 = .ok (.if_icmp .ne 32, 3) := by decide +kernel
theorem dX12_side_17 : decode cX12_side 17 = .ok (.aload_n 0, 1) := by decide +kernel
theorem dX12_side_18 : decode cX12_side 18 = .ok (.getfield 123, 3) := by decide +kernel
theorem dX12_side_21 : decode cX12_side 21 = .ok (.istore 4, 2) := by decide +kernel
theorem dX12_side_23 : decode cX12_side 23 = .ok (.aload_n 0, 1) := by decide +kernel
theorem dX12_side_24 : decode cX12_side 24 = .ok (.invokevirtual 187, 3) := by decide +kernel
theorem dX12_side_27 : decode cX12_side 27 = .ok (.ifCond .eq 17, 3) := by decide +kernel
theorem dX12_side_30 : decode cX12_side 30 = .ok (.aload_n 0, 1) := by decide +kernel
theorem dX12_side_31 : decode cX12_side 31 = .ok (.iconst 3, 1) := by decide +kernel
theorem dX12_side_32 : decode cX12_side 32 = .ok (.iload 4, 2) := by decide +kernel
theorem dX12_side_34 : decode cX12_side 34 = .ok (.invokevirtual 143, 3) := by decide +kernel
theorem dX12_side_37 : decode cX12_side 37 = .ok (.ifCond .eq 7, 3) := by decide +kernel
theorem dX12_side_44 : decode cX12_side 44 = .ok (.iconst 0, 1) := by decide +kernel
theorem dX12_side_45 : decode cX12_side 45 = .ok (.ireturn, 1) := by decide +kernel
theorem dX12_side_46 : decode cX12_side 46 = .ok (.aload_n 0, 1) := by decide +kernel
theorem dX12_side_47 : decode cX12_side 47 = .ok (.sipush 600, 3) := by decide +kernel
theorem dX12_side_50 : decode cX12_side 50 = .ok (.iconst 4, 1) := by decide +kernel
theorem dX12_side_51 : decode cX12_side 51 = .ok (.bipush 10, 2) := by decide +kernel
theorem dX12_side_53 : decode cX12_side 53 = .ok (.iload_n 1, 1) := by decide +kernel
theorem dX12_side_54 : decode cX12_side 54 = .ok (.imul, 1) := by decide +kernel
theorem dX12_side_55 : decode cX12_side 55 = .ok (.iconst 5, 1) := by decide +kernel
theorem dX12_side_56 : decode cX12_side 56 = .ok (.iload_n 2, 1) := by decide +kernel
theorem dX12_side_57 : decode cX12_side 57 = .ok (.imul, 1) := by decide +kernel
theorem dX12_side_58 : decode cX12_side 58 = .ok (.iadd, 1) := by decide +kernel
theorem dX12_side_59 : decode cX12_side 59 = .ok (.iload_n 3, 1) := by decide +kernel
theorem dX12_side_60 : decode cX12_side 60 = .ok (.iadd, 1) := by decide +kernel
theorem dX12_side_61 : decode cX12_side 61 = .ok (.imul, 1) := by decide +kernel
theorem dX12_side_62 : decode cX12_side 62 = .ok (.iadd, 1) := by decide +kernel
theorem dX12_side_63 : decode cX12_side 63 = .ok (.invokevirtual 193, 3) := by decide +kernel
theorem dX12_side_66 : decode cX12_side 66 = .ok (.ifCond .ne 5, 3) := by decide +kernel
theorem dX12_side_69 : decode cX12_side 69 = .ok (.iconst 0, 1) := by decide +kernel
theorem dX12_side_70 : decode cX12_side 70 = .ok (.ireturn, 1) := by decide +kernel
theorem dX12_side_71 : decode cX12_side 71 = .ok (.iinc 3 1, 3) := by decide +kernel
theorem dX12_side_74 : decode cX12_side 74 = .ok (.goto (-72), 3) := by decide +kernel
theorem dX12_side_77 : decode cX12_side 77 = .ok (.aload_n 0, 1) := by decide +kernel
theorem dX12_side_78 : decode cX12_side 78 = .ok (.getfield 13, 3) := by decide +kernel
theorem dX12_side_81 : decode cX12_side 81 = .ok (.sipush 500, 3) := by decide +kernel
theorem dX12_side_84 : decode cX12_side 84 = .ok (.iconst 4, 1) := by decide +kernel
theorem dX12_side_85 : decode cX12_side 85 = .ok (.iload_n 1, 1) := by decide +kernel
theorem dX12_side_86 : decode cX12_side 86 = .ok (.imul, 1) := by decide +kernel
theorem dX12_side_87 : decode cX12_side 87 = .ok (.iadd, 1) := by decide +kernel
theorem dX12_side_88 : decode cX12_side 88 = .ok (.iconst 2, 1) := by decide +kernel
theorem dX12_side_89 : decode cX12_side 89 = .ok (.iadd, 1) := by decide +kernel
theorem dX12_side_90 : decode cX12_side 90 = .ok (.iload_n 2, 1) := by decide +kernel
theorem dX12_side_91 : decode cX12_side 91 = .ok (.iadd, 1) := by decide +kernel
theorem dX12_side_92 : decode cX12_side 92 = .ok (.iload_n 3, 1) := by decide +kernel
theorem dX12_side_93 : decode cX12_side 93 = .ok (.iastore, 1) := by decide +kernel
theorem dX12_side_94 : decode cX12_side 94 = .ok (.iconst 1, 1) := by decide +kernel
theorem dX12_side_95 : decode cX12_side 95 = .ok (.ireturn, 1) := by decide +kernel
theorem dX12_context_0 : decode cX12_context 0 = .ok (.aload_n 0, 1) := by decide +kernel
theorem dX12_context_1 : decode cX12_context 1 = .ok (.getfield 13, 3) := by decide +kernel
theorem dX12_context_4 : decode cX12_context 4 = .ok (.sipush 500, 3) := by decide +kernel
theorem dX12_context_7 : decode cX12_context 7 = .ok (.iconst 4, 1) := by decide +kernel
theorem dX12_context_8 : decode cX12_context 8 = .ok (.iload_n 1, 1) := by decide +kernel
theorem dX12_context_9 : decode cX12_context 9 = .ok (.imul, 1) := by decide +kernel
theorem dX12_context_10 : decode cX12_context 10 = .ok (.iadd, 1) := by decide +kernel
theorem dX12_context_11 : decode cX12_context 11 = .ok (.aload_n 0, 1) := by decide +kernel
theorem dX12_context_12 : decode cX12_context 12 = .ok (.invokevirtual 139, 3) := by decide +kernel
theorem dX12_context_15 : decode cX12_context 15 = .ok (.bipush 35, 2) := by decide +kernel
theorem dX12_context_17 : decode cX12_context 17 = .ok (.if_icmp .ne 7, 3) := by decide +kernel
theorem dX12_context_20 : decode cX12_context 20 = .ok (.iconst 1, 1) := by decide +kernel
theorem dX12_context_21 : decode cX12_context 21 = .ok (.goto 4, 3) := by decide +kernel
theorem dX12_context_24 : decode cX12_context 24 = .ok (.iconst 0, 1) := by decide +kernel
theorem dX12_context_25 : decode cX12_context 25 = .ok (.iastore, 1) := by decide +kernel
theorem dX12_context_26 : decode cX12_context 26 = .ok (.aload_n 0, 1) := by decide +kernel
theorem dX12_context_27 : decode cX12_context 27 = .ok (.invokevirtual 139, 3) := by decide +kernel
theorem dX12_context_30 : decode cX12_context 30 = .ok (.bipush 35, 2) := by decide +kernel
theorem dX12_context_32 : decode cX12_context 32 = .ok (.if_icmp .ne 13, 3) := by decide +kernel
theorem dX12_context_35 : decode cX12_context 35 = .ok (.aload_n 0, 1) := by decide +kernel
theorem dX12_context_36 : decode cX12_context 36 = .ok (.dup, 1) := by decide +kernel
theorem dX12_context_37 : decode cX12_context 37 = .ok (.getfield 123, 3) := by decide +kernel
theorem dX12_context_40 : decode cX12_context 40 = .ok (.iconst 1, 1) := by decide +kernel
theorem dX12_context_41 : decode cX12_context 41 = .ok (.iadd, 1) := by decide +kernel
theorem dX12_context_42 : decode cX12_context 42 = .ok (.putfield 123, 3) := by decide +kernel
theorem dX12_context_45 : decode cX12_context 45 = .ok (.aload_n 0, 1) := by decide +kernel
theorem dX12_context_46 : decode cX12_context 46 = .ok (.iload_n 1, 1) := by decide +kernel
theorem dX12_context_47 : decode cX12_context 47 = .ok (.iconst 0, 1) := by decide +kernel
theorem dX12_context_48 : decode cX12_context 48 = .ok (.invokevirtual 196, 3) := by decide +kernel
theorem dX12_context_51 : decode cX12_context 51 = .ok (.ifCond .eq 21, 3) := by decide +kernel
theorem dX12_context_54 : decode cX12_context 54 = .ok (.aload_n 0, 1) := by decide +kernel
theorem dX12_context_55 : decode cX12_context 55 = .ok (.bipush 95, 2) := by decide +kernel
theorem dX12_context_57 : decode cX12_context 57 = .ok (.invokevirtual 174, 3) := by decide +kernel
theorem dX12_context_60 : decode cX12_context 60 = .ok (.ifCond .eq 12, 3) := by decide +kernel
theorem dX12_context_63 : decode cX12_context 63 = .ok (.aload_n 0, 1) := by decide +kernel
theorem dX12_context_64 : decode cX12_context 64 = .ok (.iload_n 1, 1) := by decide +kernel
theorem dX12_context_65 : decode cX12_context 65 = .ok (.iconst 1, 1) := by decide +kernel
theorem dX12_context_66 : decode cX12_context 66 = .ok (.invokevirtual 196, 3) := by decide +kernel
theorem dX12_context_69 : decode cX12_context 69 = .ok (.ifCond .ne 5, 3) := by decide +kernel
theorem dX12_context_72 : decode cX12_context 72 = .ok (.iconst 0, 1) := by decide +kernel
theorem dX12_context_73 : decode cX12_context 73 = .ok (.ireturn, 1) := by decide +kernel
theorem dX12_context_74 : decode cX12_context 74 = .ok (.aload_n 0, 1) := by decide +kernel
theorem dX12_context_75 : decode cX12_context 75 = .ok (.getfield 13, 3) := by decide +kernel
theorem dX12_context_78 : decode cX12_context 78 = .ok (.sipush 500, 3) := by decide +kernel
theorem dX12_context_81 : decode cX12_context 81 = .ok (.iconst 4, 1) := by decide +kernel
theorem dX12_context_82 : decode cX12_context 82 = .ok (.iload_n 1, 1) := by decide +kernel
theorem dX12_context_83 : decode cX12_context 83 = .ok (.imul, 1) := by decide +kernel
theorem dX12_context_84 : decode cX12_context 84 = .ok (.iadd, 1) := by decide +kernel
theorem dX12_context_85 : decode cX12_context 85 = .ok (.iconst 1, 1) := by decide +kernel
theorem dX12_context_86 : decode cX12_context 86 = .ok (.iadd, 1) := by decide +kernel
theorem dX12_context_87 : decode cX12_context 87 = .ok (.aload_n 0, 1) := by decide +kernel
theorem dX12_context_88 : decode cX12_context 88 = .ok (.invokevirtual 139, 3) := by decide +kernel
theorem dX12_context_91 : decode cX12_context 91 = .ok (.bipush 35, 2) := by decide +kernel
theorem dX12_context_93 : decode cX12_context 93 = .ok (.if_icmp .ne 7, 3) := by decide +kernel
theorem dX12_context_96 : decode cX12_context 96 = .ok (.iconst 1, 1) := by decide +kernel
theorem dX12_context_97 : decode cX12_context 97 = .ok (.goto 4, 3) := by decide +kernel
theorem dX12_context_100 : decode cX12_context 100 = .ok (.iconst 0, 1) := by decide +kernel
theorem dX12_context_101 : decode cX12_context 101 = .ok (.iastore, 1) := by decide +kernel
theorem dX12_context_102 : decode cX12_context 102 = .ok (.aload_n 0, 1) := by decide +kernel
theorem dX12_context_103 : decode cX12_context 103 = .ok (.invokevirtual 139, 3) := by decide +kernel
theorem dX12_context_106 : decode cX12_context 106 = .ok (.bipush 35, 2) := by decide +kernel
theorem dX12_context_108 : decode cX12_context 108 = .ok (.if_icmp .ne 13, 3) := by decide +kernel
theorem dX12_context_111 : decode cX12_context 111 = .ok (.aload_n 0, 1) := by decide +kernel
theorem dX12_context_112 : decode cX12_context 112 = .ok (.dup, 1) := by decide +kernel
theorem dX12_context_113 : decode cX12_context 113 = .ok (.getfield 123, 3) := by decide +kernel
theorem dX12_context_116 : decode cX12_context 116 = .ok (.iconst 1, 1) := by decide +kernel
theorem dX12_context_117 : decode cX12_context 117 = .ok (.iadd, 1) := by decide +kernel
theorem dX12_context_118 : decode cX12_context 118 = .ok (.putfield 123, 3) := by decide +kernel
theorem dX12_context_121 : decode cX12_context 121 = .ok (.iconst 1, 1) := by decide +kernel
theorem dX12_context_122 : decode cX12_context 122 = .ok (.ireturn, 1) := by decide +kernel
theorem dX12_ruled_0 : decode cX12_ruled 0 = .ok (.aload_n 0, 1) := by decide +kernel
theorem dX12_ruled_1 : decode cX12_ruled 1 = .ok (.getfield 13, 3) := by decide +kernel
theorem dX12_ruled_4 : decode cX12_ruled 4 = .ok (.bipush 17, 2) := by decide +kernel
theorem dX12_ruled_6 : decode cX12_ruled 6 = .ok (.iaload, 1) := by decide +kernel
theorem dX12_ruled_7 : decode cX12_ruled 7 = .ok (.istore_n 1, 1) := by decide +kernel
theorem dX12_ruled_8 : decode cX12_ruled 8 = .ok (.aload_n 0, 1) := by decide +kernel
theorem dX12_ruled_9 : decode cX12_ruled 9 = .ok (.invokevirtual 199, 3) := by decide +kernel
theorem dX12_ruled_12 : decode cX12_ruled 12 = .ok (.ifCond .ne 5, 3) := by decide +kernel
theorem dX12_ruled_15 : decode cX12_ruled 15 = .ok (.iconst 0, 1) := by decide +kernel
theorem dX12_ruled_16 : decode cX12_ruled 16 = .ok (.ireturn, 1) := by decide +kernel
theorem dX12_ruled_17 : decode cX12_ruled 17 = .ok (.aload_n 0, 1) := by decide +kernel
theorem dX12_ruled_18 : decode cX12_ruled 18 = .ok (.invokevirtual 202, 3) := by decide +kernel
theorem dX12_ruled_21 : decode cX12_ruled 21 = .ok (.istore_n 2, 1) := by decide +kernel
theorem dX12_ruled_22 : decode cX12_ruled 22 = .ok (.iload_n 2, 1) := by decide +kernel
theorem dX12_ruled_23 : decode cX12_ruled 23 = .ok (.iconst (-1), 1) := by decide +kernel
theorem dX12_ruled_24 : decode cX12_ruled 24 = .ok (.if_icmp .ne 13, 3) := by decide +kernel
theorem dX12_ruled_27 : decode cX12_ruled 27 = .ok (.aload_n 0, 1) := by decide +kernel
theorem dX12_ruled_28 : decode cX12_ruled 28 = .ok (.iconst 1, 1) := by decide +kernel
theorem dX12_ruled_29 : decode cX12_ruled 29 = .ok (.aload_n 0, 1) := by decide +kernel
theorem dX12_ruled_30 : decode cX12_ruled 30 = .ok (.getfield 123, 3) := by decide +kernel
theorem dX12_ruled_33 : decode cX12_ruled 33 = .ok (.invokevirtual 143, 3) := by decide +kernel
theorem dX12_ruled_36 : decode cX12_ruled 36 = .ok (.ireturn, 1) := by decide +kernel
theorem dX12_ruled_37 : decode cX12_ruled 37 = .ok (.iload_n 2, 1) := by decide +kernel
theorem dX12_ruled_38 : decode cX12_ruled 38 = .ok (.iconst 1, 1) := by decide +kernel
theorem dX12_ruled_39 : decode cX12_ruled 39 = .ok (.if_icmp .eq 8, 3) := by decide +kernel
theorem dX12_ruled_42 : decode cX12_ruled 42 = .ok (.iload_n 2, 1) := by decide +kernel
theorem dX12_ruled_43 : decode cX12_ruled 43 = .ok (.iconst 2, 1) := by decide +kernel
theorem dX12_ruled_44 : decode cX12_ruled 44 = .ok (.if_icmp .ne 20, 3) := by decide +kernel
theorem dX12_ruled_47 : decode cX12_ruled 47 = .ok (.aload_n 0, 1) := by decide +kernel
theorem dX12_ruled_48 : decode cX12_ruled 48 = .ok (.getfield 171, 3) := by decide +kernel
theorem dX12_ruled_51 : decode cX12_ruled 51 = .ok (.ifCond .ne 13, 3) := by decide +kernel
theorem dX12_ruled_54 : decode cX12_ruled 54 = .ok (.aload_n 0, 1) := by decide +kernel
theorem dX12_ruled_55 : decode cX12_ruled 55 = .ok (.iconst 2, 1) := by decide +kernel
theorem dX12_ruled_56 : decode cX12_ruled 56 = .ok (.aload_n 0, 1) := by decide +kernel
theorem dX12_ruled_57 : decode cX12_ruled 57 = .ok (.getfield 123, 3) := by decide +kernel
theorem dX12_ruled_60 : decode cX12_ruled 60 = .ok (.invokevirtual 143, 3) := by decide +kernel
theorem dX12_ruled_63 : decode cX12_ruled 63 = .ok (.ireturn, 1) := by decide +kernel
theorem dX12_ruled_64 : decode cX12_ruled 64 = .ok (.aload_n 0, 1) := by decide +kernel
theorem dX12_ruled_65 : decode cX12_ruled 65 = .ok (.dup, 1) := by decide +kernel
theorem dX12_ruled_66 : decode cX12_ruled 66 = .ok (.getfield 123, 3) := by decide +kernel
theorem dX12_ruled_69 : decode cX12_ruled 69 = .ok (.iload_n 2, 1) := by decide +kernel
theorem dX12_ruled_70 : decode cX12_ruled 70 = .ok (.ifCond .eq 8, 3) := by decide +kernel
theorem dX12_ruled_73 : decode cX12_ruled 73 = .ok (.iload_n 2, 1) := by decide +kernel
theorem dX12_ruled_74 : decode cX12_ruled 74 = .ok (.iconst 1, 1) := by decide +kernel
theorem dX12_ruled_75 : decode cX12_ruled 75 = .ok (.if_icmp .ne 7, 3) := by decide +kernel
theorem dX12_ruled_78 : decode cX12_ruled 78 = .ok (.iconst 2, 1) := by decide +kernel
theorem dX12_ruled_79 : decode cX12_ruled 79 = .ok (.goto 4, 3) := by decide +kernel
theorem dX12_ruled_82 : decode cX12_ruled 82 = .ok (.iconst 3, 1) := by decide +kernel
theorem dX12_ruled_83 : decode cX12_ruled 83 = .ok (.iadd, 1) := by decide +kernel
theorem dX12_ruled_84 : decode cX12_ruled 84 = .ok (.putfield 123, 3) := by decide +kernel
theorem dX12_ruled_87 : decode cX12_ruled 87 = .ok (.iconst 0, 1) := by decide +kernel
theorem dX12_ruled_88 : decode cX12_ruled 88 = .ok (.istore_n 3, 1) := by decide +kernel
theorem dX12_ruled_89 : decode cX12_ruled 89 = .ok (.iconst 1, 1) := by decide +kernel
theorem dX12_ruled_90 : decode cX12_ruled 90 = .ok (.istore 4, 2) := by decide +kernel
theorem dX12_ruled_92 : decode cX12_ruled 92 = .ok (.iload 4, 2) := by decide +kernel
theorem dX12_ruled_94 : decode cX12_ruled 94 = .ok (.ifCond .eq 74, 3) := by decide +kernel
theorem dX12_ruled_97 : decode cX12_ruled 97 = .ok (.aload_n 0, 1) := by decide +kernel
theorem dX12_ruled_98 : decode cX12_ruled 98 = .ok (.iconst 3, 1) := by decide +kernel
theorem dX12_ruled_99 : decode cX12_ruled 99 = .ok (.iload_n 1, 1) := by decide +kernel
theorem dX12_ruled_100 : decode cX12_ruled 100 = .ok (.imul, 1) := by decide +kernel
theorem dX12_ruled_101 : decode cX12_ruled 101 = .ok (.iload_n 3, 1) := by decide +kernel
theorem dX12_ruled_102 : decode cX12_ruled 102 = .ok (.iadd, 1) := by decide +kernel
theorem dX12_ruled_103 : decode cX12_ruled 103 = .ok (.invokevirtual 205, 3) := by decide +kernel
theorem dX12_ruled_106 : decode cX12_ruled 106 = .ok (.ifCond .ne 5, 3) := by decide +kernel
theorem dX12_ruled_109 : decode cX12_ruled 109 = .ok (.iconst 0, 1) := by decide +kernel
theorem dX12_ruled_110 : decode cX12_ruled 110 = .ok (.ireturn, 1) := by decide +kernel
theorem dX12_ruled_111 : decode cX12_ruled 111 = .ok (.iinc 3 1, 3) := by decide +kernel
theorem dX12_ruled_114 : decode cX12_ruled 114 = .ok (.aload_n 0, 1) := by decide +kernel
theorem dX12_ruled_115 : decode cX12_ruled 115 = .ok (.invokevirtual 139, 3) := by decide +kernel
theorem dX12_ruled_118 : decode cX12_ruled 118 = .ok (.bipush 124, 2) := by decide +kernel
theorem dX12_ruled_120 : decode cX12_ruled 120 = .ok (.if_icmp .ne 7, 3) := by decide +kernel
theorem dX12_ruled_123 : decode cX12_ruled 123 = .ok (.iconst 1, 1) := by decide +kernel
theorem dX12_ruled_124 : decode cX12_ruled 124 = .ok (.goto 4, 3) := by decide +kernel
theorem dX12_ruled_127 : decode cX12_ruled 127 = .ok (.iconst 0, 1) := by decide +kernel
theorem dX12_ruled_128 : decode cX12_ruled 128 = .ok (.istore 4, 2) := by decide +kernel
theorem dX12_ruled_130 : decode cX12_ruled 130 = .ok (.iload 4, 2) := by decide +kernel
theorem dX12_ruled_132 : decode cX12_ruled 132 = .ok (.ifCond .eq 18, 3) := by decide +kernel
theorem dX12_ruled_135 : decode cX12_ruled 135 = .ok (.iload_n 3, 1) := by decide +kernel
theorem dX12_ruled_136 : decode cX12_ruled 136 = .ok (.iconst 3, 1) := by decide +kernel
theorem dX12_ruled_137 : decode cX12_ruled 137 = .ok (.if_icmp .ne 13, 3) := by decide +kernel
theorem dX12_ruled_140 : decode cX12_ruled 140 = .ok (.aload_n 0, 1) := by decide +kernel
theorem dX12_ruled_141 : decode cX12_ruled 141 = .ok (.iconst 3, 1) := by decide +kernel
theorem dX12_ruled_142 : decode cX12_ruled 142 = .ok (.aload_n 0, 1) := by decide +kernel
theorem dX12_ruled_143 : decode cX12_ruled 143 = .ok (.getfield 123, 3) := by decide +kernel
theorem dX12_ruled_146 : decode cX12_ruled 146 = .ok (.invokevirtual 143, 3) := by decide +kernel
theorem dX12_ruled_149 : decode cX12_ruled 149 = .ok (.ireturn, 1) := by decide +kernel
theorem dX12_ruled_150 : decode cX12_ruled 150 = .ok (.iload 4, 2) := by decide +kernel
theorem dX12_ruled_152 : decode cX12_ruled 152 = .ok (.ifCond .eq (-60), 3) := by decide +kernel
theorem dX12_ruled_155 : decode cX12_ruled 155 = .ok (.aload_n 0, 1) := by decide +kernel
theorem dX12_ruled_156 : decode cX12_ruled 156 = .ok (.dup, 1) := by decide +kernel
theorem dX12_ruled_157 : decode cX12_ruled 157 = .ok (.getfield 123, 3) := by decide +kernel
theorem dX12_ruled_160 : decode cX12_ruled 160 = .ok (.iconst 1, 1) := by decide +kernel
theorem dX12_ruled_161 : decode cX12_ruled 161 = .ok (.iadd, 1) := by decide +kernel
theorem dX12_ruled_162 : decode cX12_ruled 162 = .ok (.putfield 123, 3) := by decide +kernel
theorem dX12_ruled_165 : decode cX12_ruled 165 = .ok (.goto (-73), 3) := by decide +kernel
theorem dX12_ruled_168 : decode cX12_ruled 168 = .ok (.sipush 460, 3) := by decide +kernel
theorem dX12_ruled_171 : decode cX12_ruled 171 = .ok (.iconst 4, 1) := by decide +kernel
theorem dX12_ruled_172 : decode cX12_ruled 172 = .ok (.iload_n 1, 1) := by decide +kernel
theorem dX12_ruled_173 : decode cX12_ruled 173 = .ok (.imul, 1) := by decide +kernel
theorem dX12_ruled_174 : decode cX12_ruled 174 = .ok (.iadd, 1) := by decide +kernel
theorem dX12_ruled_175 : decode cX12_ruled 175 = .ok (.istore 5, 2) := by decide +kernel
theorem dX12_ruled_177 : decode cX12_ruled 177 = .ok (.aload_n 0, 1) := by decide +kernel
theorem dX12_ruled_178 : decode cX12_ruled 178 = .ok (.getfield 13, 3) := by decide +kernel
theorem dX12_ruled_181 : decode cX12_ruled 181 = .ok (.iload 5, 2) := by decide +kernel
theorem dX12_ruled_183 : decode cX12_ruled 183 = .ok (.aload_n 0, 1) := by decide +kernel
theorem dX12_ruled_184 : decode cX12_ruled 184 = .ok (.getfield 171, 3) := by decide +kernel
theorem dX12_ruled_187 : decode cX12_ruled 187 = .ok (.iastore, 1) := by decide +kernel
theorem dX12_ruled_188 : decode cX12_ruled 188 = .ok (.aload_n 0, 1) := by decide +kernel
theorem dX12_ruled_189 : decode cX12_ruled 189 = .ok (.getfield 13, 3) := by decide +kernel
theorem dX12_ruled_192 : decode cX12_ruled 192 = .ok (.iload 5, 2) := by decide +kernel
theorem dX12_ruled_194 : decode cX12_ruled 194 = .ok (.iconst 1, 1) := by decide +kernel
theorem dX12_ruled_195 : decode cX12_ruled 195 = .ok (.iadd, 1) := by decide +kernel
theorem dX12_ruled_196 : decode cX12_ruled 196 = .ok (.aload_n 0, 1) := by decide +kernel
theorem dX12_ruled_197 : decode cX12_ruled 197 = .ok (.getfield 177, 3) := by decide +kernel
theorem dX12_ruled_200 : decode cX12_ruled 200 = .ok (.iastore, 1) := by decide +kernel
theorem dX12_ruled_201 : decode cX12_ruled 201 = .ok (.aload_n 0, 1) := by decide +kernel
theorem dX12_ruled_202 : decode cX12_ruled 202 = .ok (.getfield 13, 3) := by decide +kernel
theorem dX12_ruled_205 : decode cX12_ruled 205 = .ok (.iload 5, 2) := by decide +kernel
theorem dX12_ruled_207 : decode cX12_ruled 207 = .ok (.iconst 2, 1) := by decide +kernel
theorem dX12_ruled_208 : decode cX12_ruled 208 = .ok (.iadd, 1) := by decide +kernel
theorem dX12_ruled_209 : decode cX12_ruled 209 = .ok (.iload_n 2, 1) := by decide +kernel
theorem dX12_ruled_210 : decode cX12_ruled 210 = .ok (.iastore, 1) := by decide +kernel
theorem dX12_ruled_211 : decode cX12_ruled 211 = .ok (.aload_n 0, 1) := by decide +kernel
theorem dX12_ruled_212 : decode cX12_ruled 212 = .ok (.getfield 13, 3) := by decide +kernel
theorem dX12_ruled_215 : decode cX12_ruled 215 = .ok (.iload 5, 2) := by decide +kernel
theorem dX12_ruled_217 : decode cX12_ruled 217 = .ok (.iconst 3, 1) := by decide +kernel
theorem dX12_ruled_218 : decode cX12_ruled 218 = .ok (.iadd, 1) := by decide +kernel
theorem dX12_ruled_219 : decode cX12_ruled 219 = .ok (.iload_n 3, 1) := by decide +kernel
theorem dX12_ruled_220 : decode cX12_ruled 220 = .ok (.iastore, 1) := by decide +kernel
theorem dX12_ruled_221 : decode cX12_ruled 221 = .ok (.aload_n 0, 1) := by decide +kernel
theorem dX12_ruled_222 : decode cX12_ruled 222 = .ok (.getfield 13, 3) := by decide +kernel
theorem dX12_ruled_225 : decode cX12_ruled 225 = .ok (.bipush 17, 2) := by decide +kernel
theorem dX12_ruled_227 : decode cX12_ruled 227 = .ok (.dup2, 1) := by decide +kernel
theorem dX12_ruled_228 : decode cX12_ruled 228 = .ok (.iaload, 1) := by decide +kernel
theorem dX12_ruled_229 : decode cX12_ruled 229 = .ok (.iconst 1, 1) := by decide +kernel
theorem dX12_ruled_230 : decode cX12_ruled 230 = .ok (.iadd, 1) := by decide +kernel
theorem dX12_ruled_231 : decode cX12_ruled 231 = .ok (.iastore, 1) := by decide +kernel
theorem dX12_ruled_232 : decode cX12_ruled 232 = .ok (.iconst 1, 1) := by decide +kernel
theorem dX12_ruled_233 : decode cX12_ruled 233 = .ok (.ireturn, 1) := by decide +kernel
theorem dX12_statement_0 : decode cX12_statement 0 = .ok (.aload_n 0, 1) := by decide +kernel
theorem dX12_statement_1 : decode cX12_statement 1 = .ok (.getfield 123, 3) := by decide +kernel
theorem dX12_statement_4 : decode cX12_statement 4 = .ok (.istore_n 1, 1) := by decide +kernel
theorem dX12_statement_5 : decode cX12_statement 5 = .ok (.aload_n 0, 1) := by decide +kernel
theorem dX12_statement_6 : decode cX12_statement 6 = .ok (.aload_n 0, 1) := by decide +kernel
theorem dX12_statement_7 : decode cX12_statement 7 = .ok (.getfield 123, 3) := by decide +kernel
theorem dX12_statement_10 : decode cX12_statement 10 = .ok (.invokevirtual 126, 3) := by decide +kernel
theorem dX12_statement_13 : decode cX12_statement 13 = .ok (.invokestatic 159, 3) := by decide +kernel
theorem dX12_statement_16 : decode cX12_statement 16 = .ok (.ifCond .eq 16, 3) := by decide +kernel
theorem dX12_statement_19 : decode cX12_statement 19 = .ok (.aload_n 0, 1) := by decide +kernel
theorem dX12_statement_20 : decode cX12_statement 20 = .ok (.dup, 1) := by decide +kernel
theorem dX12_statement_21 : decode cX12_statement 21 = .ok (.getfield 123, 3) := by decide +kernel
theorem dX12_statement_24 : decode cX12_statement 24 = .ok (.iconst 1, 1) := by decide +kernel
theorem dX12_statement_25 : decode cX12_statement 25 = .ok (.iadd, 1) := by decide +kernel
theorem dX12_statement_26 : decode cX12_statement 26 = .ok (.putfield 123, 3) := by decide +kernel
theorem dX12_statement_29 : decode cX12_statement 29 = .ok (.goto (-24), 3) := by decide +kernel
theorem dX12_statement_32 : decode cX12_statement 32 = .ok (.aload_n 0, 1) := by decide +kernel
theorem dX12_statement_33 : decode cX12_statement 33 = .ok (.getfield 123, 3) := by decide +kernel
theorem dX12_statement_36 : decode cX12_statement 36 = .ok (.istore_n 2, 1) := by decide +kernel
theorem dX12_statement_37 : decode cX12_statement 37 = .ok (.aload_n 0, 1) := by decide +kernel
theorem dX12_statement_38 : decode cX12_statement 38 = .ok (.iload_n 1, 1) := by decide +kernel
theorem dX12_statement_39 : decode cX12_statement 39 = .ok (.iload_n 2, 1) := by decide +kernel
theorem dX12_statement_40 : decode cX12_statement 40 = .ok (.ldc 208, 2) := by decide +kernel
theorem dX12_statement_42 : decode cX12_statement 42 = .ok (.invokevirtual 210, 3) := by decide +kernel
theorem dX12_statement_45 : decode cX12_statement 45 = .ok (.ifCond .eq 8, 3) := by decide +kernel
theorem dX12_statement_48 : decode cX12_statement 48 = .ok (.aload_n 0, 1) := by decide +kernel
theorem dX12_statement_49 : decode cX12_statement 49 = .ok (.invokevirtual 214, 3) := by decide +kernel
theorem dX12_statement_52 : decode cX12_statement 52 = .ok (.ireturn, 1) := by decide +kernel
theorem dX12_statement_53 : decode cX12_statement 53 = .ok (.aload_n 0, 1) := by decide +kernel
theorem dX12_statement_54 : decode cX12_statement 54 = .ok (.iload_n 1, 1) := by decide +kernel
theorem dX12_statement_55 : decode cX12_statement 55 = .ok (.iload_n 2, 1) := by decide +kernel
theorem dX12_statement_56 : decode cX12_statement 56 = .ok (.ldc 216, 2) := by decide +kernel
theorem dX12_statement_58 : decode cX12_statement 58 = .ok (.invokevirtual 210, 3) := by decide +kernel
theorem dX12_statement_61 : decode cX12_statement 61 = .ok (.ifCond .eq 8, 3) := by decide +kernel
theorem dX12_statement_64 : decode cX12_statement 64 = .ok (.aload_n 0, 1) := by decide +kernel
theorem dX12_statement_65 : decode cX12_statement 65 = .ok (.invokevirtual 218, 3) := by decide +kernel
theorem dX12_statement_68 : decode cX12_statement 68 = .ok (.ireturn, 1) := by decide +kernel
theorem dX12_statement_69 : decode cX12_statement 69 = .ok (.aload_n 0, 1) := by decide +kernel
theorem dX12_statement_70 : decode cX12_statement 70 = .ok (.iload_n 1, 1) := by decide +kernel
theorem dX12_statement_71 : decode cX12_statement 71 = .ok (.iload_n 2, 1) := by decide +kernel
theorem dX12_statement_72 : decode cX12_statement 72 = .ok (.ldc 221, 2) := by decide +kernel
theorem dX12_statement_74 : decode cX12_statement 74 = .ok (.invokevirtual 210, 3) := by decide +kernel
theorem dX12_statement_77 : decode cX12_statement 77 = .ok (.ifCond .eq 8, 3) := by decide +kernel
theorem dX12_statement_80 : decode cX12_statement 80 = .ok (.aload_n 0, 1) := by decide +kernel
theorem dX12_statement_81 : decode cX12_statement 81 = .ok (.invokevirtual 199, 3) := by decide +kernel
theorem dX12_statement_84 : decode cX12_statement 84 = .ok (.ireturn, 1) := by decide +kernel
theorem dX12_statement_85 : decode cX12_statement 85 = .ok (.aload_n 0, 1) := by decide +kernel
theorem dX12_statement_86 : decode cX12_statement 86 = .ok (.iload_n 1, 1) := by decide +kernel
theorem dX12_statement_87 : decode cX12_statement 87 = .ok (.iload_n 2, 1) := by decide +kernel
theorem dX12_statement_88 : decode cX12_statement 88 = .ok (.ldc 223, 2) := by decide +kernel
theorem dX12_statement_90 : decode cX12_statement 90 = .ok (.invokevirtual 210, 3) := by decide +kernel
theorem dX12_statement_93 : decode cX12_statement 93 = .ok (.ifCond .eq 29, 3) := by decide +kernel
theorem dX12_statement_96 : decode cX12_statement 96 = .ok (.aload_n 0, 1) := by decide +kernel
theorem dX12_statement_97 : decode cX12_statement 97 = .ok (.getfield 13, 3) := by decide +kernel
theorem dX12_statement_100 : decode cX12_statement 100 = .ok (.bipush 17, 2) := by decide +kernel
theorem dX12_statement_102 : decode cX12_statement 102 = .ok (.iaload, 1) := by decide +kernel
theorem dX12_statement_103 : decode cX12_statement 103 = .ok (.bipush 8, 2) := by decide +kernel
theorem dX12_statement_105 : decode cX12_statement 105 = .ok (.if_icmp .ne 12, 3) := by decide +kernel
theorem dX12_statement_108 : decode cX12_statement 108 = .ok (.aload_n 0, 1) := by decide +kernel
theorem dX12_statement_109 : decode cX12_statement 109 = .ok (.iconst 3, 1) := by decide +kernel
theorem dX12_statement_110 : decode cX12_statement 110 = .ok (.iload_n 1, 1) := by decide +kernel
theorem dX12_statement_111 : decode cX12_statement 111 = .ok (.invokevirtual 143, 3) := by decide +kernel
theorem dX12_statement_114 : decode cX12_statement 114 = .ok (.goto 7, 3) := by decide +kernel
theorem dX12_statement_117 : decode cX12_statement 117 = .ok (.aload_n 0, 1) := by decide +kernel
theorem dX12_statement_118 : decode cX12_statement 118 = .ok (.invokevirtual 225, 3) := by decide +kernel
theorem dX12_statement_121 : decode cX12_statement 121 = .ok (.ireturn, 1) := by decide +kernel
theorem dX12_statement_122 : decode cX12_statement 122 = .ok (.aload_n 0, 1) := by decide +kernel
theorem dX12_statement_123 : decode cX12_statement 123 = .ok (.iload_n 1, 1) := by decide +kernel
theorem dX12_statement_124 : decode cX12_statement 124 = .ok (.iload_n 2, 1) := by decide +kernel
theorem dX12_statement_125 : decode cX12_statement 125 = .ok (.ldc 228, 2) := by decide +kernel
theorem dX12_statement_127 : decode cX12_statement 127 = .ok (.invokevirtual 210, 3) := by decide +kernel
theorem dX12_statement_130 : decode cX12_statement 130 = .ok (.ifCond .eq 54, 3) := by decide +kernel
theorem dX12_statement_133 : decode cX12_statement 133 = .ok (.aload_n 0, 1) := by decide +kernel
theorem dX12_statement_134 : decode cX12_statement 134 = .ok (.getfield 13, 3) := by decide +kernel
theorem dX12_statement_137 : decode cX12_statement 137 = .ok (.bipush 18, 2) := by decide +kernel
theorem dX12_statement_139 : decode cX12_statement 139 = .ok (.iaload, 1) := by decide +kernel
theorem dX12_statement_140 : decode cX12_statement 140 = .ok (.bipush 12, 2) := by decide +kernel
theorem dX12_statement_142 : decode cX12_statement 142 = .ok (.if_icmp .ne 10, 3) := by decide +kernel
theorem dX12_statement_145 : decode cX12_statement 145 = .ok (.aload_n 0, 1) := by decide +kernel
theorem dX12_statement_146 : decode cX12_statement 146 = .ok (.iconst 3, 1) := by decide +kernel
theorem dX12_statement_147 : decode cX12_statement 147 = .ok (.iload_n 1, 1) := by decide +kernel
theorem dX12_statement_148 : decode cX12_statement 148 = .ok (.invokevirtual 143, 3) := by decide +kernel
theorem dX12_statement_151 : decode cX12_statement 151 = .ok (.ireturn, 1) := by decide +kernel
theorem dX12_statement_152 : decode cX12_statement 152 = .ok (.aload_n 0, 1) := by decide +kernel
theorem dX12_statement_153 : decode cX12_statement 153 = .ok (.getfield 13, 3) := by decide +kernel
theorem dX12_statement_156 : decode cX12_statement 156 = .ok (.bipush 18, 2) := by decide +kernel
theorem dX12_statement_158 : decode cX12_statement 158 = .ok (.dup2, 1) := by decide +kernel
theorem dX12_statement_159 : decode cX12_statement 159 = .ok (.iaload, 1) := by decide +kernel
theorem dX12_statement_160 : decode cX12_statement 160 = .ok (.iconst 1, 1) := by decide +kernel
theorem dX12_statement_161 : decode cX12_statement 161 = .ok (.iadd, 1) := by decide +kernel
theorem dX12_statement_162 : decode cX12_statement 162 = .ok (.iastore, 1) := by decide +kernel
theorem dX12_statement_163 : decode cX12_statement 163 = .ok (.aload_n 0, 1) := by decide +kernel
theorem dX12_statement_164 : decode cX12_statement 164 = .ok (.bipush 60, 2) := by decide +kernel
theorem dX12_statement_166 : decode cX12_statement 166 = .ok (.bipush 8, 2) := by decide +kernel
theorem dX12_statement_168 : decode cX12_statement 168 = .ok (.aload_n 0, 1) := by decide +kernel
