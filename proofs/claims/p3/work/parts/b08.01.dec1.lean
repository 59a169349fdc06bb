theorem dX12_classOf_99 : decode cX12_classOf 99 = .ok (.iconst 1, 1) := by decide +kernel
theorem dX12_classOf_100 : decode cX12_classOf 100 = .ok (.iload 4, 2) := by decide +kernel
theorem dX12_classOf_102 : decode cX12_classOf 102 = .ok (.ishl, 1) := by decide +kernel
theorem dX12_classOf_103 : decode cX12_classOf 103 = .ok (.ior, 1) := by decide +kernel
theorem dX12_classOf_104 : decode cX12_classOf 104 = .ok (.istore_n 2, 1) := by decide +kernel
theorem dX12_classOf_105 : decode cX12_classOf 105 = .ok (.aload_n 0, 1) := by decide +kernel
theorem dX12_classOf_106 : decode cX12_classOf 106 = .ok (.dup, 1) := by decide +kernel
theorem dX12_classOf_107 : decode cX12_classOf 107 = .ok (.getfield 123, 3) := by decide +kernel
theorem dX12_classOf_110 : decode cX12_classOf 110 = .ok (.iconst 1, 1) := by decide +kernel
theorem dX12_classOf_111 : decode cX12_classOf 111 = .ok (.iadd, 1) := by decide +kernel
theorem dX12_classOf_112 : decode cX12_classOf 112 = .ok (.putfield 123, 3) := by decide +kernel
theorem dX12_classOf_115 : decode cX12_classOf 115 = .ok (.goto (-77), 3) := by decide +kernel
theorem dX12_classOf_118 : decode cX12_classOf 118 = .ok (.aload_n 0, 1) := by decide +kernel
theorem dX12_classOf_119 : decode cX12_classOf 119 = .ok (.getfield 13, 3) := by decide +kernel
theorem dX12_classOf_122 : decode cX12_classOf 122 = .ok (.bipush 10, 2) := by decide +kernel
theorem dX12_classOf_124 : decode cX12_classOf 124 = .ok (.iload_n 1, 1) := by decide +kernel
theorem dX12_classOf_125 : decode cX12_classOf 125 = .ok (.iadd, 1) := by decide +kernel
theorem dX12_classOf_126 : decode cX12_classOf 126 = .ok (.bipush 65, 2) := by decide +kernel
theorem dX12_classOf_128 : decode cX12_classOf 128 = .ok (.isub, 1) := by decide +kernel
theorem dX12_classOf_129 : decode cX12_classOf 129 = .ok (.iload_n 2, 1) := by decide +kernel
theorem dX12_classOf_130 : decode cX12_classOf 130 = .ok (.iastore, 1) := by decide +kernel
theorem dX12_classOf_131 : decode cX12_classOf 131 = .ok (.iconst 1, 1) := by decide +kernel
theorem dX12_classOf_132 : decode cX12_classOf 132 = .ok (.ireturn, 1) := by decide +kernel
theorem dX12_word_0 : decode cX12_word 0 = .ok (.aload_n 0, 1) := by decide +kernel
theorem dX12_word_1 : decode cX12_word 1 = .ok (.getfield 13, 3) := by decide +kernel
theorem dX12_word_4 : decode cX12_word 4 = .ok (.iload_n 1, 1) := by decide +kernel
theorem dX12_word_5 : decode cX12_word 5 = .ok (.iconst 0, 1) := by decide +kernel
theorem dX12_word_6 : decode cX12_word 6 = .ok (.iastore, 1) := by decide +kernel
theorem dX12_word_7 : decode cX12_word 7 = .ok (.iload_n 2, 1) := by decide +kernel
theorem dX12_word_8 : decode cX12_word 8 = .ok (.ifCond .eq 12, 3) := by decide +kernel
theorem dX12_word_11 : decode cX12_word 11 = .ok (.aload_n 0, 1) := by decide +kernel
theorem dX12_word_12 : decode cX12_word 12 = .ok (.getfield 13, 3) := by decide +kernel
theorem dX12_word_15 : decode cX12_word 15 = .ok (.iload_n 1, 1) := by decide +kernel
theorem dX12_word_16 : decode cX12_word 16 = .ok (.iaload, 1) := by decide +kernel
theorem dX12_word_17 : decode cX12_word 17 = .ok (.ifCond .eq 12, 3) := by decide +kernel
theorem dX12_word_20 : decode cX12_word 20 = .ok (.aload_n 0, 1) := by decide +kernel
theorem dX12_word_21 : decode cX12_word 21 = .ok (.invokevirtual 139, 3) := by decide +kernel
theorem dX12_word_24 : decode cX12_word 24 = .ok (.bipush 59, 2) := by decide +kernel
theorem dX12_word_26 : decode cX12_word 26 = .ok (.if_icmp .eq 109, 3) := by decide +kernel
theorem dX12_word_29 : decode cX12_word 29 = .ok (.aload_n 0, 1) := by decide +kernel
theorem dX12_word_30 : decode cX12_word 30 = .ok (.invokevirtual 139, 3) := by decide +kernel
theorem dX12_word_33 : decode cX12_word 33 = .ok (.istore_n 3, 1) := by decide +kernel
theorem dX12_word_34 : decode cX12_word 34 = .ok (.iload_n 3, 1) := by decide +kernel
theorem dX12_word_35 : decode cX12_word 35 = .ok (.invokestatic 159, 3) := by decide +kernel
theorem dX12_word_38 : decode cX12_word 38 = .ok (.ifCond .ne 13, 3) := by decide +kernel
theorem dX12_word_41 : decode cX12_word 41 = .ok (.aload_n 0, 1) := by decide +kernel
theorem dX12_word_42 : decode cX12_word 42 = .ok (.iconst 1, 1) := by decide +kernel
theorem dX12_word_43 : decode cX12_word 43 = .ok (.aload_n 0, 1) := by decide +kernel
theorem dX12_word_44 : decode cX12_word 44 = .ok (.getfield 123, 3) := by decide +kernel
theorem dX12_word_47 : decode cX12_word 47 = .ok (.invokevirtual 143, 3) := by decide +kernel
theorem dX12_word_50 : decode cX12_word 50 = .ok (.ireturn, 1) := by decide +kernel
theorem dX12_word_51 : decode cX12_word 51 = .ok (.aload_n 0, 1) := by decide +kernel
theorem dX12_word_52 : decode cX12_word 52 = .ok (.getfield 13, 3) := by decide +kernel
theorem dX12_word_55 : decode cX12_word 55 = .ok (.iload_n 3, 1) := by decide +kernel
theorem dX12_word_56 : decode cX12_word 56 = .ok (.invokestatic 163, 3) := by decide +kernel
theorem dX12_word_59 : decode cX12_word 59 = .ok (.istore 4, 2) := by decide +kernel
theorem dX12_word_61 : decode cX12_word 61 = .ok (.iload 4, 2) := by decide +kernel
theorem dX12_word_63 : decode cX12_word 63 = .ok (.ifCond .ne 13, 3) := by decide +kernel
theorem dX12_word_66 : decode cX12_word 66 = .ok (.aload_n 0, 1) := by decide +kernel
theorem dX12_word_67 : decode cX12_word 67 = .ok (.iconst 2, 1) := by decide +kernel
theorem dX12_word_68 : decode cX12_word 68 = .ok (.aload_n 0, 1) := by decide +kernel
theorem dX12_word_69 : decode cX12_word 69 = .ok (.getfield 123, 3) := by decide +kernel
theorem dX12_word_72 : decode cX12_word 72 = .ok (.invokevirtual 143, 3) := by decide +kernel
theorem dX12_word_75 : decode cX12_word 75 = .ok (.ireturn, 1) := by decide +kernel
theorem dX12_word_76 : decode cX12_word 76 = .ok (.aload_n 0, 1) := by decide +kernel
theorem dX12_word_77 : decode cX12_word 77 = .ok (.getfield 13, 3) := by decide +kernel
theorem dX12_word_80 : decode cX12_word 80 = .ok (.iload_n 1, 1) := by decide +kernel
theorem dX12_word_81 : decode cX12_word 81 = .ok (.iaload, 1) := by decide +kernel
theorem dX12_word_82 : decode cX12_word 82 = .ok (.bipush 6, 2) := by decide +kernel
theorem dX12_word_84 : decode cX12_word 84 = .ok (.if_icmp .ne 13, 3) := by decide +kernel
theorem dX12_word_87 : decode cX12_word 87 = .ok (.aload_n 0, 1) := by decide +kernel
theorem dX12_word_88 : decode cX12_word 88 = .ok (.iconst 3, 1) := by decide +kernel
theorem dX12_word_89 : decode cX12_word 89 = .ok (.aload_n 0, 1) := by decide +kernel
theorem dX12_word_90 : decode cX12_word 90 = .ok (.getfield 123, 3) := by decide +kernel
theorem dX12_word_93 : decode cX12_word 93 = .ok (.invokevirtual 143, 3) := by decide +kernel
theorem dX12_word_96 : decode cX12_word 96 = .ok (.ireturn, 1) := by decide +kernel
theorem dX12_word_97 : decode cX12_word 97 = .ok (.aload_n 0, 1) := by decide +kernel
theorem dX12_word_98 : decode cX12_word 98 = .ok (.getfield 13, 3) := by decide +kernel
theorem dX12_word_101 : decode cX12_word 101 = .ok (.iload_n 1, 1) := by decide +kernel
theorem dX12_word_102 : decode cX12_word 102 = .ok (.dup2, 1) := by decide +kernel
theorem dX12_word_103 : decode cX12_word 103 = .ok (.iaload, 1) := by decide +kernel
theorem dX12_word_104 : decode cX12_word 104 = .ok (.iconst 1, 1) := by decide +kernel
theorem dX12_word_105 : decode cX12_word 105 = .ok (.iadd, 1) := by decide +kernel
theorem dX12_word_106 : decode cX12_word 106 = .ok (.iastore, 1) := by decide +kernel
theorem dX12_word_107 : decode cX12_word 107 = .ok (.aload_n 0, 1) := by decide +kernel
theorem dX12_word_108 : decode cX12_word 108 = .ok (.getfield 13, 3) := by decide +kernel
theorem dX12_word_111 : decode cX12_word 111 = .ok (.iload_n 1, 1) := by decide +kernel
theorem dX12_word_112 : decode cX12_word 112 = .ok (.aload_n 0, 1) := by decide +kernel
theorem dX12_word_113 : decode cX12_word 113 = .ok (.getfield 13, 3) := by decide +kernel
theorem dX12_word_116 : decode cX12_word 116 = .ok (.iload_n 1, 1) := by decide +kernel
theorem dX12_word_117 : decode cX12_word 117 = .ok (.iaload, 1) := by decide +kernel
theorem dX12_word_118 : decode cX12_word 118 = .ok (.iadd, 1) := by decide +kernel
theorem dX12_word_119 : decode cX12_word 119 = .ok (.iload 4, 2) := by decide +kernel
theorem dX12_word_121 : decode cX12_word 121 = .ok (.iastore, 1) := by decide +kernel
theorem dX12_word_122 : decode cX12_word 122 = .ok (.aload_n 0, 1) := by decide +kernel
theorem dX12_word_123 : decode cX12_word 123 = .ok (.dup, 1) := by decide +kernel
theorem dX12_word_124 : decode cX12_word 124 = .ok (.getfield 123, 3) := by decide +kernel
theorem dX12_word_127 : decode cX12_word 127 = .ok (.iconst 1, 1) := by decide +kernel
theorem dX12_word_128 : decode cX12_word 128 = .ok (.iadd, 1) := by decide +kernel
theorem dX12_word_129 : decode cX12_word 129 = .ok (.putfield 123, 3) := by decide +kernel
theorem dX12_word_132 : decode cX12_word 132 = .ok (.goto (-125), 3) := by decide +kernel
theorem dX12_word_135 : decode cX12_word 135 = .ok (.iconst 1, 1) := by decide +kernel
theorem dX12_word_136 : decode cX12_word 136 = .ok (.ireturn, 1) := by decide +kernel
