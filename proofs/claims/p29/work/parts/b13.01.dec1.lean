theorem dX12_lives_56 : decode cX12_lives 56 = .ok (.istore 4, 2) := by decide +kernel
theorem dX12_lives_58 : decode cX12_lives 58 = .ok (.iconst 0, 1) := by decide +kernel
theorem dX12_lives_59 : decode cX12_lives 59 = .ok (.istore 5, 2) := by decide +kernel
theorem dX12_lives_61 : decode cX12_lives 61 = .ok (.iload 5, 2) := by decide +kernel
theorem dX12_lives_63 : decode cX12_lives 63 = .ok (.iload 4, 2) := by decide +kernel
theorem dX12_lives_65 : decode cX12_lives 65 = .ok (.if_icmp .ge 60, 3) := by decide +kernel
theorem dX12_lives_68 : decode cX12_lives 68 = .ok (.aload_n 0, 1) := by decide +kernel
theorem dX12_lives_69 : decode cX12_lives 69 = .ok (.iload 5, 2) := by decide +kernel
theorem dX12_lives_71 : decode cX12_lives 71 = .ok (.invokevirtual 395, 3) := by decide +kernel
theorem dX12_lives_74 : decode cX12_lives 74 = .ok (.aload_n 0, 1) := by decide +kernel
theorem dX12_lives_75 : decode cX12_lives 75 = .ok (.bipush 9, 2) := by decide +kernel
theorem dX12_lives_77 : decode cX12_lives 77 = .ok (.iload_n 1, 1) := by decide +kernel
theorem dX12_lives_78 : decode cX12_lives 78 = .ok (.imul, 1) := by decide +kernel
theorem dX12_lives_79 : decode cX12_lives 79 = .ok (.iload_n 2, 1) := by decide +kernel
theorem dX12_lives_80 : decode cX12_lives 80 = .ok (.iadd, 1) := by decide +kernel
theorem dX12_lives_81 : decode cX12_lives 81 = .ok (.putfield 337, 3) := by decide +kernel
theorem dX12_lives_84 : decode cX12_lives 84 = .ok (.aload_n 0, 1) := by decide +kernel
theorem dX12_lives_85 : decode cX12_lives 85 = .ok (.iconst 3, 1) := by decide +kernel
theorem dX12_lives_86 : decode cX12_lives 86 = .ok (.invokevirtual 349, 3) := by decide +kernel
theorem dX12_lives_89 : decode cX12_lives 89 = .ok (.aload_n 0, 1) := by decide +kernel
theorem dX12_lives_90 : decode cX12_lives 90 = .ok (.iconst 0, 1) := by decide +kernel
theorem dX12_lives_91 : decode cX12_lives 91 = .ok (.aload_n 0, 1) := by decide +kernel
theorem dX12_lives_92 : decode cX12_lives 92 = .ok (.getfield 7, 3) := by decide +kernel
theorem dX12_lives_95 : decode cX12_lives 95 = .ok (.bipush 41, 2) := by decide +kernel
theorem dX12_lives_97 : decode cX12_lives 97 = .ok (.iaload, 1) := by decide +kernel
theorem dX12_lives_98 : decode cX12_lives 98 = .ok (.iconst 0, 1) := by decide +kernel
theorem dX12_lives_99 : decode cX12_lives 99 = .ok (.iconst 0, 1) := by decide +kernel
theorem dX12_lives_100 : decode cX12_lives 100 = .ok (.aload_n 0, 1) := by decide +kernel
theorem dX12_lives_101 : decode cX12_lives 101 = .ok (.getfield 7, 3) := by decide +kernel
theorem dX12_lives_104 : decode cX12_lives 104 = .ok (.bipush 40, 2) := by decide +kernel
theorem dX12_lives_106 : decode cX12_lives 106 = .ok (.iaload, 1) := by decide +kernel
theorem dX12_lives_107 : decode cX12_lives 107 = .ok (.invokevirtual 311, 3) := by decide +kernel
theorem dX12_lives_110 : decode cX12_lives 110 = .ok (.aload_n 0, 1) := by decide +kernel
theorem dX12_lives_111 : decode cX12_lives 111 = .ok (.getfield 301, 3) := by decide +kernel
theorem dX12_lives_114 : decode cX12_lives 114 = .ok (.ifCond .eq 5, 3) := by decide +kernel
theorem dX12_lives_117 : decode cX12_lives 117 = .ok (.iconst 1, 1) := by decide +kernel
theorem dX12_lives_118 : decode cX12_lives 118 = .ok (.ireturn, 1) := by decide +kernel
theorem dX12_lives_119 : decode cX12_lives 119 = .ok (.iinc 5 1, 3) := by decide +kernel
theorem dX12_lives_122 : decode cX12_lives 122 = .ok (.goto (-61), 3) := by decide +kernel
theorem dX12_lives_125 : decode cX12_lives 125 = .ok (.iconst 0, 1) := by decide +kernel
theorem dX12_lives_126 : decode cX12_lives 126 = .ok (.ireturn, 1) := by decide +kernel
theorem dX12_agreeing_0 : decode cX12_agreeing 0 = .ok (.iconst 0, 1) := by decide +kernel
theorem dX12_agreeing_1 : decode cX12_agreeing 1 = .ok (.istore_n 2, 1) := by decide +kernel
theorem dX12_agreeing_2 : decode cX12_agreeing 2 = .ok (.iconst 0, 1) := by decide +kernel
theorem dX12_agreeing_3 : decode cX12_agreeing 3 = .ok (.istore_n 3, 1) := by decide +kernel
theorem dX12_agreeing_4 : decode cX12_agreeing 4 = .ok (.iload_n 3, 1) := by decide +kernel
theorem dX12_agreeing_5 : decode cX12_agreeing 5 = .ok (.iload_n 1, 1) := by decide +kernel
theorem dX12_agreeing_6 : decode cX12_agreeing 6 = .ok (.if_icmp .ge 139, 3) := by decide +kernel
theorem dX12_agreeing_9 : decode cX12_agreeing 9 = .ok (.aload_n 0, 1) := by decide +kernel
theorem dX12_agreeing_10 : decode cX12_agreeing 10 = .ok (.iload_n 3, 1) := by decide +kernel
theorem dX12_agreeing_11 : decode cX12_agreeing 11 = .ok (.invokevirtual 395, 3) := by decide +kernel
theorem dX12_agreeing_14 : decode cX12_agreeing 14 = .ok (.aload_n 0, 1) := by decide +kernel
theorem dX12_agreeing_15 : decode cX12_agreeing 15 = .ok (.aload_n 0, 1) := by decide +kernel
theorem dX12_agreeing_16 : decode cX12_agreeing 16 = .ok (.getfield 291, 3) := by decide +kernel
theorem dX12_agreeing_19 : decode cX12_agreeing 19 = .ok (.putfield 248, 3) := by decide +kernel
theorem dX12_agreeing_22 : decode cX12_agreeing 22 = .ok (.iconst 0, 1) := by decide +kernel
theorem dX12_agreeing_23 : decode cX12_agreeing 23 = .ok (.istore 4, 2) := by decide +kernel
theorem dX12_agreeing_25 : decode cX12_agreeing 25 = .ok (.iload 4, 2) := by decide +kernel
theorem dX12_agreeing_27 : decode cX12_agreeing 27 = .ok (.aload_n 0, 1) := by decide +kernel
theorem dX12_agreeing_28 : decode cX12_agreeing 28 = .ok (.getfield 291, 3) := by decide +kernel
theorem dX12_agreeing_31 : decode cX12_agreeing 31 = .ok (.if_icmp .ge 23, 3) := by decide +kernel
theorem dX12_agreeing_34 : decode cX12_agreeing 34 = .ok (.aload_n 0, 1) := by decide +kernel
theorem dX12_agreeing_35 : decode cX12_agreeing 35 = .ok (.getfield 74, 3) := by decide +kernel
theorem dX12_agreeing_38 : decode cX12_agreeing 38 = .ok (.iload 4, 2) := by decide +kernel
theorem dX12_agreeing_40 : decode cX12_agreeing 40 = .ok (.aload_n 0, 1) := by decide +kernel
theorem dX12_agreeing_41 : decode cX12_agreeing 41 = .ok (.getfield 46, 3) := by decide +kernel
theorem dX12_agreeing_44 : decode cX12_agreeing 44 = .ok (.iload 4, 2) := by decide +kernel
theorem dX12_agreeing_46 : decode cX12_agreeing 46 = .ok (.iaload, 1) := by decide +kernel
theorem dX12_agreeing_47 : decode cX12_agreeing 47 = .ok (.iastore, 1) := by decide +kernel
theorem dX12_agreeing_48 : decode cX12_agreeing 48 = .ok (.iinc 4 1, 3) := by decide +kernel
theorem dX12_agreeing_51 : decode cX12_agreeing 51 = .ok (.goto (-26), 3) := by decide +kernel
theorem dX12_agreeing_54 : decode cX12_agreeing 54 = .ok (.iconst 0, 1) := by decide +kernel
theorem dX12_agreeing_55 : decode cX12_agreeing 55 = .ok (.istore 4, 2) := by decide +kernel
theorem dX12_agreeing_57 : decode cX12_agreeing 57 = .ok (.iload 4, 2) := by decide +kernel
theorem dX12_agreeing_59 : decode cX12_agreeing 59 = .ok (.aload_n 0, 1) := by decide +kernel
theorem dX12_agreeing_60 : decode cX12_agreeing 60 = .ok (.getfield 410, 3) := by decide +kernel
theorem dX12_agreeing_63 : decode cX12_agreeing 63 = .ok (.if_icmp .ge 20, 3) := by decide +kernel
theorem dX12_agreeing_66 : decode cX12_agreeing 66 = .ok (.aload_n 0, 1) := by decide +kernel
theorem dX12_agreeing_67 : decode cX12_agreeing 67 = .ok (.aload_n 0, 1) := by decide +kernel
theorem dX12_agreeing_68 : decode cX12_agreeing 68 = .ok (.getfield 104, 3) := by decide +kernel
theorem dX12_agreeing_71 : decode cX12_agreeing 71 = .ok (.iload 4, 2) := by decide +kernel
theorem dX12_agreeing_73 : decode cX12_agreeing 73 = .ok (.iaload, 1) := by decide +kernel
theorem dX12_agreeing_74 : decode cX12_agreeing 74 = .ok (.invokevirtual 371, 3) := by decide +kernel
theorem dX12_agreeing_77 : decode cX12_agreeing 77 = .ok (.iinc 4 1, 3) := by decide +kernel
theorem dX12_agreeing_80 : decode cX12_agreeing 80 = .ok (.goto (-23), 3) := by decide +kernel
theorem dX12_agreeing_83 : decode cX12_agreeing 83 = .ok (.iconst 0, 1) := by decide +kernel
theorem dX12_agreeing_84 : decode cX12_agreeing 84 = .ok (.istore 4, 2) := by decide +kernel
theorem dX12_agreeing_86 : decode cX12_agreeing 86 = .ok (.iconst 0, 1) := by decide +kernel
theorem dX12_agreeing_87 : decode cX12_agreeing 87 = .ok (.istore 5, 2) := by decide +kernel
theorem dX12_agreeing_89 : decode cX12_agreeing 89 = .ok (.iload 5, 2) := by decide +kernel
theorem dX12_agreeing_91 : decode cX12_agreeing 91 = .ok (.aload_n 0, 1) := by decide +kernel
theorem dX12_agreeing_92 : decode cX12_agreeing 92 = .ok (.getfield 248, 3) := by decide +kernel
theorem dX12_agreeing_95 : decode cX12_agreeing 95 = .ok (.if_icmp .ge 24, 3) := by decide +kernel
theorem dX12_agreeing_98 : decode cX12_agreeing 98 = .ok (.bipush 9, 2) := by decide +kernel
theorem dX12_agreeing_100 : decode cX12_agreeing 100 = .ok (.iload 4, 2) := by decide +kernel
theorem dX12_agreeing_102 : decode cX12_agreeing 102 = .ok (.imul, 1) := by decide +kernel
theorem dX12_agreeing_103 : decode cX12_agreeing 103 = .ok (.aload_n 0, 1) := by decide +kernel
theorem dX12_agreeing_104 : decode cX12_agreeing 104 = .ok (.getfield 74, 3) := by decide +kernel
theorem dX12_agreeing_107 : decode cX12_agreeing 107 = .ok (.iload 5, 2) := by decide +kernel
theorem dX12_agreeing_109 : decode cX12_agreeing 109 = .ok (.iaload, 1) := by decide +kernel
theorem dX12_agreeing_110 : decode cX12_agreeing 110 = .ok (.iadd, 1) := by decide +kernel
theorem dX12_agreeing_111 : decode cX12_agreeing 111 = .ok (.istore 4, 2) := by decide +kernel
theorem dX12_agreeing_113 : decode cX12_agreeing 113 = .ok (.iinc 5 1, 3) := by decide +kernel
theorem dX12_agreeing_116 : decode cX12_agreeing 116 = .ok (.goto (-27), 3) := by decide +kernel
theorem dX12_agreeing_119 : decode cX12_agreeing 119 = .ok (.iload_n 2, 1) := by decide +kernel
theorem dX12_agreeing_120 : decode cX12_agreeing 120 = .ok (.aload_n 0, 1) := by decide +kernel
theorem dX12_agreeing_121 : decode cX12_agreeing 121 = .ok (.getfield 98, 3) := by decide +kernel
theorem dX12_agreeing_124 : decode cX12_agreeing 124 = .ok (.iload_n 3, 1) := by decide +kernel
theorem dX12_agreeing_125 : decode cX12_agreeing 125 = .ok (.aaload, 1) := by decide +kernel
theorem dX12_agreeing_126 : decode cX12_agreeing 126 = .ok (.iload 4, 2) := by decide +kernel
theorem dX12_agreeing_128 : decode cX12_agreeing 128 = .ok (.baload, 1) := by decide +kernel
theorem dX12_agreeing_129 : decode cX12_agreeing 129 = .ok (.ifCond .eq 7, 3) := by decide +kernel
theorem dX12_agreeing_132 : decode cX12_agreeing 132 = .ok (.iconst 1, 1) := by decide +kernel
theorem dX12_agreeing_133 : decode cX12_agreeing 133 = .ok (.goto 4, 3) := by decide +kernel
theorem dX12_agreeing_136 : decode cX12_agreeing 136 = .ok (.iconst 0, 1) := by decide +kernel
theorem dX12_agreeing_137 : decode cX12_agreeing 137 = .ok (.iadd, 1) := by decide +kernel
theorem dX12_agreeing_138 : decode cX12_agreeing 138 = .ok (.istore_n 2, 1) := by decide +kernel
theorem dX12_agreeing_139 : decode cX12_agreeing 139 = .ok (.iinc 3 1, 3) := by decide +kernel
theorem dX12_agreeing_142 : decode cX12_agreeing 142 = .ok (.goto (-138), 3) := by decide +kernel
theorem dX12_agreeing_145 : decode cX12_agreeing 145 = .ok (.iload_n 2, 1) := by decide +kernel
theorem dX12_agreeing_146 : decode cX12_agreeing 146 = .ok (.ireturn, 1) := by decide +kernel
theorem dX12_triesOrders_0 : decode cX12_triesOrders 0 = .ok (.iload_n 1, 1) := by decide +kernel
theorem dX12_triesOrders_1 : decode cX12_triesOrders 1 = .ok (.aload_n 0, 1) := by decide +kernel
theorem dX12_triesOrders_2 : decode cX12_triesOrders 2 = .ok (.getfield 410, 3) := by decide +kernel
theorem dX12_triesOrders_5 : decode cX12_triesOrders 5 = .ok (.if_icmp .ne 56, 3) := by decide +kernel
theorem dX12_triesOrders_8 : decode cX12_triesOrders 8 = .ok (.aload_n 0, 1) := by decide +kernel
theorem dX12_triesOrders_9 : decode cX12_triesOrders 9 = .ok (.iload_n 2, 1) := by decide +kernel
theorem dX12_triesOrders_10 : decode cX12_triesOrders 10 = .ok (.invokevirtual 413, 3) := by decide +kernel
theorem dX12_triesOrders_13 : decode cX12_triesOrders 13 = .ok (.istore_n 3, 1) := by decide +kernel
theorem dX12_triesOrders_14 : decode cX12_triesOrders 14 = .ok (.iload_n 3, 1) := by decide +kernel
theorem dX12_triesOrders_15 : decode cX12_triesOrders 15 = .ok (.aload_n 0, 1) := by decide +kernel
theorem dX12_triesOrders_16 : decode cX12_triesOrders 16 = .ok (.getfield 416, 3) := by decide +kernel
theorem dX12_triesOrders_19 : decode cX12_triesOrders 19 = .ok (.if_icmp .gt 4, 3) := by decide +kernel
theorem dX12_triesOrders_22 : decode cX12_triesOrders 22 = .ok (.return_, 1) := by decide +kernel
theorem dX12_triesOrders_23 : decode cX12_triesOrders 23 = .ok (.aload_n 0, 1) := by decide +kernel
theorem dX12_triesOrders_24 : decode cX12_triesOrders 24 = .ok (.iload_n 3, 1) := by decide +kernel
theorem dX12_triesOrders_25 : decode cX12_triesOrders 25 = .ok (.putfield 416, 3) := by decide +kernel
theorem dX12_triesOrders_28 : decode cX12_triesOrders 28 = .ok (.iconst 0, 1) := by decide +kernel
theorem dX12_triesOrders_29 : decode cX12_triesOrders 29 = .ok (.istore 4, 2) := by decide +kernel
theorem dX12_triesOrders_31 : decode cX12_triesOrders 31 = .ok (.iload 4, 2) := by decide +kernel
theorem dX12_triesOrders_33 : decode cX12_triesOrders 33 = .ok (.aload_n 0, 1) := by decide +kernel
theorem dX12_triesOrders_34 : decode cX12_triesOrders 34 = .ok (.getfield 410, 3) := by decide +kernel
theorem dX12_triesOrders_37 : decode cX12_triesOrders 37 = .ok (.if_icmp .ge 23, 3) := by decide +kernel
theorem dX12_triesOrders_40 : decode cX12_triesOrders 40 = .ok (.aload_n 0, 1) := by decide +kernel
theorem dX12_triesOrders_41 : decode cX12_triesOrders 41 = .ok (.getfield 107, 3) := by decide +kernel
theorem dX12_triesOrders_44 : decode cX12_triesOrders 44 = .ok (.iload 4, 2) := by decide +kernel
theorem dX12_triesOrders_46 : decode cX12_triesOrders 46 = .ok (.aload_n 0, 1) := by decide +kernel
theorem dX12_triesOrders_47 : decode cX12_triesOrders 47 = .ok (.getfield 104, 3) := by decide +kernel
theorem dX12_triesOrders_50 : decode cX12_triesOrders 50 = .ok (.iload 4, 2) := by decide +kernel
theorem dX12_triesOrders_52 : decode cX12_triesOrders 52 = .ok (.iaload, 1) := by decide +kernel
theorem dX12_triesOrders_53 : decode cX12_triesOrders 53 = .ok (.iastore, 1) := by decide +kernel
theorem dX12_triesOrders_54 : decode cX12_triesOrders 54 = .ok (.iinc 4 1, 3) := by decide +kernel
theorem dX12_triesOrders_57 : decode cX12_triesOrders 57 = .ok (.goto (-26), 3) := by decide +kernel
theorem dX12_triesOrders_60 : decode cX12_triesOrders 60 = .ok (.return_, 1) := by decide +kernel
theorem dX12_triesOrders_61 : decode cX12_triesOrders 61 = .ok (.iconst 0, 1) := by decide +kernel
theorem dX12_triesOrders_62 : decode cX12_triesOrders 62 = .ok (.istore_n 3, 1) := by decide +kernel
theorem dX12_triesOrders_63 : decode cX12_triesOrders 63 = .ok (.iload_n 3, 1) := by decide +kernel
theorem dX12_triesOrders_64 : decode cX12_triesOrders 64 = .ok (.aload_n 0, 1) := by decide +kernel
theorem dX12_triesOrders_65 : decode cX12_triesOrders 65 = .ok (.getfield 410, 3) := by decide +kernel
theorem dX12_triesOrders_68 : decode cX12_triesOrders 68 = .ok (.if_icmp .ge 55, 3) := by decide +kernel
theorem dX12_triesOrders_71 : decode cX12_triesOrders 71 = .ok (.aload_n 0, 1) := by decide +kernel
theorem dX12_triesOrders_72 : decode cX12_triesOrders 72 = .ok (.getfield 110, 3) := by decide +kernel
theorem dX12_triesOrders_75 : decode cX12_triesOrders 75 = .ok (.iload_n 3, 1) := by decide +kernel
theorem dX12_triesOrders_76 : decode cX12_triesOrders 76 = .ok (.baload, 1) := by decide +kernel
theorem dX12_triesOrders_77 : decode cX12_triesOrders 77 = .ok (.ifCond .eq 6, 3) := by decide +kernel
theorem dX12_triesOrders_80 : decode cX12_triesOrders 80 = .ok (.goto 37, 3) := by decide +kernel
theorem dX12_triesOrders_83 : decode cX12_triesOrders 83 = .ok (.aload_n 0, 1) := by decide +kernel
theorem dX12_triesOrders_84 : decode cX12_triesOrders 84 = .ok (.getfield 110, 3) := by decide +kernel
theorem dX12_triesOrders_87 : decode cX12_triesOrders 87 = .ok (.iload_n 3, 1) := by decide +kernel
theorem dX12_triesOrders_88 : decode cX12_triesOrders 88 = .ok (.iconst 1, 1) := by decide +kernel
theorem dX12_triesOrders_89 : decode cX12_triesOrders 89 = .ok (.bastore, 1) := by decide +kernel
theorem dX12_triesOrders_90 : decode cX12_triesOrders 90 = .ok (.aload_n 0, 1) := by decide +kernel
theorem dX12_triesOrders_91 : decode cX12_triesOrders 91 = .ok (.getfield 104, 3) := by decide +kernel
theorem dX12_triesOrders_94 : decode cX12_triesOrders 94 = .ok (.iload_n 1, 1) := by decide +kernel
theorem dX12_triesOrders_95 : decode cX12_triesOrders 95 = .ok (.aload_n 0, 1) := by decide +kernel
theorem dX12_triesOrders_96 : decode cX12_triesOrders 96 = .ok (.getfield 101, 3) := by decide +kernel
theorem dX12_triesOrders_99 : decode cX12_triesOrders 99 = .ok (.iload_n 3, 1) := by decide +kernel
theorem dX12_triesOrders_100 : decode cX12_triesOrders 100 = .ok (.iaload, 1) := by decide +kernel
theorem dX12_triesOrders_101 : decode cX12_triesOrders 101 = .ok (.iastore, 1) := by decide +kernel
theorem dX12_triesOrders_102 : decode cX12_triesOrders 102 = .ok (.aload_n 0, 1) := by decide +kernel
theorem dX12_triesOrders_103 : decode cX12_triesOrders 103 = .ok (.iload_n 1, 1) := by decide +kernel
theorem dX12_triesOrders_104 : decode cX12_triesOrders 104 = .ok (.iconst 1, 1) := by decide +kernel
theorem dX12_triesOrders_105 : decode cX12_triesOrders 105 = .ok (.iadd, 1) := by decide +kernel
theorem dX12_triesOrders_106 : decode cX12_triesOrders 106 = .ok (.iload_n 2, 1) := by decide +kernel
theorem dX12_triesOrders_107 : decode cX12_triesOrders 107 = .ok (.invokevirtual 419, 3) := by decide +kernel
theorem dX12_triesOrders_110 : decode cX12_triesOrders 110 = .ok (.aload_n 0, 1) := by decide +kernel
theorem dX12_triesOrders_111 : decode cX12_triesOrders 111 = .ok (.getfield 110, 3) := by decide +kernel
theorem dX12_triesOrders_114 : decode cX12_triesOrders 114 = .ok (.iload_n 3, 1) := by decide +kernel
theorem dX12_triesOrders_115 : decode cX12_triesOrders 115 = .ok (.iconst 0, 1) := by decide +kernel
theorem dX12_triesOrders_116 : decode cX12_triesOrders 116 = .ok (.bastore, 1) := by decide +kernel
theorem dX12_triesOrders_117 : decode cX12_triesOrders 117 = .ok (.iinc 3 1, 3) := by decide +kernel
theorem dX12_triesOrders_120 : decode cX12_triesOrders 120 = .ok (.goto (-57), 3) := by decide +kernel
theorem dX12_triesOrders_123 : decode cX12_triesOrders 123 = .ok (.return_, 1) := by decide +kernel
theorem dX12_orders_0 : decode cX12_orders 0 = .ok (.aload_n 0, 1) := by decide +kernel
theorem dX12_orders_1 : decode cX12_orders 1 = .ok (.iconst 0, 1) := by decide +kernel
theorem dX12_orders_2 : decode cX12_orders 2 = .ok (.putfield 410, 3) := by decide +kernel
theorem dX12_orders_5 : decode cX12_orders 5 = .ok (.iconst 0, 1) := by decide +kernel
theorem dX12_orders_6 : decode cX12_orders 6 = .ok (.istore_n 3, 1) := by decide +kernel
theorem dX12_orders_7 : decode cX12_orders 7 = .ok (.iload_n 3, 1) := by decide +kernel
theorem dX12_orders_8 : decode cX12_orders 8 = .ok (.aload_n 0, 1) := by decide +kernel
theorem dX12_orders_9 : decode cX12_orders 9 = .ok (.getfield 7, 3) := by decide +kernel
theorem dX12_orders_12 : decode cX12_orders 12 = .ok (.bipush 17, 2) := by decide +kernel
theorem dX12_orders_14 : decode cX12_orders 14 = .ok (.iaload, 1) := by decide +kernel
theorem dX12_orders_15 : decode cX12_orders 15 = .ok (.if_icmp .ge 46, 3) := by decide +kernel
theorem dX12_orders_18 : decode cX12_orders 18 = .ok (.aload_n 0, 1) := by decide +kernel
theorem dX12_orders_19 : decode cX12_orders 19 = .ok (.getfield 7, 3) := by decide +kernel
theorem dX12_orders_22 : decode cX12_orders 22 = .ok (.bipush 40, 2) := by decide +kernel
theorem dX12_orders_24 : decode cX12_orders 24 = .ok (.iaload, 1) := by decide +kernel
theorem dX12_orders_25 : decode cX12_orders 25 = .ok (.iload_n 3, 1) := by decide +kernel
theorem dX12_orders_26 : decode cX12_orders 26 = .ok (.ishr, 1) := by decide +kernel
theorem dX12_orders_27 : decode cX12_orders 27 = .ok (.iconst 1, 1) := by decide +kernel
theorem dX12_orders_28 : decode cX12_orders 28 = .ok (.iand, 1) := by decide +kernel
theorem dX12_orders_29 : decode cX12_orders 29 = .ok (.ifCond .ne 6, 3) := by decide +kernel
theorem dX12_orders_32 : decode cX12_orders 32 = .ok (.goto 23, 3) := by decide +kernel
theorem dX12_orders_35 : decode cX12_orders 35 = .ok (.aload_n 0, 1) := by decide +kernel
theorem dX12_orders_36 : decode cX12_orders 36 = .ok (.getfield 101, 3) := by decide +kernel
theorem dX12_orders_39 : decode cX12_orders 39 = .ok (.aload_n 0, 1) := by decide +kernel
theorem dX12_orders_40 : decode cX12_orders 40 = .ok (.getfield 410, 3) := by decide +kernel
theorem dX12_orders_43 : decode cX12_orders 43 = .ok (.iload_n 3, 1) := by decide +kernel
theorem dX12_orders_44 : decode cX12_orders 44 = .ok (.iastore, 1) := by decide +kernel
theorem dX12_orders_45 : decode cX12_orders 45 = .ok (.aload_n 0, 1) := by decide +kernel
theorem dX12_orders_46 : decode cX12_orders 46 = .ok (.dup, 1) := by decide +kernel
theorem dX12_orders_47 : decode cX12_orders 47 = .ok (.getfield 410, 3) := by decide +kernel
theorem dX12_orders_50 : decode cX12_orders 50 = .ok (.iconst 1, 1) := by decide +kernel
theorem dX12_orders_51 : decode cX12_orders 51 = .ok (.iadd, 1) := by decide +kernel
theorem dX12_orders_52 : decode cX12_orders 52 = .ok (.putfield 410, 3) := by decide +kernel
theorem dX12_orders_55 : decode cX12_orders 55 = .ok (.iinc 3 1, 3) := by decide +kernel
theorem dX12_orders_58 : decode cX12_orders 58 = .ok (.goto (-51), 3) := by decide +kernel
theorem dX12_orders_61 : decode cX12_orders 61 = .ok (.iload_n 1, 1) := by decide +kernel
theorem dX12_orders_62 : decode cX12_orders 62 = .ok (.iconst 1, 1) := by decide +kernel
theorem dX12_orders_63 : decode cX12_orders 63 = .ok (.iconst 2, 1) := by decide +kernel
theorem dX12_orders_64 : decode cX12_orders 64 = .ok (.invokestatic 119, 3) := by decide +kernel
theorem dX12_orders_67 : decode cX12_orders 67 = .ok (.ifCond .eq 37, 3) := by decide +kernel
theorem dX12_orders_70 : decode cX12_orders 70 = .ok (.aload_n 0, 1) := by decide +kernel
theorem dX12_orders_71 : decode cX12_orders 71 = .ok (.getfield 410, 3) := by decide +kernel
theorem dX12_orders_74 : decode cX12_orders 74 = .ok (.bipush 6, 2) := by decide +kernel
theorem dX12_orders_76 : decode cX12_orders 76 = .ok (.if_icmp .gt 28, 3) := by decide +kernel
theorem dX12_orders_79 : decode cX12_orders 79 = .ok (.iload_n 2, 1) := by decide +kernel
theorem dX12_orders_80 : decode cX12_orders 80 = .ok (.iconst 0, 1) := by decide +kernel
theorem dX12_orders_81 : decode cX12_orders 81 = .ok (.iconst 1, 1) := by decide +kernel
theorem dX12_orders_82 : decode cX12_orders 82 = .ok (.invokestatic 119, 3) := by decide +kernel
theorem dX12_orders_85 : decode cX12_orders 85 = .ok (.ifCond .ne 21, 3) := by decide +kernel
theorem dX12_orders_88 : decode cX12_orders 88 = .ok (.iload_n 2, 1) := by decide +kernel
theorem dX12_orders_89 : decode cX12_orders 89 = .ok (.bipush 10, 2) := by decide +kernel
theorem dX12_orders_91 : decode cX12_orders 91 = .ok (.bipush 9, 2) := by decide +kernel
theorem dX12_orders_93 : decode cX12_orders 93 = .ok (.aload_n 0, 1) := by decide +kernel
theorem dX12_orders_94 : decode cX12_orders 94 = .ok (.getfield 410, 3) := by decide +kernel
theorem dX12_orders_97 : decode cX12_orders 97 = .ok (.iadd, 1) := by decide +kernel
theorem dX12_orders_98 : decode cX12_orders 98 = .ok (.invokestatic 119, 3) := by decide +kernel
theorem dX12_orders_101 : decode cX12_orders 101 = .ok (.ifCond .ne 5, 3) := by decide +kernel
theorem dX12_orders_104 : decode cX12_orders 104 = .ok (.iconst (-1), 1) := by decide +kernel
theorem dX12_orders_105 : decode cX12_orders 105 = .ok (.ireturn, 1) := by decide +kernel
theorem dX12_orders_106 : decode cX12_orders 106 = .ok (.aload_n 0, 1) := by decide +kernel
theorem dX12_orders_107 : decode cX12_orders 107 = .ok (.iload_n 1, 1) := by decide +kernel
theorem dX12_orders_108 : decode cX12_orders 108 = .ok (.invokevirtual 392, 3) := by decide +kernel
theorem dX12_orders_111 : decode cX12_orders 111 = .ok (.istore_n 3, 1) := by decide +kernel
theorem dX12_orders_112 : decode cX12_orders 112 = .ok (.iload_n 2, 1) := by decide +kernel
theorem dX12_orders_113 : decode cX12_orders 113 = .ok (.iconst 1, 1) := by decide +kernel
theorem dX12_orders_114 : decode cX12_orders 114 = .ok (.if_icmp .ne 5, 3) := by decide +kernel
theorem dX12_orders_117 : decode cX12_orders 117 = .ok (.iload_n 3, 1) := by decide +kernel
theorem dX12_orders_118 : decode cX12_orders 118 = .ok (.ireturn, 1) := by decide +kernel
theorem dX12_orders_119 : decode cX12_orders 119 = .ok (.iconst 0, 1) := by decide +kernel
theorem dX12_orders_120 : decode cX12_orders 120 = .ok (.istore 4, 2) := by decide +kernel
theorem dX12_orders_122 : decode cX12_orders 122 = .ok (.iload 4, 2) := by decide +kernel
theorem dX12_orders_124 : decode cX12_orders 124 = .ok (.iload_n 3, 1) := by decide +kernel
theorem dX12_orders_125 : decode cX12_orders 125 = .ok (.if_icmp .ge 99, 3) := by decide +kernel
theorem dX12_orders_128 : decode cX12_orders 128 = .ok (.iconst 0, 1) := by decide +kernel
theorem dX12_orders_129 : decode cX12_orders 129 = .ok (.istore 5, 2) := by decide +kernel
theorem dX12_orders_131 : decode cX12_orders 131 = .ok (.iload 5, 2) := by decide +kernel
theorem dX12_orders_133 : decode cX12_orders 133 = .ok (.bipush 90, 2) := by decide +kernel
theorem dX12_orders_135 : decode cX12_orders 135 = .ok (.if_icmp .ge 20, 3) := by decide +kernel
theorem dX12_orders_138 : decode cX12_orders 138 = .ok (.aload_n 0, 1) := by decide +kernel
theorem dX12_orders_139 : decode cX12_orders 139 = .ok (.getfield 98, 3) := by decide +kernel
theorem dX12_orders_142 : decode cX12_orders 142 = .ok (.iload 4, 2) := by decide +kernel
theorem dX12_orders_144 : decode cX12_orders 144 = .ok (.aaload, 1) := by decide +kernel
theorem dX12_orders_145 : decode cX12_orders 145 = .ok (.iload 5, 2) := by decide +kernel
theorem dX12_orders_147 : decode cX12_orders 147 = .ok (.iconst 0, 1) := by decide +kernel
theorem dX12_orders_148 : decode cX12_orders 148 = .ok (.bastore, 1) := by decide +kernel
theorem dX12_orders_149 : decode cX12_orders 149 = .ok (.iinc 5 1, 3) := by decide +kernel
theorem dX12_orders_152 : decode cX12_orders 152 = .ok (.goto (-21), 3) := by decide +kernel
theorem dX12_orders_155 : decode cX12_orders 155 = .ok (.aload_n 0, 1) := by decide +kernel
theorem dX12_orders_156 : decode cX12_orders 156 = .ok (.iload 4, 2) := by decide +kernel
theorem dX12_orders_158 : decode cX12_orders 158 = .ok (.invokevirtual 395, 3) := by decide +kernel
theorem dX12_orders_161 : decode cX12_orders 161 = .ok (.aload_n 0, 1) := by decide +kernel
theorem dX12_orders_162 : decode cX12_orders 162 = .ok (.aload_n 0, 1) := by decide +kernel
theorem dX12_orders_163 : decode cX12_orders 163 = .ok (.getfield 7, 3) := by decide +kernel
theorem dX12_orders_166 : decode cX12_orders 166 = .ok (.bipush 40, 2) := by decide +kernel
theorem dX12_orders_168 : decode cX12_orders 168 = .ok (.iaload, 1) := by decide +kernel
theorem dX12_orders_169 : decode cX12_orders 169 = .ok (.invokevirtual 389, 3) := by decide +kernel
theorem dX12_orders_172 : decode cX12_orders 172 = .ok (.iconst 0, 1) := by decide +kernel
theorem dX12_orders_173 : decode cX12_orders 173 = .ok (.istore 5, 2) := by decide +kernel
theorem dX12_orders_175 : decode cX12_orders 175 = .ok (.iload 5, 2) := by decide +kernel
theorem dX12_orders_177 : decode cX12_orders 177 = .ok (.aload_n 0, 1) := by decide +kernel
theorem dX12_orders_178 : decode cX12_orders 178 = .ok (.getfield 327, 3) := by decide +kernel
theorem dX12_orders_181 : decode cX12_orders 181 = .ok (.if_icmp .ge 37, 3) := by decide +kernel
theorem dX12_orders_184 : decode cX12_orders 184 = .ok (.aload_n 0, 1) := by decide +kernel
theorem dX12_orders_185 : decode cX12_orders 185 = .ok (.getfield 59, 3) := by decide +kernel
theorem dX12_orders_188 : decode cX12_orders 188 = .ok (.iload 5, 2) := by decide +kernel
theorem dX12_orders_190 : decode cX12_orders 190 = .ok (.iaload, 1) := by decide +kernel
theorem dX12_orders_191 : decode cX12_orders 191 = .ok (.bipush 90, 2) := by decide +kernel
theorem dX12_orders_193 : decode cX12_orders 193 = .ok (.if_icmp .ge 19, 3) := by decide +kernel
theorem dX12_orders_196 : decode cX12_orders 196 = .ok (.aload_n 0, 1) := by decide +kernel
theorem dX12_orders_197 : decode cX12_orders 197 = .ok (.getfield 98, 3) := by decide +kernel
theorem dX12_orders_200 : decode cX12_orders 200 = .ok (.iload 4, 2) := by decide +kernel
theorem dX12_orders_202 : decode cX12_orders 202 = .ok (.aaload, 1) := by decide +kernel
theorem dX12_orders_203 : decode cX12_orders 203 = .ok (.aload_n 0, 1) := by decide +kernel
theorem dX12_orders_204 : decode cX12_orders 204 = .ok (.getfield 59, 3) := by decide +kernel
theorem dX12_orders_207 : decode cX12_orders 207 = .ok (.iload 5, 2) := by decide +kernel
theorem dX12_orders_209 : decode cX12_orders 209 = .ok (.iaload, 1) := by decide +kernel
theorem dX12_orders_210 : decode cX12_orders 210 = .ok (.iconst 1, 1) := by decide +kernel
theorem dX12_orders_211 : decode cX12_orders 211 = .ok (.bastore, 1) := by decide +kernel
theorem dX12_orders_212 : decode cX12_orders 212 = .ok (.iinc 5 1, 3) := by decide +kernel
theorem dX12_orders_215 : decode cX12_orders 215 = .ok (.goto (-40), 3) := by decide +kernel
theorem dX12_orders_218 : decode cX12_orders 218 = .ok (.iinc 4 1, 3) := by decide +kernel
theorem dX12_orders_221 : decode cX12_orders 221 = .ok (.goto (-99), 3) := by decide +kernel
theorem dX12_orders_224 : decode cX12_orders 224 = .ok (.aload_n 0, 1) := by decide +kernel
theorem dX12_orders_225 : decode cX12_orders 225 = .ok (.getfield 248, 3) := by decide +kernel
theorem dX12_orders_228 : decode cX12_orders 228 = .ok (.istore 4, 2) := by decide +kernel
theorem dX12_orders_230 : decode cX12_orders 230 = .ok (.iconst 0, 1) := by decide +kernel
theorem dX12_orders_231 : decode cX12_orders 231 = .ok (.istore 5, 2) := by decide +kernel
theorem dX12_orders_233 : decode cX12_orders 233 = .ok (.iload 5, 2) := by decide +kernel
theorem dX12_orders_235 : decode cX12_orders 235 = .ok (.bipush 16, 2) := by decide +kernel
theorem dX12_orders_237 : decode cX12_orders 237 = .ok (.if_icmp .ge 23, 3) := by decide +kernel
theorem dX12_orders_240 : decode cX12_orders 240 = .ok (.aload_n 0, 1) := by decide +kernel
theorem dX12_orders_241 : decode cX12_orders 241 = .ok (.getfield 113, 3) := by decide +kernel
theorem dX12_orders_244 : decode cX12_orders 244 = .ok (.iload 5, 2) := by decide +kernel
theorem dX12_orders_246 : decode cX12_orders 246 = .ok (.aload_n 0, 1) := by decide +kernel
theorem dX12_orders_247 : decode cX12_orders 247 = .ok (.getfield 74, 3) := by decide +kernel
theorem dX12_orders_250 : decode cX12_orders 250 = .ok (.iload 5, 2) := by decide +kernel
theorem dX12_orders_252 : decode cX12_orders 252 = .ok (.iaload, 1) := by decide +kernel
theorem dX12_orders_253 : decode cX12_orders 253 = .ok (.iastore, 1) := by decide +kernel
theorem dX12_orders_254 : decode cX12_orders 254 = .ok (.iinc 5 1, 3) := by decide +kernel
theorem dX12_orders_257 : decode cX12_orders 257 = .ok (.goto (-24), 3) := by decide +kernel
theorem dX12_orders_260 : decode cX12_orders 260 = .ok (.aload_n 0, 1) := by decide +kernel
theorem dX12_orders_261 : decode cX12_orders 261 = .ok (.iconst (-1), 1) := by decide +kernel
theorem dX12_orders_262 : decode cX12_orders 262 = .ok (.putfield 416, 3) := by decide +kernel
theorem dX12_orders_265 : decode cX12_orders 265 = .ok (.aload_n 0, 1) := by decide +kernel
theorem dX12_orders_266 : decode cX12_orders 266 = .ok (.iconst 0, 1) := by decide +kernel
theorem dX12_orders_267 : decode cX12_orders 267 = .ok (.iload_n 3, 1) := by decide +kernel
theorem dX12_orders_268 : decode cX12_orders 268 = .ok (.invokevirtual 419, 3) := by decide +kernel
theorem dX12_orders_271 : decode cX12_orders 271 = .ok (.aload_n 0, 1) := by decide +kernel
theorem dX12_orders_272 : decode cX12_orders 272 = .ok (.iload 4, 2) := by decide +kernel
theorem dX12_orders_274 : decode cX12_orders 274 = .ok (.putfield 248, 3) := by decide +kernel
theorem dX12_orders_277 : decode cX12_orders 277 = .ok (.iconst 0, 1) := by decide +kernel
theorem dX12_orders_278 : decode cX12_orders 278 = .ok (.istore 5, 2) := by decide +kernel
theorem dX12_orders_280 : decode cX12_orders 280 = .ok (.iload 5, 2) := by decide +kernel
theorem dX12_orders_282 : decode cX12_orders 282 = .ok (.bipush 16, 2) := by decide +kernel
theorem dX12_orders_284 : decode cX12_orders 284 = .ok (.if_icmp .ge 23, 3) := by decide +kernel
theorem dX12_orders_287 : decode cX12_orders 287 = .ok (.aload_n 0, 1) := by decide +kernel
theorem dX12_orders_288 : decode cX12_orders 288 = .ok (.getfield 74, 3) := by decide +kernel
theorem dX12_orders_291 : decode cX12_orders 291 = .ok (.iload 5, 2) := by decide +kernel
theorem dX12_orders_293 : decode cX12_orders 293 = .ok (.aload_n 0, 1) := by decide +kernel
theorem dX12_orders_294 : decode cX12_orders 294 = .ok (.getfield 113, 3) := by decide +kernel
theorem dX12_orders_297 : decode cX12_orders 297 = .ok (.iload 5, 2) := by decide +kernel
theorem dX12_orders_299 : decode cX12_orders 299 = .ok (.iaload, 1) := by decide +kernel
theorem dX12_orders_300 : decode cX12_orders 300 = .ok (.iastore, 1) := by decide +kernel
theorem dX12_orders_301 : decode cX12_orders 301 = .ok (.iinc 5 1, 3) := by decide +kernel
theorem dX12_orders_304 : decode cX12_orders 304 = .ok (.goto (-24), 3) := by decide +kernel
theorem dX12_orders_307 : decode cX12_orders 307 = .ok (.iload_n 2, 1) := by decide +kernel
theorem dX12_orders_308 : decode cX12_orders 308 = .ok (.ifCond .ne 10, 3) := by decide +kernel
theorem dX12_orders_311 : decode cX12_orders 311 = .ok (.aload_n 0, 1) := by decide +kernel
theorem dX12_orders_312 : decode cX12_orders 312 = .ok (.getfield 416, 3) := by decide +kernel
theorem dX12_orders_315 : decode cX12_orders 315 = .ok (.goto 12, 3) := by decide +kernel
theorem dX12_orders_318 : decode cX12_orders 318 = .ok (.aload_n 0, 1) := by decide +kernel
theorem dX12_orders_319 : decode cX12_orders 319 = .ok (.getfield 107, 3) := by decide +kernel
theorem dX12_orders_322 : decode cX12_orders 322 = .ok (.iload_n 2, 1) := by decide +kernel
theorem dX12_orders_323 : decode cX12_orders 323 = .ok (.bipush 10, 2) := by decide +kernel
theorem dX12_orders_325 : decode cX12_orders 325 = .ok (.isub, 1) := by decide +kernel
theorem dX12_orders_326 : decode cX12_orders 326 = .ok (.iaload, 1) := by decide +kernel
theorem dX12_orders_327 : decode cX12_orders 327 = .ok (.ireturn, 1) := by decide +kernel
theorem dX12_example_0 : decode cX12_example 0 = .ok (.aload_n 0, 1) := by decide +kernel
theorem dX12_example_1 : decode cX12_example 1 = .ok (.getfield 116, 3) := by decide +kernel
theorem dX12_example_4 : decode cX12_example 4 = .ok (.istore_n 2, 1) := by decide +kernel
theorem dX12_example_5 : decode cX12_example 5 = .ok (.aload_n 0, 1) := by decide +kernel
theorem dX12_example_6 : decode cX12_example 6 = .ok (.iconst 0, 1) := by decide +kernel
theorem dX12_example_7 : decode cX12_example 7 = .ok (.putfield 116, 3) := by decide +kernel
theorem dX12_example_10 : decode cX12_example 10 = .ok (.aload_n 0, 1) := by decide +kernel
theorem dX12_example_11 : decode cX12_example 11 = .ok (.getfield 7, 3) := by decide +kernel
theorem dX12_example_14 : decode cX12_example 14 = .ok (.bipush 42, 2) := by decide +kernel
theorem dX12_example_16 : decode cX12_example 16 = .ok (.iaload, 1) := by decide +kernel
theorem dX12_example_17 : decode cX12_example 17 = .ok (.bipush 12, 2) := by decide +kernel
theorem dX12_example_19 : decode cX12_example 19 = .ok (.if_icmp .ne 5, 3) := by decide +kernel
theorem dX12_example_22 : decode cX12_example 22 = .ok (.iconst (-1), 1) := by decide +kernel
theorem dX12_example_23 : decode cX12_example 23 = .ok (.ireturn, 1) := by decide +kernel
theorem dX12_example_24 : decode cX12_example 24 = .ok (.sipush 220, 3) := by decide +kernel
theorem dX12_example_27 : decode cX12_example 27 = .ok (.bipush 20, 2) := by decide +kernel
theorem dX12_example_29 : decode cX12_example 29 = .ok (.aload_n 0, 1) := by decide +kernel
theorem dX12_example_30 : decode cX12_example 30 = .ok (.getfield 7, 3) := by decide +kernel
theorem dX12_example_33 : decode cX12_example 33 = .ok (.bipush 42, 2) := by decide +kernel
theorem dX12_example_35 : decode cX12_example 35 = .ok (.iaload, 1) := by decide +kernel
theorem dX12_example_36 : decode cX12_example 36 = .ok (.imul, 1) := by decide +kernel
theorem dX12_example_37 : decode cX12_example 37 = .ok (.iadd, 1) := by decide +kernel
theorem dX12_example_38 : decode cX12_example 38 = .ok (.istore_n 3, 1) := by decide +kernel
theorem dX12_example_39 : decode cX12_example 39 = .ok (.iconst 0, 1) := by decide +kernel
theorem dX12_example_40 : decode cX12_example 40 = .ok (.istore 4, 2) := by decide +kernel
theorem dX12_example_42 : decode cX12_example 42 = .ok (.aload_n 0, 1) := by decide +kernel
theorem dX12_example_43 : decode cX12_example 43 = .ok (.getfield 7, 3) := by decide +kernel
theorem dX12_example_46 : decode cX12_example 46 = .ok (.iload_n 3, 1) := by decide +kernel
theorem dX12_example_47 : decode cX12_example 47 = .ok (.iconst 1, 1) := by decide +kernel
theorem dX12_example_48 : decode cX12_example 48 = .ok (.iadd, 1) := by decide +kernel
theorem dX12_example_49 : decode cX12_example 49 = .ok (.iconst 0, 1) := by decide +kernel
theorem dX12_example_50 : decode cX12_example 50 = .ok (.iastore, 1) := by decide +kernel
theorem dX12_example_51 : decode cX12_example 51 = .ok (.aload_n 0, 1) := by decide +kernel
theorem dX12_example_52 : decode cX12_example 52 = .ok (.getfield 7, 3) := by decide +kernel
theorem dX12_example_55 : decode cX12_example 55 = .ok (.iload_n 3, 1) := by decide +kernel
theorem dX12_example_56 : decode cX12_example 56 = .ok (.iconst 2, 1) := by decide +kernel
theorem dX12_example_57 : decode cX12_example 57 = .ok (.iadd, 1) := by decide +kernel
theorem dX12_example_58 : decode cX12_example 58 = .ok (.iconst 0, 1) := by decide +kernel
theorem dX12_example_59 : decode cX12_example 59 = .ok (.iastore, 1) := by decide +kernel
theorem dX12_example_60 : decode cX12_example 60 = .ok (.iconst 0, 1) := by decide +kernel
theorem dX12_example_61 : decode cX12_example 61 = .ok (.istore 5, 2) := by decide +kernel
theorem dX12_example_63 : decode cX12_example 63 = .ok (.iload 5, 2) := by decide +kernel
theorem dX12_example_65 : decode cX12_example 65 = .ok (.iload_n 2, 1) := by decide +kernel
theorem dX12_example_66 : decode cX12_example 66 = .ok (.if_icmp .ge 114, 3) := by decide +kernel
theorem dX12_example_69 : decode cX12_example 69 = .ok (.aload_n 0, 1) := by decide +kernel
theorem dX12_example_70 : decode cX12_example 70 = .ok (.getfield 7, 3) := by decide +kernel
theorem dX12_example_73 : decode cX12_example 73 = .ok (.aload_n 0, 1) := by decide +kernel
theorem dX12_example_74 : decode cX12_example 74 = .ok (.getfield 19, 3) := by decide +kernel
theorem dX12_example_77 : decode cX12_example 77 = .ok (.iload 5, 2) := by decide +kernel
theorem dX12_example_79 : decode cX12_example 79 = .ok (.iaload, 1) := by decide +kernel
theorem dX12_example_80 : decode cX12_example 80 = .ok (.invokestatic 163, 3) := by decide +kernel
theorem dX12_example_83 : decode cX12_example 83 = .ok (.istore 6, 2) := by decide +kernel
theorem dX12_example_85 : decode cX12_example 85 = .ok (.aload_n 0, 1) := by decide +kernel
theorem dX12_example_86 : decode cX12_example 86 = .ok (.getfield 19, 3) := by decide +kernel
theorem dX12_example_89 : decode cX12_example 89 = .ok (.iload 5, 2) := by decide +kernel
theorem dX12_example_91 : decode cX12_example 91 = .ok (.iaload, 1) := by decide +kernel
theorem dX12_example_92 : decode cX12_example 92 = .ok (.bipush 58, 2) := by decide +kernel
theorem dX12_example_94 : decode cX12_example 94 = .ok (.if_icmp .ne 14, 3) := by decide +kernel
theorem dX12_example_97 : decode cX12_example 97 = .ok (.iload 4, 2) := by decide +kernel
theorem dX12_example_99 : decode cX12_example 99 = .ok (.ifCond .ne 9, 3) := by decide +kernel
theorem dX12_example_102 : decode cX12_example 102 = .ok (.iconst 1, 1) := by decide +kernel
theorem dX12_example_103 : decode cX12_example 103 = .ok (.istore 4, 2) := by decide +kernel
theorem dX12_example_105 : decode cX12_example 105 = .ok (.goto 69, 3) := by decide +kernel
theorem dX12_example_108 : decode cX12_example 108 = .ok (.iload 6, 2) := by decide +kernel
theorem dX12_example_110 : decode cX12_example 110 = .ok (.ifCond .eq 19, 3) := by decide +kernel
theorem dX12_example_113 : decode cX12_example 113 = .ok (.aload_n 0, 1) := by decide +kernel
theorem dX12_example_114 : decode cX12_example 114 = .ok (.getfield 7, 3) := by decide +kernel
theorem dX12_example_117 : decode cX12_example 117 = .ok (.iload_n 3, 1) := by decide +kernel
theorem dX12_example_118 : decode cX12_example 118 = .ok (.iconst 1, 1) := by decide +kernel
theorem dX12_example_119 : decode cX12_example 119 = .ok (.iadd, 1) := by decide +kernel
theorem dX12_example_120 : decode cX12_example 120 = .ok (.iload 4, 2) := by decide +kernel
theorem dX12_example_122 : decode cX12_example 122 = .ok (.iadd, 1) := by decide +kernel
theorem dX12_example_123 : decode cX12_example 123 = .ok (.iaload, 1) := by decide +kernel
theorem dX12_example_124 : decode cX12_example 124 = .ok (.bipush 8, 2) := by decide +kernel
theorem dX12_example_126 : decode cX12_example 126 = .ok (.if_icmp .ne 5, 3) := by decide +kernel
theorem dX12_example_129 : decode cX12_example 129 = .ok (.iconst (-1), 1) := by decide +kernel
theorem dX12_example_130 : decode cX12_example 130 = .ok (.ireturn, 1) := by decide +kernel
theorem dX12_example_131 : decode cX12_example 131 = .ok (.aload_n 0, 1) := by decide +kernel
theorem dX12_example_132 : decode cX12_example 132 = .ok (.getfield 7, 3) := by decide +kernel
theorem dX12_example_135 : decode cX12_example 135 = .ok (.iload_n 3, 1) := by decide +kernel
theorem dX12_example_136 : decode cX12_example 136 = .ok (.iconst 3, 1) := by decide +kernel
theorem dX12_example_137 : decode cX12_example 137 = .ok (.iadd, 1) := by decide +kernel
theorem dX12_example_138 : decode cX12_example 138 = .ok (.bipush 8, 2) := by decide +kernel
theorem dX12_example_140 : decode cX12_example 140 = .ok (.iload 4, 2) := by decide +kernel
theorem dX12_example_142 : decode cX12_example 142 = .ok (.imul, 1) := by decide +kernel
theorem dX12_example_143 : decode cX12_example 143 = .ok (.iadd, 1) := by decide +kernel
theorem dX12_example_144 : decode cX12_example 144 = .ok (.aload_n 0, 1) := by decide +kernel
theorem dX12_example_145 : decode cX12_example 145 = .ok (.getfield 7, 3) := by decide +kernel
theorem dX12_example_148 : decode cX12_example 148 = .ok (.iload_n 3, 1) := by decide +kernel
theorem dX12_example_149 : decode cX12_example 149 = .ok (.iconst 1, 1) := by decide +kernel
theorem dX12_example_150 : decode cX12_example 150 = .ok (.iadd, 1) := by decide +kernel
theorem dX12_example_151 : decode cX12_example 151 = .ok (.iload 4, 2) := by decide +kernel
theorem dX12_example_153 : decode cX12_example 153 = .ok (.iadd, 1) := by decide +kernel
theorem dX12_example_154 : decode cX12_example 154 = .ok (.iaload, 1) := by decide +kernel
theorem dX12_example_155 : decode cX12_example 155 = .ok (.iadd, 1) := by decide +kernel
theorem dX12_example_156 : decode cX12_example 156 = .ok (.iload 6, 2) := by decide +kernel
theorem dX12_example_158 : decode cX12_example 158 = .ok (.iastore, 1) := by decide +kernel
theorem dX12_example_159 : decode cX12_example 159 = .ok (.aload_n 0, 1) := by decide +kernel
theorem dX12_example_160 : decode cX12_example 160 = .ok (.getfield 7, 3) := by decide +kernel
theorem dX12_example_163 : decode cX12_example 163 = .ok (.iload_n 3, 1) := by decide +kernel
theorem dX12_example_164 : decode cX12_example 164 = .ok (.iconst 1, 1) := by decide +kernel
theorem dX12_example_165 : decode cX12_example 165 = .ok (.iadd, 1) := by decide +kernel
theorem dX12_example_166 : decode cX12_example 166 = .ok (.iload 4, 2) := by decide +kernel
theorem dX12_example_168 : decode cX12_example 168 = .ok (.iadd, 1) := by decide +kernel
theorem dX12_example_169 : decode cX12_example 169 = .ok (.dup2, 1) := by decide +kernel
theorem dX12_example_170 : decode cX12_example 170 = .ok (.iaload, 1) := by decide +kernel
theorem dX12_example_171 : decode cX12_example 171 = .ok (.iconst 1, 1) := by decide +kernel
theorem dX12_example_172 : decode cX12_example 172 = .ok (.iadd, 1) := by decide +kernel
theorem dX12_example_173 : decode cX12_example 173 = .ok (.iastore, 1) := by decide +kernel
theorem dX12_example_174 : decode cX12_example 174 = .ok (.iinc 5 1, 3) := by decide +kernel
theorem dX12_example_177 : decode cX12_example 177 = .ok (.goto (-114), 3) := by decide +kernel
theorem dX12_example_180 : decode cX12_example 180 = .ok (.iload 4, 2) := by decide +kernel
theorem dX12_example_182 : decode cX12_example 182 = .ok (.ifCond .eq 23, 3) := by decide +kernel
theorem dX12_example_185 : decode cX12_example 185 = .ok (.aload_n 0, 1) := by decide +kernel
theorem dX12_example_186 : decode cX12_example 186 = .ok (.getfield 7, 3) := by decide +kernel
theorem dX12_example_189 : decode cX12_example 189 = .ok (.iload_n 3, 1) := by decide +kernel
theorem dX12_example_190 : decode cX12_example 190 = .ok (.iconst 1, 1) := by decide +kernel
theorem dX12_example_191 : decode cX12_example 191 = .ok (.iadd, 1) := by decide +kernel
theorem dX12_example_192 : decode cX12_example 192 = .ok (.iaload, 1) := by decide +kernel
theorem dX12_example_193 : decode cX12_example 193 = .ok (.aload_n 0, 1) := by decide +kernel
theorem dX12_example_194 : decode cX12_example 194 = .ok (.getfield 7, 3) := by decide +kernel
theorem dX12_example_197 : decode cX12_example 197 = .ok (.iload_n 3, 1) := by decide +kernel
theorem dX12_example_198 : decode cX12_example 198 = .ok (.iconst 2, 1) := by decide +kernel
theorem dX12_example_199 : decode cX12_example 199 = .ok (.iadd, 1) := by decide +kernel
theorem dX12_example_200 : decode cX12_example 200 = .ok (.iaload, 1) := by decide +kernel
theorem dX12_example_201 : decode cX12_example 201 = .ok (.iadd, 1) := by decide +kernel
theorem dX12_example_202 : decode cX12_example 202 = .ok (.ifCond .ne 5, 3) := by decide +kernel
theorem dX12_example_205 : decode cX12_example 205 = .ok (.iconst (-1), 1) := by decide +kernel
theorem dX12_example_206 : decode cX12_example 206 = .ok (.ireturn, 1) := by decide +kernel
theorem dX12_example_207 : decode cX12_example 207 = .ok (.aload_n 0, 1) := by decide +kernel
theorem dX12_example_208 : decode cX12_example 208 = .ok (.getfield 7, 3) := by decide +kernel
theorem dX12_example_211 : decode cX12_example 211 = .ok (.iload_n 3, 1) := by decide +kernel
theorem dX12_example_212 : decode cX12_example 212 = .ok (.iload_n 1, 1) := by decide +kernel
theorem dX12_example_213 : decode cX12_example 213 = .ok (.ifCond .eq 7, 3) := by decide +kernel
theorem dX12_example_216 : decode cX12_example 216 = .ok (.iconst 1, 1) := by decide +kernel
theorem dX12_example_217 : decode cX12_example 217 = .ok (.goto 4, 3) := by decide +kernel
theorem dX12_example_220 : decode cX12_example 220 = .ok (.iconst 0, 1) := by decide +kernel
theorem dX12_example_221 : decode cX12_example 221 = .ok (.iastore, 1) := by decide +kernel
theorem dX12_example_222 : decode cX12_example 222 = .ok (.aload_n 0, 1) := by decide +kernel
theorem dX12_example_223 : decode cX12_example 223 = .ok (.getfield 7, 3) := by decide +kernel
theorem dX12_example_226 : decode cX12_example 226 = .ok (.bipush 42, 2) := by decide +kernel
theorem dX12_example_228 : decode cX12_example 228 = .ok (.dup2, 1) := by decide +kernel
theorem dX12_example_229 : decode cX12_example 229 = .ok (.iaload, 1) := by decide +kernel
theorem dX12_example_230 : decode cX12_example 230 = .ok (.iconst 1, 1) := by decide +kernel
theorem dX12_example_231 : decode cX12_example 231 = .ok (.iadd, 1) := by decide +kernel
theorem dX12_example_232 : decode cX12_example 232 = .ok (.iastore, 1) := by decide +kernel
theorem dX12_example_233 : decode cX12_example 233 = .ok (.aload_n 0, 1) := by decide +kernel
theorem dX12_example_234 : decode cX12_example 234 = .ok (.getfield 7, 3) := by decide +kernel
theorem dX12_example_237 : decode cX12_example 237 = .ok (.bipush 42, 2) := by decide +kernel
theorem dX12_example_239 : decode cX12_example 239 = .ok (.iaload, 1) := by decide +kernel
theorem dX12_example_240 : decode cX12_example 240 = .ok (.iconst 1, 1) := by decide +kernel
theorem dX12_example_241 : decode cX12_example 241 = .ok (.isub, 1) := by decide +kernel
theorem dX12_example_242 : decode cX12_example 242 = .ok (.ireturn, 1) := by decide +kernel
theorem dX12_isRight_0 : decode cX12_isRight 0 = .ok (.sipush 220, 3) := by decide +kernel
theorem dX12_isRight_3 : decode cX12_isRight 3 = .ok (.bipush 20, 2) := by decide +kernel
theorem dX12_isRight_5 : decode cX12_isRight 5 = .ok (.iload_n 1, 1) := by decide +kernel
theorem dX12_isRight_6 : decode cX12_isRight 6 = .ok (.imul, 1) := by decide +kernel
theorem dX12_isRight_7 : decode cX12_isRight 7 = .ok (.iadd, 1) := by decide +kernel
theorem dX12_isRight_8 : decode cX12_isRight 8 = .ok (.istore_n 3, 1) := by decide +kernel
theorem dX12_isRight_9 : decode cX12_isRight 9 = .ok (.aload_n 0, 1) := by decide +kernel
theorem dX12_isRight_10 : decode cX12_isRight 10 = .ok (.aload_n 0, 1) := by decide +kernel
theorem dX12_isRight_11 : decode cX12_isRight 11 = .ok (.getfield 7, 3) := by decide +kernel
theorem dX12_isRight_14 : decode cX12_isRight 14 = .ok (.iload_n 3, 1) := by decide +kernel
theorem dX12_isRight_15 : decode cX12_isRight 15 = .ok (.iconst 1, 1) := by decide +kernel
theorem dX12_isRight_16 : decode cX12_isRight 16 = .ok (.iadd, 1) := by decide +kernel
theorem dX12_isRight_17 : decode cX12_isRight 17 = .ok (.iaload, 1) := by decide +kernel
theorem dX12_isRight_18 : decode cX12_isRight 18 = .ok (.putfield 291, 3) := by decide +kernel
theorem dX12_isRight_21 : decode cX12_isRight 21 = .ok (.aload_n 0, 1) := by decide +kernel
theorem dX12_isRight_22 : decode cX12_isRight 22 = .ok (.aload_n 0, 1) := by decide +kernel
theorem dX12_isRight_23 : decode cX12_isRight 23 = .ok (.getfield 7, 3) := by decide +kernel
theorem dX12_isRight_26 : decode cX12_isRight 26 = .ok (.iload_n 3, 1) := by decide +kernel
theorem dX12_isRight_27 : decode cX12_isRight 27 = .ok (.iconst 2, 1) := by decide +kernel
theorem dX12_isRight_28 : decode cX12_isRight 28 = .ok (.iadd, 1) := by decide +kernel
theorem dX12_isRight_29 : decode cX12_isRight 29 = .ok (.iaload, 1) := by decide +kernel
theorem dX12_isRight_30 : decode cX12_isRight 30 = .ok (.putfield 355, 3) := by decide +kernel
theorem dX12_isRight_33 : decode cX12_isRight 33 = .ok (.iconst 0, 1) := by decide +kernel
theorem dX12_isRight_34 : decode cX12_isRight 34 = .ok (.istore 4, 2) := by decide +kernel
theorem dX12_isRight_36 : decode cX12_isRight 36 = .ok (.iload 4, 2) := by decide +kernel
theorem dX12_isRight_38 : decode cX12_isRight 38 = .ok (.aload_n 0, 1) := by decide +kernel
theorem dX12_isRight_39 : decode cX12_isRight 39 = .ok (.getfield 291, 3) := by decide +kernel
theorem dX12_isRight_42 : decode cX12_isRight 42 = .ok (.if_icmp .ge 27, 3) := by decide +kernel
theorem dX12_isRight_45 : decode cX12_isRight 45 = .ok (.aload_n 0, 1) := by decide +kernel
theorem dX12_isRight_46 : decode cX12_isRight 46 = .ok (.getfield 46, 3) := by decide +kernel
theorem dX12_isRight_49 : decode cX12_isRight 49 = .ok (.iload 4, 2) := by decide +kernel
theorem dX12_isRight_51 : decode cX12_isRight 51 = .ok (.aload_n 0, 1) := by decide +kernel
theorem dX12_isRight_52 : decode cX12_isRight 52 = .ok (.getfield 7, 3) := by decide +kernel
theorem dX12_isRight_55 : decode cX12_isRight 55 = .ok (.iload_n 3, 1) := by decide +kernel
theorem dX12_isRight_56 : decode cX12_isRight 56 = .ok (.iconst 3, 1) := by decide +kernel
theorem dX12_isRight_57 : decode cX12_isRight 57 = .ok (.iadd, 1) := by decide +kernel
theorem dX12_isRight_58 : decode cX12_isRight 58 = .ok (.iload 4, 2) := by decide +kernel
theorem dX12_isRight_60 : decode cX12_isRight 60 = .ok (.iadd, 1) := by decide +kernel
theorem dX12_isRight_61 : decode cX12_isRight 61 = .ok (.iaload, 1) := by decide +kernel
theorem dX12_isRight_62 : decode cX12_isRight 62 = .ok (.iastore, 1) := by decide +kernel
theorem dX12_isRight_63 : decode cX12_isRight 63 = .ok (.iinc 4 1, 3) := by decide +kernel
theorem dX12_isRight_66 : decode cX12_isRight 66 = .ok (.goto (-30), 3) := by decide +kernel
theorem dX12_isRight_69 : decode cX12_isRight 69 = .ok (.iconst 0, 1) := by decide +kernel
theorem dX12_isRight_70 : decode cX12_isRight 70 = .ok (.istore 4, 2) := by decide +kernel
theorem dX12_isRight_72 : decode cX12_isRight 72 = .ok (.iload 4, 2) := by decide +kernel
theorem dX12_isRight_74 : decode cX12_isRight 74 = .ok (.aload_n 0, 1) := by decide +kernel
theorem dX12_isRight_75 : decode cX12_isRight 75 = .ok (.getfield 355, 3) := by decide +kernel
theorem dX12_isRight_78 : decode cX12_isRight 78 = .ok (.if_icmp .ge 28, 3) := by decide +kernel
theorem dX12_isRight_81 : decode cX12_isRight 81 = .ok (.aload_n 0, 1) := by decide +kernel
theorem dX12_isRight_82 : decode cX12_isRight 82 = .ok (.getfield 62, 3) := by decide +kernel
theorem dX12_isRight_85 : decode cX12_isRight 85 = .ok (.iload 4, 2) := by decide +kernel
theorem dX12_isRight_87 : decode cX12_isRight 87 = .ok (.aload_n 0, 1) := by decide +kernel
theorem dX12_isRight_88 : decode cX12_isRight 88 = .ok (.getfield 7, 3) := by decide +kernel
theorem dX12_isRight_91 : decode cX12_isRight 91 = .ok (.iload_n 3, 1) := by decide +kernel
theorem dX12_isRight_92 : decode cX12_isRight 92 = .ok (.bipush 11, 2) := by decide +kernel
theorem dX12_isRight_94 : decode cX12_isRight 94 = .ok (.iadd, 1) := by decide +kernel
theorem dX12_isRight_95 : decode cX12_isRight 95 = .ok (.iload 4, 2) := by decide +kernel
theorem dX12_isRight_97 : decode cX12_isRight 97 = .ok (.iadd, 1) := by decide +kernel
theorem dX12_isRight_98 : decode cX12_isRight 98 = .ok (.iaload, 1) := by decide +kernel
theorem dX12_isRight_99 : decode cX12_isRight 99 = .ok (.iastore, 1) := by decide +kernel
theorem dX12_isRight_100 : decode cX12_isRight 100 = .ok (.iinc 4 1, 3) := by decide +kernel
theorem dX12_isRight_103 : decode cX12_isRight 103 = .ok (.goto (-31), 3) := by decide +kernel
theorem dX12_isRight_106 : decode cX12_isRight 106 = .ok (.aload_n 0, 1) := by decide +kernel
theorem dX12_isRight_107 : decode cX12_isRight 107 = .ok (.iload_n 2, 1) := by decide +kernel
theorem dX12_isRight_108 : decode cX12_isRight 108 = .ok (.invokevirtual 362, 3) := by decide +kernel
theorem dX12_isRight_111 : decode cX12_isRight 111 = .ok (.aload_n 0, 1) := by decide +kernel
theorem dX12_isRight_112 : decode cX12_isRight 112 = .ok (.getfield 7, 3) := by decide +kernel
theorem dX12_isRight_115 : decode cX12_isRight 115 = .ok (.iload_n 3, 1) := by decide +kernel
theorem dX12_isRight_116 : decode cX12_isRight 116 = .ok (.iaload, 1) := by decide +kernel
theorem dX12_isRight_117 : decode cX12_isRight 117 = .ok (.iconst 1, 1) := by decide +kernel
theorem dX12_isRight_118 : decode cX12_isRight 118 = .ok (.if_icmp .ne 7, 3) := by decide +kernel
theorem dX12_isRight_121 : decode cX12_isRight 121 = .ok (.iconst 1, 1) := by decide +kernel
theorem dX12_isRight_122 : decode cX12_isRight 122 = .ok (.goto 4, 3) := by decide +kernel
theorem dX12_isRight_125 : decode cX12_isRight 125 = .ok (.iconst 0, 1) := by decide +kernel
theorem dX12_isRight_126 : decode cX12_isRight 126 = .ok (.if_icmp .ne 7, 3) := by decide +kernel
theorem dX12_isRight_129 : decode cX12_isRight 129 = .ok (.iconst 1, 1) := by decide +kernel
theorem dX12_isRight_130 : decode cX12_isRight 130 = .ok (.goto 4, 3) := by decide +kernel
