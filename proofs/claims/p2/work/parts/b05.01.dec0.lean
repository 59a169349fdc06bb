theorem dX3_collect_0 : decode cX3_collect 0 = .ok (.aload_n 0, 1) := by decide +kernel
theorem dX3_collect_1 : decode cX3_collect 1 = .ok (.iload_n 1, 1) := by decide +kernel
theorem dX3_collect_2 : decode cX3_collect 2 = .ok (.putfield 83, 3) := by decide +kernel
theorem dX3_collect_5 : decode cX3_collect 5 = .ok (.aload_n 0, 1) := by decide +kernel
theorem dX3_collect_6 : decode cX3_collect 6 = .ok (.iconst 1, 1) := by decide +kernel
theorem dX3_collect_7 : decode cX3_collect 7 = .ok (.putfield 87, 3) := by decide +kernel
theorem dX3_collect_10 : decode cX3_collect 10 = .ok (.aload_n 0, 1) := by decide +kernel
theorem dX3_collect_11 : decode cX3_collect 11 = .ok (.aload_n 0, 1) := by decide +kernel
theorem dX3_collect_12 : decode cX3_collect 12 = .ok (.getfield 83, 3) := by decide +kernel
theorem dX3_collect_15 : decode cX3_collect 15 = .ok (.ifCond .eq 11, 3) := by decide +kernel
theorem dX3_collect_18 : decode cX3_collect 18 = .ok (.aload_n 0, 1) := by decide +kernel
theorem dX3_collect_19 : decode cX3_collect 19 = .ok (.iload_n 2, 1) := by decide +kernel
theorem dX3_collect_20 : decode cX3_collect 20 = .ok (.invokevirtual 90, 3) := by decide +kernel
theorem dX3_collect_23 : decode cX3_collect 23 = .ok (.goto 4, 3) := by decide +kernel
theorem dX3_collect_26 : decode cX3_collect 26 = .ok (.iload_n 2, 1) := by decide +kernel
theorem dX3_collect_27 : decode cX3_collect 27 = .ok (.putfield 94, 3) := by decide +kernel
theorem dX3_collect_30 : decode cX3_collect 30 = .ok (.aload_n 0, 1) := by decide +kernel
theorem dX3_collect_31 : decode cX3_collect 31 = .ok (.iload_n 2, 1) := by decide +kernel
theorem dX3_collect_32 : decode cX3_collect 32 = .ok (.putfield 97, 3) := by decide +kernel
theorem dX3_collect_35 : decode cX3_collect 35 = .ok (.aload_n 0, 1) := by decide +kernel
theorem dX3_collect_36 : decode cX3_collect 36 = .ok (.iload_n 2, 1) := by decide +kernel
theorem dX3_collect_37 : decode cX3_collect 37 = .ok (.putfield 100, 3) := by decide +kernel
theorem dX3_collect_40 : decode cX3_collect 40 = .ok (.aload_n 0, 1) := by decide +kernel
theorem dX3_collect_41 : decode cX3_collect 41 = .ok (.iconst (-1), 1) := by decide +kernel
theorem dX3_collect_42 : decode cX3_collect 42 = .ok (.putfield 43, 3) := by decide +kernel
theorem dX3_collect_45 : decode cX3_collect 45 = .ok (.aload_n 0, 1) := by decide +kernel
theorem dX3_collect_46 : decode cX3_collect 46 = .ok (.getfield 35, 3) := by decide +kernel
theorem dX3_collect_49 : decode cX3_collect 49 = .ok (.invokevirtual 103, 3) := by decide +kernel
theorem dX3_collect_52 : decode cX3_collect 52 = .ok (.aload_n 0, 1) := by decide +kernel
theorem dX3_collect_53 : decode cX3_collect 53 = .ok (.getfield 28, 3) := by decide +kernel
theorem dX3_collect_56 : decode cX3_collect 56 = .ok (.aload_n 0, 1) := by decide +kernel
theorem dX3_collect_57 : decode cX3_collect 57 = .ok (.getfield 14, 3) := by decide +kernel
theorem dX3_collect_60 : decode cX3_collect 60 = .ok (.invokevirtual 106, 3) := by decide +kernel
theorem dX3_collect_63 : decode cX3_collect 63 = .ok (.aload_n 0, 1) := by decide +kernel
theorem dX3_collect_64 : decode cX3_collect 64 = .ok (.iconst 0, 1) := by decide +kernel
theorem dX3_collect_65 : decode cX3_collect 65 = .ok (.iconst 0, 1) := by decide +kernel
theorem dX3_collect_66 : decode cX3_collect 66 = .ok (.iload_n 3, 1) := by decide +kernel
theorem dX3_collect_67 : decode cX3_collect 67 = .ok (.iconst 0, 1) := by decide +kernel
theorem dX3_collect_68 : decode cX3_collect 68 = .ok (.iconst 0, 1) := by decide +kernel
theorem dX3_collect_69 : decode cX3_collect 69 = .ok (.invokevirtual 110, 3) := by decide +kernel
theorem dX3_collect_72 : decode cX3_collect 72 = .ok (.pop, 1) := by decide +kernel
theorem dX3_collect_73 : decode cX3_collect 73 = .ok (.return_, 1) := by decide +kernel
theorem dX3_list_0 : decode cX3_list 0 = .ok (.aload_n 0, 1) := by decide +kernel
theorem dX3_list_1 : decode cX3_list 1 = .ok (.iconst 1, 1) := by decide +kernel
theorem dX3_list_2 : decode cX3_list 2 = .ok (.putfield 83, 3) := by decide +kernel
theorem dX3_list_5 : decode cX3_list 5 = .ok (.aload_n 0, 1) := by decide +kernel
theorem dX3_list_6 : decode cX3_list 6 = .ok (.iconst 0, 1) := by decide +kernel
theorem dX3_list_7 : decode cX3_list 7 = .ok (.putfield 87, 3) := by decide +kernel
theorem dX3_list_10 : decode cX3_list 10 = .ok (.aload_n 0, 1) := by decide +kernel
theorem dX3_list_11 : decode cX3_list 11 = .ok (.aload_n 0, 1) := by decide +kernel
theorem dX3_list_12 : decode cX3_list 12 = .ok (.iload_n 3, 1) := by decide +kernel
theorem dX3_list_13 : decode cX3_list 13 = .ok (.invokevirtual 90, 3) := by decide +kernel
theorem dX3_list_16 : decode cX3_list 16 = .ok (.putfield 94, 3) := by decide +kernel
theorem dX3_list_19 : decode cX3_list 19 = .ok (.aload_n 0, 1) := by decide +kernel
theorem dX3_list_20 : decode cX3_list 20 = .ok (.iload_n 1, 1) := by decide +kernel
theorem dX3_list_21 : decode cX3_list 21 = .ok (.putfield 97, 3) := by decide +kernel
theorem dX3_list_24 : decode cX3_list 24 = .ok (.aload_n 0, 1) := by decide +kernel
theorem dX3_list_25 : decode cX3_list 25 = .ok (.iload_n 2, 1) := by decide +kernel
theorem dX3_list_26 : decode cX3_list 26 = .ok (.putfield 100, 3) := by decide +kernel
theorem dX3_list_29 : decode cX3_list 29 = .ok (.aload_n 0, 1) := by decide +kernel
theorem dX3_list_30 : decode cX3_list 30 = .ok (.iconst 0, 1) := by decide +kernel
theorem dX3_list_31 : decode cX3_list 31 = .ok (.putfield 114, 3) := by decide +kernel
theorem dX3_list_34 : decode cX3_list 34 = .ok (.aload_n 0, 1) := by decide +kernel
theorem dX3_list_35 : decode cX3_list 35 = .ok (.getfield 28, 3) := by decide +kernel
theorem dX3_list_38 : decode cX3_list 38 = .ok (.aload_n 0, 1) := by decide +kernel
theorem dX3_list_39 : decode cX3_list 39 = .ok (.getfield 14, 3) := by decide +kernel
theorem dX3_list_42 : decode cX3_list 42 = .ok (.invokevirtual 106, 3) := by decide +kernel
theorem dX3_list_45 : decode cX3_list 45 = .ok (.aload_n 0, 1) := by decide +kernel
theorem dX3_list_46 : decode cX3_list 46 = .ok (.iconst 0, 1) := by decide +kernel
theorem dX3_list_47 : decode cX3_list 47 = .ok (.iconst 0, 1) := by decide +kernel
theorem dX3_list_48 : decode cX3_list 48 = .ok (.iload 4, 2) := by decide +kernel
theorem dX3_list_50 : decode cX3_list 50 = .ok (.iconst 0, 1) := by decide +kernel
theorem dX3_list_51 : decode cX3_list 51 = .ok (.iconst 0, 1) := by decide +kernel
theorem dX3_list_52 : decode cX3_list 52 = .ok (.invokevirtual 110, 3) := by decide +kernel
theorem dX3_list_55 : decode cX3_list 55 = .ok (.pop, 1) := by decide +kernel
theorem dX3_list_56 : decode cX3_list 56 = .ok (.aload_n 0, 1) := by decide +kernel
theorem dX3_list_57 : decode cX3_list 57 = .ok (.iconst (-1), 1) := by decide +kernel
theorem dX3_list_58 : decode cX3_list 58 = .ok (.putfield 43, 3) := by decide +kernel
theorem dX3_list_61 : decode cX3_list 61 = .ok (.return_, 1) := by decide +kernel
theorem dX3_hasAllowedRowWith_0 : decode cX3_hasAllowedRowWith 0 = .ok (.aload_n 0, 1) := by decide +kernel
theorem dX3_hasAllowedRowWith_1 : decode cX3_hasAllowedRowWith 1 = .ok (.aload_n 0, 1) := by decide +kernel
theorem dX3_hasAllowedRowWith_2 : decode cX3_hasAllowedRowWith 2 = .ok (.getfield 14, 3) := by decide +kernel
theorem dX3_hasAllowedRowWith_5 : decode cX3_hasAllowedRowWith 5 = .ok (.getfield 154, 3) := by decide +kernel
theorem dX3_hasAllowedRowWith_8 : decode cX3_hasAllowedRowWith 8 = .ok (.iload_n 1, 1) := by decide +kernel
theorem dX3_hasAllowedRowWith_9 : decode cX3_hasAllowedRowWith 9 = .ok (.iaload, 1) := by decide +kernel
theorem dX3_hasAllowedRowWith_10 : decode cX3_hasAllowedRowWith 10 = .ok (.invokevirtual 129, 3) := by decide +kernel
theorem dX3_hasAllowedRowWith_13 : decode cX3_hasAllowedRowWith 13 = .ok (.ifCond .ne 5, 3) := by decide +kernel
theorem dX3_hasAllowedRowWith_16 : decode cX3_hasAllowedRowWith 16 = .ok (.iconst 0, 1) := by decide +kernel
theorem dX3_hasAllowedRowWith_17 : decode cX3_hasAllowedRowWith 17 = .ok (.ireturn, 1) := by decide +kernel
theorem dX3_hasAllowedRowWith_18 : decode cX3_hasAllowedRowWith 18 = .ok (.aload_n 0, 1) := by decide +kernel
theorem dX3_hasAllowedRowWith_19 : decode cX3_hasAllowedRowWith 19 = .ok (.iload_n 1, 1) := by decide +kernel
theorem dX3_hasAllowedRowWith_20 : decode cX3_hasAllowedRowWith 20 = .ok (.putfield 43, 3) := by decide +kernel
theorem dX3_hasAllowedRowWith_23 : decode cX3_hasAllowedRowWith 23 = .ok (.aload_n 0, 1) := by decide +kernel
theorem dX3_hasAllowedRowWith_24 : decode cX3_hasAllowedRowWith 24 = .ok (.iload_n 2, 1) := by decide +kernel
theorem dX3_hasAllowedRowWith_25 : decode cX3_hasAllowedRowWith 25 = .ok (.iload_n 2, 1) := by decide +kernel
theorem dX3_hasAllowedRowWith_26 : decode cX3_hasAllowedRowWith 26 = .ok (.iload_n 2, 1) := by decide +kernel
theorem dX3_hasAllowedRowWith_27 : decode cX3_hasAllowedRowWith 27 = .ok (.iload_n 3, 1) := by decide +kernel
theorem dX3_hasAllowedRowWith_28 : decode cX3_hasAllowedRowWith 28 = .ok (.invokevirtual 186, 3) := by decide +kernel
theorem dX3_hasAllowedRowWith_31 : decode cX3_hasAllowedRowWith 31 = .ok (.aload_n 0, 1) := by decide +kernel
theorem dX3_hasAllowedRowWith_32 : decode cX3_hasAllowedRowWith 32 = .ok (.getfield 114, 3) := by decide +kernel
theorem dX3_hasAllowedRowWith_35 : decode cX3_hasAllowedRowWith 35 = .ok (.ifCond .le 7, 3) := by decide +kernel
theorem dX3_hasAllowedRowWith_38 : decode cX3_hasAllowedRowWith 38 = .ok (.iconst 1, 1) := by decide +kernel
theorem dX3_hasAllowedRowWith_39 : decode cX3_hasAllowedRowWith 39 = .ok (.goto 4, 3) := by decide +kernel
theorem dX3_hasAllowedRowWith_42 : decode cX3_hasAllowedRowWith 42 = .ok (.iconst 0, 1) := by decide +kernel
theorem dX3_hasAllowedRowWith_43 : decode cX3_hasAllowedRowWith 43 = .ok (.ireturn, 1) := by decide +kernel
theorem dX3_tellsApart_0 : decode cX3_tellsApart 0 = .ok (.aload_n 0, 1) := by decide +kernel
theorem dX3_tellsApart_1 : decode cX3_tellsApart 1 = .ok (.iload_n 1, 1) := by decide +kernel
theorem dX3_tellsApart_2 : decode cX3_tellsApart 2 = .ok (.iload_n 2, 1) := by decide +kernel
theorem dX3_tellsApart_3 : decode cX3_tellsApart 3 = .ok (.ixor, 1) := by decide +kernel
theorem dX3_tellsApart_4 : decode cX3_tellsApart 4 = .ok (.invokevirtual 90, 3) := by decide +kernel
theorem dX3_tellsApart_7 : decode cX3_tellsApart 7 = .ok (.ifCond .ne 5, 3) := by decide +kernel
theorem dX3_tellsApart_10 : decode cX3_tellsApart 10 = .ok (.iconst 0, 1) := by decide +kernel
theorem dX3_tellsApart_11 : decode cX3_tellsApart 11 = .ok (.ireturn, 1) := by decide +kernel
theorem dX3_tellsApart_12 : decode cX3_tellsApart 12 = .ok (.aload_n 0, 1) := by decide +kernel
theorem dX3_tellsApart_13 : decode cX3_tellsApart 13 = .ok (.iload_n 1, 1) := by decide +kernel
theorem dX3_tellsApart_14 : decode cX3_tellsApart 14 = .ok (.iload_n 2, 1) := by decide +kernel
theorem dX3_tellsApart_15 : decode cX3_tellsApart 15 = .ok (.iload_n 1, 1) := by decide +kernel
theorem dX3_tellsApart_16 : decode cX3_tellsApart 16 = .ok (.iload_n 2, 1) := by decide +kernel
theorem dX3_tellsApart_17 : decode cX3_tellsApart 17 = .ok (.ior, 1) := by decide +kernel
theorem dX3_tellsApart_18 : decode cX3_tellsApart 18 = .ok (.iload_n 3, 1) := by decide +kernel
theorem dX3_tellsApart_19 : decode cX3_tellsApart 19 = .ok (.invokevirtual 186, 3) := by decide +kernel
theorem dX3_tellsApart_22 : decode cX3_tellsApart 22 = .ok (.iconst 0, 1) := by decide +kernel
theorem dX3_tellsApart_23 : decode cX3_tellsApart 23 = .ok (.istore 4, 2) := by decide +kernel
theorem dX3_tellsApart_25 : decode cX3_tellsApart 25 = .ok (.iload 4, 2) := by decide +kernel
theorem dX3_tellsApart_27 : decode cX3_tellsApart 27 = .ok (.aload_n 0, 1) := by decide +kernel
theorem dX3_tellsApart_28 : decode cX3_tellsApart 28 = .ok (.getfield 114, 3) := by decide +kernel
theorem dX3_tellsApart_31 : decode cX3_tellsApart 31 = .ok (.if_icmp .ge 66, 3) := by decide +kernel
theorem dX3_tellsApart_34 : decode cX3_tellsApart 34 = .ok (.aload_n 0, 1) := by decide +kernel
theorem dX3_tellsApart_35 : decode cX3_tellsApart 35 = .ok (.getfield 53, 3) := by decide +kernel
theorem dX3_tellsApart_38 : decode cX3_tellsApart 38 = .ok (.iload 4, 2) := by decide +kernel
theorem dX3_tellsApart_40 : decode cX3_tellsApart 40 = .ok (.iaload, 1) := by decide +kernel
theorem dX3_tellsApart_41 : decode cX3_tellsApart 41 = .ok (.iload_n 1, 1) := by decide +kernel
theorem dX3_tellsApart_42 : decode cX3_tellsApart 42 = .ok (.iand, 1) := by decide +kernel
theorem dX3_tellsApart_43 : decode cX3_tellsApart 43 = .ok (.ifCond .ne 7, 3) := by decide +kernel
theorem dX3_tellsApart_46 : decode cX3_tellsApart 46 = .ok (.iconst 1, 1) := by decide +kernel
theorem dX3_tellsApart_47 : decode cX3_tellsApart 47 = .ok (.goto 4, 3) := by decide +kernel
theorem dX3_tellsApart_50 : decode cX3_tellsApart 50 = .ok (.iconst 0, 1) := by decide +kernel
theorem dX3_tellsApart_51 : decode cX3_tellsApart 51 = .ok (.istore 5, 2) := by decide +kernel
theorem dX3_tellsApart_53 : decode cX3_tellsApart 53 = .ok (.aload_n 0, 1) := by decide +kernel
theorem dX3_tellsApart_54 : decode cX3_tellsApart 54 = .ok (.getfield 53, 3) := by decide +kernel
theorem dX3_tellsApart_57 : decode cX3_tellsApart 57 = .ok (.iload 4, 2) := by decide +kernel
theorem dX3_tellsApart_59 : decode cX3_tellsApart 59 = .ok (.iaload, 1) := by decide +kernel
theorem dX3_tellsApart_60 : decode cX3_tellsApart 60 = .ok (.iload_n 2, 1) := by decide +kernel
theorem dX3_tellsApart_61 : decode cX3_tellsApart 61 = .ok (.iand, 1) := by decide +kernel
theorem dX3_tellsApart_62 : decode cX3_tellsApart 62 = .ok (.ifCond .ne 7, 3) := by decide +kernel
theorem dX3_tellsApart_65 : decode cX3_tellsApart 65 = .ok (.iconst 2, 1) := by decide +kernel
theorem dX3_tellsApart_66 : decode cX3_tellsApart 66 = .ok (.goto 4, 3) := by decide +kernel
theorem dX3_tellsApart_69 : decode cX3_tellsApart 69 = .ok (.iconst 0, 1) := by decide +kernel
theorem dX3_tellsApart_70 : decode cX3_tellsApart 70 = .ok (.istore 6, 2) := by decide +kernel
theorem dX3_tellsApart_72 : decode cX3_tellsApart 72 = .ok (.aload_n 0, 1) := by decide +kernel
theorem dX3_tellsApart_73 : decode cX3_tellsApart 73 = .ok (.getfield 56, 3) := by decide +kernel
theorem dX3_tellsApart_76 : decode cX3_tellsApart 76 = .ok (.aload_n 0, 1) := by decide +kernel
theorem dX3_tellsApart_77 : decode cX3_tellsApart 77 = .ok (.iload 4, 2) := by decide +kernel
theorem dX3_tellsApart_79 : decode cX3_tellsApart 79 = .ok (.invokevirtual 190, 3) := by decide +kernel
theorem dX3_tellsApart_82 : decode cX3_tellsApart 82 = .ok (.dup2, 1) := by decide +kernel
theorem dX3_tellsApart_83 : decode cX3_tellsApart 83 = .ok (.iaload, 1) := by decide +kernel
theorem dX3_tellsApart_84 : decode cX3_tellsApart 84 = .ok (.iload 5, 2) := by decide +kernel
theorem dX3_tellsApart_86 : decode cX3_tellsApart 86 = .ok (.iload 6, 2) := by decide +kernel
theorem dX3_tellsApart_88 : decode cX3_tellsApart 88 = .ok (.ior, 1) := by decide +kernel
theorem dX3_tellsApart_89 : decode cX3_tellsApart 89 = .ok (.ior, 1) := by decide +kernel
theorem dX3_tellsApart_90 : decode cX3_tellsApart 90 = .ok (.iastore, 1) := by decide +kernel
theorem dX3_tellsApart_91 : decode cX3_tellsApart 91 = .ok (.iinc 4 1, 3) := by decide +kernel
theorem dX3_tellsApart_94 : decode cX3_tellsApart 94 = .ok (.goto (-69), 3) := by decide +kernel
theorem dX3_tellsApart_97 : decode cX3_tellsApart 97 = .ok (.iconst 0, 1) := by decide +kernel
theorem dX3_tellsApart_98 : decode cX3_tellsApart 98 = .ok (.istore 4, 2) := by decide +kernel
theorem dX3_tellsApart_100 : decode cX3_tellsApart 100 = .ok (.iconst 0, 1) := by decide +kernel
theorem dX3_tellsApart_101 : decode cX3_tellsApart 101 = .ok (.istore 5, 2) := by decide +kernel
theorem dX3_tellsApart_103 : decode cX3_tellsApart 103 = .ok (.iload 5, 2) := by decide +kernel
theorem dX3_tellsApart_105 : decode cX3_tellsApart 105 = .ok (.aload_n 0, 1) := by decide +kernel
theorem dX3_tellsApart_106 : decode cX3_tellsApart 106 = .ok (.getfield 114, 3) := by decide +kernel
theorem dX3_tellsApart_109 : decode cX3_tellsApart 109 = .ok (.if_icmp .ge 44, 3) := by decide +kernel
theorem dX3_tellsApart_112 : decode cX3_tellsApart 112 = .ok (.aload_n 0, 1) := by decide +kernel
theorem dX3_tellsApart_113 : decode cX3_tellsApart 113 = .ok (.getfield 56, 3) := by decide +kernel
theorem dX3_tellsApart_116 : decode cX3_tellsApart 116 = .ok (.aload_n 0, 1) := by decide +kernel
theorem dX3_tellsApart_117 : decode cX3_tellsApart 117 = .ok (.iload 5, 2) := by decide +kernel
theorem dX3_tellsApart_119 : decode cX3_tellsApart 119 = .ok (.invokevirtual 190, 3) := by decide +kernel
theorem dX3_tellsApart_122 : decode cX3_tellsApart 122 = .ok (.iaload, 1) := by decide +kernel
theorem dX3_tellsApart_123 : decode cX3_tellsApart 123 = .ok (.istore 6, 2) := by decide +kernel
theorem dX3_tellsApart_125 : decode cX3_tellsApart 125 = .ok (.iload 4, 2) := by decide +kernel
theorem dX3_tellsApart_127 : decode cX3_tellsApart 127 = .ok (.iload 6, 2) := by decide +kernel
theorem dX3_tellsApart_129 : decode cX3_tellsApart 129 = .ok (.iconst 1, 1) := by decide +kernel
theorem dX3_tellsApart_130 : decode cX3_tellsApart 130 = .ok (.if_icmp .eq 9, 3) := by decide +kernel
theorem dX3_tellsApart_133 : decode cX3_tellsApart 133 = .ok (.iload 6, 2) := by decide +kernel
theorem dX3_tellsApart_135 : decode cX3_tellsApart 135 = .ok (.iconst 2, 1) := by decide +kernel
theorem dX3_tellsApart_136 : decode cX3_tellsApart 136 = .ok (.if_icmp .ne 7, 3) := by decide +kernel
theorem dX3_tellsApart_139 : decode cX3_tellsApart 139 = .ok (.iconst 1, 1) := by decide +kernel
theorem dX3_tellsApart_140 : decode cX3_tellsApart 140 = .ok (.goto 4, 3) := by decide +kernel
theorem dX3_tellsApart_143 : decode cX3_tellsApart 143 = .ok (.iconst 0, 1) := by decide +kernel
theorem dX3_tellsApart_144 : decode cX3_tellsApart 144 = .ok (.ior, 1) := by decide +kernel
theorem dX3_tellsApart_145 : decode cX3_tellsApart 145 = .ok (.istore 4, 2) := by decide +kernel
theorem dX3_tellsApart_147 : decode cX3_tellsApart 147 = .ok (.iinc 5 1, 3) := by decide +kernel
theorem dX3_tellsApart_150 : decode cX3_tellsApart 150 = .ok (.goto (-47), 3) := by decide +kernel
theorem dX3_tellsApart_153 : decode cX3_tellsApart 153 = .ok (.aload_n 0, 1) := by decide +kernel
theorem dX3_tellsApart_154 : decode cX3_tellsApart 154 = .ok (.invokevirtual 193, 3) := by decide +kernel
theorem dX3_tellsApart_157 : decode cX3_tellsApart 157 = .ok (.iload 4, 2) := by decide +kernel
theorem dX3_tellsApart_159 : decode cX3_tellsApart 159 = .ok (.ireturn, 1) := by decide +kernel
theorem dX3_noteNeeded_0 : decode cX3_noteNeeded 0 = .ok (.aload_n 0, 1) := by decide +kernel
theorem dX3_noteNeeded_1 : decode cX3_noteNeeded 1 = .ok (.iconst 0, 1) := by decide +kernel
theorem dX3_noteNeeded_2 : decode cX3_noteNeeded 2 = .ok (.iconst 0, 1) := by decide +kernel
theorem dX3_noteNeeded_3 : decode cX3_noteNeeded 3 = .ok (.iload_n 1, 1) := by decide +kernel
theorem dX3_noteNeeded_4 : decode cX3_noteNeeded 4 = .ok (.iload_n 2, 1) := by decide +kernel
theorem dX3_noteNeeded_5 : decode cX3_noteNeeded 5 = .ok (.invokevirtual 186, 3) := by decide +kernel
theorem dX3_noteNeeded_8 : decode cX3_noteNeeded 8 = .ok (.iconst 0, 1) := by decide +kernel
theorem dX3_noteNeeded_9 : decode cX3_noteNeeded 9 = .ok (.istore_n 3, 1) := by decide +kernel
theorem dX3_noteNeeded_10 : decode cX3_noteNeeded 10 = .ok (.iload_n 3, 1) := by decide +kernel
theorem dX3_noteNeeded_11 : decode cX3_noteNeeded 11 = .ok (.aload_n 0, 1) := by decide +kernel
theorem dX3_noteNeeded_12 : decode cX3_noteNeeded 12 = .ok (.getfield 114, 3) := by decide +kernel
theorem dX3_noteNeeded_15 : decode cX3_noteNeeded 15 = .ok (.if_icmp .ge 29, 3) := by decide +kernel
theorem dX3_noteNeeded_18 : decode cX3_noteNeeded 18 = .ok (.aload_n 0, 1) := by decide +kernel
theorem dX3_noteNeeded_19 : decode cX3_noteNeeded 19 = .ok (.getfield 53, 3) := by decide +kernel
theorem dX3_noteNeeded_22 : decode cX3_noteNeeded 22 = .ok (.iload_n 3, 1) := by decide +kernel
theorem dX3_noteNeeded_23 : decode cX3_noteNeeded 23 = .ok (.iaload, 1) := by decide +kernel
theorem dX3_noteNeeded_24 : decode cX3_noteNeeded 24 = .ok (.ifCond .ne 14, 3) := by decide +kernel
theorem dX3_noteNeeded_27 : decode cX3_noteNeeded 27 = .ok (.aload_n 0, 1) := by decide +kernel
theorem dX3_noteNeeded_28 : decode cX3_noteNeeded 28 = .ok (.getfield 56, 3) := by decide +kernel
theorem dX3_noteNeeded_31 : decode cX3_noteNeeded 31 = .ok (.aload_n 0, 1) := by decide +kernel
theorem dX3_noteNeeded_32 : decode cX3_noteNeeded 32 = .ok (.iload_n 3, 1) := by decide +kernel
theorem dX3_noteNeeded_33 : decode cX3_noteNeeded 33 = .ok (.invokevirtual 190, 3) := by decide +kernel
theorem dX3_noteNeeded_36 : decode cX3_noteNeeded 36 = .ok (.iconst 1, 1) := by decide +kernel
theorem dX3_noteNeeded_37 : decode cX3_noteNeeded 37 = .ok (.iastore, 1) := by decide +kernel
theorem dX3_noteNeeded_38 : decode cX3_noteNeeded 38 = .ok (.iinc 3 1, 3) := by decide +kernel
theorem dX3_noteNeeded_41 : decode cX3_noteNeeded 41 = .ok (.goto (-31), 3) := by decide +kernel
theorem dX3_noteNeeded_44 : decode cX3_noteNeeded 44 = .ok (.iconst 0, 1) := by decide +kernel
theorem dX3_noteNeeded_45 : decode cX3_noteNeeded 45 = .ok (.istore_n 3, 1) := by decide +kernel
theorem dX3_noteNeeded_46 : decode cX3_noteNeeded 46 = .ok (.iload_n 3, 1) := by decide +kernel
theorem dX3_noteNeeded_47 : decode cX3_noteNeeded 47 = .ok (.aload_n 0, 1) := by decide +kernel
theorem dX3_noteNeeded_48 : decode cX3_noteNeeded 48 = .ok (.getfield 114, 3) := by decide +kernel
theorem dX3_noteNeeded_51 : decode cX3_noteNeeded 51 = .ok (.if_icmp .ge 34, 3) := by decide +kernel
theorem dX3_noteNeeded_54 : decode cX3_noteNeeded 54 = .ok (.aload_n 0, 1) := by decide +kernel
theorem dX3_noteNeeded_55 : decode cX3_noteNeeded 55 = .ok (.getfield 56, 3) := by decide +kernel
theorem dX3_noteNeeded_58 : decode cX3_noteNeeded 58 = .ok (.aload_n 0, 1) := by decide +kernel
theorem dX3_noteNeeded_59 : decode cX3_noteNeeded 59 = .ok (.iload_n 3, 1) := by decide +kernel
theorem dX3_noteNeeded_60 : decode cX3_noteNeeded 60 = .ok (.invokevirtual 190, 3) := by decide +kernel
theorem dX3_noteNeeded_63 : decode cX3_noteNeeded 63 = .ok (.iaload, 1) := by decide +kernel
theorem dX3_noteNeeded_64 : decode cX3_noteNeeded 64 = .ok (.ifCond .ne 15, 3) := by decide +kernel
theorem dX3_noteNeeded_67 : decode cX3_noteNeeded 67 = .ok (.aload_n 0, 1) := by decide +kernel
theorem dX3_noteNeeded_68 : decode cX3_noteNeeded 68 = .ok (.getfield 59, 3) := by decide +kernel
theorem dX3_noteNeeded_71 : decode cX3_noteNeeded 71 = .ok (.aload_n 0, 1) := by decide +kernel
theorem dX3_noteNeeded_72 : decode cX3_noteNeeded 72 = .ok (.getfield 53, 3) := by decide +kernel
theorem dX3_noteNeeded_75 : decode cX3_noteNeeded 75 = .ok (.iload_n 3, 1) := by decide +kernel
theorem dX3_noteNeeded_76 : decode cX3_noteNeeded 76 = .ok (.iaload, 1) := by decide +kernel
theorem dX3_noteNeeded_77 : decode cX3_noteNeeded 77 = .ok (.iconst 1, 1) := by decide +kernel
theorem dX3_noteNeeded_78 : decode cX3_noteNeeded 78 = .ok (.iastore, 1) := by decide +kernel
theorem dX3_noteNeeded_79 : decode cX3_noteNeeded 79 = .ok (.iinc 3 1, 3) := by decide +kernel
theorem dX3_noteNeeded_82 : decode cX3_noteNeeded 82 = .ok (.goto (-36), 3) := by decide +kernel
theorem dX3_noteNeeded_85 : decode cX3_noteNeeded 85 = .ok (.aload_n 0, 1) := by decide +kernel
theorem dX3_noteNeeded_86 : decode cX3_noteNeeded 86 = .ok (.invokevirtual 193, 3) := by decide +kernel
theorem dX3_noteNeeded_89 : decode cX3_noteNeeded 89 = .ok (.return_, 1) := by decide +kernel
theorem dX3_layRow_0 : decode cX3_layRow 0 = .ok (.iconst 0, 1) := by decide +kernel
theorem dX3_layRow_1 : decode cX3_layRow 1 = .ok (.istore 5, 2) := by decide +kernel
theorem dX3_layRow_3 : decode cX3_layRow 3 = .ok (.iconst 0, 1) := by decide +kernel
theorem dX3_layRow_4 : decode cX3_layRow 4 = .ok (.istore 6, 2) := by decide +kernel
theorem dX3_layRow_6 : decode cX3_layRow 6 = .ok (.iconst 0, 1) := by decide +kernel
theorem dX3_layRow_7 : decode cX3_layRow 7 = .ok (.istore 7, 2) := by decide +kernel
theorem dX3_layRow_9 : decode cX3_layRow 9 = .ok (.iload 7, 2) := by decide +kernel
theorem dX3_layRow_11 : decode cX3_layRow 11 = .ok (.iload 4, 2) := by decide +kernel
theorem dX3_layRow_13 : decode cX3_layRow 13 = .ok (.if_icmp .ge 102, 3) := by decide +kernel
theorem dX3_layRow_16 : decode cX3_layRow 16 = .ok (.iload_n 2, 1) := by decide +kernel
theorem dX3_layRow_17 : decode cX3_layRow 17 = .ok (.ifCond .eq 13, 3) := by decide +kernel
theorem dX3_layRow_20 : decode cX3_layRow 20 = .ok (.iload 7, 2) := by decide +kernel
theorem dX3_layRow_22 : decode cX3_layRow 22 = .ok (.iload_n 3, 1) := by decide +kernel
theorem dX3_layRow_23 : decode cX3_layRow 23 = .ok (.if_icmp .ne 7, 3) := by decide +kernel
theorem dX3_layRow_26 : decode cX3_layRow 26 = .ok (.iconst 1, 1) := by decide +kernel
theorem dX3_layRow_27 : decode cX3_layRow 27 = .ok (.goto 4, 3) := by decide +kernel
theorem dX3_layRow_30 : decode cX3_layRow 30 = .ok (.iconst 0, 1) := by decide +kernel
theorem dX3_layRow_31 : decode cX3_layRow 31 = .ok (.istore 8, 2) := by decide +kernel
theorem dX3_layRow_33 : decode cX3_layRow 33 = .ok (.iconst 0, 1) := by decide +kernel
theorem dX3_layRow_34 : decode cX3_layRow 34 = .ok (.istore 9, 2) := by decide +kernel
theorem dX3_layRow_36 : decode cX3_layRow 36 = .ok (.iconst 0, 1) := by decide +kernel
theorem dX3_layRow_37 : decode cX3_layRow 37 = .ok (.istore 10, 2) := by decide +kernel
theorem dX3_layRow_39 : decode cX3_layRow 39 = .ok (.iload 8, 2) := by decide +kernel
theorem dX3_layRow_41 : decode cX3_layRow 41 = .ok (.ifCond .eq 7, 3) := by decide +kernel
theorem dX3_layRow_44 : decode cX3_layRow 44 = .ok (.iload_n 2, 1) := by decide +kernel
theorem dX3_layRow_45 : decode cX3_layRow 45 = .ok (.ifCond .le 12, 3) := by decide +kernel
theorem dX3_layRow_48 : decode cX3_layRow 48 = .ok (.aload_n 1, 1) := by decide +kernel
theorem dX3_layRow_49 : decode cX3_layRow 49 = .ok (.iload 5, 2) := by decide +kernel
theorem dX3_layRow_51 : decode cX3_layRow 51 = .ok (.iaload, 1) := by decide +kernel
theorem dX3_layRow_52 : decode cX3_layRow 52 = .ok (.istore 9, 2) := by decide +kernel
theorem dX3_layRow_54 : decode cX3_layRow 54 = .ok (.iinc 5 1, 3) := by decide +kernel
theorem dX3_layRow_57 : decode cX3_layRow 57 = .ok (.iload 8, 2) := by decide +kernel
theorem dX3_layRow_59 : decode cX3_layRow 59 = .ok (.ifCond .eq 7, 3) := by decide +kernel
theorem dX3_layRow_62 : decode cX3_layRow 62 = .ok (.iload_n 2, 1) := by decide +kernel
theorem dX3_layRow_63 : decode cX3_layRow 63 = .ok (.ifCond .ge 15, 3) := by decide +kernel
theorem dX3_layRow_66 : decode cX3_layRow 66 = .ok (.aload_n 0, 1) := by decide +kernel
theorem dX3_layRow_67 : decode cX3_layRow 67 = .ok (.getfield 39, 3) := by decide +kernel
theorem dX3_layRow_70 : decode cX3_layRow 70 = .ok (.iload 6, 2) := by decide +kernel
theorem dX3_layRow_72 : decode cX3_layRow 72 = .ok (.iaload, 1) := by decide +kernel
theorem dX3_layRow_73 : decode cX3_layRow 73 = .ok (.istore 10, 2) := by decide +kernel
theorem dX3_layRow_75 : decode cX3_layRow 75 = .ok (.iinc 6 1, 3) := by decide +kernel
theorem dX3_layRow_78 : decode cX3_layRow 78 = .ok (.aload_n 0, 1) := by decide +kernel
theorem dX3_layRow_79 : decode cX3_layRow 79 = .ok (.getfield 47, 3) := by decide +kernel
theorem dX3_layRow_82 : decode cX3_layRow 82 = .ok (.iload 7, 2) := by decide +kernel
theorem dX3_layRow_84 : decode cX3_layRow 84 = .ok (.aload_n 0, 1) := by decide +kernel
theorem dX3_layRow_85 : decode cX3_layRow 85 = .ok (.getfield 14, 3) := by decide +kernel
theorem dX3_layRow_88 : decode cX3_layRow 88 = .ok (.iload 9, 2) := by decide +kernel
theorem dX3_layRow_90 : decode cX3_layRow 90 = .ok (.iload 10, 2) := by decide +kernel
theorem dX3_layRow_92 : decode cX3_layRow 92 = .ok (.invokevirtual 225, 3) := by decide +kernel
theorem dX3_layRow_95 : decode cX3_layRow 95 = .ok (.iastore, 1) := by decide +kernel
theorem dX3_layRow_96 : decode cX3_layRow 96 = .ok (.aload_n 0, 1) := by decide +kernel
theorem dX3_layRow_97 : decode cX3_layRow 97 = .ok (.getfield 47, 3) := by decide +kernel
theorem dX3_layRow_100 : decode cX3_layRow 100 = .ok (.iload 7, 2) := by decide +kernel
theorem dX3_layRow_102 : decode cX3_layRow 102 = .ok (.iaload, 1) := by decide +kernel
theorem dX3_layRow_103 : decode cX3_layRow 103 = .ok (.iconst (-1), 1) := by decide +kernel
theorem dX3_layRow_104 : decode cX3_layRow 104 = .ok (.if_icmp .ne 5, 3) := by decide +kernel
theorem dX3_layRow_107 : decode cX3_layRow 107 = .ok (.iconst 0, 1) := by decide +kernel
theorem dX3_layRow_108 : decode cX3_layRow 108 = .ok (.ireturn, 1) := by decide +kernel
theorem dX3_layRow_109 : decode cX3_layRow 109 = .ok (.iinc 7 1, 3) := by decide +kernel
theorem dX3_layRow_112 : decode cX3_layRow 112 = .ok (.goto (-103), 3) := by decide +kernel
theorem dX3_layRow_115 : decode cX3_layRow 115 = .ok (.iconst 1, 1) := by decide +kernel
theorem dX3_layRow_116 : decode cX3_layRow 116 = .ok (.ireturn, 1) := by decide +kernel
theorem dX3_breaksOf_0 : decode cX3_breaksOf 0 = .ok (.iconst 0, 1) := by decide +kernel
theorem dX3_breaksOf_1 : decode cX3_breaksOf 1 = .ok (.istore_n 3, 1) := by decide +kernel
theorem dX3_breaksOf_2 : decode cX3_breaksOf 2 = .ok (.iconst 0, 1) := by decide +kernel
theorem dX3_breaksOf_3 : decode cX3_breaksOf 3 = .ok (.istore 4, 2) := by decide +kernel
theorem dX3_breaksOf_5 : decode cX3_breaksOf 5 = .ok (.iload 4, 2) := by decide +kernel
theorem dX3_breaksOf_7 : decode cX3_breaksOf 7 = .ok (.aload_n 0, 1) := by decide +kernel
theorem dX3_breaksOf_8 : decode cX3_breaksOf 8 = .ok (.getfield 14, 3) := by decide +kernel
theorem dX3_breaksOf_11 : decode cX3_breaksOf 11 = .ok (.getfield 117, 3) := by decide +kernel
theorem dX3_breaksOf_14 : decode cX3_breaksOf 14 = .ok (.if_icmp .ge 48, 3) := by decide +kernel
theorem dX3_breaksOf_17 : decode cX3_breaksOf 17 = .ok (.iload_n 1, 1) := by decide +kernel
theorem dX3_breaksOf_18 : decode cX3_breaksOf 18 = .ok (.iload 4, 2) := by decide +kernel
theorem dX3_breaksOf_20 : decode cX3_breaksOf 20 = .ok (.ishr, 1) := by decide +kernel
theorem dX3_breaksOf_21 : decode cX3_breaksOf 21 = .ok (.iconst 1, 1) := by decide +kernel
theorem dX3_breaksOf_22 : decode cX3_breaksOf 22 = .ok (.iand, 1) := by decide +kernel
theorem dX3_breaksOf_23 : decode cX3_breaksOf 23 = .ok (.iconst 1, 1) := by decide +kernel
theorem dX3_breaksOf_24 : decode cX3_breaksOf 24 = .ok (.if_icmp .ne 32, 3) := by decide +kernel
theorem dX3_breaksOf_27 : decode cX3_breaksOf 27 = .ok (.aload_n 0, 1) := by decide +kernel
theorem dX3_breaksOf_28 : decode cX3_breaksOf 28 = .ok (.getfield 14, 3) := by decide +kernel
theorem dX3_breaksOf_31 : decode cX3_breaksOf 31 = .ok (.getfield 120, 3) := by decide +kernel
theorem dX3_breaksOf_34 : decode cX3_breaksOf 34 = .ok (.iload 4, 2) := by decide +kernel
theorem dX3_breaksOf_36 : decode cX3_breaksOf 36 = .ok (.aaload, 1) := by decide +kernel
theorem dX3_breaksOf_37 : decode cX3_breaksOf 37 = .ok (.aload_n 0, 1) := by decide +kernel
theorem dX3_breaksOf_38 : decode cX3_breaksOf 38 = .ok (.getfield 47, 3) := by decide +kernel
theorem dX3_breaksOf_41 : decode cX3_breaksOf 41 = .ok (.iload_n 2, 1) := by decide +kernel
theorem dX3_breaksOf_42 : decode cX3_breaksOf 42 = .ok (.invokevirtual 228, 3) := by decide +kernel
theorem dX3_breaksOf_45 : decode cX3_breaksOf 45 = .ok (.iconst (-1), 1) := by decide +kernel
theorem dX3_breaksOf_46 : decode cX3_breaksOf 46 = .ok (.if_icmp .eq 10, 3) := by decide +kernel
theorem dX3_breaksOf_49 : decode cX3_breaksOf 49 = .ok (.iload_n 3, 1) := by decide +kernel
theorem dX3_breaksOf_50 : decode cX3_breaksOf 50 = .ok (.iconst 1, 1) := by decide +kernel
theorem dX3_breaksOf_51 : decode cX3_breaksOf 51 = .ok (.iload 4, 2) := by decide +kernel
theorem dX3_breaksOf_53 : decode cX3_breaksOf 53 = .ok (.ishl, 1) := by decide +kernel
theorem dX3_breaksOf_54 : decode cX3_breaksOf 54 = .ok (.ior, 1) := by decide +kernel
theorem dX3_breaksOf_55 : decode cX3_breaksOf 55 = .ok (.istore_n 3, 1) := by decide +kernel
theorem dX3_breaksOf_56 : decode cX3_breaksOf 56 = .ok (.iinc 4 1, 3) := by decide +kernel
theorem dX3_breaksOf_59 : decode cX3_breaksOf 59 = .ok (.goto (-54), 3) := by decide +kernel
theorem dX3_breaksOf_62 : decode cX3_breaksOf 62 = .ok (.iload_n 3, 1) := by decide +kernel
theorem dX3_breaksOf_63 : decode cX3_breaksOf 63 = .ok (.ireturn, 1) := by decide +kernel
theorem dX3_align_0 : decode cX3_align 0 = .ok (.iload_n 2, 1) := by decide +kernel
theorem dX3_align_1 : decode cX3_align 1 = .ok (.aload_n 0, 1) := by decide +kernel
theorem dX3_align_2 : decode cX3_align 2 = .ok (.getfield 71, 3) := by decide +kernel
theorem dX3_align_5 : decode cX3_align 5 = .ok (.isub, 1) := by decide +kernel
theorem dX3_align_6 : decode cX3_align 6 = .ok (.istore 5, 2) := by decide +kernel
theorem dX3_align_8 : decode cX3_align 8 = .ok (.iload_n 2, 1) := by decide +kernel
theorem dX3_align_9 : decode cX3_align 9 = .ok (.aload_n 0, 1) := by decide +kernel
theorem dX3_align_10 : decode cX3_align 10 = .ok (.getfield 71, 3) := by decide +kernel
theorem dX3_align_13 : decode cX3_align 13 = .ok (.invokestatic 68, 3) := by decide +kernel
theorem dX3_align_16 : decode cX3_align 16 = .ok (.istore 6, 2) := by decide +kernel
theorem dX3_align_18 : decode cX3_align 18 = .ok (.iload 5, 2) := by decide +kernel
theorem dX3_align_20 : decode cX3_align 20 = .ok (.invokestatic 215, 3) := by decide +kernel
theorem dX3_align_23 : decode cX3_align 23 = .ok (.iload 4, 2) := by decide +kernel
theorem dX3_align_25 : decode cX3_align 25 = .ok (.if_icmp .gt 10, 3) := by decide +kernel
theorem dX3_align_28 : decode cX3_align 28 = .ok (.iload 6, 2) := by decide +kernel
theorem dX3_align_30 : decode cX3_align 30 = .ok (.bipush 9, 2) := by decide +kernel
theorem dX3_align_32 : decode cX3_align 32 = .ok (.if_icmp .le 5, 3) := by decide +kernel
theorem dX3_align_35 : decode cX3_align 35 = .ok (.iconst 0, 1) := by decide +kernel
theorem dX3_align_36 : decode cX3_align 36 = .ok (.ireturn, 1) := by decide +kernel
theorem dX3_align_37 : decode cX3_align 37 = .ok (.iconst 0, 1) := by decide +kernel
theorem dX3_align_38 : decode cX3_align 38 = .ok (.istore 7, 2) := by decide +kernel
theorem dX3_align_40 : decode cX3_align 40 = .ok (.iload 5, 2) := by decide +kernel
theorem dX3_align_42 : decode cX3_align 42 = .ok (.ifCond .ne 7, 3) := by decide +kernel
theorem dX3_align_45 : decode cX3_align 45 = .ok (.iconst 1, 1) := by decide +kernel
theorem dX3_align_46 : decode cX3_align 46 = .ok (.goto 5, 3) := by decide +kernel
theorem dX3_align_49 : decode cX3_align 49 = .ok (.iload 6, 2) := by decide +kernel
theorem dX3_align_51 : decode cX3_align 51 = .ok (.istore 8, 2) := by decide +kernel
theorem dX3_align_53 : decode cX3_align 53 = .ok (.iconst 0, 1) := by decide +kernel
theorem dX3_align_54 : decode cX3_align 54 = .ok (.istore 9, 2) := by decide +kernel
theorem dX3_align_56 : decode cX3_align 56 = .ok (.iload 9, 2) := by decide +kernel
theorem dX3_align_58 : decode cX3_align 58 = .ok (.iload 8, 2) := by decide +kernel
theorem dX3_align_60 : decode cX3_align 60 = .ok (.if_icmp .ge 40, 3) := by decide +kernel
theorem dX3_align_63 : decode cX3_align 63 = .ok (.aload_n 0, 1) := by decide +kernel
theorem dX3_align_64 : decode cX3_align 64 = .ok (.aload_n 1, 1) := by decide +kernel
theorem dX3_align_65 : decode cX3_align 65 = .ok (.iload 5, 2) := by decide +kernel
theorem dX3_align_67 : decode cX3_align 67 = .ok (.iload 9, 2) := by decide +kernel
theorem dX3_align_69 : decode cX3_align 69 = .ok (.iload 6, 2) := by decide +kernel
theorem dX3_align_71 : decode cX3_align 71 = .ok (.invokevirtual 218, 3) := by decide +kernel
theorem dX3_align_74 : decode cX3_align 74 = .ok (.ifCond .eq 20, 3) := by decide +kernel
theorem dX3_align_77 : decode cX3_align 77 = .ok (.aload_n 0, 1) := by decide +kernel
theorem dX3_align_78 : decode cX3_align 78 = .ok (.getfield 53, 3) := by decide +kernel
theorem dX3_align_81 : decode cX3_align 81 = .ok (.iload 7, 2) := by decide +kernel
theorem dX3_align_83 : decode cX3_align 83 = .ok (.aload_n 0, 1) := by decide +kernel
theorem dX3_align_84 : decode cX3_align 84 = .ok (.iload_n 3, 1) := by decide +kernel
theorem dX3_align_85 : decode cX3_align 85 = .ok (.iload 6, 2) := by decide +kernel
theorem dX3_align_87 : decode cX3_align 87 = .ok (.invokevirtual 222, 3) := by decide +kernel
theorem dX3_align_90 : decode cX3_align 90 = .ok (.iastore, 1) := by decide +kernel
theorem dX3_align_91 : decode cX3_align 91 = .ok (.iinc 7 1, 3) := by decide +kernel
theorem dX3_align_94 : decode cX3_align 94 = .ok (.iinc 9 1, 3) := by decide +kernel
theorem dX3_align_97 : decode cX3_align 97 = .ok (.goto (-41), 3) := by decide +kernel
theorem dX3_align_100 : decode cX3_align 100 = .ok (.iload 7, 2) := by decide +kernel
theorem dX3_align_102 : decode cX3_align 102 = .ok (.ireturn, 1) := by decide +kernel
theorem dX3_isSaidAs_0 : decode cX3_isSaidAs 0 = .ok (.aload_n 0, 1) := by decide +kernel
theorem dX3_isSaidAs_1 : decode cX3_isSaidAs 1 = .ok (.aload_n 1, 1) := by decide +kernel
theorem dX3_isSaidAs_2 : decode cX3_isSaidAs 2 = .ok (.iload_n 2, 1) := by decide +kernel
theorem dX3_isSaidAs_3 : decode cX3_isSaidAs 3 = .ok (.iload_n 3, 1) := by decide +kernel
theorem dX3_isSaidAs_4 : decode cX3_isSaidAs 4 = .ok (.iload 4, 2) := by decide +kernel
theorem dX3_isSaidAs_6 : decode cX3_isSaidAs 6 = .ok (.invokevirtual 211, 3) := by decide +kernel
theorem dX3_isSaidAs_9 : decode cX3_isSaidAs 9 = .ok (.istore 5, 2) := by decide +kernel
theorem dX3_isSaidAs_11 : decode cX3_isSaidAs 11 = .ok (.iconst 0, 1) := by decide +kernel
theorem dX3_isSaidAs_12 : decode cX3_isSaidAs 12 = .ok (.istore 6, 2) := by decide +kernel
theorem dX3_isSaidAs_14 : decode cX3_isSaidAs 14 = .ok (.iload 6, 2) := by decide +kernel
theorem dX3_isSaidAs_16 : decode cX3_isSaidAs 16 = .ok (.iload 5, 2) := by decide +kernel
theorem dX3_isSaidAs_18 : decode cX3_isSaidAs 18 = .ok (.if_icmp .ge 21, 3) := by decide +kernel
theorem dX3_isSaidAs_21 : decode cX3_isSaidAs 21 = .ok (.aload_n 0, 1) := by decide +kernel
theorem dX3_isSaidAs_22 : decode cX3_isSaidAs 22 = .ok (.getfield 53, 3) := by decide +kernel
theorem dX3_isSaidAs_25 : decode cX3_isSaidAs 25 = .ok (.iload 6, 2) := by decide +kernel
theorem dX3_isSaidAs_27 : decode cX3_isSaidAs 27 = .ok (.iaload, 1) := by decide +kernel
theorem dX3_isSaidAs_28 : decode cX3_isSaidAs 28 = .ok (.ifCond .ne 5, 3) := by decide +kernel
theorem dX3_isSaidAs_31 : decode cX3_isSaidAs 31 = .ok (.iconst 1, 1) := by decide +kernel
theorem dX3_isSaidAs_32 : decode cX3_isSaidAs 32 = .ok (.ireturn, 1) := by decide +kernel
theorem dX3_isSaidAs_33 : decode cX3_isSaidAs 33 = .ok (.iinc 6 1, 3) := by decide +kernel
theorem dX3_isSaidAs_36 : decode cX3_isSaidAs 36 = .ok (.goto (-22), 3) := by decide +kernel
theorem dX3_isSaidAs_39 : decode cX3_isSaidAs 39 = .ok (.iconst 0, 1) := by decide +kernel
theorem dX3_isSaidAs_40 : decode cX3_isSaidAs 40 = .ok (.ireturn, 1) := by decide +kernel
