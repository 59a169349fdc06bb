theorem dX12_age_1 : decode cX12_age 1 = .ok (.iload_n 1, 1) := by decide +kernel
theorem dX12_age_2 : decode cX12_age 2 = .ok (.iconst 2, 1) := by decide +kernel
theorem dX12_age_3 : decode cX12_age 3 = .ok (.invokevirtual 272, 3) := by decide +kernel
theorem dX12_age_6 : decode cX12_age 6 = .ok (.iconst 3, 1) := by decide +kernel
theorem dX12_age_7 : decode cX12_age 7 = .ok (.if_icmp .eq 12, 3) := by decide +kernel
theorem dX12_age_10 : decode cX12_age 10 = .ok (.aload_n 0, 1) := by decide +kernel
theorem dX12_age_11 : decode cX12_age 11 = .ok (.iload_n 1, 1) := by decide +kernel
theorem dX12_age_12 : decode cX12_age 12 = .ok (.iconst 0, 1) := by decide +kernel
theorem dX12_age_13 : decode cX12_age 13 = .ok (.invokevirtual 272, 3) := by decide +kernel
theorem dX12_age_16 : decode cX12_age 16 = .ok (.ifCond .ne 4, 3) := by decide +kernel
theorem dX12_age_19 : decode cX12_age 19 = .ok (.return_, 1) := by decide +kernel
theorem dX12_age_20 : decode cX12_age 20 = .ok (.iconst 0, 1) := by decide +kernel
theorem dX12_age_21 : decode cX12_age 21 = .ok (.istore_n 2, 1) := by decide +kernel
theorem dX12_age_22 : decode cX12_age 22 = .ok (.iload_n 2, 1) := by decide +kernel
theorem dX12_age_23 : decode cX12_age 23 = .ok (.aload_n 0, 1) := by decide +kernel
theorem dX12_age_24 : decode cX12_age 24 = .ok (.getfield 248, 3) := by decide +kernel
theorem dX12_age_27 : decode cX12_age 27 = .ok (.if_icmp .ge 24, 3) := by decide +kernel
theorem dX12_age_30 : decode cX12_age 30 = .ok (.aload_n 0, 1) := by decide +kernel
theorem dX12_age_31 : decode cX12_age 31 = .ok (.getfield 77, 3) := by decide +kernel
theorem dX12_age_34 : decode cX12_age 34 = .ok (.iload_n 2, 1) := by decide +kernel
theorem dX12_age_35 : decode cX12_age 35 = .ok (.bipush 10, 2) := by decide +kernel
theorem dX12_age_37 : decode cX12_age 37 = .ok (.aload_n 0, 1) := by decide +kernel
theorem dX12_age_38 : decode cX12_age 38 = .ok (.getfield 74, 3) := by decide +kernel
theorem dX12_age_41 : decode cX12_age 41 = .ok (.iload_n 2, 1) := by decide +kernel
theorem dX12_age_42 : decode cX12_age 42 = .ok (.iaload, 1) := by decide +kernel
theorem dX12_age_43 : decode cX12_age 43 = .ok (.imul, 1) := by decide +kernel
theorem dX12_age_44 : decode cX12_age 44 = .ok (.iastore, 1) := by decide +kernel
theorem dX12_age_45 : decode cX12_age 45 = .ok (.iinc 2 1, 3) := by decide +kernel
theorem dX12_age_48 : decode cX12_age 48 = .ok (.goto (-26), 3) := by decide +kernel
theorem dX12_age_51 : decode cX12_age 51 = .ok (.iconst 0, 1) := by decide +kernel
theorem dX12_age_52 : decode cX12_age 52 = .ok (.istore_n 2, 1) := by decide +kernel
theorem dX12_age_53 : decode cX12_age 53 = .ok (.iconst 0, 1) := by decide +kernel
theorem dX12_age_54 : decode cX12_age 54 = .ok (.istore_n 3, 1) := by decide +kernel
theorem dX12_age_55 : decode cX12_age 55 = .ok (.iload_n 3, 1) := by decide +kernel
theorem dX12_age_56 : decode cX12_age 56 = .ok (.aload_n 0, 1) := by decide +kernel
theorem dX12_age_57 : decode cX12_age 57 = .ok (.getfield 248, 3) := by decide +kernel
theorem dX12_age_60 : decode cX12_age 60 = .ok (.if_icmp .ge 77, 3) := by decide +kernel
theorem dX12_age_63 : decode cX12_age 63 = .ok (.aload_n 0, 1) := by decide +kernel
theorem dX12_age_64 : decode cX12_age 64 = .ok (.getfield 74, 3) := by decide +kernel
theorem dX12_age_67 : decode cX12_age 67 = .ok (.iload_n 3, 1) := by decide +kernel
theorem dX12_age_68 : decode cX12_age 68 = .ok (.iaload, 1) := by decide +kernel
theorem dX12_age_69 : decode cX12_age 69 = .ok (.aload_n 0, 1) := by decide +kernel
theorem dX12_age_70 : decode cX12_age 70 = .ok (.iload_n 1, 1) := by decide +kernel
theorem dX12_age_71 : decode cX12_age 71 = .ok (.iconst 0, 1) := by decide +kernel
theorem dX12_age_72 : decode cX12_age 72 = .ok (.invokevirtual 272, 3) := by decide +kernel
theorem dX12_age_75 : decode cX12_age 75 = .ok (.if_icmp .ne 29, 3) := by decide +kernel
theorem dX12_age_78 : decode cX12_age 78 = .ok (.aload_n 0, 1) := by decide +kernel
theorem dX12_age_79 : decode cX12_age 79 = .ok (.iload_n 1, 1) := by decide +kernel
theorem dX12_age_80 : decode cX12_age 80 = .ok (.iload_n 3, 1) := by decide +kernel
theorem dX12_age_81 : decode cX12_age 81 = .ok (.aload_n 0, 1) := by decide +kernel
theorem dX12_age_82 : decode cX12_age 82 = .ok (.getfield 77, 3) := by decide +kernel
theorem dX12_age_85 : decode cX12_age 85 = .ok (.aload_n 0, 1) := by decide +kernel
theorem dX12_age_86 : decode cX12_age 86 = .ok (.getfield 248, 3) := by decide +kernel
theorem dX12_age_89 : decode cX12_age 89 = .ok (.invokevirtual 279, 3) := by decide +kernel
theorem dX12_age_92 : decode cX12_age 92 = .ok (.ifCond .eq 12, 3) := by decide +kernel
theorem dX12_age_95 : decode cX12_age 95 = .ok (.aload_n 0, 1) := by decide +kernel
theorem dX12_age_96 : decode cX12_age 96 = .ok (.iload_n 1, 1) := by decide +kernel
theorem dX12_age_97 : decode cX12_age 97 = .ok (.iconst 1, 1) := by decide +kernel
theorem dX12_age_98 : decode cX12_age 98 = .ok (.invokevirtual 272, 3) := by decide +kernel
theorem dX12_age_101 : decode cX12_age 101 = .ok (.goto 9, 3) := by decide +kernel
theorem dX12_age_104 : decode cX12_age 104 = .ok (.aload_n 0, 1) := by decide +kernel
theorem dX12_age_105 : decode cX12_age 105 = .ok (.getfield 74, 3) := by decide +kernel
theorem dX12_age_108 : decode cX12_age 108 = .ok (.iload_n 3, 1) := by decide +kernel
theorem dX12_age_109 : decode cX12_age 109 = .ok (.iaload, 1) := by decide +kernel
theorem dX12_age_110 : decode cX12_age 110 = .ok (.istore 4, 2) := by decide +kernel
theorem dX12_age_112 : decode cX12_age 112 = .ok (.iload 4, 2) := by decide +kernel
theorem dX12_age_114 : decode cX12_age 114 = .ok (.ifCond .ne 6, 3) := by decide +kernel
theorem dX12_age_117 : decode cX12_age 117 = .ok (.goto 14, 3) := by decide +kernel
theorem dX12_age_120 : decode cX12_age 120 = .ok (.aload_n 0, 1) := by decide +kernel
theorem dX12_age_121 : decode cX12_age 121 = .ok (.getfield 80, 3) := by decide +kernel
theorem dX12_age_124 : decode cX12_age 124 = .ok (.iload_n 2, 1) := by decide +kernel
theorem dX12_age_125 : decode cX12_age 125 = .ok (.iload 4, 2) := by decide +kernel
theorem dX12_age_127 : decode cX12_age 127 = .ok (.iastore, 1) := by decide +kernel
theorem dX12_age_128 : decode cX12_age 128 = .ok (.iinc 2 1, 3) := by decide +kernel
theorem dX12_age_131 : decode cX12_age 131 = .ok (.iinc 3 1, 3) := by decide +kernel
theorem dX12_age_134 : decode cX12_age 134 = .ok (.goto (-79), 3) := by decide +kernel
theorem dX12_age_137 : decode cX12_age 137 = .ok (.aload_n 0, 1) := by decide +kernel
theorem dX12_age_138 : decode cX12_age 138 = .ok (.iload_n 2, 1) := by decide +kernel
theorem dX12_age_139 : decode cX12_age 139 = .ok (.putfield 248, 3) := by decide +kernel
theorem dX12_age_142 : decode cX12_age 142 = .ok (.iconst 0, 1) := by decide +kernel
theorem dX12_age_143 : decode cX12_age 143 = .ok (.istore_n 3, 1) := by decide +kernel
theorem dX12_age_144 : decode cX12_age 144 = .ok (.iload_n 3, 1) := by decide +kernel
theorem dX12_age_145 : decode cX12_age 145 = .ok (.iload_n 2, 1) := by decide +kernel
theorem dX12_age_146 : decode cX12_age 146 = .ok (.if_icmp .ge 21, 3) := by decide +kernel
theorem dX12_age_149 : decode cX12_age 149 = .ok (.aload_n 0, 1) := by decide +kernel
theorem dX12_age_150 : decode cX12_age 150 = .ok (.getfield 74, 3) := by decide +kernel
theorem dX12_age_153 : decode cX12_age 153 = .ok (.iload_n 3, 1) := by decide +kernel
theorem dX12_age_154 : decode cX12_age 154 = .ok (.aload_n 0, 1) := by decide +kernel
theorem dX12_age_155 : decode cX12_age 155 = .ok (.getfield 80, 3) := by decide +kernel
theorem dX12_age_158 : decode cX12_age 158 = .ok (.iload_n 3, 1) := by decide +kernel
theorem dX12_age_159 : decode cX12_age 159 = .ok (.iaload, 1) := by decide +kernel
theorem dX12_age_160 : decode cX12_age 160 = .ok (.iastore, 1) := by decide +kernel
theorem dX12_age_161 : decode cX12_age 161 = .ok (.iinc 3 1, 3) := by decide +kernel
theorem dX12_age_164 : decode cX12_age 164 = .ok (.goto (-20), 3) := by decide +kernel
theorem dX12_age_167 : decode cX12_age 167 = .ok (.return_, 1) := by decide +kernel
theorem dX12_ages_0 : decode cX12_ages 0 = .ok (.aload_n 0, 1) := by decide +kernel
theorem dX12_ages_1 : decode cX12_ages 1 = .ok (.iconst 0, 1) := by decide +kernel
theorem dX12_ages_2 : decode cX12_ages 2 = .ok (.putfield 248, 3) := by decide +kernel
theorem dX12_ages_5 : decode cX12_ages 5 = .ok (.aload_n 0, 1) := by decide +kernel
theorem dX12_ages_6 : decode cX12_ages 6 = .ok (.iconst 1, 1) := by decide +kernel
theorem dX12_ages_7 : decode cX12_ages 7 = .ok (.bipush 8, 2) := by decide +kernel
theorem dX12_ages_9 : decode cX12_ages 9 = .ok (.invokevirtual 346, 3) := by decide +kernel
theorem dX12_ages_12 : decode cX12_ages 12 = .ok (.ifCond .ne 5, 3) := by decide +kernel
theorem dX12_ages_15 : decode cX12_ages 15 = .ok (.iconst (-1), 1) := by decide +kernel
theorem dX12_ages_16 : decode cX12_ages 16 = .ok (.ireturn, 1) := by decide +kernel
theorem dX12_ages_17 : decode cX12_ages 17 = .ok (.aload_n 0, 1) := by decide +kernel
theorem dX12_ages_18 : decode cX12_ages 18 = .ok (.aload_n 0, 1) := by decide +kernel
theorem dX12_ages_19 : decode cX12_ages 19 = .ok (.getfield 291, 3) := by decide +kernel
theorem dX12_ages_22 : decode cX12_ages 22 = .ok (.putfield 248, 3) := by decide +kernel
theorem dX12_ages_25 : decode cX12_ages 25 = .ok (.iconst 0, 1) := by decide +kernel
theorem dX12_ages_26 : decode cX12_ages 26 = .ok (.istore_n 1, 1) := by decide +kernel
theorem dX12_ages_27 : decode cX12_ages 27 = .ok (.iload_n 1, 1) := by decide +kernel
theorem dX12_ages_28 : decode cX12_ages 28 = .ok (.aload_n 0, 1) := by decide +kernel
theorem dX12_ages_29 : decode cX12_ages 29 = .ok (.getfield 291, 3) := by decide +kernel
theorem dX12_ages_32 : decode cX12_ages 32 = .ok (.if_icmp .ge 21, 3) := by decide +kernel
theorem dX12_ages_35 : decode cX12_ages 35 = .ok (.aload_n 0, 1) := by decide +kernel
theorem dX12_ages_36 : decode cX12_ages 36 = .ok (.getfield 74, 3) := by decide +kernel
theorem dX12_ages_39 : decode cX12_ages 39 = .ok (.iload_n 1, 1) := by decide +kernel
theorem dX12_ages_40 : decode cX12_ages 40 = .ok (.aload_n 0, 1) := by decide +kernel
theorem dX12_ages_41 : decode cX12_ages 41 = .ok (.getfield 46, 3) := by decide +kernel
theorem dX12_ages_44 : decode cX12_ages 44 = .ok (.iload_n 1, 1) := by decide +kernel
theorem dX12_ages_45 : decode cX12_ages 45 = .ok (.iaload, 1) := by decide +kernel
theorem dX12_ages_46 : decode cX12_ages 46 = .ok (.iastore, 1) := by decide +kernel
theorem dX12_ages_47 : decode cX12_ages 47 = .ok (.iinc 1 1, 3) := by decide +kernel
theorem dX12_ages_50 : decode cX12_ages 50 = .ok (.goto (-23), 3) := by decide +kernel
theorem dX12_ages_53 : decode cX12_ages 53 = .ok (.iconst 0, 1) := by decide +kernel
theorem dX12_ages_54 : decode cX12_ages 54 = .ok (.istore_n 1, 1) := by decide +kernel
theorem dX12_ages_55 : decode cX12_ages 55 = .ok (.iload_n 1, 1) := by decide +kernel
theorem dX12_ages_56 : decode cX12_ages 56 = .ok (.aload_n 0, 1) := by decide +kernel
theorem dX12_ages_57 : decode cX12_ages 57 = .ok (.getfield 7, 3) := by decide +kernel
theorem dX12_ages_60 : decode cX12_ages 60 = .ok (.bipush 17, 2) := by decide +kernel
theorem dX12_ages_62 : decode cX12_ages 62 = .ok (.iaload, 1) := by decide +kernel
theorem dX12_ages_63 : decode cX12_ages 63 = .ok (.if_icmp .ge 45, 3) := by decide +kernel
theorem dX12_ages_66 : decode cX12_ages 66 = .ok (.aload_n 0, 1) := by decide +kernel
theorem dX12_ages_67 : decode cX12_ages 67 = .ok (.getfield 7, 3) := by decide +kernel
theorem dX12_ages_70 : decode cX12_ages 70 = .ok (.bipush 40, 2) := by decide +kernel
theorem dX12_ages_72 : decode cX12_ages 72 = .ok (.iaload, 1) := by decide +kernel
theorem dX12_ages_73 : decode cX12_ages 73 = .ok (.aload_n 0, 1) := by decide +kernel
theorem dX12_ages_74 : decode cX12_ages 74 = .ok (.getfield 7, 3) := by decide +kernel
theorem dX12_ages_77 : decode cX12_ages 77 = .ok (.bipush 43, 2) := by decide +kernel
theorem dX12_ages_79 : decode cX12_ages 79 = .ok (.iload_n 1, 1) := by decide +kernel
theorem dX12_ages_80 : decode cX12_ages 80 = .ok (.iadd, 1) := by decide +kernel
theorem dX12_ages_81 : decode cX12_ages 81 = .ok (.iaload, 1) := by decide +kernel
theorem dX12_ages_82 : decode cX12_ages 82 = .ok (.ishr, 1) := by decide +kernel
theorem dX12_ages_83 : decode cX12_ages 83 = .ok (.iconst 1, 1) := by decide +kernel
theorem dX12_ages_84 : decode cX12_ages 84 = .ok (.iand, 1) := by decide +kernel
theorem dX12_ages_85 : decode cX12_ages 85 = .ok (.iconst 1, 1) := by decide +kernel
theorem dX12_ages_86 : decode cX12_ages 86 = .ok (.if_icmp .ne 16, 3) := by decide +kernel
theorem dX12_ages_89 : decode cX12_ages 89 = .ok (.aload_n 0, 1) := by decide +kernel
theorem dX12_ages_90 : decode cX12_ages 90 = .ok (.aload_n 0, 1) := by decide +kernel
theorem dX12_ages_91 : decode cX12_ages 91 = .ok (.getfield 7, 3) := by decide +kernel
theorem dX12_ages_94 : decode cX12_ages 94 = .ok (.bipush 43, 2) := by decide +kernel
theorem dX12_ages_96 : decode cX12_ages 96 = .ok (.iload_n 1, 1) := by decide +kernel
theorem dX12_ages_97 : decode cX12_ages 97 = .ok (.iadd, 1) := by decide +kernel
theorem dX12_ages_98 : decode cX12_ages 98 = .ok (.iaload, 1) := by decide +kernel
theorem dX12_ages_99 : decode cX12_ages 99 = .ok (.invokevirtual 371, 3) := by decide +kernel
theorem dX12_ages_102 : decode cX12_ages 102 = .ok (.iinc 1 1, 3) := by decide +kernel
theorem dX12_ages_105 : decode cX12_ages 105 = .ok (.goto (-50), 3) := by decide +kernel
theorem dX12_ages_108 : decode cX12_ages 108 = .ok (.aload_n 0, 1) := by decide +kernel
theorem dX12_ages_109 : decode cX12_ages 109 = .ok (.getfield 248, 3) := by decide +kernel
theorem dX12_ages_112 : decode cX12_ages 112 = .ok (.ireturn, 1) := by decide +kernel
theorem dX12_aged_0 : decode cX12_aged 0 = .ok (.iload_n 1, 1) := by decide +kernel
theorem dX12_aged_1 : decode cX12_aged 1 = .ok (.iconst 0, 1) := by decide +kernel
theorem dX12_aged_2 : decode cX12_aged 2 = .ok (.aload_n 0, 1) := by decide +kernel
theorem dX12_aged_3 : decode cX12_aged 3 = .ok (.getfield 248, 3) := by decide +kernel
theorem dX12_aged_6 : decode cX12_aged 6 = .ok (.iconst 1, 1) := by decide +kernel
theorem dX12_aged_7 : decode cX12_aged 7 = .ok (.isub, 1) := by decide +kernel
theorem dX12_aged_8 : decode cX12_aged 8 = .ok (.invokestatic 119, 3) := by decide +kernel
theorem dX12_aged_11 : decode cX12_aged 11 = .ok (.ifCond .eq 14, 3) := by decide +kernel
theorem dX12_aged_14 : decode cX12_aged 14 = .ok (.aload_n 0, 1) := by decide +kernel
theorem dX12_aged_15 : decode cX12_aged 15 = .ok (.getfield 74, 3) := by decide +kernel
theorem dX12_aged_18 : decode cX12_aged 18 = .ok (.iload_n 1, 1) := by decide +kernel
theorem dX12_aged_19 : decode cX12_aged 19 = .ok (.iaload, 1) := by decide +kernel
theorem dX12_aged_20 : decode cX12_aged 20 = .ok (.iconst 1, 1) := by decide +kernel
theorem dX12_aged_21 : decode cX12_aged 21 = .ok (.isub, 1) := by decide +kernel
theorem dX12_aged_22 : decode cX12_aged 22 = .ok (.goto 4, 3) := by decide +kernel
theorem dX12_aged_25 : decode cX12_aged 25 = .ok (.iconst (-1), 1) := by decide +kernel
theorem dX12_aged_26 : decode cX12_aged 26 = .ok (.ireturn, 1) := by decide +kernel
theorem dX12_sideGoes_0 : decode cX12_sideGoes 0 = .ok (.iload_n 2, 1) := by decide +kernel
theorem dX12_sideGoes_1 : decode cX12_sideGoes 1 = .ok (.iconst 1, 1) := by decide +kernel
theorem dX12_sideGoes_2 : decode cX12_sideGoes 2 = .ok (.if_icmp .ne 21, 3) := by decide +kernel
theorem dX12_sideGoes_5 : decode cX12_sideGoes 5 = .ok (.aload_n 0, 1) := by decide +kernel
theorem dX12_sideGoes_6 : decode cX12_sideGoes 6 = .ok (.iload_n 1, 1) := by decide +kernel
theorem dX12_sideGoes_7 : decode cX12_sideGoes 7 = .ok (.iload_n 3, 1) := by decide +kernel
theorem dX12_sideGoes_8 : decode cX12_sideGoes 8 = .ok (.invokevirtual 282, 3) := by decide +kernel
theorem dX12_sideGoes_11 : decode cX12_sideGoes 11 = .ok (.ifCond .eq 12, 3) := by decide +kernel
theorem dX12_sideGoes_14 : decode cX12_sideGoes 14 = .ok (.iconst 1, 1) := by decide +kernel
theorem dX12_sideGoes_15 : decode cX12_sideGoes 15 = .ok (.aload_n 0, 1) := by decide +kernel
theorem dX12_sideGoes_16 : decode cX12_sideGoes 16 = .ok (.iload_n 1, 1) := by decide +kernel
theorem dX12_sideGoes_17 : decode cX12_sideGoes 17 = .ok (.iconst 1, 1) := by decide +kernel
theorem dX12_sideGoes_18 : decode cX12_sideGoes 18 = .ok (.invokevirtual 254, 3) := by decide +kernel
theorem dX12_sideGoes_21 : decode cX12_sideGoes 21 = .ok (.ishl, 1) := by decide +kernel
theorem dX12_sideGoes_22 : decode cX12_sideGoes 22 = .ok (.ireturn, 1) := by decide +kernel
theorem dX12_sideGoes_23 : decode cX12_sideGoes 23 = .ok (.aload_n 0, 1) := by decide +kernel
theorem dX12_sideGoes_24 : decode cX12_sideGoes 24 = .ok (.iload_n 1, 1) := by decide +kernel
theorem dX12_sideGoes_25 : decode cX12_sideGoes 25 = .ok (.iload_n 2, 1) := by decide +kernel
theorem dX12_sideGoes_26 : decode cX12_sideGoes 26 = .ok (.iload_n 3, 1) := by decide +kernel
theorem dX12_sideGoes_27 : decode cX12_sideGoes 27 = .ok (.iload 4, 2) := by decide +kernel
theorem dX12_sideGoes_29 : decode cX12_sideGoes 29 = .ok (.invokevirtual 262, 3) := by decide +kernel
theorem dX12_sideGoes_32 : decode cX12_sideGoes 32 = .ok (.iload_n 2, 1) := by decide +kernel
theorem dX12_sideGoes_33 : decode cX12_sideGoes 33 = .ok (.iconst 1, 1) := by decide +kernel
theorem dX12_sideGoes_34 : decode cX12_sideGoes 34 = .ok (.if_icmp .eq 12, 3) := by decide +kernel
theorem dX12_sideGoes_37 : decode cX12_sideGoes 37 = .ok (.aload_n 0, 1) := by decide +kernel
theorem dX12_sideGoes_38 : decode cX12_sideGoes 38 = .ok (.iload_n 1, 1) := by decide +kernel
theorem dX12_sideGoes_39 : decode cX12_sideGoes 39 = .ok (.iconst 0, 1) := by decide +kernel
theorem dX12_sideGoes_40 : decode cX12_sideGoes 40 = .ok (.invokevirtual 266, 3) := by decide +kernel
theorem dX12_sideGoes_43 : decode cX12_sideGoes 43 = .ok (.ifCond .eq 7, 3) := by decide +kernel
theorem dX12_sideGoes_46 : decode cX12_sideGoes 46 = .ok (.iconst 0, 1) := by decide +kernel
theorem dX12_sideGoes_47 : decode cX12_sideGoes 47 = .ok (.goto 10, 3) := by decide +kernel
theorem dX12_sideGoes_50 : decode cX12_sideGoes 50 = .ok (.aload_n 0, 1) := by decide +kernel
theorem dX12_sideGoes_51 : decode cX12_sideGoes 51 = .ok (.iload_n 1, 1) := by decide +kernel
theorem dX12_sideGoes_52 : decode cX12_sideGoes 52 = .ok (.iconst 0, 1) := by decide +kernel
theorem dX12_sideGoes_53 : decode cX12_sideGoes 53 = .ok (.iconst 1, 1) := by decide +kernel
theorem dX12_sideGoes_54 : decode cX12_sideGoes 54 = .ok (.invokevirtual 258, 3) := by decide +kernel
theorem dX12_sideGoes_57 : decode cX12_sideGoes 57 = .ok (.ior, 1) := by decide +kernel
theorem dX12_sideGoes_58 : decode cX12_sideGoes 58 = .ok (.ireturn, 1) := by decide +kernel
theorem dX12_isRule_0 : decode cX12_isRule 0 = .ok (.iload_n 1, 1) := by decide +kernel
theorem dX12_isRule_1 : decode cX12_isRule 1 = .ok (.iconst 0, 1) := by decide +kernel
theorem dX12_isRule_2 : decode cX12_isRule 2 = .ok (.aload_n 0, 1) := by decide +kernel
theorem dX12_isRule_3 : decode cX12_isRule 3 = .ok (.getfield 7, 3) := by decide +kernel
theorem dX12_isRule_6 : decode cX12_isRule 6 = .ok (.bipush 17, 2) := by decide +kernel
theorem dX12_isRule_8 : decode cX12_isRule 8 = .ok (.iaload, 1) := by decide +kernel
theorem dX12_isRule_9 : decode cX12_isRule 9 = .ok (.iconst 1, 1) := by decide +kernel
theorem dX12_isRule_10 : decode cX12_isRule 10 = .ok (.isub, 1) := by decide +kernel
theorem dX12_isRule_11 : decode cX12_isRule 11 = .ok (.invokestatic 119, 3) := by decide +kernel
theorem dX12_isRule_14 : decode cX12_isRule 14 = .ok (.ireturn, 1) := by decide +kernel
theorem dX12_never_0 : decode cX12_never 0 = .ok (.aload_n 0, 1) := by decide +kernel
theorem dX12_never_1 : decode cX12_never 1 = .ok (.iload_n 1, 1) := by decide +kernel
theorem dX12_never_2 : decode cX12_never 2 = .ok (.iconst 2, 1) := by decide +kernel
theorem dX12_never_3 : decode cX12_never 3 = .ok (.invokevirtual 272, 3) := by decide +kernel
theorem dX12_never_6 : decode cX12_never 6 = .ok (.iconst 1, 1) := by decide +kernel
theorem dX12_never_7 : decode cX12_never 7 = .ok (.if_icmp .eq 13, 3) := by decide +kernel
theorem dX12_never_10 : decode cX12_never 10 = .ok (.aload_n 0, 1) := by decide +kernel
theorem dX12_never_11 : decode cX12_never 11 = .ok (.iload_n 1, 1) := by decide +kernel
theorem dX12_never_12 : decode cX12_never 12 = .ok (.iconst 2, 1) := by decide +kernel
theorem dX12_never_13 : decode cX12_never 13 = .ok (.invokevirtual 272, 3) := by decide +kernel
theorem dX12_never_16 : decode cX12_never 16 = .ok (.iconst 2, 1) := by decide +kernel
theorem dX12_never_17 : decode cX12_never 17 = .ok (.if_icmp .ne 7, 3) := by decide +kernel
theorem dX12_never_20 : decode cX12_never 20 = .ok (.iconst 1, 1) := by decide +kernel
theorem dX12_never_21 : decode cX12_never 21 = .ok (.goto 4, 3) := by decide +kernel
theorem dX12_never_24 : decode cX12_never 24 = .ok (.iconst 0, 1) := by decide +kernel
theorem dX12_never_25 : decode cX12_never 25 = .ok (.ireturn, 1) := by decide +kernel
theorem dX12_canQuarrel_0 : decode cX12_canQuarrel 0 = .ok (.aload_n 0, 1) := by decide +kernel
theorem dX12_canQuarrel_1 : decode cX12_canQuarrel 1 = .ok (.iload_n 1, 1) := by decide +kernel
theorem dX12_canQuarrel_2 : decode cX12_canQuarrel 2 = .ok (.iconst 0, 1) := by decide +kernel
theorem dX12_canQuarrel_3 : decode cX12_canQuarrel 3 = .ok (.invokevirtual 272, 3) := by decide +kernel
theorem dX12_canQuarrel_6 : decode cX12_canQuarrel 6 = .ok (.aload_n 0, 1) := by decide +kernel
theorem dX12_canQuarrel_7 : decode cX12_canQuarrel 7 = .ok (.iload_n 2, 1) := by decide +kernel
theorem dX12_canQuarrel_8 : decode cX12_canQuarrel 8 = .ok (.iconst 0, 1) := by decide +kernel
theorem dX12_canQuarrel_9 : decode cX12_canQuarrel 9 = .ok (.invokevirtual 272, 3) := by decide +kernel
theorem dX12_canQuarrel_12 : decode cX12_canQuarrel 12 = .ok (.if_icmp .eq 5, 3) := by decide +kernel
theorem dX12_canQuarrel_15 : decode cX12_canQuarrel 15 = .ok (.iconst 0, 1) := by decide +kernel
theorem dX12_canQuarrel_16 : decode cX12_canQuarrel 16 = .ok (.ireturn, 1) := by decide +kernel
theorem dX12_canQuarrel_17 : decode cX12_canQuarrel 17 = .ok (.aload_n 0, 1) := by decide +kernel
theorem dX12_canQuarrel_18 : decode cX12_canQuarrel 18 = .ok (.iload_n 1, 1) := by decide +kernel
theorem dX12_canQuarrel_19 : decode cX12_canQuarrel 19 = .ok (.iconst 1, 1) := by decide +kernel
theorem dX12_canQuarrel_20 : decode cX12_canQuarrel 20 = .ok (.invokevirtual 272, 3) := by decide +kernel
theorem dX12_canQuarrel_23 : decode cX12_canQuarrel 23 = .ok (.aload_n 0, 1) := by decide +kernel
theorem dX12_canQuarrel_24 : decode cX12_canQuarrel 24 = .ok (.iload_n 2, 1) := by decide +kernel
theorem dX12_canQuarrel_25 : decode cX12_canQuarrel 25 = .ok (.iconst 1, 1) := by decide +kernel
theorem dX12_canQuarrel_26 : decode cX12_canQuarrel 26 = .ok (.invokevirtual 272, 3) := by decide +kernel
theorem dX12_canQuarrel_29 : decode cX12_canQuarrel 29 = .ok (.if_icmp .ne 7, 3) := by decide +kernel
theorem dX12_canQuarrel_32 : decode cX12_canQuarrel 32 = .ok (.iconst 1, 1) := by decide +kernel
theorem dX12_canQuarrel_33 : decode cX12_canQuarrel 33 = .ok (.goto 4, 3) := by decide +kernel
theorem dX12_canQuarrel_36 : decode cX12_canQuarrel 36 = .ok (.iconst 0, 1) := by decide +kernel
theorem dX12_canQuarrel_37 : decode cX12_canQuarrel 37 = .ok (.istore_n 3, 1) := by decide +kernel
theorem dX12_canQuarrel_38 : decode cX12_canQuarrel 38 = .ok (.aload_n 0, 1) := by decide +kernel
theorem dX12_canQuarrel_39 : decode cX12_canQuarrel 39 = .ok (.iload_n 1, 1) := by decide +kernel
theorem dX12_canQuarrel_40 : decode cX12_canQuarrel 40 = .ok (.invokevirtual 377, 3) := by decide +kernel
theorem dX12_canQuarrel_43 : decode cX12_canQuarrel 43 = .ok (.ifCond .eq 15, 3) := by decide +kernel
theorem dX12_canQuarrel_46 : decode cX12_canQuarrel 46 = .ok (.aload_n 0, 1) := by decide +kernel
theorem dX12_canQuarrel_47 : decode cX12_canQuarrel 47 = .ok (.iload_n 2, 1) := by decide +kernel
theorem dX12_canQuarrel_48 : decode cX12_canQuarrel 48 = .ok (.invokevirtual 377, 3) := by decide +kernel
theorem dX12_canQuarrel_51 : decode cX12_canQuarrel 51 = .ok (.ifCond .eq 7, 3) := by decide +kernel
theorem dX12_canQuarrel_54 : decode cX12_canQuarrel 54 = .ok (.iload_n 3, 1) := by decide +kernel
theorem dX12_canQuarrel_55 : decode cX12_canQuarrel 55 = .ok (.ifCond .eq 43, 3) := by decide +kernel
theorem dX12_canQuarrel_58 : decode cX12_canQuarrel 58 = .ok (.iload_n 3, 1) := by decide +kernel
theorem dX12_canQuarrel_59 : decode cX12_canQuarrel 59 = .ok (.ifCond .eq 43, 3) := by decide +kernel
theorem dX12_canQuarrel_62 : decode cX12_canQuarrel 62 = .ok (.aload_n 0, 1) := by decide +kernel
theorem dX12_canQuarrel_63 : decode cX12_canQuarrel 63 = .ok (.iload_n 1, 1) := by decide +kernel
theorem dX12_canQuarrel_64 : decode cX12_canQuarrel 64 = .ok (.invokevirtual 377, 3) := by decide +kernel
theorem dX12_canQuarrel_67 : decode cX12_canQuarrel 67 = .ok (.ifCond .eq 13, 3) := by decide +kernel
theorem dX12_canQuarrel_70 : decode cX12_canQuarrel 70 = .ok (.aload_n 0, 1) := by decide +kernel
theorem dX12_canQuarrel_71 : decode cX12_canQuarrel 71 = .ok (.iload_n 2, 1) := by decide +kernel
theorem dX12_canQuarrel_72 : decode cX12_canQuarrel 72 = .ok (.iconst 2, 1) := by decide +kernel
theorem dX12_canQuarrel_73 : decode cX12_canQuarrel 73 = .ok (.invokevirtual 272, 3) := by decide +kernel
theorem dX12_canQuarrel_76 : decode cX12_canQuarrel 76 = .ok (.iconst 3, 1) := by decide +kernel
theorem dX12_canQuarrel_77 : decode cX12_canQuarrel 77 = .ok (.if_icmp .eq 21, 3) := by decide +kernel
theorem dX12_canQuarrel_80 : decode cX12_canQuarrel 80 = .ok (.aload_n 0, 1) := by decide +kernel
theorem dX12_canQuarrel_81 : decode cX12_canQuarrel 81 = .ok (.iload_n 2, 1) := by decide +kernel
theorem dX12_canQuarrel_82 : decode cX12_canQuarrel 82 = .ok (.invokevirtual 377, 3) := by decide +kernel
theorem dX12_canQuarrel_85 : decode cX12_canQuarrel 85 = .ok (.ifCond .eq 17, 3) := by decide +kernel
theorem dX12_canQuarrel_88 : decode cX12_canQuarrel 88 = .ok (.aload_n 0, 1) := by decide +kernel
theorem dX12_canQuarrel_89 : decode cX12_canQuarrel 89 = .ok (.iload_n 1, 1) := by decide +kernel
theorem dX12_canQuarrel_90 : decode cX12_canQuarrel 90 = .ok (.iconst 2, 1) := by decide +kernel
theorem dX12_canQuarrel_91 : decode cX12_canQuarrel 91 = .ok (.invokevirtual 272, 3) := by decide +kernel
theorem dX12_canQuarrel_94 : decode cX12_canQuarrel 94 = .ok (.iconst 3, 1) := by decide +kernel
theorem dX12_canQuarrel_95 : decode cX12_canQuarrel 95 = .ok (.if_icmp .ne 7, 3) := by decide +kernel
theorem dX12_canQuarrel_98 : decode cX12_canQuarrel 98 = .ok (.iconst 1, 1) := by decide +kernel
theorem dX12_canQuarrel_99 : decode cX12_canQuarrel 99 = .ok (.goto 4, 3) := by decide +kernel
theorem dX12_canQuarrel_102 : decode cX12_canQuarrel 102 = .ok (.iconst 0, 1) := by decide +kernel
theorem dX12_canQuarrel_103 : decode cX12_canQuarrel 103 = .ok (.ireturn, 1) := by decide +kernel
theorem dX12_isUsed_0 : decode cX12_isUsed 0 = .ok (.aload_n 0, 1) := by decide +kernel
theorem dX12_isUsed_1 : decode cX12_isUsed 1 = .ok (.iload_n 1, 1) := by decide +kernel
theorem dX12_isUsed_2 : decode cX12_isUsed 2 = .ok (.invokevirtual 380, 3) := by decide +kernel
theorem dX12_isUsed_5 : decode cX12_isUsed 5 = .ok (.ifCond .eq 22, 3) := by decide +kernel
theorem dX12_isUsed_8 : decode cX12_isUsed 8 = .ok (.aload_n 0, 1) := by decide +kernel
theorem dX12_isUsed_9 : decode cX12_isUsed 9 = .ok (.getfield 7, 3) := by decide +kernel
theorem dX12_isUsed_12 : decode cX12_isUsed 12 = .ok (.bipush 40, 2) := by decide +kernel
theorem dX12_isUsed_14 : decode cX12_isUsed 14 = .ok (.iaload, 1) := by decide +kernel
theorem dX12_isUsed_15 : decode cX12_isUsed 15 = .ok (.iload_n 1, 1) := by decide +kernel
theorem dX12_isUsed_16 : decode cX12_isUsed 16 = .ok (.ishr, 1) := by decide +kernel
theorem dX12_isUsed_17 : decode cX12_isUsed 17 = .ok (.iconst 1, 1) := by decide +kernel
theorem dX12_isUsed_18 : decode cX12_isUsed 18 = .ok (.iand, 1) := by decide +kernel
theorem dX12_isUsed_19 : decode cX12_isUsed 19 = .ok (.iconst 1, 1) := by decide +kernel
theorem dX12_isUsed_20 : decode cX12_isUsed 20 = .ok (.if_icmp .ne 7, 3) := by decide +kernel
theorem dX12_isUsed_23 : decode cX12_isUsed 23 = .ok (.iconst 1, 1) := by decide +kernel
theorem dX12_isUsed_24 : decode cX12_isUsed 24 = .ok (.goto 4, 3) := by decide +kernel
theorem dX12_isUsed_27 : decode cX12_isUsed 27 = .ok (.iconst 0, 1) := by decide +kernel
theorem dX12_isUsed_28 : decode cX12_isUsed 28 = .ok (.ireturn, 1) := by decide +kernel
