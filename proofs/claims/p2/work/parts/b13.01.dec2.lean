theorem dX12_isRight_133 : decode cX12_isRight 133 = .ok (.iconst 0, 1) := by decide +kernel
theorem dX12_isRight_134 : decode cX12_isRight 134 = .ok (.ireturn, 1) := by decide +kernel
theorem dX12_firstWrong_0 : decode cX12_firstWrong 0 = .ok (.iconst 0, 1) := by decide +kernel
theorem dX12_firstWrong_1 : decode cX12_firstWrong 1 = .ok (.istore_n 2, 1) := by decide +kernel
theorem dX12_firstWrong_2 : decode cX12_firstWrong 2 = .ok (.iload_n 2, 1) := by decide +kernel
theorem dX12_firstWrong_3 : decode cX12_firstWrong 3 = .ok (.aload_n 0, 1) := by decide +kernel
theorem dX12_firstWrong_4 : decode cX12_firstWrong 4 = .ok (.getfield 7, 3) := by decide +kernel
theorem dX12_firstWrong_7 : decode cX12_firstWrong 7 = .ok (.bipush 42, 2) := by decide +kernel
theorem dX12_firstWrong_9 : decode cX12_firstWrong 9 = .ok (.iaload, 1) := by decide +kernel
theorem dX12_firstWrong_10 : decode cX12_firstWrong 10 = .ok (.if_icmp .ge 20, 3) := by decide +kernel
theorem dX12_firstWrong_13 : decode cX12_firstWrong 13 = .ok (.aload_n 0, 1) := by decide +kernel
theorem dX12_firstWrong_14 : decode cX12_firstWrong 14 = .ok (.iload_n 2, 1) := by decide +kernel
theorem dX12_firstWrong_15 : decode cX12_firstWrong 15 = .ok (.iload_n 1, 1) := by decide +kernel
theorem dX12_firstWrong_16 : decode cX12_firstWrong 16 = .ok (.invokevirtual 422, 3) := by decide +kernel
theorem dX12_firstWrong_19 : decode cX12_firstWrong 19 = .ok (.ifCond .ne 5, 3) := by decide +kernel
theorem dX12_firstWrong_22 : decode cX12_firstWrong 22 = .ok (.iload_n 2, 1) := by decide +kernel
theorem dX12_firstWrong_23 : decode cX12_firstWrong 23 = .ok (.ireturn, 1) := by decide +kernel
theorem dX12_firstWrong_24 : decode cX12_firstWrong 24 = .ok (.iinc 2 1, 3) := by decide +kernel
theorem dX12_firstWrong_27 : decode cX12_firstWrong 27 = .ok (.goto (-25), 3) := by decide +kernel
theorem dX12_firstWrong_30 : decode cX12_firstWrong 30 = .ok (.iconst (-1), 1) := by decide +kernel
theorem dX12_firstWrong_31 : decode cX12_firstWrong 31 = .ok (.ireturn, 1) := by decide +kernel
theorem dX12_fits_0 : decode cX12_fits 0 = .ok (.iload_n 1, 1) := by decide +kernel
theorem dX12_fits_1 : decode cX12_fits 1 = .ok (.iconst 0, 1) := by decide +kernel
theorem dX12_fits_2 : decode cX12_fits 2 = .ok (.aload_n 0, 1) := by decide +kernel
theorem dX12_fits_3 : decode cX12_fits 3 = .ok (.invokevirtual 251, 3) := by decide +kernel
theorem dX12_fits_6 : decode cX12_fits 6 = .ok (.invokestatic 119, 3) := by decide +kernel
theorem dX12_fits_9 : decode cX12_fits 9 = .ok (.ifCond .ne 7, 3) := by decide +kernel
theorem dX12_fits_12 : decode cX12_fits 12 = .ok (.iconst (-1), 1) := by decide +kernel
theorem dX12_fits_13 : decode cX12_fits 13 = .ok (.goto 17, 3) := by decide +kernel
theorem dX12_fits_16 : decode cX12_fits 16 = .ok (.aload_n 0, 1) := by decide +kernel
theorem dX12_fits_17 : decode cX12_fits 17 = .ok (.iload_n 1, 1) := by decide +kernel
theorem dX12_fits_18 : decode cX12_fits 18 = .ok (.invokevirtual 425, 3) := by decide +kernel
theorem dX12_fits_21 : decode cX12_fits 21 = .ok (.iconst (-1), 1) := by decide +kernel
theorem dX12_fits_22 : decode cX12_fits 22 = .ok (.if_icmp .ne 7, 3) := by decide +kernel
theorem dX12_fits_25 : decode cX12_fits 25 = .ok (.iconst 1, 1) := by decide +kernel
theorem dX12_fits_26 : decode cX12_fits 26 = .ok (.goto 4, 3) := by decide +kernel
theorem dX12_fits_29 : decode cX12_fits 29 = .ok (.iconst 0, 1) := by decide +kernel
theorem dX12_fits_30 : decode cX12_fits 30 = .ok (.ireturn, 1) := by decide +kernel
theorem dX12_learn_0 : decode cX12_learn 0 = .ok (.iconst (-1), 1) := by decide +kernel
theorem dX12_learn_1 : decode cX12_learn 1 = .ok (.istore_n 1, 1) := by decide +kernel
theorem dX12_learn_2 : decode cX12_learn 2 = .ok (.iconst 0, 1) := by decide +kernel
theorem dX12_learn_3 : decode cX12_learn 3 = .ok (.istore_n 2, 1) := by decide +kernel
theorem dX12_learn_4 : decode cX12_learn 4 = .ok (.iload_n 2, 1) := by decide +kernel
theorem dX12_learn_5 : decode cX12_learn 5 = .ok (.aload_n 0, 1) := by decide +kernel
theorem dX12_learn_6 : decode cX12_learn 6 = .ok (.invokevirtual 251, 3) := by decide +kernel
theorem dX12_learn_9 : decode cX12_learn 9 = .ok (.if_icmp .gt 36, 3) := by decide +kernel
theorem dX12_learn_12 : decode cX12_learn 12 = .ok (.iload_n 1, 1) := by decide +kernel
theorem dX12_learn_13 : decode cX12_learn 13 = .ok (.iconst (-1), 1) := by decide +kernel
theorem dX12_learn_14 : decode cX12_learn 14 = .ok (.if_icmp .eq 14, 3) := by decide +kernel
theorem dX12_learn_17 : decode cX12_learn 17 = .ok (.iload_n 2, 1) := by decide +kernel
theorem dX12_learn_18 : decode cX12_learn 18 = .ok (.invokestatic 407, 3) := by decide +kernel
theorem dX12_learn_21 : decode cX12_learn 21 = .ok (.iload_n 1, 1) := by decide +kernel
theorem dX12_learn_22 : decode cX12_learn 22 = .ok (.invokestatic 407, 3) := by decide +kernel
theorem dX12_learn_25 : decode cX12_learn 25 = .ok (.if_icmp .ge 14, 3) := by decide +kernel
theorem dX12_learn_28 : decode cX12_learn 28 = .ok (.aload_n 0, 1) := by decide +kernel
theorem dX12_learn_29 : decode cX12_learn 29 = .ok (.iload_n 2, 1) := by decide +kernel
theorem dX12_learn_30 : decode cX12_learn 30 = .ok (.invokevirtual 425, 3) := by decide +kernel
theorem dX12_learn_33 : decode cX12_learn 33 = .ok (.iconst (-1), 1) := by decide +kernel
theorem dX12_learn_34 : decode cX12_learn 34 = .ok (.if_icmp .ne 5, 3) := by decide +kernel
theorem dX12_learn_37 : decode cX12_learn 37 = .ok (.iload_n 2, 1) := by decide +kernel
theorem dX12_learn_38 : decode cX12_learn 38 = .ok (.istore_n 1, 1) := by decide +kernel
theorem dX12_learn_39 : decode cX12_learn 39 = .ok (.iinc 2 1, 3) := by decide +kernel
theorem dX12_learn_42 : decode cX12_learn 42 = .ok (.goto (-38), 3) := by decide +kernel
theorem dX12_learn_45 : decode cX12_learn 45 = .ok (.iload_n 1, 1) := by decide +kernel
theorem dX12_learn_46 : decode cX12_learn 46 = .ok (.ireturn, 1) := by decide +kernel
theorem dX12_forced_0 : decode cX12_forced 0 = .ok (.aload_n 0, 1) := by decide +kernel
theorem dX12_forced_1 : decode cX12_forced 1 = .ok (.invokevirtual 428, 3) := by decide +kernel
theorem dX12_forced_4 : decode cX12_forced 4 = .ok (.istore_n 2, 1) := by decide +kernel
theorem dX12_forced_5 : decode cX12_forced 5 = .ok (.iload_n 2, 1) := by decide +kernel
theorem dX12_forced_6 : decode cX12_forced 6 = .ok (.iconst (-1), 1) := by decide +kernel
theorem dX12_forced_7 : decode cX12_forced 7 = .ok (.if_icmp .eq 19, 3) := by decide +kernel
theorem dX12_forced_10 : decode cX12_forced 10 = .ok (.aload_n 0, 1) := by decide +kernel
theorem dX12_forced_11 : decode cX12_forced 11 = .ok (.iload_n 1, 1) := by decide +kernel
theorem dX12_forced_12 : decode cX12_forced 12 = .ok (.invokevirtual 380, 3) := by decide +kernel
theorem dX12_forced_15 : decode cX12_forced 15 = .ok (.ifCond .eq 11, 3) := by decide +kernel
theorem dX12_forced_18 : decode cX12_forced 18 = .ok (.iload_n 2, 1) := by decide +kernel
theorem dX12_forced_19 : decode cX12_forced 19 = .ok (.iload_n 1, 1) := by decide +kernel
theorem dX12_forced_20 : decode cX12_forced 20 = .ok (.ishr, 1) := by decide +kernel
theorem dX12_forced_21 : decode cX12_forced 21 = .ok (.iconst 1, 1) := by decide +kernel
theorem dX12_forced_22 : decode cX12_forced 22 = .ok (.iand, 1) := by decide +kernel
theorem dX12_forced_23 : decode cX12_forced 23 = .ok (.ifCond .ne 7, 3) := by decide +kernel
theorem dX12_forced_26 : decode cX12_forced 26 = .ok (.iconst (-1), 1) := by decide +kernel
theorem dX12_forced_27 : decode cX12_forced 27 = .ok (.goto 14, 3) := by decide +kernel
theorem dX12_forced_30 : decode cX12_forced 30 = .ok (.aload_n 0, 1) := by decide +kernel
theorem dX12_forced_31 : decode cX12_forced 31 = .ok (.iload_n 2, 1) := by decide +kernel
theorem dX12_forced_32 : decode cX12_forced 32 = .ok (.iconst 1, 1) := by decide +kernel
theorem dX12_forced_33 : decode cX12_forced 33 = .ok (.iload_n 1, 1) := by decide +kernel
theorem dX12_forced_34 : decode cX12_forced 34 = .ok (.ishl, 1) := by decide +kernel
theorem dX12_forced_35 : decode cX12_forced 35 = .ok (.iconst (-1), 1) := by decide +kernel
theorem dX12_forced_36 : decode cX12_forced 36 = .ok (.ixor, 1) := by decide +kernel
theorem dX12_forced_37 : decode cX12_forced 37 = .ok (.iand, 1) := by decide +kernel
theorem dX12_forced_38 : decode cX12_forced 38 = .ok (.invokevirtual 425, 3) := by decide +kernel
theorem dX12_forced_41 : decode cX12_forced 41 = .ok (.ireturn, 1) := by decide +kernel
theorem dX12_rule_0 : decode cX12_rule 0 = .ok (.aload_n 0, 1) := by decide +kernel
theorem dX12_rule_1 : decode cX12_rule 1 = .ok (.iload_n 1, 1) := by decide +kernel
theorem dX12_rule_2 : decode cX12_rule 2 = .ok (.invokevirtual 380, 3) := by decide +kernel
theorem dX12_rule_5 : decode cX12_rule 5 = .ok (.ifCond .eq 12, 3) := by decide +kernel
theorem dX12_rule_8 : decode cX12_rule 8 = .ok (.iload_n 2, 1) := by decide +kernel
theorem dX12_rule_9 : decode cX12_rule 9 = .ok (.iconst 0, 1) := by decide +kernel
theorem dX12_rule_10 : decode cX12_rule 10 = .ok (.iconst 4, 1) := by decide +kernel
theorem dX12_rule_11 : decode cX12_rule 11 = .ok (.invokestatic 119, 3) := by decide +kernel
theorem dX12_rule_14 : decode cX12_rule 14 = .ok (.ifCond .ne 7, 3) := by decide +kernel
theorem dX12_rule_17 : decode cX12_rule 17 = .ok (.iconst (-1), 1) := by decide +kernel
theorem dX12_rule_18 : decode cX12_rule 18 = .ok (.goto 28, 3) := by decide +kernel
theorem dX12_rule_21 : decode cX12_rule 21 = .ok (.iload_n 2, 1) := by decide +kernel
theorem dX12_rule_22 : decode cX12_rule 22 = .ok (.iconst 4, 1) := by decide +kernel
theorem dX12_rule_23 : decode cX12_rule 23 = .ok (.if_icmp .ne 17, 3) := by decide +kernel
theorem dX12_rule_26 : decode cX12_rule 26 = .ok (.aload_n 0, 1) := by decide +kernel
theorem dX12_rule_27 : decode cX12_rule 27 = .ok (.getfield 7, 3) := by decide +kernel
theorem dX12_rule_30 : decode cX12_rule 30 = .ok (.bipush 40, 2) := by decide +kernel
theorem dX12_rule_32 : decode cX12_rule 32 = .ok (.iaload, 1) := by decide +kernel
theorem dX12_rule_33 : decode cX12_rule 33 = .ok (.iload_n 1, 1) := by decide +kernel
theorem dX12_rule_34 : decode cX12_rule 34 = .ok (.ishr, 1) := by decide +kernel
theorem dX12_rule_35 : decode cX12_rule 35 = .ok (.iconst 1, 1) := by decide +kernel
theorem dX12_rule_36 : decode cX12_rule 36 = .ok (.iand, 1) := by decide +kernel
theorem dX12_rule_37 : decode cX12_rule 37 = .ok (.goto 9, 3) := by decide +kernel
theorem dX12_rule_40 : decode cX12_rule 40 = .ok (.aload_n 0, 1) := by decide +kernel
theorem dX12_rule_41 : decode cX12_rule 41 = .ok (.iload_n 1, 1) := by decide +kernel
theorem dX12_rule_42 : decode cX12_rule 42 = .ok (.iload_n 2, 1) := by decide +kernel
theorem dX12_rule_43 : decode cX12_rule 43 = .ok (.invokevirtual 272, 3) := by decide +kernel
theorem dX12_rule_46 : decode cX12_rule 46 = .ok (.ireturn, 1) := by decide +kernel
theorem dX12_image_0 : decode cX12_image 0 = .ok (.iload_n 1, 1) := by decide +kernel
theorem dX12_image_1 : decode cX12_image 1 = .ok (.ifCond .ne 12, 3) := by decide +kernel
theorem dX12_image_4 : decode cX12_image 4 = .ok (.aload_n 0, 1) := by decide +kernel
theorem dX12_image_5 : decode cX12_image 5 = .ok (.getfield 431, 3) := by decide +kernel
theorem dX12_image_8 : decode cX12_image 8 = .ok (.ifCond .ne 5, 3) := by decide +kernel
theorem dX12_image_11 : decode cX12_image 11 = .ok (.iconst 0, 1) := by decide +kernel
theorem dX12_image_12 : decode cX12_image 12 = .ok (.ireturn, 1) := by decide +kernel
theorem dX12_image_13 : decode cX12_image 13 = .ok (.iconst 0, 1) := by decide +kernel
theorem dX12_image_14 : decode cX12_image 14 = .ok (.istore_n 2, 1) := by decide +kernel
theorem dX12_image_15 : decode cX12_image 15 = .ok (.iload_n 2, 1) := by decide +kernel
theorem dX12_image_16 : decode cX12_image 16 = .ok (.sipush 1560, 3) := by decide +kernel
theorem dX12_image_19 : decode cX12_image 19 = .ok (.if_icmp .ge 40, 3) := by decide +kernel
theorem dX12_image_22 : decode cX12_image 22 = .ok (.iload_n 1, 1) := by decide +kernel
theorem dX12_image_23 : decode cX12_image 23 = .ok (.ifCond .eq 18, 3) := by decide +kernel
theorem dX12_image_26 : decode cX12_image 26 = .ok (.aload_n 0, 1) := by decide +kernel
theorem dX12_image_27 : decode cX12_image 27 = .ok (.getfield 16, 3) := by decide +kernel
theorem dX12_image_30 : decode cX12_image 30 = .ok (.iload_n 2, 1) := by decide +kernel
theorem dX12_image_31 : decode cX12_image 31 = .ok (.aload_n 0, 1) := by decide +kernel
theorem dX12_image_32 : decode cX12_image 32 = .ok (.getfield 7, 3) := by decide +kernel
theorem dX12_image_35 : decode cX12_image 35 = .ok (.iload_n 2, 1) := by decide +kernel
theorem dX12_image_36 : decode cX12_image 36 = .ok (.iaload, 1) := by decide +kernel
theorem dX12_image_37 : decode cX12_image 37 = .ok (.iastore, 1) := by decide +kernel
theorem dX12_image_38 : decode cX12_image 38 = .ok (.goto 15, 3) := by decide +kernel
theorem dX12_image_41 : decode cX12_image 41 = .ok (.aload_n 0, 1) := by decide +kernel
theorem dX12_image_42 : decode cX12_image 42 = .ok (.getfield 7, 3) := by decide +kernel
theorem dX12_image_45 : decode cX12_image 45 = .ok (.iload_n 2, 1) := by decide +kernel
theorem dX12_image_46 : decode cX12_image 46 = .ok (.aload_n 0, 1) := by decide +kernel
theorem dX12_image_47 : decode cX12_image 47 = .ok (.getfield 16, 3) := by decide +kernel
theorem dX12_image_50 : decode cX12_image 50 = .ok (.iload_n 2, 1) := by decide +kernel
theorem dX12_image_51 : decode cX12_image 51 = .ok (.iaload, 1) := by decide +kernel
theorem dX12_image_52 : decode cX12_image 52 = .ok (.iastore, 1) := by decide +kernel
theorem dX12_image_53 : decode cX12_image 53 = .ok (.iinc 2 1, 3) := by decide +kernel
theorem dX12_image_56 : decode cX12_image 56 = .ok (.goto (-41), 3) := by decide +kernel
theorem dX12_image_59 : decode cX12_image 59 = .ok (.aload_n 0, 1) := by decide +kernel
theorem dX12_image_60 : decode cX12_image 60 = .ok (.iconst 1, 1) := by decide +kernel
theorem dX12_image_61 : decode cX12_image 61 = .ok (.putfield 431, 3) := by decide +kernel
theorem dX12_image_64 : decode cX12_image 64 = .ok (.iconst 1, 1) := by decide +kernel
theorem dX12_image_65 : decode cX12_image 65 = .ok (.ireturn, 1) := by decide +kernel
theorem dX12_look_0 : decode cX12_look 0 = .ok (.iload_n 1, 1) := by decide +kernel
theorem dX12_look_1 : decode cX12_look 1 = .ok (.tableswitch 110 0 7 #[47, 54, 62, 70, 78, 86, 94, 102], 47) := by decide +kernel
theorem dX12_look_48 : decode cX12_look 48 = .ok (.aload_n 0, 1) := by decide +kernel
theorem dX12_look_49 : decode cX12_look 49 = .ok (.getfield 7, 3) := by decide +kernel
theorem dX12_look_52 : decode cX12_look 52 = .ok (.iconst 0, 1) := by decide +kernel
theorem dX12_look_53 : decode cX12_look 53 = .ok (.iaload, 1) := by decide +kernel
theorem dX12_look_54 : decode cX12_look 54 = .ok (.ireturn, 1) := by decide +kernel
theorem dX12_look_55 : decode cX12_look 55 = .ok (.aload_n 0, 1) := by decide +kernel
theorem dX12_look_56 : decode cX12_look 56 = .ok (.getfield 7, 3) := by decide +kernel
theorem dX12_look_59 : decode cX12_look 59 = .ok (.bipush 16, 2) := by decide +kernel
theorem dX12_look_61 : decode cX12_look 61 = .ok (.iaload, 1) := by decide +kernel
theorem dX12_look_62 : decode cX12_look 62 = .ok (.ireturn, 1) := by decide +kernel
theorem dX12_look_63 : decode cX12_look 63 = .ok (.aload_n 0, 1) := by decide +kernel
theorem dX12_look_64 : decode cX12_look 64 = .ok (.getfield 7, 3) := by decide +kernel
theorem dX12_look_67 : decode cX12_look 67 = .ok (.bipush 17, 2) := by decide +kernel
theorem dX12_look_69 : decode cX12_look 69 = .ok (.iaload, 1) := by decide +kernel
theorem dX12_look_70 : decode cX12_look 70 = .ok (.ireturn, 1) := by decide +kernel
theorem dX12_look_71 : decode cX12_look 71 = .ok (.aload_n 0, 1) := by decide +kernel
theorem dX12_look_72 : decode cX12_look 72 = .ok (.getfield 7, 3) := by decide +kernel
theorem dX12_look_75 : decode cX12_look 75 = .ok (.bipush 18, 2) := by decide +kernel
theorem dX12_look_77 : decode cX12_look 77 = .ok (.iaload, 1) := by decide +kernel
theorem dX12_look_78 : decode cX12_look 78 = .ok (.ireturn, 1) := by decide +kernel
theorem dX12_look_79 : decode cX12_look 79 = .ok (.aload_n 0, 1) := by decide +kernel
theorem dX12_look_80 : decode cX12_look 80 = .ok (.getfield 7, 3) := by decide +kernel
theorem dX12_look_83 : decode cX12_look 83 = .ok (.bipush 19, 2) := by decide +kernel
theorem dX12_look_85 : decode cX12_look 85 = .ok (.iaload, 1) := by decide +kernel
theorem dX12_look_86 : decode cX12_look 86 = .ok (.ireturn, 1) := by decide +kernel
theorem dX12_look_87 : decode cX12_look 87 = .ok (.aload_n 0, 1) := by decide +kernel
theorem dX12_look_88 : decode cX12_look 88 = .ok (.getfield 7, 3) := by decide +kernel
theorem dX12_look_91 : decode cX12_look 91 = .ok (.bipush 40, 2) := by decide +kernel
theorem dX12_look_93 : decode cX12_look 93 = .ok (.iaload, 1) := by decide +kernel
theorem dX12_look_94 : decode cX12_look 94 = .ok (.ireturn, 1) := by decide +kernel
theorem dX12_look_95 : decode cX12_look 95 = .ok (.aload_n 0, 1) := by decide +kernel
theorem dX12_look_96 : decode cX12_look 96 = .ok (.getfield 7, 3) := by decide +kernel
theorem dX12_look_99 : decode cX12_look 99 = .ok (.bipush 41, 2) := by decide +kernel
theorem dX12_look_101 : decode cX12_look 101 = .ok (.iaload, 1) := by decide +kernel
theorem dX12_look_102 : decode cX12_look 102 = .ok (.ireturn, 1) := by decide +kernel
theorem dX12_look_103 : decode cX12_look 103 = .ok (.aload_n 0, 1) := by decide +kernel
theorem dX12_look_104 : decode cX12_look 104 = .ok (.getfield 7, 3) := by decide +kernel
theorem dX12_look_107 : decode cX12_look 107 = .ok (.bipush 42, 2) := by decide +kernel
theorem dX12_look_109 : decode cX12_look 109 = .ok (.iaload, 1) := by decide +kernel
theorem dX12_look_110 : decode cX12_look 110 = .ok (.ireturn, 1) := by decide +kernel
theorem dX12_look_111 : decode cX12_look 111 = .ok (.iload_n 1, 1) := by decide +kernel
theorem dX12_look_112 : decode cX12_look 112 = .ok (.bipush 10, 2) := by decide +kernel
theorem dX12_look_114 : decode cX12_look 114 = .ok (.bipush 15, 2) := by decide +kernel
theorem dX12_look_116 : decode cX12_look 116 = .ok (.invokestatic 119, 3) := by decide +kernel
theorem dX12_look_119 : decode cX12_look 119 = .ok (.ifCond .eq 19, 3) := by decide +kernel
theorem dX12_look_122 : decode cX12_look 122 = .ok (.aload_n 0, 1) := by decide +kernel
theorem dX12_look_123 : decode cX12_look 123 = .ok (.getfield 7, 3) := by decide +kernel
theorem dX12_look_126 : decode cX12_look 126 = .ok (.bipush 10, 2) := by decide +kernel
theorem dX12_look_128 : decode cX12_look 128 = .ok (.iload_n 1, 1) := by decide +kernel
theorem dX12_look_129 : decode cX12_look 129 = .ok (.iadd, 1) := by decide +kernel
theorem dX12_look_130 : decode cX12_look 130 = .ok (.bipush 10, 2) := by decide +kernel
theorem dX12_look_132 : decode cX12_look 132 = .ok (.isub, 1) := by decide +kernel
theorem dX12_look_133 : decode cX12_look 133 = .ok (.iaload, 1) := by decide +kernel
theorem dX12_look_134 : decode cX12_look 134 = .ok (.invokestatic 407, 3) := by decide +kernel
theorem dX12_look_137 : decode cX12_look 137 = .ok (.ireturn, 1) := by decide +kernel
theorem dX12_look_138 : decode cX12_look 138 = .ok (.iload_n 1, 1) := by decide +kernel
theorem dX12_look_139 : decode cX12_look 139 = .ok (.bipush 20, 2) := by decide +kernel
theorem dX12_look_141 : decode cX12_look 141 = .ok (.bipush 19, 2) := by decide +kernel
theorem dX12_look_143 : decode cX12_look 143 = .ok (.aload_n 0, 1) := by decide +kernel
theorem dX12_look_144 : decode cX12_look 144 = .ok (.getfield 7, 3) := by decide +kernel
theorem dX12_look_147 : decode cX12_look 147 = .ok (.bipush 18, 2) := by decide +kernel
theorem dX12_look_149 : decode cX12_look 149 = .ok (.iaload, 1) := by decide +kernel
theorem dX12_look_150 : decode cX12_look 150 = .ok (.iadd, 1) := by decide +kernel
theorem dX12_look_151 : decode cX12_look 151 = .ok (.invokestatic 119, 3) := by decide +kernel
theorem dX12_look_154 : decode cX12_look 154 = .ok (.ifCond .eq 19, 3) := by decide +kernel
theorem dX12_look_157 : decode cX12_look 157 = .ok (.aload_n 0, 1) := by decide +kernel
theorem dX12_look_158 : decode cX12_look 158 = .ok (.getfield 7, 3) := by decide +kernel
theorem dX12_look_161 : decode cX12_look 161 = .ok (.bipush 60, 2) := by decide +kernel
theorem dX12_look_163 : decode cX12_look 163 = .ok (.bipush 8, 2) := by decide +kernel
theorem dX12_look_165 : decode cX12_look 165 = .ok (.iload_n 1, 1) := by decide +kernel
theorem dX12_look_166 : decode cX12_look 166 = .ok (.bipush 20, 2) := by decide +kernel
theorem dX12_look_168 : decode cX12_look 168 = .ok (.isub, 1) := by decide +kernel
theorem dX12_look_169 : decode cX12_look 169 = .ok (.imul, 1) := by decide +kernel
theorem dX12_look_170 : decode cX12_look 170 = .ok (.iadd, 1) := by decide +kernel
theorem dX12_look_171 : decode cX12_look 171 = .ok (.iaload, 1) := by decide +kernel
theorem dX12_look_172 : decode cX12_look 172 = .ok (.ireturn, 1) := by decide +kernel
theorem dX12_look_173 : decode cX12_look 173 = .ok (.iload_n 1, 1) := by decide +kernel
theorem dX12_look_174 : decode cX12_look 174 = .ok (.bipush 40, 2) := by decide +kernel
theorem dX12_look_176 : decode cX12_look 176 = .ok (.bipush 39, 2) := by decide +kernel
theorem dX12_look_178 : decode cX12_look 178 = .ok (.aload_n 0, 1) := by decide +kernel
theorem dX12_look_179 : decode cX12_look 179 = .ok (.getfield 7, 3) := by decide +kernel
theorem dX12_look_182 : decode cX12_look 182 = .ok (.bipush 19, 2) := by decide +kernel
theorem dX12_look_184 : decode cX12_look 184 = .ok (.iaload, 1) := by decide +kernel
theorem dX12_look_185 : decode cX12_look 185 = .ok (.iadd, 1) := by decide +kernel
theorem dX12_look_186 : decode cX12_look 186 = .ok (.invokestatic 119, 3) := by decide +kernel
theorem dX12_look_189 : decode cX12_look 189 = .ok (.ifCond .eq 20, 3) := by decide +kernel
theorem dX12_look_192 : decode cX12_look 192 = .ok (.aload_n 0, 1) := by decide +kernel
theorem dX12_look_193 : decode cX12_look 193 = .ok (.getfield 7, 3) := by decide +kernel
theorem dX12_look_196 : decode cX12_look 196 = .ok (.sipush 156, 3) := by decide +kernel
theorem dX12_look_199 : decode cX12_look 199 = .ok (.bipush 8, 2) := by decide +kernel
theorem dX12_look_201 : decode cX12_look 201 = .ok (.iload_n 1, 1) := by decide +kernel
theorem dX12_look_202 : decode cX12_look 202 = .ok (.bipush 40, 2) := by decide +kernel
theorem dX12_look_204 : decode cX12_look 204 = .ok (.isub, 1) := by decide +kernel
theorem dX12_look_205 : decode cX12_look 205 = .ok (.imul, 1) := by decide +kernel
theorem dX12_look_206 : decode cX12_look 206 = .ok (.iadd, 1) := by decide +kernel
theorem dX12_look_207 : decode cX12_look 207 = .ok (.iaload, 1) := by decide +kernel
theorem dX12_look_208 : decode cX12_look 208 = .ok (.ireturn, 1) := by decide +kernel
theorem dX12_look_209 : decode cX12_look 209 = .ok (.iload_n 1, 1) := by decide +kernel
theorem dX12_look_210 : decode cX12_look 210 = .ok (.bipush 50, 2) := by decide +kernel
theorem dX12_look_212 : decode cX12_look 212 = .ok (.bipush 49, 2) := by decide +kernel
theorem dX12_look_214 : decode cX12_look 214 = .ok (.aload_n 0, 1) := by decide +kernel
theorem dX12_look_215 : decode cX12_look 215 = .ok (.getfield 7, 3) := by decide +kernel
theorem dX12_look_218 : decode cX12_look 218 = .ok (.bipush 17, 2) := by decide +kernel
theorem dX12_look_220 : decode cX12_look 220 = .ok (.iaload, 1) := by decide +kernel
theorem dX12_look_221 : decode cX12_look 221 = .ok (.iadd, 1) := by decide +kernel
theorem dX12_look_222 : decode cX12_look 222 = .ok (.invokestatic 119, 3) := by decide +kernel
theorem dX12_look_225 : decode cX12_look 225 = .ok (.ifCond .eq 18, 3) := by decide +kernel
theorem dX12_look_228 : decode cX12_look 228 = .ok (.aload_n 0, 1) := by decide +kernel
theorem dX12_look_229 : decode cX12_look 229 = .ok (.getfield 7, 3) := by decide +kernel
theorem dX12_look_232 : decode cX12_look 232 = .ok (.bipush 43, 2) := by decide +kernel
theorem dX12_look_234 : decode cX12_look 234 = .ok (.iload_n 1, 1) := by decide +kernel
theorem dX12_look_235 : decode cX12_look 235 = .ok (.iadd, 1) := by decide +kernel
theorem dX12_look_236 : decode cX12_look 236 = .ok (.bipush 50, 2) := by decide +kernel
theorem dX12_look_238 : decode cX12_look 238 = .ok (.isub, 1) := by decide +kernel
theorem dX12_look_239 : decode cX12_look 239 = .ok (.iaload, 1) := by decide +kernel
theorem dX12_look_240 : decode cX12_look 240 = .ok (.goto 4, 3) := by decide +kernel
theorem dX12_look_243 : decode cX12_look 243 = .ok (.iconst (-1), 1) := by decide +kernel
theorem dX12_look_244 : decode cX12_look 244 = .ok (.ireturn, 1) := by decide +kernel
