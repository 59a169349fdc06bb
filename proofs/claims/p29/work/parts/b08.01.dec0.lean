theorem dX12_isIn_0 : decode cX12_isIn 0 = .ok (.iload_n 0, 1) := by decide +kernel
theorem dX12_isIn_1 : decode cX12_isIn 1 = .ok (.iload_n 1, 1) := by decide +kernel
theorem dX12_isIn_2 : decode cX12_isIn 2 = .ok (.if_icmp .lt 12, 3) := by decide +kernel
theorem dX12_isIn_5 : decode cX12_isIn 5 = .ok (.iload_n 0, 1) := by decide +kernel
theorem dX12_isIn_6 : decode cX12_isIn 6 = .ok (.iload_n 2, 1) := by decide +kernel
theorem dX12_isIn_7 : decode cX12_isIn 7 = .ok (.if_icmp .gt 7, 3) := by decide +kernel
theorem dX12_isIn_10 : decode cX12_isIn 10 = .ok (.iconst 1, 1) := by decide +kernel
theorem dX12_isIn_11 : decode cX12_isIn 11 = .ok (.goto 4, 3) := by decide +kernel
theorem dX12_isIn_14 : decode cX12_isIn 14 = .ok (.iconst 0, 1) := by decide +kernel
theorem dX12_isIn_15 : decode cX12_isIn 15 = .ok (.ireturn, 1) := by decide +kernel
theorem dX12_count_0 : decode cX12_count 0 = .ok (.iconst 0, 1) := by decide +kernel
theorem dX12_count_1 : decode cX12_count 1 = .ok (.istore_n 1, 1) := by decide +kernel
theorem dX12_count_2 : decode cX12_count 2 = .ok (.iconst 0, 1) := by decide +kernel
theorem dX12_count_3 : decode cX12_count 3 = .ok (.istore_n 2, 1) := by decide +kernel
theorem dX12_count_4 : decode cX12_count 4 = .ok (.iload_n 2, 1) := by decide +kernel
theorem dX12_count_5 : decode cX12_count 5 = .ok (.bipush 10, 2) := by decide +kernel
theorem dX12_count_7 : decode cX12_count 7 = .ok (.if_icmp .ge 17, 3) := by decide +kernel
theorem dX12_count_10 : decode cX12_count 10 = .ok (.iload_n 1, 1) := by decide +kernel
theorem dX12_count_11 : decode cX12_count 11 = .ok (.iload_n 0, 1) := by decide +kernel
theorem dX12_count_12 : decode cX12_count 12 = .ok (.iload_n 2, 1) := by decide +kernel
theorem dX12_count_13 : decode cX12_count 13 = .ok (.ishr, 1) := by decide +kernel
theorem dX12_count_14 : decode cX12_count 14 = .ok (.iconst 1, 1) := by decide +kernel
theorem dX12_count_15 : decode cX12_count 15 = .ok (.iand, 1) := by decide +kernel
theorem dX12_count_16 : decode cX12_count 16 = .ok (.iadd, 1) := by decide +kernel
theorem dX12_count_17 : decode cX12_count 17 = .ok (.istore_n 1, 1) := by decide +kernel
theorem dX12_count_18 : decode cX12_count 18 = .ok (.iinc 2 1, 3) := by decide +kernel
theorem dX12_count_21 : decode cX12_count 21 = .ok (.goto (-17), 3) := by decide +kernel
theorem dX12_count_24 : decode cX12_count 24 = .ok (.iload_n 1, 1) := by decide +kernel
theorem dX12_count_25 : decode cX12_count 25 = .ok (.ireturn, 1) := by decide +kernel
theorem dX12_feed_0 : decode cX12_feed 0 = .ok (.aload_n 0, 1) := by decide +kernel
theorem dX12_feed_1 : decode cX12_feed 1 = .ok (.getfield 116, 3) := by decide +kernel
theorem dX12_feed_4 : decode cX12_feed 4 = .ok (.bipush 20, 2) := by decide +kernel
theorem dX12_feed_6 : decode cX12_feed 6 = .ok (.iadd, 1) := by decide +kernel
theorem dX12_feed_7 : decode cX12_feed 7 = .ok (.sipush 600, 3) := by decide +kernel
theorem dX12_feed_10 : decode cX12_feed 10 = .ok (.if_icmp .le 5, 3) := by decide +kernel
theorem dX12_feed_13 : decode cX12_feed 13 = .ok (.iconst (-1), 1) := by decide +kernel
theorem dX12_feed_14 : decode cX12_feed 14 = .ok (.ireturn, 1) := by decide +kernel
theorem dX12_feed_15 : decode cX12_feed 15 = .ok (.iconst 0, 1) := by decide +kernel
theorem dX12_feed_16 : decode cX12_feed 16 = .ok (.istore 6, 2) := by decide +kernel
theorem dX12_feed_18 : decode cX12_feed 18 = .ok (.iload 6, 2) := by decide +kernel
theorem dX12_feed_20 : decode cX12_feed 20 = .ok (.bipush 20, 2) := by decide +kernel
theorem dX12_feed_22 : decode cX12_feed 22 = .ok (.if_icmp .ge 93, 3) := by decide +kernel
theorem dX12_feed_25 : decode cX12_feed 25 = .ok (.iload 6, 2) := by decide +kernel
theorem dX12_feed_27 : decode cX12_feed 27 = .ok (.iconst 4, 1) := by decide +kernel
theorem dX12_feed_28 : decode cX12_feed 28 = .ok (.if_icmp .ge 7, 3) := by decide +kernel
theorem dX12_feed_31 : decode cX12_feed 31 = .ok (.iload_n 1, 1) := by decide +kernel
theorem dX12_feed_32 : decode cX12_feed 32 = .ok (.goto 39, 3) := by decide +kernel
theorem dX12_feed_35 : decode cX12_feed 35 = .ok (.iload 6, 2) := by decide +kernel
theorem dX12_feed_37 : decode cX12_feed 37 = .ok (.bipush 8, 2) := by decide +kernel
theorem dX12_feed_39 : decode cX12_feed 39 = .ok (.if_icmp .ge 7, 3) := by decide +kernel
theorem dX12_feed_42 : decode cX12_feed 42 = .ok (.iload_n 2, 1) := by decide +kernel
theorem dX12_feed_43 : decode cX12_feed 43 = .ok (.goto 28, 3) := by decide +kernel
theorem dX12_feed_46 : decode cX12_feed 46 = .ok (.iload 6, 2) := by decide +kernel
theorem dX12_feed_48 : decode cX12_feed 48 = .ok (.bipush 12, 2) := by decide +kernel
theorem dX12_feed_50 : decode cX12_feed 50 = .ok (.if_icmp .ge 7, 3) := by decide +kernel
theorem dX12_feed_53 : decode cX12_feed 53 = .ok (.iload_n 3, 1) := by decide +kernel
theorem dX12_feed_54 : decode cX12_feed 54 = .ok (.goto 17, 3) := by decide +kernel
theorem dX12_feed_57 : decode cX12_feed 57 = .ok (.iload 6, 2) := by decide +kernel
theorem dX12_feed_59 : decode cX12_feed 59 = .ok (.bipush 16, 2) := by decide +kernel
theorem dX12_feed_61 : decode cX12_feed 61 = .ok (.if_icmp .ge 8, 3) := by decide +kernel
theorem dX12_feed_64 : decode cX12_feed 64 = .ok (.iload 4, 2) := by decide +kernel
theorem dX12_feed_66 : decode cX12_feed 66 = .ok (.goto 5, 3) := by decide +kernel
theorem dX12_feed_69 : decode cX12_feed 69 = .ok (.iload 5, 2) := by decide +kernel
theorem dX12_feed_71 : decode cX12_feed 71 = .ok (.istore 7, 2) := by decide +kernel
theorem dX12_feed_73 : decode cX12_feed 73 = .ok (.aload_n 0, 1) := by decide +kernel
theorem dX12_feed_74 : decode cX12_feed 74 = .ok (.getfield 19, 3) := by decide +kernel
theorem dX12_feed_77 : decode cX12_feed 77 = .ok (.aload_n 0, 1) := by decide +kernel
theorem dX12_feed_78 : decode cX12_feed 78 = .ok (.getfield 116, 3) := by decide +kernel
theorem dX12_feed_81 : decode cX12_feed 81 = .ok (.iload 7, 2) := by decide +kernel
theorem dX12_feed_83 : decode cX12_feed 83 = .ok (.bipush 24, 2) := by decide +kernel
theorem dX12_feed_85 : decode cX12_feed 85 = .ok (.bipush 8, 2) := by decide +kernel
theorem dX12_feed_87 : decode cX12_feed 87 = .ok (.iload 6, 2) := by decide +kernel
theorem dX12_feed_89 : decode cX12_feed 89 = .ok (.iconst 4, 1) := by decide +kernel
theorem dX12_feed_90 : decode cX12_feed 90 = .ok (.irem, 1) := by decide +kernel
theorem dX12_feed_91 : decode cX12_feed 91 = .ok (.imul, 1) := by decide +kernel
theorem dX12_feed_92 : decode cX12_feed 92 = .ok (.isub, 1) := by decide +kernel
theorem dX12_feed_93 : decode cX12_feed 93 = .ok (.ishr, 1) := by decide +kernel
theorem dX12_feed_94 : decode cX12_feed 94 = .ok (.sipush 255, 3) := by decide +kernel
theorem dX12_feed_97 : decode cX12_feed 97 = .ok (.iand, 1) := by decide +kernel
theorem dX12_feed_98 : decode cX12_feed 98 = .ok (.iastore, 1) := by decide +kernel
theorem dX12_feed_99 : decode cX12_feed 99 = .ok (.aload_n 0, 1) := by decide +kernel
theorem dX12_feed_100 : decode cX12_feed 100 = .ok (.dup, 1) := by decide +kernel
theorem dX12_feed_101 : decode cX12_feed 101 = .ok (.getfield 116, 3) := by decide +kernel
theorem dX12_feed_104 : decode cX12_feed 104 = .ok (.iconst 1, 1) := by decide +kernel
theorem dX12_feed_105 : decode cX12_feed 105 = .ok (.iadd, 1) := by decide +kernel
theorem dX12_feed_106 : decode cX12_feed 106 = .ok (.putfield 116, 3) := by decide +kernel
theorem dX12_feed_109 : decode cX12_feed 109 = .ok (.iinc 6 1, 3) := by decide +kernel
theorem dX12_feed_112 : decode cX12_feed 112 = .ok (.goto (-94), 3) := by decide +kernel
theorem dX12_feed_115 : decode cX12_feed 115 = .ok (.aload_n 0, 1) := by decide +kernel
theorem dX12_feed_116 : decode cX12_feed 116 = .ok (.getfield 116, 3) := by decide +kernel
theorem dX12_feed_119 : decode cX12_feed 119 = .ok (.ireturn, 1) := by decide +kernel
theorem dX12_end_0 : decode cX12_end 0 = .ok (.iload_n 1, 1) := by decide +kernel
theorem dX12_end_1 : decode cX12_end 1 = .ok (.iconst 0, 1) := by decide +kernel
theorem dX12_end_2 : decode cX12_end 2 = .ok (.aload_n 0, 1) := by decide +kernel
theorem dX12_end_3 : decode cX12_end 3 = .ok (.getfield 116, 3) := by decide +kernel
theorem dX12_end_6 : decode cX12_end 6 = .ok (.invokestatic 119, 3) := by decide +kernel
theorem dX12_end_9 : decode cX12_end 9 = .ok (.ifCond .ne 5, 3) := by decide +kernel
theorem dX12_end_12 : decode cX12_end 12 = .ok (.iconst 0, 1) := by decide +kernel
theorem dX12_end_13 : decode cX12_end 13 = .ok (.ireturn, 1) := by decide +kernel
theorem dX12_end_14 : decode cX12_end 14 = .ok (.aload_n 0, 1) := by decide +kernel
theorem dX12_end_15 : decode cX12_end 15 = .ok (.iload_n 1, 1) := by decide +kernel
theorem dX12_end_16 : decode cX12_end 16 = .ok (.putfield 116, 3) := by decide +kernel
theorem dX12_end_19 : decode cX12_end 19 = .ok (.iconst 1, 1) := by decide +kernel
theorem dX12_end_20 : decode cX12_end 20 = .ok (.ireturn, 1) := by decide +kernel
theorem dX12_see_0 : decode cX12_see 0 = .ok (.iload_n 1, 1) := by decide +kernel
theorem dX12_see_1 : decode cX12_see 1 = .ok (.aload_n 0, 1) := by decide +kernel
theorem dX12_see_2 : decode cX12_see 2 = .ok (.getfield 116, 3) := by decide +kernel
theorem dX12_see_5 : decode cX12_see 5 = .ok (.if_icmp .ge 12, 3) := by decide +kernel
theorem dX12_see_8 : decode cX12_see 8 = .ok (.aload_n 0, 1) := by decide +kernel
theorem dX12_see_9 : decode cX12_see 9 = .ok (.getfield 19, 3) := by decide +kernel
theorem dX12_see_12 : decode cX12_see 12 = .ok (.iload_n 1, 1) := by decide +kernel
theorem dX12_see_13 : decode cX12_see 13 = .ok (.iaload, 1) := by decide +kernel
theorem dX12_see_14 : decode cX12_see 14 = .ok (.goto 4, 3) := by decide +kernel
theorem dX12_see_17 : decode cX12_see 17 = .ok (.iconst (-1), 1) := by decide +kernel
theorem dX12_see_18 : decode cX12_see 18 = .ok (.ireturn, 1) := by decide +kernel
theorem dX12_isSmall_0 : decode cX12_isSmall 0 = .ok (.iload_n 0, 1) := by decide +kernel
theorem dX12_isSmall_1 : decode cX12_isSmall 1 = .ok (.bipush 97, 2) := by decide +kernel
theorem dX12_isSmall_3 : decode cX12_isSmall 3 = .ok (.bipush 122, 2) := by decide +kernel
theorem dX12_isSmall_5 : decode cX12_isSmall 5 = .ok (.invokestatic 119, 3) := by decide +kernel
theorem dX12_isSmall_8 : decode cX12_isSmall 8 = .ok (.ireturn, 1) := by decide +kernel
theorem dX12_blanks_0 : decode cX12_blanks 0 = .ok (.aload_n 0, 1) := by decide +kernel
theorem dX12_blanks_1 : decode cX12_blanks 1 = .ok (.aload_n 0, 1) := by decide +kernel
theorem dX12_blanks_2 : decode cX12_blanks 2 = .ok (.getfield 123, 3) := by decide +kernel
theorem dX12_blanks_5 : decode cX12_blanks 5 = .ok (.invokevirtual 126, 3) := by decide +kernel
theorem dX12_blanks_8 : decode cX12_blanks 8 = .ok (.bipush 32, 2) := by decide +kernel
theorem dX12_blanks_10 : decode cX12_blanks 10 = .ok (.if_icmp .eq 16, 3) := by decide +kernel
theorem dX12_blanks_13 : decode cX12_blanks 13 = .ok (.aload_n 0, 1) := by decide +kernel
theorem dX12_blanks_14 : decode cX12_blanks 14 = .ok (.aload_n 0, 1) := by decide +kernel
theorem dX12_blanks_15 : decode cX12_blanks 15 = .ok (.getfield 123, 3) := by decide +kernel
theorem dX12_blanks_18 : decode cX12_blanks 18 = .ok (.invokevirtual 126, 3) := by decide +kernel
theorem dX12_blanks_21 : decode cX12_blanks 21 = .ok (.bipush 10, 2) := by decide +kernel
theorem dX12_blanks_23 : decode cX12_blanks 23 = .ok (.if_icmp .ne 16, 3) := by decide +kernel
theorem dX12_blanks_26 : decode cX12_blanks 26 = .ok (.aload_n 0, 1) := by decide +kernel
theorem dX12_blanks_27 : decode cX12_blanks 27 = .ok (.dup, 1) := by decide +kernel
theorem dX12_blanks_28 : decode cX12_blanks 28 = .ok (.getfield 123, 3) := by decide +kernel
theorem dX12_blanks_31 : decode cX12_blanks 31 = .ok (.iconst 1, 1) := by decide +kernel
theorem dX12_blanks_32 : decode cX12_blanks 32 = .ok (.iadd, 1) := by decide +kernel
theorem dX12_blanks_33 : decode cX12_blanks 33 = .ok (.putfield 123, 3) := by decide +kernel
theorem dX12_blanks_36 : decode cX12_blanks 36 = .ok (.goto (-36), 3) := by decide +kernel
theorem dX12_blanks_39 : decode cX12_blanks 39 = .ok (.return_, 1) := by decide +kernel
theorem dX12_sign_0 : decode cX12_sign 0 = .ok (.aload_n 0, 1) := by decide +kernel
theorem dX12_sign_1 : decode cX12_sign 1 = .ok (.invokevirtual 130, 3) := by decide +kernel
theorem dX12_sign_4 : decode cX12_sign 4 = .ok (.aload_n 0, 1) := by decide +kernel
theorem dX12_sign_5 : decode cX12_sign 5 = .ok (.aload_n 0, 1) := by decide +kernel
theorem dX12_sign_6 : decode cX12_sign 6 = .ok (.getfield 123, 3) := by decide +kernel
theorem dX12_sign_9 : decode cX12_sign 9 = .ok (.invokevirtual 126, 3) := by decide +kernel
theorem dX12_sign_12 : decode cX12_sign 12 = .ok (.ireturn, 1) := by decide +kernel
theorem dX12_bad_0 : decode cX12_bad 0 = .ok (.aload_n 0, 1) := by decide +kernel
theorem dX12_bad_1 : decode cX12_bad 1 = .ok (.iload_n 1, 1) := by decide +kernel
theorem dX12_bad_2 : decode cX12_bad 2 = .ok (.putfield 133, 3) := by decide +kernel
theorem dX12_bad_5 : decode cX12_bad 5 = .ok (.aload_n 0, 1) := by decide +kernel
theorem dX12_bad_6 : decode cX12_bad 6 = .ok (.iload_n 2, 1) := by decide +kernel
theorem dX12_bad_7 : decode cX12_bad 7 = .ok (.putfield 136, 3) := by decide +kernel
theorem dX12_bad_10 : decode cX12_bad 10 = .ok (.iconst 0, 1) := by decide +kernel
theorem dX12_bad_11 : decode cX12_bad 11 = .ok (.ireturn, 1) := by decide +kernel
theorem dX12_takes_0 : decode cX12_takes 0 = .ok (.aload_n 0, 1) := by decide +kernel
theorem dX12_takes_1 : decode cX12_takes 1 = .ok (.invokevirtual 139, 3) := by decide +kernel
theorem dX12_takes_4 : decode cX12_takes 4 = .ok (.iload_n 1, 1) := by decide +kernel
theorem dX12_takes_5 : decode cX12_takes 5 = .ok (.if_icmp .eq 13, 3) := by decide +kernel
theorem dX12_takes_8 : decode cX12_takes 8 = .ok (.aload_n 0, 1) := by decide +kernel
theorem dX12_takes_9 : decode cX12_takes 9 = .ok (.iconst 1, 1) := by decide +kernel
theorem dX12_takes_10 : decode cX12_takes 10 = .ok (.aload_n 0, 1) := by decide +kernel
theorem dX12_takes_11 : decode cX12_takes 11 = .ok (.getfield 123, 3) := by decide +kernel
theorem dX12_takes_14 : decode cX12_takes 14 = .ok (.invokevirtual 143, 3) := by decide +kernel
theorem dX12_takes_17 : decode cX12_takes 17 = .ok (.ireturn, 1) := by decide +kernel
theorem dX12_takes_18 : decode cX12_takes 18 = .ok (.aload_n 0, 1) := by decide +kernel
theorem dX12_takes_19 : decode cX12_takes 19 = .ok (.dup, 1) := by decide +kernel
theorem dX12_takes_20 : decode cX12_takes 20 = .ok (.getfield 123, 3) := by decide +kernel
theorem dX12_takes_23 : decode cX12_takes 23 = .ok (.iconst 1, 1) := by decide +kernel
theorem dX12_takes_24 : decode cX12_takes 24 = .ok (.iadd, 1) := by decide +kernel
theorem dX12_takes_25 : decode cX12_takes 25 = .ok (.putfield 123, 3) := by decide +kernel
theorem dX12_takes_28 : decode cX12_takes 28 = .ok (.iconst 1, 1) := by decide +kernel
theorem dX12_takes_29 : decode cX12_takes 29 = .ok (.ireturn, 1) := by decide +kernel
theorem dX12_is_0 : decode cX12_is 0 = .ok (.iload_n 2, 1) := by decide +kernel
theorem dX12_is_1 : decode cX12_is 1 = .ok (.iload_n 1, 1) := by decide +kernel
theorem dX12_is_2 : decode cX12_is 2 = .ok (.isub, 1) := by decide +kernel
theorem dX12_is_3 : decode cX12_is 3 = .ok (.aload_n 3, 1) := by decide +kernel
theorem dX12_is_4 : decode cX12_is 4 = .ok (.invokevirtual 147, 3) := by decide +kernel
theorem dX12_is_7 : decode cX12_is 7 = .ok (.if_icmp .ne 7, 3) := by decide +kernel
theorem dX12_is_10 : decode cX12_is 10 = .ok (.iconst 1, 1) := by decide +kernel
theorem dX12_is_11 : decode cX12_is 11 = .ok (.goto 4, 3) := by decide +kernel
theorem dX12_is_14 : decode cX12_is 14 = .ok (.iconst 0, 1) := by decide +kernel
theorem dX12_is_15 : decode cX12_is 15 = .ok (.istore 4, 2) := by decide +kernel
theorem dX12_is_17 : decode cX12_is 17 = .ok (.iconst 0, 1) := by decide +kernel
theorem dX12_is_18 : decode cX12_is 18 = .ok (.istore 5, 2) := by decide +kernel
theorem dX12_is_20 : decode cX12_is 20 = .ok (.iload 5, 2) := by decide +kernel
theorem dX12_is_22 : decode cX12_is 22 = .ok (.aload_n 3, 1) := by decide +kernel
theorem dX12_is_23 : decode cX12_is 23 = .ok (.invokevirtual 147, 3) := by decide +kernel
theorem dX12_is_26 : decode cX12_is 26 = .ok (.if_icmp .ge 39, 3) := by decide +kernel
theorem dX12_is_29 : decode cX12_is 29 = .ok (.iload 4, 2) := by decide +kernel
theorem dX12_is_31 : decode cX12_is 31 = .ok (.ifCond .eq 34, 3) := by decide +kernel
theorem dX12_is_34 : decode cX12_is 34 = .ok (.aload_n 0, 1) := by decide +kernel
theorem dX12_is_35 : decode cX12_is 35 = .ok (.getfield 19, 3) := by decide +kernel
theorem dX12_is_38 : decode cX12_is 38 = .ok (.iload_n 1, 1) := by decide +kernel
theorem dX12_is_39 : decode cX12_is 39 = .ok (.iload 5, 2) := by decide +kernel
theorem dX12_is_41 : decode cX12_is 41 = .ok (.iadd, 1) := by decide +kernel
theorem dX12_is_42 : decode cX12_is 42 = .ok (.iaload, 1) := by decide +kernel
theorem dX12_is_43 : decode cX12_is 43 = .ok (.aload_n 3, 1) := by decide +kernel
theorem dX12_is_44 : decode cX12_is 44 = .ok (.iload 5, 2) := by decide +kernel
theorem dX12_is_46 : decode cX12_is 46 = .ok (.invokevirtual 152, 3) := by decide +kernel
theorem dX12_is_49 : decode cX12_is 49 = .ok (.if_icmp .ne 7, 3) := by decide +kernel
theorem dX12_is_52 : decode cX12_is 52 = .ok (.iconst 1, 1) := by decide +kernel
theorem dX12_is_53 : decode cX12_is 53 = .ok (.goto 4, 3) := by decide +kernel
theorem dX12_is_56 : decode cX12_is 56 = .ok (.iconst 0, 1) := by decide +kernel
theorem dX12_is_57 : decode cX12_is 57 = .ok (.istore 4, 2) := by decide +kernel
theorem dX12_is_59 : decode cX12_is 59 = .ok (.iinc 5 1, 3) := by decide +kernel
theorem dX12_is_62 : decode cX12_is 62 = .ok (.goto (-42), 3) := by decide +kernel
theorem dX12_is_65 : decode cX12_is 65 = .ok (.iload 4, 2) := by decide +kernel
theorem dX12_is_67 : decode cX12_is 67 = .ok (.ireturn, 1) := by decide +kernel
theorem dX12_letterIn_0 : decode cX12_letterIn 0 = .ok (.iconst 0, 1) := by decide +kernel
theorem dX12_letterIn_1 : decode cX12_letterIn 1 = .ok (.istore_n 2, 1) := by decide +kernel
theorem dX12_letterIn_2 : decode cX12_letterIn 2 = .ok (.iload_n 2, 1) := by decide +kernel
theorem dX12_letterIn_3 : decode cX12_letterIn 3 = .ok (.aload_n 0, 1) := by decide +kernel
theorem dX12_letterIn_4 : decode cX12_letterIn 4 = .ok (.iconst 0, 1) := by decide +kernel
theorem dX12_letterIn_5 : decode cX12_letterIn 5 = .ok (.iaload, 1) := by decide +kernel
theorem dX12_letterIn_6 : decode cX12_letterIn 6 = .ok (.if_icmp .ge 22, 3) := by decide +kernel
theorem dX12_letterIn_9 : decode cX12_letterIn 9 = .ok (.aload_n 0, 1) := by decide +kernel
theorem dX12_letterIn_10 : decode cX12_letterIn 10 = .ok (.iconst 1, 1) := by decide +kernel
theorem dX12_letterIn_11 : decode cX12_letterIn 11 = .ok (.iload_n 2, 1) := by decide +kernel
theorem dX12_letterIn_12 : decode cX12_letterIn 12 = .ok (.iadd, 1) := by decide +kernel
theorem dX12_letterIn_13 : decode cX12_letterIn 13 = .ok (.iaload, 1) := by decide +kernel
theorem dX12_letterIn_14 : decode cX12_letterIn 14 = .ok (.iload_n 1, 1) := by decide +kernel
theorem dX12_letterIn_15 : decode cX12_letterIn 15 = .ok (.if_icmp .ne 7, 3) := by decide +kernel
theorem dX12_letterIn_18 : decode cX12_letterIn 18 = .ok (.iload_n 2, 1) := by decide +kernel
theorem dX12_letterIn_19 : decode cX12_letterIn 19 = .ok (.iconst 1, 1) := by decide +kernel
theorem dX12_letterIn_20 : decode cX12_letterIn 20 = .ok (.iadd, 1) := by decide +kernel
theorem dX12_letterIn_21 : decode cX12_letterIn 21 = .ok (.ireturn, 1) := by decide +kernel
theorem dX12_letterIn_22 : decode cX12_letterIn 22 = .ok (.iinc 2 1, 3) := by decide +kernel
theorem dX12_letterIn_25 : decode cX12_letterIn 25 = .ok (.goto (-23), 3) := by decide +kernel
theorem dX12_letterIn_28 : decode cX12_letterIn 28 = .ok (.iconst 0, 1) := by decide +kernel
theorem dX12_letterIn_29 : decode cX12_letterIn 29 = .ok (.ireturn, 1) := by decide +kernel
theorem dX12_hasPair_0 : decode cX12_hasPair 0 = .ok (.iconst 0, 1) := by decide +kernel
theorem dX12_hasPair_1 : decode cX12_hasPair 1 = .ok (.istore_n 3, 1) := by decide +kernel
theorem dX12_hasPair_2 : decode cX12_hasPair 2 = .ok (.iload_n 3, 1) := by decide +kernel
theorem dX12_hasPair_3 : decode cX12_hasPair 3 = .ok (.aload_n 0, 1) := by decide +kernel
theorem dX12_hasPair_4 : decode cX12_hasPair 4 = .ok (.bipush 16, 2) := by decide +kernel
theorem dX12_hasPair_6 : decode cX12_hasPair 6 = .ok (.iaload, 1) := by decide +kernel
theorem dX12_hasPair_7 : decode cX12_hasPair 7 = .ok (.if_icmp .ge 26, 3) := by decide +kernel
theorem dX12_hasPair_10 : decode cX12_hasPair 10 = .ok (.aload_n 0, 1) := by decide +kernel
theorem dX12_hasPair_11 : decode cX12_hasPair 11 = .ok (.bipush 20, 2) := by decide +kernel
theorem dX12_hasPair_13 : decode cX12_hasPair 13 = .ok (.iload_n 3, 1) := by decide +kernel
theorem dX12_hasPair_14 : decode cX12_hasPair 14 = .ok (.iadd, 1) := by decide +kernel
theorem dX12_hasPair_15 : decode cX12_hasPair 15 = .ok (.iaload, 1) := by decide +kernel
theorem dX12_hasPair_16 : decode cX12_hasPair 16 = .ok (.bipush 9, 2) := by decide +kernel
theorem dX12_hasPair_18 : decode cX12_hasPair 18 = .ok (.iload_n 1, 1) := by decide +kernel
theorem dX12_hasPair_19 : decode cX12_hasPair 19 = .ok (.imul, 1) := by decide +kernel
theorem dX12_hasPair_20 : decode cX12_hasPair 20 = .ok (.iload_n 2, 1) := by decide +kernel
theorem dX12_hasPair_21 : decode cX12_hasPair 21 = .ok (.iadd, 1) := by decide +kernel
theorem dX12_hasPair_22 : decode cX12_hasPair 22 = .ok (.if_icmp .ne 5, 3) := by decide +kernel
theorem dX12_hasPair_25 : decode cX12_hasPair 25 = .ok (.iconst 1, 1) := by decide +kernel
theorem dX12_hasPair_26 : decode cX12_hasPair 26 = .ok (.ireturn, 1) := by decide +kernel
theorem dX12_hasPair_27 : decode cX12_hasPair 27 = .ok (.iinc 3 1, 3) := by decide +kernel
theorem dX12_hasPair_30 : decode cX12_hasPair 30 = .ok (.goto (-28), 3) := by decide +kernel
theorem dX12_hasPair_33 : decode cX12_hasPair 33 = .ok (.iconst 0, 1) := by decide +kernel
theorem dX12_hasPair_34 : decode cX12_hasPair 34 = .ok (.ireturn, 1) := by decide +kernel
theorem dX12_takesS_0 : decode cX12_takesS 0 = .ok (.aload_n 0, 1) := by decide +kernel
theorem dX12_takesS_1 : decode cX12_takesS 1 = .ok (.invokevirtual 139, 3) := by decide +kernel
theorem dX12_takesS_4 : decode cX12_takesS 4 = .ok (.istore_n 1, 1) := by decide +kernel
theorem dX12_takesS_5 : decode cX12_takesS 5 = .ok (.iload_n 1, 1) := by decide +kernel
theorem dX12_takesS_6 : decode cX12_takesS 6 = .ok (.bipush 48, 2) := by decide +kernel
theorem dX12_takesS_8 : decode cX12_takesS 8 = .ok (.if_icmp .ne 20, 3) := by decide +kernel
theorem dX12_takesS_11 : decode cX12_takesS 11 = .ok (.aload_n 0, 1) := by decide +kernel
theorem dX12_takesS_12 : decode cX12_takesS 12 = .ok (.iconst 0, 1) := by decide +kernel
theorem dX12_takesS_13 : decode cX12_takesS 13 = .ok (.putfield 156, 3) := by decide +kernel
theorem dX12_takesS_16 : decode cX12_takesS 16 = .ok (.aload_n 0, 1) := by decide +kernel
theorem dX12_takesS_17 : decode cX12_takesS 17 = .ok (.dup, 1) := by decide +kernel
theorem dX12_takesS_18 : decode cX12_takesS 18 = .ok (.getfield 123, 3) := by decide +kernel
theorem dX12_takesS_21 : decode cX12_takesS 21 = .ok (.iconst 1, 1) := by decide +kernel
theorem dX12_takesS_22 : decode cX12_takesS 22 = .ok (.iadd, 1) := by decide +kernel
theorem dX12_takesS_23 : decode cX12_takesS 23 = .ok (.putfield 123, 3) := by decide +kernel
theorem dX12_takesS_26 : decode cX12_takesS 26 = .ok (.iconst 1, 1) := by decide +kernel
theorem dX12_takesS_27 : decode cX12_takesS 27 = .ok (.ireturn, 1) := by decide +kernel
theorem dX12_takesS_28 : decode cX12_takesS 28 = .ok (.iload_n 1, 1) := by decide +kernel
theorem dX12_takesS_29 : decode cX12_takesS 29 = .ok (.invokestatic 159, 3) := by decide +kernel
theorem dX12_takesS_32 : decode cX12_takesS 32 = .ok (.ifCond .ne 13, 3) := by decide +kernel
theorem dX12_takesS_35 : decode cX12_takesS 35 = .ok (.aload_n 0, 1) := by decide +kernel
theorem dX12_takesS_36 : decode cX12_takesS 36 = .ok (.iconst 1, 1) := by decide +kernel
theorem dX12_takesS_37 : decode cX12_takesS 37 = .ok (.aload_n 0, 1) := by decide +kernel
theorem dX12_takesS_38 : decode cX12_takesS 38 = .ok (.getfield 123, 3) := by decide +kernel
theorem dX12_takesS_41 : decode cX12_takesS 41 = .ok (.invokevirtual 143, 3) := by decide +kernel
theorem dX12_takesS_44 : decode cX12_takesS 44 = .ok (.ireturn, 1) := by decide +kernel
theorem dX12_takesS_45 : decode cX12_takesS 45 = .ok (.aload_n 0, 1) := by decide +kernel
theorem dX12_takesS_46 : decode cX12_takesS 46 = .ok (.aload_n 0, 1) := by decide +kernel
theorem dX12_takesS_47 : decode cX12_takesS 47 = .ok (.getfield 13, 3) := by decide +kernel
theorem dX12_takesS_50 : decode cX12_takesS 50 = .ok (.iload_n 1, 1) := by decide +kernel
theorem dX12_takesS_51 : decode cX12_takesS 51 = .ok (.invokestatic 163, 3) := by decide +kernel
theorem dX12_takesS_54 : decode cX12_takesS 54 = .ok (.putfield 156, 3) := by decide +kernel
theorem dX12_takesS_57 : decode cX12_takesS 57 = .ok (.aload_n 0, 1) := by decide +kernel
theorem dX12_takesS_58 : decode cX12_takesS 58 = .ok (.getfield 156, 3) := by decide +kernel
theorem dX12_takesS_61 : decode cX12_takesS 61 = .ok (.ifCond .ne 13, 3) := by decide +kernel
theorem dX12_takesS_64 : decode cX12_takesS 64 = .ok (.aload_n 0, 1) := by decide +kernel
theorem dX12_takesS_65 : decode cX12_takesS 65 = .ok (.iconst 2, 1) := by decide +kernel
theorem dX12_takesS_66 : decode cX12_takesS 66 = .ok (.aload_n 0, 1) := by decide +kernel
theorem dX12_takesS_67 : decode cX12_takesS 67 = .ok (.getfield 123, 3) := by decide +kernel
theorem dX12_takesS_70 : decode cX12_takesS 70 = .ok (.invokevirtual 143, 3) := by decide +kernel
theorem dX12_takesS_73 : decode cX12_takesS 73 = .ok (.ireturn, 1) := by decide +kernel
theorem dX12_takesS_74 : decode cX12_takesS 74 = .ok (.aload_n 0, 1) := by decide +kernel
theorem dX12_takesS_75 : decode cX12_takesS 75 = .ok (.dup, 1) := by decide +kernel
theorem dX12_takesS_76 : decode cX12_takesS 76 = .ok (.getfield 123, 3) := by decide +kernel
theorem dX12_takesS_79 : decode cX12_takesS 79 = .ok (.iconst 1, 1) := by decide +kernel
theorem dX12_takesS_80 : decode cX12_takesS 80 = .ok (.iadd, 1) := by decide +kernel
theorem dX12_takesS_81 : decode cX12_takesS 81 = .ok (.putfield 123, 3) := by decide +kernel
theorem dX12_takesS_84 : decode cX12_takesS 84 = .ok (.iconst 1, 1) := by decide +kernel
theorem dX12_takesS_85 : decode cX12_takesS 85 = .ok (.ireturn, 1) := by decide +kernel
theorem dX12_takesPair_0 : decode cX12_takesPair 0 = .ok (.aload_n 0, 1) := by decide +kernel
theorem dX12_takesPair_1 : decode cX12_takesPair 1 = .ok (.invokevirtual 130, 3) := by decide +kernel
theorem dX12_takesPair_4 : decode cX12_takesPair 4 = .ok (.aload_n 0, 1) := by decide +kernel
theorem dX12_takesPair_5 : decode cX12_takesPair 5 = .ok (.getfield 123, 3) := by decide +kernel
theorem dX12_takesPair_8 : decode cX12_takesPair 8 = .ok (.istore_n 1, 1) := by decide +kernel
theorem dX12_takesPair_9 : decode cX12_takesPair 9 = .ok (.aload_n 0, 1) := by decide +kernel
theorem dX12_takesPair_10 : decode cX12_takesPair 10 = .ok (.invokevirtual 167, 3) := by decide +kernel
theorem dX12_takesPair_13 : decode cX12_takesPair 13 = .ok (.ifCond .ne 5, 3) := by decide +kernel
theorem dX12_takesPair_16 : decode cX12_takesPair 16 = .ok (.iconst 0, 1) := by decide +kernel
theorem dX12_takesPair_17 : decode cX12_takesPair 17 = .ok (.ireturn, 1) := by decide +kernel
theorem dX12_takesPair_18 : decode cX12_takesPair 18 = .ok (.aload_n 0, 1) := by decide +kernel
theorem dX12_takesPair_19 : decode cX12_takesPair 19 = .ok (.aload_n 0, 1) := by decide +kernel
theorem dX12_takesPair_20 : decode cX12_takesPair 20 = .ok (.getfield 156, 3) := by decide +kernel
theorem dX12_takesPair_23 : decode cX12_takesPair 23 = .ok (.putfield 171, 3) := by decide +kernel
theorem dX12_takesPair_26 : decode cX12_takesPair 26 = .ok (.aload_n 0, 1) := by decide +kernel
theorem dX12_takesPair_27 : decode cX12_takesPair 27 = .ok (.bipush 58, 2) := by decide +kernel
theorem dX12_takesPair_29 : decode cX12_takesPair 29 = .ok (.invokevirtual 174, 3) := by decide +kernel
theorem dX12_takesPair_32 : decode cX12_takesPair 32 = .ok (.ifCond .eq 10, 3) := by decide +kernel
theorem dX12_takesPair_35 : decode cX12_takesPair 35 = .ok (.aload_n 0, 1) := by decide +kernel
theorem dX12_takesPair_36 : decode cX12_takesPair 36 = .ok (.invokevirtual 167, 3) := by decide +kernel
theorem dX12_takesPair_39 : decode cX12_takesPair 39 = .ok (.ifCond .ne 5, 3) := by decide +kernel
theorem dX12_takesPair_42 : decode cX12_takesPair 42 = .ok (.iconst 0, 1) := by decide +kernel
theorem dX12_takesPair_43 : decode cX12_takesPair 43 = .ok (.ireturn, 1) := by decide +kernel
theorem dX12_takesPair_44 : decode cX12_takesPair 44 = .ok (.aload_n 0, 1) := by decide +kernel
theorem dX12_takesPair_45 : decode cX12_takesPair 45 = .ok (.aload_n 0, 1) := by decide +kernel
theorem dX12_takesPair_46 : decode cX12_takesPair 46 = .ok (.getfield 156, 3) := by decide +kernel
theorem dX12_takesPair_49 : decode cX12_takesPair 49 = .ok (.putfield 177, 3) := by decide +kernel
theorem dX12_takesPair_52 : decode cX12_takesPair 52 = .ok (.aload_n 0, 1) := by decide +kernel
theorem dX12_takesPair_53 : decode cX12_takesPair 53 = .ok (.getfield 171, 3) := by decide +kernel
theorem dX12_takesPair_56 : decode cX12_takesPair 56 = .ok (.ifCond .ne 17, 3) := by decide +kernel
theorem dX12_takesPair_59 : decode cX12_takesPair 59 = .ok (.aload_n 0, 1) := by decide +kernel
theorem dX12_takesPair_60 : decode cX12_takesPair 60 = .ok (.getfield 177, 3) := by decide +kernel
theorem dX12_takesPair_63 : decode cX12_takesPair 63 = .ok (.ifCond .ne 10, 3) := by decide +kernel
theorem dX12_takesPair_66 : decode cX12_takesPair 66 = .ok (.aload_n 0, 1) := by decide +kernel
theorem dX12_takesPair_67 : decode cX12_takesPair 67 = .ok (.iconst 2, 1) := by decide +kernel
theorem dX12_takesPair_68 : decode cX12_takesPair 68 = .ok (.iload_n 1, 1) := by decide +kernel
theorem dX12_takesPair_69 : decode cX12_takesPair 69 = .ok (.invokevirtual 143, 3) := by decide +kernel
theorem dX12_takesPair_72 : decode cX12_takesPair 72 = .ok (.ireturn, 1) := by decide +kernel
theorem dX12_takesPair_73 : decode cX12_takesPair 73 = .ok (.aload_n 0, 1) := by decide +kernel
theorem dX12_takesPair_74 : decode cX12_takesPair 74 = .ok (.getfield 13, 3) := by decide +kernel
theorem dX12_takesPair_77 : decode cX12_takesPair 77 = .ok (.aload_n 0, 1) := by decide +kernel
theorem dX12_takesPair_78 : decode cX12_takesPair 78 = .ok (.getfield 171, 3) := by decide +kernel
theorem dX12_takesPair_81 : decode cX12_takesPair 81 = .ok (.aload_n 0, 1) := by decide +kernel
theorem dX12_takesPair_82 : decode cX12_takesPair 82 = .ok (.getfield 177, 3) := by decide +kernel
theorem dX12_takesPair_85 : decode cX12_takesPair 85 = .ok (.invokestatic 180, 3) := by decide +kernel
theorem dX12_takesPair_88 : decode cX12_takesPair 88 = .ok (.ifCond .eq 5, 3) := by decide +kernel
theorem dX12_takesPair_91 : decode cX12_takesPair 91 = .ok (.iconst 1, 1) := by decide +kernel
theorem dX12_takesPair_92 : decode cX12_takesPair 92 = .ok (.ireturn, 1) := by decide +kernel
theorem dX12_takesPair_93 : decode cX12_takesPair 93 = .ok (.iconst 0, 1) := by decide +kernel
theorem dX12_takesPair_94 : decode cX12_takesPair 94 = .ok (.istore_n 2, 1) := by decide +kernel
theorem dX12_takesPair_95 : decode cX12_takesPair 95 = .ok (.iconst 0, 1) := by decide +kernel
theorem dX12_takesPair_96 : decode cX12_takesPair 96 = .ok (.istore_n 3, 1) := by decide +kernel
theorem dX12_takesPair_97 : decode cX12_takesPair 97 = .ok (.iconst 0, 1) := by decide +kernel
theorem dX12_takesPair_98 : decode cX12_takesPair 98 = .ok (.istore 4, 2) := by decide +kernel
theorem dX12_takesPair_100 : decode cX12_takesPair 100 = .ok (.iconst 0, 1) := by decide +kernel
theorem dX12_takesPair_101 : decode cX12_takesPair 101 = .ok (.istore 5, 2) := by decide +kernel
theorem dX12_takesPair_103 : decode cX12_takesPair 103 = .ok (.iload 5, 2) := by decide +kernel
theorem dX12_takesPair_105 : decode cX12_takesPair 105 = .ok (.aload_n 0, 1) := by decide +kernel
theorem dX12_takesPair_106 : decode cX12_takesPair 106 = .ok (.getfield 13, 3) := by decide +kernel
theorem dX12_takesPair_109 : decode cX12_takesPair 109 = .ok (.bipush 16, 2) := by decide +kernel
theorem dX12_takesPair_111 : decode cX12_takesPair 111 = .ok (.iaload, 1) := by decide +kernel
theorem dX12_takesPair_112 : decode cX12_takesPair 112 = .ok (.if_icmp .ge 88, 3) := by decide +kernel
theorem dX12_takesPair_115 : decode cX12_takesPair 115 = .ok (.aload_n 0, 1) := by decide +kernel
theorem dX12_takesPair_116 : decode cX12_takesPair 116 = .ok (.getfield 13, 3) := by decide +kernel
theorem dX12_takesPair_119 : decode cX12_takesPair 119 = .ok (.bipush 20, 2) := by decide +kernel
theorem dX12_takesPair_121 : decode cX12_takesPair 121 = .ok (.iload 5, 2) := by decide +kernel
theorem dX12_takesPair_123 : decode cX12_takesPair 123 = .ok (.iadd, 1) := by decide +kernel
theorem dX12_takesPair_124 : decode cX12_takesPair 124 = .ok (.iaload, 1) := by decide +kernel
theorem dX12_takesPair_125 : decode cX12_takesPair 125 = .ok (.bipush 9, 2) := by decide +kernel
theorem dX12_takesPair_127 : decode cX12_takesPair 127 = .ok (.idiv, 1) := by decide +kernel
theorem dX12_takesPair_128 : decode cX12_takesPair 128 = .ok (.istore 6, 2) := by decide +kernel
theorem dX12_takesPair_130 : decode cX12_takesPair 130 = .ok (.aload_n 0, 1) := by decide +kernel
theorem dX12_takesPair_131 : decode cX12_takesPair 131 = .ok (.getfield 13, 3) := by decide +kernel
theorem dX12_takesPair_134 : decode cX12_takesPair 134 = .ok (.bipush 20, 2) := by decide +kernel
theorem dX12_takesPair_136 : decode cX12_takesPair 136 = .ok (.iload 5, 2) := by decide +kernel
theorem dX12_takesPair_138 : decode cX12_takesPair 138 = .ok (.iadd, 1) := by decide +kernel
theorem dX12_takesPair_139 : decode cX12_takesPair 139 = .ok (.iaload, 1) := by decide +kernel
theorem dX12_takesPair_140 : decode cX12_takesPair 140 = .ok (.bipush 9, 2) := by decide +kernel
theorem dX12_takesPair_142 : decode cX12_takesPair 142 = .ok (.irem, 1) := by decide +kernel
theorem dX12_takesPair_143 : decode cX12_takesPair 143 = .ok (.istore 7, 2) := by decide +kernel
theorem dX12_takesPair_145 : decode cX12_takesPair 145 = .ok (.iload 6, 2) := by decide +kernel
theorem dX12_takesPair_147 : decode cX12_takesPair 147 = .ok (.iload 7, 2) := by decide +kernel
theorem dX12_takesPair_149 : decode cX12_takesPair 149 = .ok (.if_icmp .ne 6, 3) := by decide +kernel
theorem dX12_takesPair_152 : decode cX12_takesPair 152 = .ok (.goto 42, 3) := by decide +kernel
theorem dX12_takesPair_155 : decode cX12_takesPair 155 = .ok (.iinc 2 1, 3) := by decide +kernel
theorem dX12_takesPair_158 : decode cX12_takesPair 158 = .ok (.iload_n 3, 1) := by decide +kernel
theorem dX12_takesPair_159 : decode cX12_takesPair 159 = .ok (.iload 6, 2) := by decide +kernel
theorem dX12_takesPair_161 : decode cX12_takesPair 161 = .ok (.aload_n 0, 1) := by decide +kernel
theorem dX12_takesPair_162 : decode cX12_takesPair 162 = .ok (.getfield 171, 3) := by decide +kernel
theorem dX12_takesPair_165 : decode cX12_takesPair 165 = .ok (.if_icmp .ne 7, 3) := by decide +kernel
theorem dX12_takesPair_168 : decode cX12_takesPair 168 = .ok (.iconst 1, 1) := by decide +kernel
theorem dX12_takesPair_169 : decode cX12_takesPair 169 = .ok (.goto 4, 3) := by decide +kernel
theorem dX12_takesPair_172 : decode cX12_takesPair 172 = .ok (.iconst 0, 1) := by decide +kernel
theorem dX12_takesPair_173 : decode cX12_takesPair 173 = .ok (.iadd, 1) := by decide +kernel
theorem dX12_takesPair_174 : decode cX12_takesPair 174 = .ok (.istore_n 3, 1) := by decide +kernel
theorem dX12_takesPair_175 : decode cX12_takesPair 175 = .ok (.iload 4, 2) := by decide +kernel
theorem dX12_takesPair_177 : decode cX12_takesPair 177 = .ok (.iload 7, 2) := by decide +kernel
theorem dX12_takesPair_179 : decode cX12_takesPair 179 = .ok (.aload_n 0, 1) := by decide +kernel
theorem dX12_takesPair_180 : decode cX12_takesPair 180 = .ok (.getfield 177, 3) := by decide +kernel
theorem dX12_takesPair_183 : decode cX12_takesPair 183 = .ok (.if_icmp .ne 7, 3) := by decide +kernel
theorem dX12_takesPair_186 : decode cX12_takesPair 186 = .ok (.iconst 1, 1) := by decide +kernel
theorem dX12_takesPair_187 : decode cX12_takesPair 187 = .ok (.goto 4, 3) := by decide +kernel
theorem dX12_takesPair_190 : decode cX12_takesPair 190 = .ok (.iconst 0, 1) := by decide +kernel
theorem dX12_takesPair_191 : decode cX12_takesPair 191 = .ok (.iadd, 1) := by decide +kernel
theorem dX12_takesPair_192 : decode cX12_takesPair 192 = .ok (.istore 4, 2) := by decide +kernel
theorem dX12_takesPair_194 : decode cX12_takesPair 194 = .ok (.iinc 5 1, 3) := by decide +kernel
theorem dX12_takesPair_197 : decode cX12_takesPair 197 = .ok (.goto (-94), 3) := by decide +kernel
theorem dX12_takesPair_200 : decode cX12_takesPair 200 = .ok (.iload_n 2, 1) := by decide +kernel
theorem dX12_takesPair_201 : decode cX12_takesPair 201 = .ok (.bipush 12, 2) := by decide +kernel
theorem dX12_takesPair_203 : decode cX12_takesPair 203 = .ok (.if_icmp .eq 14, 3) := by decide +kernel
theorem dX12_takesPair_206 : decode cX12_takesPair 206 = .ok (.iload_n 3, 1) := by decide +kernel
theorem dX12_takesPair_207 : decode cX12_takesPair 207 = .ok (.iconst 3, 1) := by decide +kernel
theorem dX12_takesPair_208 : decode cX12_takesPair 208 = .ok (.if_icmp .eq 9, 3) := by decide +kernel
theorem dX12_takesPair_211 : decode cX12_takesPair 211 = .ok (.iload 4, 2) := by decide +kernel
theorem dX12_takesPair_213 : decode cX12_takesPair 213 = .ok (.iconst 3, 1) := by decide +kernel
theorem dX12_takesPair_214 : decode cX12_takesPair 214 = .ok (.if_icmp .ne 10, 3) := by decide +kernel
theorem dX12_takesPair_217 : decode cX12_takesPair 217 = .ok (.aload_n 0, 1) := by decide +kernel
theorem dX12_takesPair_218 : decode cX12_takesPair 218 = .ok (.iconst 3, 1) := by decide +kernel
theorem dX12_takesPair_219 : decode cX12_takesPair 219 = .ok (.iload_n 1, 1) := by decide +kernel
theorem dX12_takesPair_220 : decode cX12_takesPair 220 = .ok (.invokevirtual 143, 3) := by decide +kernel
theorem dX12_takesPair_223 : decode cX12_takesPair 223 = .ok (.ireturn, 1) := by decide +kernel
theorem dX12_takesPair_224 : decode cX12_takesPair 224 = .ok (.aload_n 0, 1) := by decide +kernel
theorem dX12_takesPair_225 : decode cX12_takesPair 225 = .ok (.getfield 13, 3) := by decide +kernel
theorem dX12_takesPair_228 : decode cX12_takesPair 228 = .ok (.bipush 20, 2) := by decide +kernel
theorem dX12_takesPair_230 : decode cX12_takesPair 230 = .ok (.aload_n 0, 1) := by decide +kernel
theorem dX12_takesPair_231 : decode cX12_takesPair 231 = .ok (.getfield 13, 3) := by decide +kernel
theorem dX12_takesPair_234 : decode cX12_takesPair 234 = .ok (.bipush 16, 2) := by decide +kernel
theorem dX12_takesPair_236 : decode cX12_takesPair 236 = .ok (.iaload, 1) := by decide +kernel
theorem dX12_takesPair_237 : decode cX12_takesPair 237 = .ok (.iadd, 1) := by decide +kernel
theorem dX12_takesPair_238 : decode cX12_takesPair 238 = .ok (.bipush 9, 2) := by decide +kernel
theorem dX12_takesPair_240 : decode cX12_takesPair 240 = .ok (.aload_n 0, 1) := by decide +kernel
theorem dX12_takesPair_241 : decode cX12_takesPair 241 = .ok (.getfield 171, 3) := by decide +kernel
theorem dX12_takesPair_244 : decode cX12_takesPair 244 = .ok (.imul, 1) := by decide +kernel
theorem dX12_takesPair_245 : decode cX12_takesPair 245 = .ok (.aload_n 0, 1) := by decide +kernel
theorem dX12_takesPair_246 : decode cX12_takesPair 246 = .ok (.getfield 177, 3) := by decide +kernel
theorem dX12_takesPair_249 : decode cX12_takesPair 249 = .ok (.iadd, 1) := by decide +kernel
theorem dX12_takesPair_250 : decode cX12_takesPair 250 = .ok (.iastore, 1) := by decide +kernel
theorem dX12_takesPair_251 : decode cX12_takesPair 251 = .ok (.aload_n 0, 1) := by decide +kernel
theorem dX12_takesPair_252 : decode cX12_takesPair 252 = .ok (.getfield 13, 3) := by decide +kernel
theorem dX12_takesPair_255 : decode cX12_takesPair 255 = .ok (.bipush 16, 2) := by decide +kernel
theorem dX12_takesPair_257 : decode cX12_takesPair 257 = .ok (.dup2, 1) := by decide +kernel
theorem dX12_takesPair_258 : decode cX12_takesPair 258 = .ok (.iaload, 1) := by decide +kernel
theorem dX12_takesPair_259 : decode cX12_takesPair 259 = .ok (.iconst 1, 1) := by decide +kernel
theorem dX12_takesPair_260 : decode cX12_takesPair 260 = .ok (.iadd, 1) := by decide +kernel
theorem dX12_takesPair_261 : decode cX12_takesPair 261 = .ok (.iastore, 1) := by decide +kernel
theorem dX12_takesPair_262 : decode cX12_takesPair 262 = .ok (.iconst 1, 1) := by decide +kernel
theorem dX12_takesPair_263 : decode cX12_takesPair 263 = .ok (.ireturn, 1) := by decide +kernel
theorem dX12_letters_0 : decode cX12_letters 0 = .ok (.iconst 0, 1) := by decide +kernel
theorem dX12_letters_1 : decode cX12_letters 1 = .ok (.istore_n 1, 1) := by decide +kernel
theorem dX12_letters_2 : decode cX12_letters 2 = .ok (.iload_n 1, 1) := by decide +kernel
theorem dX12_letters_3 : decode cX12_letters 3 = .ok (.ifCond .eq 12, 3) := by decide +kernel
theorem dX12_letters_6 : decode cX12_letters 6 = .ok (.aload_n 0, 1) := by decide +kernel
theorem dX12_letters_7 : decode cX12_letters 7 = .ok (.invokevirtual 139, 3) := by decide +kernel
theorem dX12_letters_10 : decode cX12_letters 10 = .ok (.bipush 59, 2) := by decide +kernel
theorem dX12_letters_12 : decode cX12_letters 12 = .ok (.if_icmp .eq 141, 3) := by decide +kernel
theorem dX12_letters_15 : decode cX12_letters 15 = .ok (.aload_n 0, 1) := by decide +kernel
theorem dX12_letters_16 : decode cX12_letters 16 = .ok (.invokevirtual 139, 3) := by decide +kernel
theorem dX12_letters_19 : decode cX12_letters 19 = .ok (.istore_n 2, 1) := by decide +kernel
theorem dX12_letters_20 : decode cX12_letters 20 = .ok (.iload_n 2, 1) := by decide +kernel
theorem dX12_letters_21 : decode cX12_letters 21 = .ok (.invokestatic 159, 3) := by decide +kernel
theorem dX12_letters_24 : decode cX12_letters 24 = .ok (.ifCond .ne 13, 3) := by decide +kernel
theorem dX12_letters_27 : decode cX12_letters 27 = .ok (.aload_n 0, 1) := by decide +kernel
theorem dX12_letters_28 : decode cX12_letters 28 = .ok (.iconst 1, 1) := by decide +kernel
theorem dX12_letters_29 : decode cX12_letters 29 = .ok (.aload_n 0, 1) := by decide +kernel
theorem dX12_letters_30 : decode cX12_letters 30 = .ok (.getfield 123, 3) := by decide +kernel
theorem dX12_letters_33 : decode cX12_letters 33 = .ok (.invokevirtual 143, 3) := by decide +kernel
theorem dX12_letters_36 : decode cX12_letters 36 = .ok (.ireturn, 1) := by decide +kernel
theorem dX12_letters_37 : decode cX12_letters 37 = .ok (.aload_n 0, 1) := by decide +kernel
theorem dX12_letters_38 : decode cX12_letters 38 = .ok (.getfield 13, 3) := by decide +kernel
theorem dX12_letters_41 : decode cX12_letters 41 = .ok (.iload_n 2, 1) := by decide +kernel
theorem dX12_letters_42 : decode cX12_letters 42 = .ok (.invokestatic 163, 3) := by decide +kernel
theorem dX12_letters_45 : decode cX12_letters 45 = .ok (.ifCond .le 13, 3) := by decide +kernel
theorem dX12_letters_48 : decode cX12_letters 48 = .ok (.aload_n 0, 1) := by decide +kernel
theorem dX12_letters_49 : decode cX12_letters 49 = .ok (.iconst 2, 1) := by decide +kernel
theorem dX12_letters_50 : decode cX12_letters 50 = .ok (.aload_n 0, 1) := by decide +kernel
theorem dX12_letters_51 : decode cX12_letters 51 = .ok (.getfield 123, 3) := by decide +kernel
theorem dX12_letters_54 : decode cX12_letters 54 = .ok (.invokevirtual 143, 3) := by decide +kernel
theorem dX12_letters_57 : decode cX12_letters 57 = .ok (.ireturn, 1) := by decide +kernel
theorem dX12_letters_58 : decode cX12_letters 58 = .ok (.aload_n 0, 1) := by decide +kernel
theorem dX12_letters_59 : decode cX12_letters 59 = .ok (.getfield 13, 3) := by decide +kernel
theorem dX12_letters_62 : decode cX12_letters 62 = .ok (.iconst 0, 1) := by decide +kernel
theorem dX12_letters_63 : decode cX12_letters 63 = .ok (.iaload, 1) := by decide +kernel
theorem dX12_letters_64 : decode cX12_letters 64 = .ok (.bipush 8, 2) := by decide +kernel
theorem dX12_letters_66 : decode cX12_letters 66 = .ok (.if_icmp .ne 13, 3) := by decide +kernel
theorem dX12_letters_69 : decode cX12_letters 69 = .ok (.aload_n 0, 1) := by decide +kernel
theorem dX12_letters_70 : decode cX12_letters 70 = .ok (.iconst 3, 1) := by decide +kernel
theorem dX12_letters_71 : decode cX12_letters 71 = .ok (.aload_n 0, 1) := by decide +kernel
theorem dX12_letters_72 : decode cX12_letters 72 = .ok (.getfield 123, 3) := by decide +kernel
theorem dX12_letters_75 : decode cX12_letters 75 = .ok (.invokevirtual 143, 3) := by decide +kernel
theorem dX12_letters_78 : decode cX12_letters 78 = .ok (.ireturn, 1) := by decide +kernel
theorem dX12_letters_79 : decode cX12_letters 79 = .ok (.aload_n 0, 1) := by decide +kernel
theorem dX12_letters_80 : decode cX12_letters 80 = .ok (.getfield 13, 3) := by decide +kernel
theorem dX12_letters_83 : decode cX12_letters 83 = .ok (.iconst 1, 1) := by decide +kernel
theorem dX12_letters_84 : decode cX12_letters 84 = .ok (.aload_n 0, 1) := by decide +kernel
theorem dX12_letters_85 : decode cX12_letters 85 = .ok (.getfield 13, 3) := by decide +kernel
theorem dX12_letters_88 : decode cX12_letters 88 = .ok (.iconst 0, 1) := by decide +kernel
theorem dX12_letters_89 : decode cX12_letters 89 = .ok (.iaload, 1) := by decide +kernel
theorem dX12_letters_90 : decode cX12_letters 90 = .ok (.iadd, 1) := by decide +kernel
theorem dX12_letters_91 : decode cX12_letters 91 = .ok (.iload_n 2, 1) := by decide +kernel
theorem dX12_letters_92 : decode cX12_letters 92 = .ok (.iastore, 1) := by decide +kernel
theorem dX12_letters_93 : decode cX12_letters 93 = .ok (.aload_n 0, 1) := by decide +kernel
theorem dX12_letters_94 : decode cX12_letters 94 = .ok (.getfield 13, 3) := by decide +kernel
theorem dX12_letters_97 : decode cX12_letters 97 = .ok (.iconst 0, 1) := by decide +kernel
theorem dX12_letters_98 : decode cX12_letters 98 = .ok (.dup2, 1) := by decide +kernel
theorem dX12_letters_99 : decode cX12_letters 99 = .ok (.iaload, 1) := by decide +kernel
theorem dX12_letters_100 : decode cX12_letters 100 = .ok (.iconst 1, 1) := by decide +kernel
theorem dX12_letters_101 : decode cX12_letters 101 = .ok (.iadd, 1) := by decide +kernel
theorem dX12_letters_102 : decode cX12_letters 102 = .ok (.iastore, 1) := by decide +kernel
theorem dX12_letters_103 : decode cX12_letters 103 = .ok (.aload_n 0, 1) := by decide +kernel
theorem dX12_letters_104 : decode cX12_letters 104 = .ok (.getfield 13, 3) := by decide +kernel
theorem dX12_letters_107 : decode cX12_letters 107 = .ok (.bipush 20, 2) := by decide +kernel
theorem dX12_letters_109 : decode cX12_letters 109 = .ok (.aload_n 0, 1) := by decide +kernel
theorem dX12_letters_110 : decode cX12_letters 110 = .ok (.getfield 13, 3) := by decide +kernel
theorem dX12_letters_113 : decode cX12_letters 113 = .ok (.bipush 16, 2) := by decide +kernel
theorem dX12_letters_115 : decode cX12_letters 115 = .ok (.iaload, 1) := by decide +kernel
theorem dX12_letters_116 : decode cX12_letters 116 = .ok (.iadd, 1) := by decide +kernel
theorem dX12_letters_117 : decode cX12_letters 117 = .ok (.bipush 10, 2) := by decide +kernel
theorem dX12_letters_119 : decode cX12_letters 119 = .ok (.aload_n 0, 1) := by decide +kernel
theorem dX12_letters_120 : decode cX12_letters 120 = .ok (.getfield 13, 3) := by decide +kernel
theorem dX12_letters_123 : decode cX12_letters 123 = .ok (.iconst 0, 1) := by decide +kernel
theorem dX12_letters_124 : decode cX12_letters 124 = .ok (.iaload, 1) := by decide +kernel
theorem dX12_letters_125 : decode cX12_letters 125 = .ok (.imul, 1) := by decide +kernel
theorem dX12_letters_126 : decode cX12_letters 126 = .ok (.iastore, 1) := by decide +kernel
theorem dX12_letters_127 : decode cX12_letters 127 = .ok (.aload_n 0, 1) := by decide +kernel
theorem dX12_letters_128 : decode cX12_letters 128 = .ok (.getfield 13, 3) := by decide +kernel
theorem dX12_letters_131 : decode cX12_letters 131 = .ok (.bipush 16, 2) := by decide +kernel
theorem dX12_letters_133 : decode cX12_letters 133 = .ok (.dup2, 1) := by decide +kernel
theorem dX12_letters_134 : decode cX12_letters 134 = .ok (.iaload, 1) := by decide +kernel
theorem dX12_letters_135 : decode cX12_letters 135 = .ok (.iconst 1, 1) := by decide +kernel
theorem dX12_letters_136 : decode cX12_letters 136 = .ok (.iadd, 1) := by decide +kernel
theorem dX12_letters_137 : decode cX12_letters 137 = .ok (.iastore, 1) := by decide +kernel
theorem dX12_letters_138 : decode cX12_letters 138 = .ok (.aload_n 0, 1) := by decide +kernel
theorem dX12_letters_139 : decode cX12_letters 139 = .ok (.dup, 1) := by decide +kernel
theorem dX12_letters_140 : decode cX12_letters 140 = .ok (.getfield 123, 3) := by decide +kernel
theorem dX12_letters_143 : decode cX12_letters 143 = .ok (.iconst 1, 1) := by decide +kernel
theorem dX12_letters_144 : decode cX12_letters 144 = .ok (.iadd, 1) := by decide +kernel
theorem dX12_letters_145 : decode cX12_letters 145 = .ok (.putfield 123, 3) := by decide +kernel
theorem dX12_letters_148 : decode cX12_letters 148 = .ok (.iconst 1, 1) := by decide +kernel
theorem dX12_letters_149 : decode cX12_letters 149 = .ok (.istore_n 1, 1) := by decide +kernel
theorem dX12_letters_150 : decode cX12_letters 150 = .ok (.goto (-148), 3) := by decide +kernel
theorem dX12_letters_153 : decode cX12_letters 153 = .ok (.iconst 1, 1) := by decide +kernel
theorem dX12_letters_154 : decode cX12_letters 154 = .ok (.ireturn, 1) := by decide +kernel
theorem dX12_classOf_0 : decode cX12_classOf 0 = .ok (.aload_n 0, 1) := by decide +kernel
theorem dX12_classOf_1 : decode cX12_classOf 1 = .ok (.invokevirtual 139, 3) := by decide +kernel
theorem dX12_classOf_4 : decode cX12_classOf 4 = .ok (.istore_n 1, 1) := by decide +kernel
theorem dX12_classOf_5 : decode cX12_classOf 5 = .ok (.iload_n 1, 1) := by decide +kernel
theorem dX12_classOf_6 : decode cX12_classOf 6 = .ok (.bipush 65, 2) := by decide +kernel
theorem dX12_classOf_8 : decode cX12_classOf 8 = .ok (.bipush 70, 2) := by decide +kernel
theorem dX12_classOf_10 : decode cX12_classOf 10 = .ok (.invokestatic 119, 3) := by decide +kernel
theorem dX12_classOf_13 : decode cX12_classOf 13 = .ok (.ifCond .ne 13, 3) := by decide +kernel
theorem dX12_classOf_16 : decode cX12_classOf 16 = .ok (.aload_n 0, 1) := by decide +kernel
theorem dX12_classOf_17 : decode cX12_classOf 17 = .ok (.iconst 1, 1) := by decide +kernel
theorem dX12_classOf_18 : decode cX12_classOf 18 = .ok (.aload_n 0, 1) := by decide +kernel
theorem dX12_classOf_19 : decode cX12_classOf 19 = .ok (.getfield 123, 3) := by decide +kernel
theorem dX12_classOf_22 : decode cX12_classOf 22 = .ok (.invokevirtual 143, 3) := by decide +kernel
theorem dX12_classOf_25 : decode cX12_classOf 25 = .ok (.ireturn, 1) := by decide +kernel
theorem dX12_classOf_26 : decode cX12_classOf 26 = .ok (.aload_n 0, 1) := by decide +kernel
theorem dX12_classOf_27 : decode cX12_classOf 27 = .ok (.dup, 1) := by decide +kernel
theorem dX12_classOf_28 : decode cX12_classOf 28 = .ok (.getfield 123, 3) := by decide +kernel
theorem dX12_classOf_31 : decode cX12_classOf 31 = .ok (.iconst 1, 1) := by decide +kernel
theorem dX12_classOf_32 : decode cX12_classOf 32 = .ok (.iadd, 1) := by decide +kernel
theorem dX12_classOf_33 : decode cX12_classOf 33 = .ok (.putfield 123, 3) := by decide +kernel
theorem dX12_classOf_36 : decode cX12_classOf 36 = .ok (.iconst 0, 1) := by decide +kernel
theorem dX12_classOf_37 : decode cX12_classOf 37 = .ok (.istore_n 2, 1) := by decide +kernel
theorem dX12_classOf_38 : decode cX12_classOf 38 = .ok (.iload_n 2, 1) := by decide +kernel
theorem dX12_classOf_39 : decode cX12_classOf 39 = .ok (.ifCond .eq 12, 3) := by decide +kernel
theorem dX12_classOf_42 : decode cX12_classOf 42 = .ok (.aload_n 0, 1) := by decide +kernel
theorem dX12_classOf_43 : decode cX12_classOf 43 = .ok (.invokevirtual 139, 3) := by decide +kernel
theorem dX12_classOf_46 : decode cX12_classOf 46 = .ok (.bipush 59, 2) := by decide +kernel
theorem dX12_classOf_48 : decode cX12_classOf 48 = .ok (.if_icmp .eq 70, 3) := by decide +kernel
theorem dX12_classOf_51 : decode cX12_classOf 51 = .ok (.aload_n 0, 1) := by decide +kernel
theorem dX12_classOf_52 : decode cX12_classOf 52 = .ok (.invokevirtual 139, 3) := by decide +kernel
theorem dX12_classOf_55 : decode cX12_classOf 55 = .ok (.istore_n 3, 1) := by decide +kernel
theorem dX12_classOf_56 : decode cX12_classOf 56 = .ok (.iload_n 3, 1) := by decide +kernel
theorem dX12_classOf_57 : decode cX12_classOf 57 = .ok (.invokestatic 159, 3) := by decide +kernel
theorem dX12_classOf_60 : decode cX12_classOf 60 = .ok (.ifCond .ne 13, 3) := by decide +kernel
theorem dX12_classOf_63 : decode cX12_classOf 63 = .ok (.aload_n 0, 1) := by decide +kernel
theorem dX12_classOf_64 : decode cX12_classOf 64 = .ok (.iconst 1, 1) := by decide +kernel
theorem dX12_classOf_65 : decode cX12_classOf 65 = .ok (.aload_n 0, 1) := by decide +kernel
theorem dX12_classOf_66 : decode cX12_classOf 66 = .ok (.getfield 123, 3) := by decide +kernel
theorem dX12_classOf_69 : decode cX12_classOf 69 = .ok (.invokevirtual 143, 3) := by decide +kernel
theorem dX12_classOf_72 : decode cX12_classOf 72 = .ok (.ireturn, 1) := by decide +kernel
theorem dX12_classOf_73 : decode cX12_classOf 73 = .ok (.aload_n 0, 1) := by decide +kernel
theorem dX12_classOf_74 : decode cX12_classOf 74 = .ok (.getfield 13, 3) := by decide +kernel
theorem dX12_classOf_77 : decode cX12_classOf 77 = .ok (.iload_n 3, 1) := by decide +kernel
theorem dX12_classOf_78 : decode cX12_classOf 78 = .ok (.invokestatic 163, 3) := by decide +kernel
theorem dX12_classOf_81 : decode cX12_classOf 81 = .ok (.istore 4, 2) := by decide +kernel
theorem dX12_classOf_83 : decode cX12_classOf 83 = .ok (.iload 4, 2) := by decide +kernel
theorem dX12_classOf_85 : decode cX12_classOf 85 = .ok (.ifCond .ne 13, 3) := by decide +kernel
theorem dX12_classOf_88 : decode cX12_classOf 88 = .ok (.aload_n 0, 1) := by decide +kernel
theorem dX12_classOf_89 : decode cX12_classOf 89 = .ok (.iconst 2, 1) := by decide +kernel
theorem dX12_classOf_90 : decode cX12_classOf 90 = .ok (.aload_n 0, 1) := by decide +kernel
theorem dX12_classOf_91 : decode cX12_classOf 91 = .ok (.getfield 123, 3) := by decide +kernel
theorem dX12_classOf_94 : decode cX12_classOf 94 = .ok (.invokevirtual 143, 3) := by decide +kernel
theorem dX12_classOf_97 : decode cX12_classOf 97 = .ok (.ireturn, 1) := by decide +kernel
theorem dX12_classOf_98 : decode cX12_classOf 98 = .ok (.iload_n 2, 1) := by decide +kernel
