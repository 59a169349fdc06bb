theorem dX3_hasSign_26 : decode cX3_hasSign 26 = .ok (.iaload, 1) := by decide +kernel
theorem dX3_hasSign_27 : decode cX3_hasSign 27 = .ok (.iload_n 1, 1) := by decide +kernel
theorem dX3_hasSign_28 : decode cX3_hasSign 28 = .ok (.if_icmp .ne 7, 3) := by decide +kernel
theorem dX3_hasSign_31 : decode cX3_hasSign 31 = .ok (.iconst 1, 1) := by decide +kernel
theorem dX3_hasSign_32 : decode cX3_hasSign 32 = .ok (.goto 4, 3) := by decide +kernel
theorem dX3_hasSign_35 : decode cX3_hasSign 35 = .ok (.iconst 0, 1) := by decide +kernel
theorem dX3_hasSign_36 : decode cX3_hasSign 36 = .ok (.ior, 1) := by decide +kernel
theorem dX3_hasSign_37 : decode cX3_hasSign 37 = .ok (.istore_n 2, 1) := by decide +kernel
theorem dX3_hasSign_38 : decode cX3_hasSign 38 = .ok (.iinc 3 1, 3) := by decide +kernel
theorem dX3_hasSign_41 : decode cX3_hasSign 41 = .ok (.goto (-29), 3) := by decide +kernel
theorem dX3_hasSign_44 : decode cX3_hasSign 44 = .ok (.iload_n 2, 1) := by decide +kernel
theorem dX3_hasSign_45 : decode cX3_hasSign 45 = .ok (.ireturn, 1) := by decide +kernel
theorem dX3_breakable_0 : decode cX3_breakable 0 = .ok (.iconst 0, 1) := by decide +kernel
theorem dX3_breakable_1 : decode cX3_breakable 1 = .ok (.istore_n 2, 1) := by decide +kernel
theorem dX3_breakable_2 : decode cX3_breakable 2 = .ok (.iconst 0, 1) := by decide +kernel
theorem dX3_breakable_3 : decode cX3_breakable 3 = .ok (.istore_n 3, 1) := by decide +kernel
theorem dX3_breakable_4 : decode cX3_breakable 4 = .ok (.iload_n 3, 1) := by decide +kernel
theorem dX3_breakable_5 : decode cX3_breakable 5 = .ok (.aload_n 0, 1) := by decide +kernel
theorem dX3_breakable_6 : decode cX3_breakable 6 = .ok (.getfield 14, 3) := by decide +kernel
theorem dX3_breakable_9 : decode cX3_breakable 9 = .ok (.getfield 117, 3) := by decide +kernel
theorem dX3_breakable_12 : decode cX3_breakable 12 = .ok (.if_icmp .ge 43, 3) := by decide +kernel
theorem dX3_breakable_15 : decode cX3_breakable 15 = .ok (.iload_n 1, 1) := by decide +kernel
theorem dX3_breakable_16 : decode cX3_breakable 16 = .ok (.iload_n 3, 1) := by decide +kernel
theorem dX3_breakable_17 : decode cX3_breakable 17 = .ok (.ishr, 1) := by decide +kernel
theorem dX3_breakable_18 : decode cX3_breakable 18 = .ok (.iconst 1, 1) := by decide +kernel
theorem dX3_breakable_19 : decode cX3_breakable 19 = .ok (.iand, 1) := by decide +kernel
theorem dX3_breakable_20 : decode cX3_breakable 20 = .ok (.iconst 1, 1) := by decide +kernel
theorem dX3_breakable_21 : decode cX3_breakable 21 = .ok (.if_icmp .ne 28, 3) := by decide +kernel
theorem dX3_breakable_24 : decode cX3_breakable 24 = .ok (.aload_n 0, 1) := by decide +kernel
theorem dX3_breakable_25 : decode cX3_breakable 25 = .ok (.aload_n 0, 1) := by decide +kernel
theorem dX3_breakable_26 : decode cX3_breakable 26 = .ok (.getfield 14, 3) := by decide +kernel
theorem dX3_breakable_29 : decode cX3_breakable 29 = .ok (.getfield 120, 3) := by decide +kernel
theorem dX3_breakable_32 : decode cX3_breakable 32 = .ok (.iload_n 3, 1) := by decide +kernel
theorem dX3_breakable_33 : decode cX3_breakable 33 = .ok (.aaload, 1) := by decide +kernel
theorem dX3_breakable_34 : decode cX3_breakable 34 = .ok (.getfield 124, 3) := by decide +kernel
theorem dX3_breakable_37 : decode cX3_breakable 37 = .ok (.invokevirtual 129, 3) := by decide +kernel
theorem dX3_breakable_40 : decode cX3_breakable 40 = .ok (.ifCond .eq 9, 3) := by decide +kernel
theorem dX3_breakable_43 : decode cX3_breakable 43 = .ok (.iload_n 2, 1) := by decide +kernel
theorem dX3_breakable_44 : decode cX3_breakable 44 = .ok (.iconst 1, 1) := by decide +kernel
theorem dX3_breakable_45 : decode cX3_breakable 45 = .ok (.iload_n 3, 1) := by decide +kernel
theorem dX3_breakable_46 : decode cX3_breakable 46 = .ok (.ishl, 1) := by decide +kernel
theorem dX3_breakable_47 : decode cX3_breakable 47 = .ok (.ior, 1) := by decide +kernel
theorem dX3_breakable_48 : decode cX3_breakable 48 = .ok (.istore_n 2, 1) := by decide +kernel
theorem dX3_breakable_49 : decode cX3_breakable 49 = .ok (.iinc 3 1, 3) := by decide +kernel
theorem dX3_breakable_52 : decode cX3_breakable 52 = .ok (.goto (-48), 3) := by decide +kernel
theorem dX3_breakable_55 : decode cX3_breakable 55 = .ok (.iload_n 2, 1) := by decide +kernel
theorem dX3_breakable_56 : decode cX3_breakable 56 = .ok (.ireturn, 1) := by decide +kernel
theorem dX3_choiceOf_0 : decode cX3_choiceOf 0 = .ok (.iload_n 1, 1) := by decide +kernel
theorem dX3_choiceOf_1 : decode cX3_choiceOf 1 = .ok (.iconst 4, 1) := by decide +kernel
theorem dX3_choiceOf_2 : decode cX3_choiceOf 2 = .ok (.imul, 1) := by decide +kernel
theorem dX3_choiceOf_3 : decode cX3_choiceOf 3 = .ok (.iload_n 2, 1) := by decide +kernel
theorem dX3_choiceOf_4 : decode cX3_choiceOf 4 = .ok (.iadd, 1) := by decide +kernel
theorem dX3_choiceOf_5 : decode cX3_choiceOf 5 = .ok (.istore_n 3, 1) := by decide +kernel
theorem dX3_choiceOf_6 : decode cX3_choiceOf 6 = .ok (.aload_n 0, 1) := by decide +kernel
theorem dX3_choiceOf_7 : decode cX3_choiceOf 7 = .ok (.getfield 83, 3) := by decide +kernel
theorem dX3_choiceOf_10 : decode cX3_choiceOf 10 = .ok (.ifCond .eq 15, 3) := by decide +kernel
theorem dX3_choiceOf_13 : decode cX3_choiceOf 13 = .ok (.aload_n 0, 1) := by decide +kernel
theorem dX3_choiceOf_14 : decode cX3_choiceOf 14 = .ok (.getfield 14, 3) := by decide +kernel
theorem dX3_choiceOf_17 : decode cX3_choiceOf 17 = .ok (.getfield 170, 3) := by decide +kernel
theorem dX3_choiceOf_20 : decode cX3_choiceOf 20 = .ok (.iload_n 3, 1) := by decide +kernel
theorem dX3_choiceOf_21 : decode cX3_choiceOf 21 = .ok (.iaload, 1) := by decide +kernel
theorem dX3_choiceOf_22 : decode cX3_choiceOf 22 = .ok (.goto 12, 3) := by decide +kernel
theorem dX3_choiceOf_25 : decode cX3_choiceOf 25 = .ok (.aload_n 0, 1) := by decide +kernel
theorem dX3_choiceOf_26 : decode cX3_choiceOf 26 = .ok (.getfield 14, 3) := by decide +kernel
theorem dX3_choiceOf_29 : decode cX3_choiceOf 29 = .ok (.getfield 173, 3) := by decide +kernel
theorem dX3_choiceOf_32 : decode cX3_choiceOf 32 = .ok (.iload_n 3, 1) := by decide +kernel
theorem dX3_choiceOf_33 : decode cX3_choiceOf 33 = .ok (.iaload, 1) := by decide +kernel
theorem dX3_choiceOf_34 : decode cX3_choiceOf 34 = .ok (.iconst 1, 1) := by decide +kernel
theorem dX3_choiceOf_35 : decode cX3_choiceOf 35 = .ok (.isub, 1) := by decide +kernel
theorem dX3_choiceOf_36 : decode cX3_choiceOf 36 = .ok (.ireturn, 1) := by decide +kernel
theorem dX3_isLeft_0 : decode cX3_isLeft 0 = .ok (.iload_n 1, 1) := by decide +kernel
theorem dX3_isLeft_1 : decode cX3_isLeft 1 = .ok (.aload_n 0, 1) := by decide +kernel
theorem dX3_isLeft_2 : decode cX3_isLeft 2 = .ok (.getfield 97, 3) := by decide +kernel
theorem dX3_isLeft_5 : decode cX3_isLeft 5 = .ok (.iand, 1) := by decide +kernel
theorem dX3_isLeft_6 : decode cX3_isLeft 6 = .ok (.ifCond .eq 16, 3) := by decide +kernel
theorem dX3_isLeft_9 : decode cX3_isLeft 9 = .ok (.iload_n 1, 1) := by decide +kernel
theorem dX3_isLeft_10 : decode cX3_isLeft 10 = .ok (.aload_n 0, 1) := by decide +kernel
theorem dX3_isLeft_11 : decode cX3_isLeft 11 = .ok (.getfield 100, 3) := by decide +kernel
theorem dX3_isLeft_14 : decode cX3_isLeft 14 = .ok (.iand, 1) := by decide +kernel
theorem dX3_isLeft_15 : decode cX3_isLeft 15 = .ok (.ifCond .eq 7, 3) := by decide +kernel
theorem dX3_isLeft_18 : decode cX3_isLeft 18 = .ok (.iconst 1, 1) := by decide +kernel
theorem dX3_isLeft_19 : decode cX3_isLeft 19 = .ok (.goto 4, 3) := by decide +kernel
theorem dX3_isLeft_22 : decode cX3_isLeft 22 = .ok (.iconst 0, 1) := by decide +kernel
theorem dX3_isLeft_23 : decode cX3_isLeft 23 = .ok (.ireturn, 1) := by decide +kernel
theorem dX3_hasWanted_0 : decode cX3_hasWanted 0 = .ok (.aload_n 0, 1) := by decide +kernel
theorem dX3_hasWanted_1 : decode cX3_hasWanted 1 = .ok (.getfield 43, 3) := by decide +kernel
theorem dX3_hasWanted_4 : decode cX3_hasWanted 4 = .ok (.iconst (-1), 1) := by decide +kernel
theorem dX3_hasWanted_5 : decode cX3_hasWanted 5 = .ok (.if_icmp .ne 7, 3) := by decide +kernel
theorem dX3_hasWanted_8 : decode cX3_hasWanted 8 = .ok (.iconst 1, 1) := by decide +kernel
theorem dX3_hasWanted_9 : decode cX3_hasWanted 9 = .ok (.goto 4, 3) := by decide +kernel
theorem dX3_hasWanted_12 : decode cX3_hasWanted 12 = .ok (.iconst 0, 1) := by decide +kernel
theorem dX3_hasWanted_13 : decode cX3_hasWanted 13 = .ok (.istore_n 2, 1) := by decide +kernel
theorem dX3_hasWanted_14 : decode cX3_hasWanted 14 = .ok (.iconst 0, 1) := by decide +kernel
theorem dX3_hasWanted_15 : decode cX3_hasWanted 15 = .ok (.istore_n 3, 1) := by decide +kernel
theorem dX3_hasWanted_16 : decode cX3_hasWanted 16 = .ok (.iload_n 3, 1) := by decide +kernel
theorem dX3_hasWanted_17 : decode cX3_hasWanted 17 = .ok (.iload_n 1, 1) := by decide +kernel
theorem dX3_hasWanted_18 : decode cX3_hasWanted 18 = .ok (.if_icmp .ge 30, 3) := by decide +kernel
theorem dX3_hasWanted_21 : decode cX3_hasWanted 21 = .ok (.iload_n 2, 1) := by decide +kernel
theorem dX3_hasWanted_22 : decode cX3_hasWanted 22 = .ok (.aload_n 0, 1) := by decide +kernel
theorem dX3_hasWanted_23 : decode cX3_hasWanted 23 = .ok (.getfield 47, 3) := by decide +kernel
theorem dX3_hasWanted_26 : decode cX3_hasWanted 26 = .ok (.iload_n 3, 1) := by decide +kernel
theorem dX3_hasWanted_27 : decode cX3_hasWanted 27 = .ok (.iaload, 1) := by decide +kernel
theorem dX3_hasWanted_28 : decode cX3_hasWanted 28 = .ok (.aload_n 0, 1) := by decide +kernel
theorem dX3_hasWanted_29 : decode cX3_hasWanted 29 = .ok (.getfield 43, 3) := by decide +kernel
theorem dX3_hasWanted_32 : decode cX3_hasWanted 32 = .ok (.if_icmp .ne 7, 3) := by decide +kernel
theorem dX3_hasWanted_35 : decode cX3_hasWanted 35 = .ok (.iconst 1, 1) := by decide +kernel
theorem dX3_hasWanted_36 : decode cX3_hasWanted 36 = .ok (.goto 4, 3) := by decide +kernel
theorem dX3_hasWanted_39 : decode cX3_hasWanted 39 = .ok (.iconst 0, 1) := by decide +kernel
theorem dX3_hasWanted_40 : decode cX3_hasWanted 40 = .ok (.ior, 1) := by decide +kernel
theorem dX3_hasWanted_41 : decode cX3_hasWanted 41 = .ok (.istore_n 2, 1) := by decide +kernel
theorem dX3_hasWanted_42 : decode cX3_hasWanted 42 = .ok (.iinc 3 1, 3) := by decide +kernel
theorem dX3_hasWanted_45 : decode cX3_hasWanted 45 = .ok (.goto (-29), 3) := by decide +kernel
theorem dX3_hasWanted_48 : decode cX3_hasWanted 48 = .ok (.iload_n 2, 1) := by decide +kernel
theorem dX3_hasWanted_49 : decode cX3_hasWanted 49 = .ok (.ireturn, 1) := by decide +kernel
theorem dX3_shortCode_0 : decode cX3_shortCode 0 = .ok (.aload_n 0, 1) := by decide +kernel
theorem dX3_shortCode_1 : decode cX3_shortCode 1 = .ok (.getfield 50, 3) := by decide +kernel
theorem dX3_shortCode_4 : decode cX3_shortCode 4 = .ok (.iload_n 1, 1) := by decide +kernel
theorem dX3_shortCode_5 : decode cX3_shortCode 5 = .ok (.iaload, 1) := by decide +kernel
theorem dX3_shortCode_6 : decode cX3_shortCode 6 = .ok (.ldc 196, 2) := by decide +kernel
theorem dX3_shortCode_8 : decode cX3_shortCode 8 = .ok (.idiv, 1) := by decide +kernel
theorem dX3_shortCode_9 : decode cX3_shortCode 9 = .ok (.sipush 6560, 3) := by decide +kernel
theorem dX3_shortCode_12 : decode cX3_shortCode 12 = .ok (.invokestatic 62, 3) := by decide +kernel
theorem dX3_shortCode_15 : decode cX3_shortCode 15 = .ok (.ireturn, 1) := by decide +kernel
theorem dX3_clearMarks_0 : decode cX3_clearMarks 0 = .ok (.iconst 0, 1) := by decide +kernel
theorem dX3_clearMarks_1 : decode cX3_clearMarks 1 = .ok (.istore_n 1, 1) := by decide +kernel
theorem dX3_clearMarks_2 : decode cX3_clearMarks 2 = .ok (.iload_n 1, 1) := by decide +kernel
theorem dX3_clearMarks_3 : decode cX3_clearMarks 3 = .ok (.aload_n 0, 1) := by decide +kernel
theorem dX3_clearMarks_4 : decode cX3_clearMarks 4 = .ok (.getfield 114, 3) := by decide +kernel
theorem dX3_clearMarks_7 : decode cX3_clearMarks 7 = .ok (.if_icmp .ge 20, 3) := by decide +kernel
theorem dX3_clearMarks_10 : decode cX3_clearMarks 10 = .ok (.aload_n 0, 1) := by decide +kernel
theorem dX3_clearMarks_11 : decode cX3_clearMarks 11 = .ok (.getfield 56, 3) := by decide +kernel
theorem dX3_clearMarks_14 : decode cX3_clearMarks 14 = .ok (.aload_n 0, 1) := by decide +kernel
theorem dX3_clearMarks_15 : decode cX3_clearMarks 15 = .ok (.iload_n 1, 1) := by decide +kernel
theorem dX3_clearMarks_16 : decode cX3_clearMarks 16 = .ok (.invokevirtual 190, 3) := by decide +kernel
theorem dX3_clearMarks_19 : decode cX3_clearMarks 19 = .ok (.iconst 0, 1) := by decide +kernel
theorem dX3_clearMarks_20 : decode cX3_clearMarks 20 = .ok (.iastore, 1) := by decide +kernel
theorem dX3_clearMarks_21 : decode cX3_clearMarks 21 = .ok (.iinc 1 1, 3) := by decide +kernel
theorem dX3_clearMarks_24 : decode cX3_clearMarks 24 = .ok (.goto (-22), 3) := by decide +kernel
theorem dX3_clearMarks_27 : decode cX3_clearMarks 27 = .ok (.return_, 1) := by decide +kernel
theorem dX3_clearNeeded_0 : decode cX3_clearNeeded 0 = .ok (.aload_n 0, 1) := by decide +kernel
theorem dX3_clearNeeded_1 : decode cX3_clearNeeded 1 = .ok (.getfield 59, 3) := by decide +kernel
theorem dX3_clearNeeded_4 : decode cX3_clearNeeded 4 = .ok (.iconst 0, 1) := by decide +kernel
theorem dX3_clearNeeded_5 : decode cX3_clearNeeded 5 = .ok (.invokestatic 197, 3) := by decide +kernel
theorem dX3_clearNeeded_8 : decode cX3_clearNeeded 8 = .ok (.return_, 1) := by decide +kernel
theorem dX3_meetsNeeds_0 : decode cX3_meetsNeeds 0 = .ok (.iconst 0, 1) := by decide +kernel
theorem dX3_meetsNeeds_1 : decode cX3_meetsNeeds 1 = .ok (.istore_n 2, 1) := by decide +kernel
theorem dX3_meetsNeeds_2 : decode cX3_meetsNeeds 2 = .ok (.iload_n 2, 1) := by decide +kernel
theorem dX3_meetsNeeds_3 : decode cX3_meetsNeeds 3 = .ok (.sipush 256, 3) := by decide +kernel
theorem dX3_meetsNeeds_6 : decode cX3_meetsNeeds 6 = .ok (.if_icmp .ge 27, 3) := by decide +kernel
theorem dX3_meetsNeeds_9 : decode cX3_meetsNeeds 9 = .ok (.aload_n 0, 1) := by decide +kernel
theorem dX3_meetsNeeds_10 : decode cX3_meetsNeeds 10 = .ok (.getfield 59, 3) := by decide +kernel
theorem dX3_meetsNeeds_13 : decode cX3_meetsNeeds 13 = .ok (.iload_n 2, 1) := by decide +kernel
theorem dX3_meetsNeeds_14 : decode cX3_meetsNeeds 14 = .ok (.iaload, 1) := by decide +kernel
theorem dX3_meetsNeeds_15 : decode cX3_meetsNeeds 15 = .ok (.iconst 1, 1) := by decide +kernel
theorem dX3_meetsNeeds_16 : decode cX3_meetsNeeds 16 = .ok (.if_icmp .ne 11, 3) := by decide +kernel
theorem dX3_meetsNeeds_19 : decode cX3_meetsNeeds 19 = .ok (.iload_n 2, 1) := by decide +kernel
theorem dX3_meetsNeeds_20 : decode cX3_meetsNeeds 20 = .ok (.iload_n 1, 1) := by decide +kernel
theorem dX3_meetsNeeds_21 : decode cX3_meetsNeeds 21 = .ok (.iand, 1) := by decide +kernel
theorem dX3_meetsNeeds_22 : decode cX3_meetsNeeds 22 = .ok (.ifCond .ne 5, 3) := by decide +kernel
theorem dX3_meetsNeeds_25 : decode cX3_meetsNeeds 25 = .ok (.iconst 0, 1) := by decide +kernel
theorem dX3_meetsNeeds_26 : decode cX3_meetsNeeds 26 = .ok (.ireturn, 1) := by decide +kernel
theorem dX3_meetsNeeds_27 : decode cX3_meetsNeeds 27 = .ok (.iinc 2 1, 3) := by decide +kernel
theorem dX3_meetsNeeds_30 : decode cX3_meetsNeeds 30 = .ok (.goto (-28), 3) := by decide +kernel
theorem dX3_meetsNeeds_33 : decode cX3_meetsNeeds 33 = .ok (.iconst 1, 1) := by decide +kernel
theorem dX3_meetsNeeds_34 : decode cX3_meetsNeeds 34 = .ok (.ireturn, 1) := by decide +kernel
theorem dX3_leastThatMeetsNeeds_0 : decode cX3_leastThatMeetsNeeds 0 = .ok (.iload_n 1, 1) := by decide +kernel
theorem dX3_leastThatMeetsNeeds_1 : decode cX3_leastThatMeetsNeeds 1 = .ok (.istore_n 2, 1) := by decide +kernel
theorem dX3_leastThatMeetsNeeds_2 : decode cX3_leastThatMeetsNeeds 2 = .ok (.iconst 0, 1) := by decide +kernel
theorem dX3_leastThatMeetsNeeds_3 : decode cX3_leastThatMeetsNeeds 3 = .ok (.istore_n 3, 1) := by decide +kernel
theorem dX3_leastThatMeetsNeeds_4 : decode cX3_leastThatMeetsNeeds 4 = .ok (.iload_n 3, 1) := by decide +kernel
theorem dX3_leastThatMeetsNeeds_5 : decode cX3_leastThatMeetsNeeds 5 = .ok (.sipush 256, 3) := by decide +kernel
theorem dX3_leastThatMeetsNeeds_8 : decode cX3_leastThatMeetsNeeds 8 = .ok (.if_icmp .ge 50, 3) := by decide +kernel
theorem dX3_leastThatMeetsNeeds_11 : decode cX3_leastThatMeetsNeeds 11 = .ok (.iload_n 3, 1) := by decide +kernel
theorem dX3_leastThatMeetsNeeds_12 : decode cX3_leastThatMeetsNeeds 12 = .ok (.invokestatic 203, 3) := by decide +kernel
theorem dX3_leastThatMeetsNeeds_15 : decode cX3_leastThatMeetsNeeds 15 = .ok (.iload_n 2, 1) := by decide +kernel
theorem dX3_leastThatMeetsNeeds_16 : decode cX3_leastThatMeetsNeeds 16 = .ok (.invokestatic 203, 3) := by decide +kernel
theorem dX3_leastThatMeetsNeeds_19 : decode cX3_leastThatMeetsNeeds 19 = .ok (.if_icmp .ge 7, 3) := by decide +kernel
theorem dX3_leastThatMeetsNeeds_22 : decode cX3_leastThatMeetsNeeds 22 = .ok (.iconst 1, 1) := by decide +kernel
theorem dX3_leastThatMeetsNeeds_23 : decode cX3_leastThatMeetsNeeds 23 = .ok (.goto 4, 3) := by decide +kernel
theorem dX3_leastThatMeetsNeeds_26 : decode cX3_leastThatMeetsNeeds 26 = .ok (.iconst 0, 1) := by decide +kernel
theorem dX3_leastThatMeetsNeeds_27 : decode cX3_leastThatMeetsNeeds 27 = .ok (.istore 4, 2) := by decide +kernel
theorem dX3_leastThatMeetsNeeds_29 : decode cX3_leastThatMeetsNeeds 29 = .ok (.iload_n 3, 1) := by decide +kernel
theorem dX3_leastThatMeetsNeeds_30 : decode cX3_leastThatMeetsNeeds 30 = .ok (.iload_n 1, 1) := by decide +kernel
theorem dX3_leastThatMeetsNeeds_31 : decode cX3_leastThatMeetsNeeds 31 = .ok (.iconst (-1), 1) := by decide +kernel
theorem dX3_leastThatMeetsNeeds_32 : decode cX3_leastThatMeetsNeeds 32 = .ok (.ixor, 1) := by decide +kernel
theorem dX3_leastThatMeetsNeeds_33 : decode cX3_leastThatMeetsNeeds 33 = .ok (.iand, 1) := by decide +kernel
theorem dX3_leastThatMeetsNeeds_34 : decode cX3_leastThatMeetsNeeds 34 = .ok (.ifCond .ne 18, 3) := by decide +kernel
theorem dX3_leastThatMeetsNeeds_37 : decode cX3_leastThatMeetsNeeds 37 = .ok (.iload 4, 2) := by decide +kernel
theorem dX3_leastThatMeetsNeeds_39 : decode cX3_leastThatMeetsNeeds 39 = .ok (.ifCond .eq 13, 3) := by decide +kernel
theorem dX3_leastThatMeetsNeeds_42 : decode cX3_leastThatMeetsNeeds 42 = .ok (.aload_n 0, 1) := by decide +kernel
theorem dX3_leastThatMeetsNeeds_43 : decode cX3_leastThatMeetsNeeds 43 = .ok (.iload_n 3, 1) := by decide +kernel
theorem dX3_leastThatMeetsNeeds_44 : decode cX3_leastThatMeetsNeeds 44 = .ok (.invokevirtual 208, 3) := by decide +kernel
theorem dX3_leastThatMeetsNeeds_47 : decode cX3_leastThatMeetsNeeds 47 = .ok (.ifCond .eq 5, 3) := by decide +kernel
theorem dX3_leastThatMeetsNeeds_50 : decode cX3_leastThatMeetsNeeds 50 = .ok (.iload_n 3, 1) := by decide +kernel
theorem dX3_leastThatMeetsNeeds_51 : decode cX3_leastThatMeetsNeeds 51 = .ok (.istore_n 2, 1) := by decide +kernel
theorem dX3_leastThatMeetsNeeds_52 : decode cX3_leastThatMeetsNeeds 52 = .ok (.iinc 3 1, 3) := by decide +kernel
theorem dX3_leastThatMeetsNeeds_55 : decode cX3_leastThatMeetsNeeds 55 = .ok (.goto (-51), 3) := by decide +kernel
theorem dX3_leastThatMeetsNeeds_58 : decode cX3_leastThatMeetsNeeds 58 = .ok (.iload_n 2, 1) := by decide +kernel
theorem dX3_leastThatMeetsNeeds_59 : decode cX3_leastThatMeetsNeeds 59 = .ok (.ireturn, 1) := by decide +kernel
theorem dX3_takeNumbered_0 : decode cX3_takeNumbered 0 = .ok (.iload_n 2, 1) := by decide +kernel
theorem dX3_takeNumbered_1 : decode cX3_takeNumbered 1 = .ok (.istore_n 3, 1) := by decide +kernel
theorem dX3_takeNumbered_2 : decode cX3_takeNumbered 2 = .ok (.iconst 1, 1) := by decide +kernel
theorem dX3_takeNumbered_3 : decode cX3_takeNumbered 3 = .ok (.aload_n 0, 1) := by decide +kernel
theorem dX3_takeNumbered_4 : decode cX3_takeNumbered 4 = .ok (.getfield 14, 3) := by decide +kernel
theorem dX3_takeNumbered_7 : decode cX3_takeNumbered 7 = .ok (.getfield 80, 3) := by decide +kernel
theorem dX3_takeNumbered_10 : decode cX3_takeNumbered 10 = .ok (.invokestatic 68, 3) := by decide +kernel
theorem dX3_takeNumbered_13 : decode cX3_takeNumbered 13 = .ok (.istore 4, 2) := by decide +kernel
theorem dX3_takeNumbered_15 : decode cX3_takeNumbered 15 = .ok (.aload_n 0, 1) := by decide +kernel
theorem dX3_takeNumbered_16 : decode cX3_takeNumbered 16 = .ok (.iconst 0, 1) := by decide +kernel
theorem dX3_takeNumbered_17 : decode cX3_takeNumbered 17 = .ok (.iload_n 1, 1) := by decide +kernel
theorem dX3_takeNumbered_18 : decode cX3_takeNumbered 18 = .ok (.bipush 8, 2) := by decide +kernel
theorem dX3_takeNumbered_20 : decode cX3_takeNumbered 20 = .ok (.invokestatic 62, 3) := by decide +kernel
theorem dX3_takeNumbered_23 : decode cX3_takeNumbered 23 = .ok (.invokestatic 68, 3) := by decide +kernel
theorem dX3_takeNumbered_26 : decode cX3_takeNumbered 26 = .ok (.putfield 71, 3) := by decide +kernel
theorem dX3_takeNumbered_29 : decode cX3_takeNumbered 29 = .ok (.aload_n 0, 1) := by decide +kernel
theorem dX3_takeNumbered_30 : decode cX3_takeNumbered 30 = .ok (.getfield 71, 3) := by decide +kernel
theorem dX3_takeNumbered_33 : decode cX3_takeNumbered 33 = .ok (.iconst 1, 1) := by decide +kernel
theorem dX3_takeNumbered_34 : decode cX3_takeNumbered 34 = .ok (.isub, 1) := by decide +kernel
theorem dX3_takeNumbered_35 : decode cX3_takeNumbered 35 = .ok (.istore 5, 2) := by decide +kernel
theorem dX3_takeNumbered_37 : decode cX3_takeNumbered 37 = .ok (.iload 5, 2) := by decide +kernel
theorem dX3_takeNumbered_39 : decode cX3_takeNumbered 39 = .ok (.ifCond .lt 27, 3) := by decide +kernel
theorem dX3_takeNumbered_42 : decode cX3_takeNumbered 42 = .ok (.aload_n 0, 1) := by decide +kernel
theorem dX3_takeNumbered_43 : decode cX3_takeNumbered 43 = .ok (.getfield 39, 3) := by decide +kernel
theorem dX3_takeNumbered_46 : decode cX3_takeNumbered 46 = .ok (.iload 5, 2) := by decide +kernel
theorem dX3_takeNumbered_48 : decode cX3_takeNumbered 48 = .ok (.iconst 1, 1) := by decide +kernel
theorem dX3_takeNumbered_49 : decode cX3_takeNumbered 49 = .ok (.iload_n 3, 1) := by decide +kernel
theorem dX3_takeNumbered_50 : decode cX3_takeNumbered 50 = .ok (.iload 4, 2) := by decide +kernel
theorem dX3_takeNumbered_52 : decode cX3_takeNumbered 52 = .ok (.irem, 1) := by decide +kernel
theorem dX3_takeNumbered_53 : decode cX3_takeNumbered 53 = .ok (.iadd, 1) := by decide +kernel
theorem dX3_takeNumbered_54 : decode cX3_takeNumbered 54 = .ok (.iastore, 1) := by decide +kernel
theorem dX3_takeNumbered_55 : decode cX3_takeNumbered 55 = .ok (.iload_n 3, 1) := by decide +kernel
theorem dX3_takeNumbered_56 : decode cX3_takeNumbered 56 = .ok (.iload 4, 2) := by decide +kernel
theorem dX3_takeNumbered_58 : decode cX3_takeNumbered 58 = .ok (.idiv, 1) := by decide +kernel
theorem dX3_takeNumbered_59 : decode cX3_takeNumbered 59 = .ok (.istore_n 3, 1) := by decide +kernel
theorem dX3_takeNumbered_60 : decode cX3_takeNumbered 60 = .ok (.iinc 5 (-1), 3) := by decide +kernel
theorem dX3_takeNumbered_63 : decode cX3_takeNumbered 63 = .ok (.goto (-26), 3) := by decide +kernel
theorem dX3_takeNumbered_66 : decode cX3_takeNumbered 66 = .ok (.return_, 1) := by decide +kernel
theorem dX3_takeSigns_0 : decode cX3_takeSigns 0 = .ok (.aload_n 0, 1) := by decide +kernel
theorem dX3_takeSigns_1 : decode cX3_takeSigns 1 = .ok (.iconst 0, 1) := by decide +kernel
theorem dX3_takeSigns_2 : decode cX3_takeSigns 2 = .ok (.iload_n 2, 1) := by decide +kernel
theorem dX3_takeSigns_3 : decode cX3_takeSigns 3 = .ok (.aload_n 1, 1) := by decide +kernel
theorem dX3_takeSigns_4 : decode cX3_takeSigns 4 = .ok (.arraylength, 1) := by decide +kernel
theorem dX3_takeSigns_5 : decode cX3_takeSigns 5 = .ok (.bipush 8, 2) := by decide +kernel
theorem dX3_takeSigns_7 : decode cX3_takeSigns 7 = .ok (.invokestatic 62, 3) := by decide +kernel
theorem dX3_takeSigns_10 : decode cX3_takeSigns 10 = .ok (.invokestatic 62, 3) := by decide +kernel
theorem dX3_takeSigns_13 : decode cX3_takeSigns 13 = .ok (.invokestatic 68, 3) := by decide +kernel
theorem dX3_takeSigns_16 : decode cX3_takeSigns 16 = .ok (.putfield 71, 3) := by decide +kernel
theorem dX3_takeSigns_19 : decode cX3_takeSigns 19 = .ok (.aload_n 1, 1) := by decide +kernel
theorem dX3_takeSigns_20 : decode cX3_takeSigns 20 = .ok (.iconst 0, 1) := by decide +kernel
theorem dX3_takeSigns_21 : decode cX3_takeSigns 21 = .ok (.aload_n 0, 1) := by decide +kernel
theorem dX3_takeSigns_22 : decode cX3_takeSigns 22 = .ok (.getfield 39, 3) := by decide +kernel
theorem dX3_takeSigns_25 : decode cX3_takeSigns 25 = .ok (.iconst 0, 1) := by decide +kernel
theorem dX3_takeSigns_26 : decode cX3_takeSigns 26 = .ok (.aload_n 0, 1) := by decide +kernel
theorem dX3_takeSigns_27 : decode cX3_takeSigns 27 = .ok (.getfield 71, 3) := by decide +kernel
theorem dX3_takeSigns_30 : decode cX3_takeSigns 30 = .ok (.invokestatic 74, 3) := by decide +kernel
theorem dX3_takeSigns_33 : decode cX3_takeSigns 33 = .ok (.return_, 1) := by decide +kernel
theorem dX10_add_0 : decode cX10_add 0 = .ok (.iconst 0, 1) := by decide +kernel
theorem dX10_add_1 : decode cX10_add 1 = .ok (.istore_n 2, 1) := by decide +kernel
theorem dX10_add_2 : decode cX10_add 2 = .ok (.aload_n 0, 1) := by decide +kernel
theorem dX10_add_3 : decode cX10_add 3 = .ok (.getfield 15, 3) := by decide +kernel
theorem dX10_add_6 : decode cX10_add 6 = .ok (.istore_n 3, 1) := by decide +kernel
theorem dX10_add_7 : decode cX10_add 7 = .ok (.iload_n 2, 1) := by decide +kernel
theorem dX10_add_8 : decode cX10_add 8 = .ok (.iload_n 3, 1) := by decide +kernel
theorem dX10_add_9 : decode cX10_add 9 = .ok (.if_icmp .ge 35, 3) := by decide +kernel
theorem dX10_add_12 : decode cX10_add 12 = .ok (.iload_n 2, 1) := by decide +kernel
theorem dX10_add_13 : decode cX10_add 13 = .ok (.iload_n 3, 1) := by decide +kernel
theorem dX10_add_14 : decode cX10_add 14 = .ok (.iadd, 1) := by decide +kernel
theorem dX10_add_15 : decode cX10_add 15 = .ok (.iconst 2, 1) := by decide +kernel
theorem dX10_add_16 : decode cX10_add 16 = .ok (.idiv, 1) := by decide +kernel
theorem dX10_add_17 : decode cX10_add 17 = .ok (.istore 4, 2) := by decide +kernel
theorem dX10_add_19 : decode cX10_add 19 = .ok (.aload_n 0, 1) := by decide +kernel
theorem dX10_add_20 : decode cX10_add 20 = .ok (.getfield 11, 3) := by decide +kernel
theorem dX10_add_23 : decode cX10_add 23 = .ok (.iload 4, 2) := by decide +kernel
theorem dX10_add_25 : decode cX10_add 25 = .ok (.iaload, 1) := by decide +kernel
theorem dX10_add_26 : decode cX10_add 26 = .ok (.iload_n 1, 1) := by decide +kernel
theorem dX10_add_27 : decode cX10_add 27 = .ok (.if_icmp .ge 11, 3) := by decide +kernel
theorem dX10_add_30 : decode cX10_add 30 = .ok (.iload 4, 2) := by decide +kernel
theorem dX10_add_32 : decode cX10_add 32 = .ok (.iconst 1, 1) := by decide +kernel
theorem dX10_add_33 : decode cX10_add 33 = .ok (.iadd, 1) := by decide +kernel
theorem dX10_add_34 : decode cX10_add 34 = .ok (.istore_n 2, 1) := by decide +kernel
theorem dX10_add_35 : decode cX10_add 35 = .ok (.goto 6, 3) := by decide +kernel
theorem dX10_add_38 : decode cX10_add 38 = .ok (.iload 4, 2) := by decide +kernel
theorem dX10_add_40 : decode cX10_add 40 = .ok (.istore_n 3, 1) := by decide +kernel
theorem dX10_add_41 : decode cX10_add 41 = .ok (.goto (-34), 3) := by decide +kernel
theorem dX10_add_44 : decode cX10_add 44 = .ok (.iload_n 2, 1) := by decide +kernel
theorem dX10_add_45 : decode cX10_add 45 = .ok (.aload_n 0, 1) := by decide +kernel
theorem dX10_add_46 : decode cX10_add 46 = .ok (.getfield 15, 3) := by decide +kernel
theorem dX10_add_49 : decode cX10_add 49 = .ok (.if_icmp .ge 14, 3) := by decide +kernel
theorem dX10_add_52 : decode cX10_add 52 = .ok (.aload_n 0, 1) := by decide +kernel
theorem dX10_add_53 : decode cX10_add 53 = .ok (.getfield 11, 3) := by decide +kernel
theorem dX10_add_56 : decode cX10_add 56 = .ok (.iload_n 2, 1) := by decide +kernel
theorem dX10_add_57 : decode cX10_add 57 = .ok (.iaload, 1) := by decide +kernel
theorem dX10_add_58 : decode cX10_add 58 = .ok (.iload_n 1, 1) := by decide +kernel
theorem dX10_add_59 : decode cX10_add 59 = .ok (.if_icmp .ne 4, 3) := by decide +kernel
theorem dX10_add_62 : decode cX10_add 62 = .ok (.return_, 1) := by decide +kernel
theorem dX10_add_63 : decode cX10_add 63 = .ok (.aload_n 0, 1) := by decide +kernel
theorem dX10_add_64 : decode cX10_add 64 = .ok (.getfield 15, 3) := by decide +kernel
theorem dX10_add_67 : decode cX10_add 67 = .ok (.sipush 200, 3) := by decide +kernel
theorem dX10_add_70 : decode cX10_add 70 = .ok (.if_icmp .ne 9, 3) := by decide +kernel
theorem dX10_add_73 : decode cX10_add 73 = .ok (.aload_n 0, 1) := by decide +kernel
theorem dX10_add_74 : decode cX10_add 74 = .ok (.iconst 1, 1) := by decide +kernel
theorem dX10_add_75 : decode cX10_add 75 = .ok (.putfield 19, 3) := by decide +kernel
theorem dX10_add_78 : decode cX10_add 78 = .ok (.return_, 1) := by decide +kernel
theorem dX10_add_79 : decode cX10_add 79 = .ok (.aload_n 0, 1) := by decide +kernel
theorem dX10_add_80 : decode cX10_add 80 = .ok (.getfield 11, 3) := by decide +kernel
theorem dX10_add_83 : decode cX10_add 83 = .ok (.iload_n 2, 1) := by decide +kernel
theorem dX10_add_84 : decode cX10_add 84 = .ok (.aload_n 0, 1) := by decide +kernel
theorem dX10_add_85 : decode cX10_add 85 = .ok (.getfield 11, 3) := by decide +kernel
theorem dX10_add_88 : decode cX10_add 88 = .ok (.iload_n 2, 1) := by decide +kernel
theorem dX10_add_89 : decode cX10_add 89 = .ok (.iconst 1, 1) := by decide +kernel
theorem dX10_add_90 : decode cX10_add 90 = .ok (.iadd, 1) := by decide +kernel
theorem dX10_add_91 : decode cX10_add 91 = .ok (.aload_n 0, 1) := by decide +kernel
theorem dX10_add_92 : decode cX10_add 92 = .ok (.getfield 15, 3) := by decide +kernel
theorem dX10_add_95 : decode cX10_add 95 = .ok (.iload_n 2, 1) := by decide +kernel
theorem dX10_add_96 : decode cX10_add 96 = .ok (.isub, 1) := by decide +kernel
theorem dX10_add_97 : decode cX10_add 97 = .ok (.invokestatic 23, 3) := by decide +kernel
theorem dX10_add_100 : decode cX10_add 100 = .ok (.aload_n 0, 1) := by decide +kernel
theorem dX10_add_101 : decode cX10_add 101 = .ok (.getfield 11, 3) := by decide +kernel
theorem dX10_add_104 : decode cX10_add 104 = .ok (.iload_n 2, 1) := by decide +kernel
theorem dX10_add_105 : decode cX10_add 105 = .ok (.iload_n 1, 1) := by decide +kernel
theorem dX10_add_106 : decode cX10_add 106 = .ok (.iastore, 1) := by decide +kernel
theorem dX10_add_107 : decode cX10_add 107 = .ok (.aload_n 0, 1) := by decide +kernel
theorem dX10_add_108 : decode cX10_add 108 = .ok (.dup, 1) := by decide +kernel
theorem dX10_add_109 : decode cX10_add 109 = .ok (.getfield 15, 3) := by decide +kernel
theorem dX10_add_112 : decode cX10_add 112 = .ok (.iconst 1, 1) := by decide +kernel
theorem dX10_add_113 : decode cX10_add 113 = .ok (.iadd, 1) := by decide +kernel
theorem dX10_add_114 : decode cX10_add 114 = .ok (.putfield 15, 3) := by decide +kernel
theorem dX10_add_117 : decode cX10_add 117 = .ok (.return_, 1) := by decide +kernel
theorem dX11_emptyTape_0 : decode cX11_emptyTape 0 = .ok (.aload_n 0, 1) := by decide +kernel
theorem dX11_emptyTape_1 : decode cX11_emptyTape 1 = .ok (.getfield 76, 3) := by decide +kernel
theorem dX11_emptyTape_4 : decode cX11_emptyTape 4 = .ok (.istore_n 1, 1) := by decide +kernel
theorem dX11_emptyTape_5 : decode cX11_emptyTape 5 = .ok (.aload_n 0, 1) := by decide +kernel
theorem dX11_emptyTape_6 : decode cX11_emptyTape 6 = .ok (.iconst 0, 1) := by decide +kernel
theorem dX11_emptyTape_7 : decode cX11_emptyTape 7 = .ok (.putfield 76, 3) := by decide +kernel
theorem dX11_emptyTape_10 : decode cX11_emptyTape 10 = .ok (.iload_n 1, 1) := by decide +kernel
theorem dX11_emptyTape_11 : decode cX11_emptyTape 11 = .ok (.ireturn, 1) := by decide +kernel
theorem dX11_isSet_0 : decode cX11_isSet 0 = .ok (.iload_n 1, 1) := by decide +kernel
theorem dX11_isSet_1 : decode cX11_isSet 1 = .ok (.ifCond .lt 20, 3) := by decide +kernel
theorem dX11_isSet_4 : decode cX11_isSet 4 = .ok (.iload_n 1, 1) := by decide +kernel
theorem dX11_isSet_5 : decode cX11_isSet 5 = .ok (.iconst 1, 1) := by decide +kernel
theorem dX11_isSet_6 : decode cX11_isSet 6 = .ok (.aload_n 0, 1) := by decide +kernel
theorem dX11_isSet_7 : decode cX11_isSet 7 = .ok (.getfield 24, 3) := by decide +kernel
theorem dX11_isSet_10 : decode cX11_isSet 10 = .ok (.getfield 98, 3) := by decide +kernel
theorem dX11_isSet_13 : decode cX11_isSet 13 = .ok (.ishl, 1) := by decide +kernel
theorem dX11_isSet_14 : decode cX11_isSet 14 = .ok (.if_icmp .ge 7, 3) := by decide +kernel
theorem dX11_isSet_17 : decode cX11_isSet 17 = .ok (.iconst 1, 1) := by decide +kernel
theorem dX11_isSet_18 : decode cX11_isSet 18 = .ok (.goto 4, 3) := by decide +kernel
theorem dX11_isSet_21 : decode cX11_isSet 21 = .ok (.iconst 0, 1) := by decide +kernel
theorem dX11_isSet_22 : decode cX11_isSet 22 = .ok (.ireturn, 1) := by decide +kernel
theorem dX11_isRule_0 : decode cX11_isRule 0 = .ok (.iload_n 1, 1) := by decide +kernel
theorem dX11_isRule_1 : decode cX11_isRule 1 = .ok (.ifCond .lt 18, 3) := by decide +kernel
theorem dX11_isRule_4 : decode cX11_isRule 4 = .ok (.iload_n 1, 1) := by decide +kernel
theorem dX11_isRule_5 : decode cX11_isRule 5 = .ok (.aload_n 0, 1) := by decide +kernel
theorem dX11_isRule_6 : decode cX11_isRule 6 = .ok (.getfield 24, 3) := by decide +kernel
theorem dX11_isRule_9 : decode cX11_isRule 9 = .ok (.getfield 98, 3) := by decide +kernel
theorem dX11_isRule_12 : decode cX11_isRule 12 = .ok (.if_icmp .ge 7, 3) := by decide +kernel
theorem dX11_isRule_15 : decode cX11_isRule 15 = .ok (.iconst 1, 1) := by decide +kernel
theorem dX11_isRule_16 : decode cX11_isRule 16 = .ok (.goto 4, 3) := by decide +kernel
theorem dX11_isRule_19 : decode cX11_isRule 19 = .ok (.iconst 0, 1) := by decide +kernel
theorem dX11_isRule_20 : decode cX11_isRule 20 = .ok (.ireturn, 1) := by decide +kernel
theorem dX11_end_0 : decode cX11_end 0 = .ok (.iload_n 1, 1) := by decide +kernel
theorem dX11_end_1 : decode cX11_end 1 = .ok (.ifCond .lt 11, 3) := by decide +kernel
theorem dX11_end_4 : decode cX11_end 4 = .ok (.iload_n 1, 1) := by decide +kernel
theorem dX11_end_5 : decode cX11_end 5 = .ok (.aload_n 0, 1) := by decide +kernel
theorem dX11_end_6 : decode cX11_end 6 = .ok (.getfield 76, 3) := by decide +kernel
theorem dX11_end_9 : decode cX11_end 9 = .ok (.if_icmp .le 5, 3) := by decide +kernel
theorem dX11_end_12 : decode cX11_end 12 = .ok (.iconst 0, 1) := by decide +kernel
theorem dX11_end_13 : decode cX11_end 13 = .ok (.ireturn, 1) := by decide +kernel
theorem dX11_end_14 : decode cX11_end 14 = .ok (.aload_n 0, 1) := by decide +kernel
theorem dX11_end_15 : decode cX11_end 15 = .ok (.iload_n 1, 1) := by decide +kernel
theorem dX11_end_16 : decode cX11_end 16 = .ok (.putfield 76, 3) := by decide +kernel
theorem dX11_end_19 : decode cX11_end 19 = .ok (.iconst 1, 1) := by decide +kernel
theorem dX11_end_20 : decode cX11_end 20 = .ok (.ireturn, 1) := by decide +kernel
theorem dX11_slack_0 : decode cX11_slack 0 = .ok (.iload_n 1, 1) := by decide +kernel
theorem dX11_slack_1 : decode cX11_slack 1 = .ok (.ifCond .eq 10, 3) := by decide +kernel
theorem dX11_slack_4 : decode cX11_slack 4 = .ok (.iload_n 1, 1) := by decide +kernel
theorem dX11_slack_5 : decode cX11_slack 5 = .ok (.iconst 1, 1) := by decide +kernel
theorem dX11_slack_6 : decode cX11_slack 6 = .ok (.if_icmp .eq 5, 3) := by decide +kernel
theorem dX11_slack_9 : decode cX11_slack 9 = .ok (.iconst 0, 1) := by decide +kernel
theorem dX11_slack_10 : decode cX11_slack 10 = .ok (.ireturn, 1) := by decide +kernel
theorem dX11_slack_11 : decode cX11_slack 11 = .ok (.aload_n 0, 1) := by decide +kernel
theorem dX11_slack_12 : decode cX11_slack 12 = .ok (.getfield 33, 3) := by decide +kernel
theorem dX11_slack_15 : decode cX11_slack 15 = .ok (.iload_n 1, 1) := by decide +kernel
theorem dX11_slack_16 : decode cX11_slack 16 = .ok (.putfield 131, 3) := by decide +kernel
theorem dX11_slack_19 : decode cX11_slack 19 = .ok (.aload_n 0, 1) := by decide +kernel
theorem dX11_slack_20 : decode cX11_slack 20 = .ok (.dup, 1) := by decide +kernel
theorem dX11_slack_21 : decode cX11_slack 21 = .ok (.getfield 104, 3) := by decide +kernel
theorem dX11_slack_24 : decode cX11_slack 24 = .ok (.iconst 1, 1) := by decide +kernel
theorem dX11_slack_25 : decode cX11_slack 25 = .ok (.iadd, 1) := by decide +kernel
theorem dX11_slack_26 : decode cX11_slack 26 = .ok (.putfield 104, 3) := by decide +kernel
theorem dX11_slack_29 : decode cX11_slack 29 = .ok (.iconst 1, 1) := by decide +kernel
theorem dX11_slack_30 : decode cX11_slack 30 = .ok (.ireturn, 1) := by decide +kernel
theorem dX11_where_0 : decode cX11_where 0 = .ok (.aload_n 0, 1) := by decide +kernel
theorem dX11_where_1 : decode cX11_where 1 = .ok (.getfield 63, 3) := by decide +kernel
theorem dX11_where_4 : decode cX11_where 4 = .ok (.ireturn, 1) := by decide +kernel
theorem dX11_fault_0 : decode cX11_fault 0 = .ok (.iload_n 1, 1) := by decide +kernel
theorem dX11_fault_1 : decode cX11_fault 1 = .ok (.ifCond .ne 11, 3) := by decide +kernel
theorem dX11_fault_4 : decode cX11_fault 4 = .ok (.aload_n 0, 1) := by decide +kernel
theorem dX11_fault_5 : decode cX11_fault 5 = .ok (.getfield 49, 3) := by decide +kernel
theorem dX11_fault_8 : decode cX11_fault 8 = .ok (.getfield 118, 3) := by decide +kernel
theorem dX11_fault_11 : decode cX11_fault 11 = .ok (.ireturn, 1) := by decide +kernel
theorem dX11_fault_12 : decode cX11_fault 12 = .ok (.iload_n 1, 1) := by decide +kernel
theorem dX11_fault_13 : decode cX11_fault 13 = .ok (.iconst 1, 1) := by decide +kernel
theorem dX11_fault_14 : decode cX11_fault 14 = .ok (.if_icmp .ne 13, 3) := by decide +kernel
theorem dX11_fault_17 : decode cX11_fault 17 = .ok (.aload_n 0, 1) := by decide +kernel
theorem dX11_fault_18 : decode cX11_fault 18 = .ok (.getfield 49, 3) := by decide +kernel
theorem dX11_fault_21 : decode cX11_fault 21 = .ok (.getfield 121, 3) := by decide +kernel
theorem dX11_fault_24 : decode cX11_fault 24 = .ok (.goto 4, 3) := by decide +kernel
theorem dX11_fault_27 : decode cX11_fault 27 = .ok (.iconst (-1), 1) := by decide +kernel
theorem dX11_fault_28 : decode cX11_fault 28 = .ok (.ireturn, 1) := by decide +kernel
theorem dX11_use_0 : decode cX11_use 0 = .ok (.aload_n 0, 1) := by decide +kernel
theorem dX11_use_1 : decode cX11_use 1 = .ok (.iload_n 1, 1) := by decide +kernel
theorem dX11_use_2 : decode cX11_use 2 = .ok (.invokevirtual 124, 3) := by decide +kernel
theorem dX11_use_5 : decode cX11_use 5 = .ok (.ifCond .ne 5, 3) := by decide +kernel
theorem dX11_use_8 : decode cX11_use 8 = .ok (.iconst 0, 1) := by decide +kernel
theorem dX11_use_9 : decode cX11_use 9 = .ok (.ireturn, 1) := by decide +kernel
theorem dX11_use_10 : decode cX11_use 10 = .ok (.aload_n 0, 1) := by decide +kernel
theorem dX11_use_11 : decode cX11_use 11 = .ok (.getfield 33, 3) := by decide +kernel
theorem dX11_use_14 : decode cX11_use 14 = .ok (.iload_n 1, 1) := by decide +kernel
theorem dX11_use_15 : decode cX11_use 15 = .ok (.putfield 128, 3) := by decide +kernel
theorem dX11_use_18 : decode cX11_use 18 = .ok (.aload_n 0, 1) := by decide +kernel
theorem dX11_use_19 : decode cX11_use 19 = .ok (.dup, 1) := by decide +kernel
theorem dX11_use_20 : decode cX11_use 20 = .ok (.getfield 104, 3) := by decide +kernel
theorem dX11_use_23 : decode cX11_use 23 = .ok (.iconst 1, 1) := by decide +kernel
theorem dX11_use_24 : decode cX11_use 24 = .ok (.iadd, 1) := by decide +kernel
theorem dX11_use_25 : decode cX11_use 25 = .ok (.putfield 104, 3) := by decide +kernel
theorem dX11_use_28 : decode cX11_use 28 = .ok (.iconst 1, 1) := by decide +kernel
theorem dX11_use_29 : decode cX11_use 29 = .ok (.ireturn, 1) := by decide +kernel
theorem dX11_aged_0 : decode cX11_aged 0 = .ok (.iload_n 1, 1) := by decide +kernel
theorem dX11_aged_1 : decode cX11_aged 1 = .ok (.ifCond .lt 11, 3) := by decide +kernel
theorem dX11_aged_4 : decode cX11_aged 4 = .ok (.iload_n 1, 1) := by decide +kernel
theorem dX11_aged_5 : decode cX11_aged 5 = .ok (.aload_n 0, 1) := by decide +kernel
theorem dX11_aged_6 : decode cX11_aged 6 = .ok (.getfield 115, 3) := by decide +kernel
theorem dX11_aged_9 : decode cX11_aged 9 = .ok (.if_icmp .lt 7, 3) := by decide +kernel
theorem dX11_aged_12 : decode cX11_aged 12 = .ok (.iconst (-1), 1) := by decide +kernel
theorem dX11_aged_13 : decode cX11_aged 13 = .ok (.goto 11, 3) := by decide +kernel
theorem dX11_aged_16 : decode cX11_aged 16 = .ok (.aload_n 0, 1) := by decide +kernel
theorem dX11_aged_17 : decode cX11_aged 17 = .ok (.getfield 67, 3) := by decide +kernel
theorem dX11_aged_20 : decode cX11_aged 20 = .ok (.iload_n 1, 1) := by decide +kernel
theorem dX11_aged_21 : decode cX11_aged 21 = .ok (.iaload, 1) := by decide +kernel
theorem dX11_aged_22 : decode cX11_aged 22 = .ok (.iconst 1, 1) := by decide +kernel
theorem dX11_aged_23 : decode cX11_aged 23 = .ok (.isub, 1) := by decide +kernel
theorem dX11_aged_24 : decode cX11_aged 24 = .ok (.ireturn, 1) := by decide +kernel
theorem dX11_putNumber_0 : decode cX11_putNumber 0 = .ok (.bipush 24, 2) := by decide +kernel
theorem dX11_putNumber_2 : decode cX11_putNumber 2 = .ok (.istore_n 2, 1) := by decide +kernel
theorem dX11_putNumber_3 : decode cX11_putNumber 3 = .ok (.iload_n 2, 1) := by decide +kernel
theorem dX11_putNumber_4 : decode cX11_putNumber 4 = .ok (.ifCond .lt 35, 3) := by decide +kernel
theorem dX11_putNumber_7 : decode cX11_putNumber 7 = .ok (.aload_n 0, 1) := by decide +kernel
theorem dX11_putNumber_8 : decode cX11_putNumber 8 = .ok (.getfield 9, 3) := by decide +kernel
theorem dX11_putNumber_11 : decode cX11_putNumber 11 = .ok (.aload_n 0, 1) := by decide +kernel
theorem dX11_putNumber_12 : decode cX11_putNumber 12 = .ok (.getfield 76, 3) := by decide +kernel
theorem dX11_putNumber_15 : decode cX11_putNumber 15 = .ok (.iload_n 1, 1) := by decide +kernel
theorem dX11_putNumber_16 : decode cX11_putNumber 16 = .ok (.iload_n 2, 1) := by decide +kernel
theorem dX11_putNumber_17 : decode cX11_putNumber 17 = .ok (.iushr, 1) := by decide +kernel
theorem dX11_putNumber_18 : decode cX11_putNumber 18 = .ok (.sipush 255, 3) := by decide +kernel
theorem dX11_putNumber_21 : decode cX11_putNumber 21 = .ok (.iand, 1) := by decide +kernel
theorem dX11_putNumber_22 : decode cX11_putNumber 22 = .ok (.iastore, 1) := by decide +kernel
theorem dX11_putNumber_23 : decode cX11_putNumber 23 = .ok (.aload_n 0, 1) := by decide +kernel
theorem dX11_putNumber_24 : decode cX11_putNumber 24 = .ok (.dup, 1) := by decide +kernel
theorem dX11_putNumber_25 : decode cX11_putNumber 25 = .ok (.getfield 76, 3) := by decide +kernel
theorem dX11_putNumber_28 : decode cX11_putNumber 28 = .ok (.iconst 1, 1) := by decide +kernel
theorem dX11_putNumber_29 : decode cX11_putNumber 29 = .ok (.iadd, 1) := by decide +kernel
theorem dX11_putNumber_30 : decode cX11_putNumber 30 = .ok (.putfield 76, 3) := by decide +kernel
theorem dX11_putNumber_33 : decode cX11_putNumber 33 = .ok (.iinc 2 (-8), 3) := by decide +kernel
theorem dX11_putNumber_36 : decode cX11_putNumber 36 = .ok (.goto (-33), 3) := by decide +kernel
theorem dX11_putNumber_39 : decode cX11_putNumber 39 = .ok (.return_, 1) := by decide +kernel
theorem dX11_feed_0 : decode cX11_feed 0 = .ok (.aload_n 0, 1) := by decide +kernel
theorem dX11_feed_1 : decode cX11_feed 1 = .ok (.getfield 76, 3) := by decide +kernel
theorem dX11_feed_4 : decode cX11_feed 4 = .ok (.bipush 20, 2) := by decide +kernel
theorem dX11_feed_6 : decode cX11_feed 6 = .ok (.iadd, 1) := by decide +kernel
theorem dX11_feed_7 : decode cX11_feed 7 = .ok (.sipush 600, 3) := by decide +kernel
theorem dX11_feed_10 : decode cX11_feed 10 = .ok (.if_icmp .le 5, 3) := by decide +kernel
theorem dX11_feed_13 : decode cX11_feed 13 = .ok (.iconst (-1), 1) := by decide +kernel
theorem dX11_feed_14 : decode cX11_feed 14 = .ok (.ireturn, 1) := by decide +kernel
theorem dX11_feed_15 : decode cX11_feed 15 = .ok (.aload_n 0, 1) := by decide +kernel
theorem dX11_feed_16 : decode cX11_feed 16 = .ok (.iload_n 1, 1) := by decide +kernel
theorem dX11_feed_17 : decode cX11_feed 17 = .ok (.invokevirtual 79, 3) := by decide +kernel
theorem dX11_feed_20 : decode cX11_feed 20 = .ok (.aload_n 0, 1) := by decide +kernel
theorem dX11_feed_21 : decode cX11_feed 21 = .ok (.iload_n 2, 1) := by decide +kernel
theorem dX11_feed_22 : decode cX11_feed 22 = .ok (.invokevirtual 79, 3) := by decide +kernel
theorem dX11_feed_25 : decode cX11_feed 25 = .ok (.aload_n 0, 1) := by decide +kernel
theorem dX11_feed_26 : decode cX11_feed 26 = .ok (.iload_n 3, 1) := by decide +kernel
theorem dX11_feed_27 : decode cX11_feed 27 = .ok (.invokevirtual 79, 3) := by decide +kernel
theorem dX11_feed_30 : decode cX11_feed 30 = .ok (.aload_n 0, 1) := by decide +kernel
theorem dX11_feed_31 : decode cX11_feed 31 = .ok (.iload 4, 2) := by decide +kernel
theorem dX11_feed_33 : decode cX11_feed 33 = .ok (.invokevirtual 79, 3) := by decide +kernel
theorem dX11_feed_36 : decode cX11_feed 36 = .ok (.aload_n 0, 1) := by decide +kernel
theorem dX11_feed_37 : decode cX11_feed 37 = .ok (.iload 5, 2) := by decide +kernel
theorem dX11_feed_39 : decode cX11_feed 39 = .ok (.invokevirtual 79, 3) := by decide +kernel
theorem dX11_feed_42 : decode cX11_feed 42 = .ok (.aload_n 0, 1) := by decide +kernel
theorem dX11_feed_43 : decode cX11_feed 43 = .ok (.getfield 76, 3) := by decide +kernel
theorem dX11_feed_46 : decode cX11_feed 46 = .ok (.ireturn, 1) := by decide +kernel
theorem dX11_areLetters_0 : decode cX11_areLetters 0 = .ok (.iload_n 1, 1) := by decide +kernel
theorem dX11_areLetters_1 : decode cX11_areLetters 1 = .ok (.istore_n 3, 1) := by decide +kernel
theorem dX11_areLetters_2 : decode cX11_areLetters 2 = .ok (.iload_n 3, 1) := by decide +kernel
theorem dX11_areLetters_3 : decode cX11_areLetters 3 = .ok (.iload_n 2, 1) := by decide +kernel
theorem dX11_areLetters_4 : decode cX11_areLetters 4 = .ok (.if_icmp .ge 27, 3) := by decide +kernel
theorem dX11_areLetters_7 : decode cX11_areLetters 7 = .ok (.aload_n 0, 1) := by decide +kernel
theorem dX11_areLetters_8 : decode cX11_areLetters 8 = .ok (.getfield 24, 3) := by decide +kernel
theorem dX11_areLetters_11 : decode cX11_areLetters 11 = .ok (.aload_n 0, 1) := by decide +kernel
theorem dX11_areLetters_12 : decode cX11_areLetters 12 = .ok (.getfield 9, 3) := by decide +kernel
theorem dX11_areLetters_15 : decode cX11_areLetters 15 = .ok (.iload_n 3, 1) := by decide +kernel
theorem dX11_areLetters_16 : decode cX11_areLetters 16 = .ok (.iaload, 1) := by decide +kernel
theorem dX11_areLetters_17 : decode cX11_areLetters 17 = .ok (.invokevirtual 268, 3) := by decide +kernel
theorem dX11_areLetters_20 : decode cX11_areLetters 20 = .ok (.ifCond .ne 5, 3) := by decide +kernel
theorem dX11_areLetters_23 : decode cX11_areLetters 23 = .ok (.iconst 0, 1) := by decide +kernel
theorem dX11_areLetters_24 : decode cX11_areLetters 24 = .ok (.ireturn, 1) := by decide +kernel
theorem dX11_areLetters_25 : decode cX11_areLetters 25 = .ok (.iinc 3 1, 3) := by decide +kernel
theorem dX11_areLetters_28 : decode cX11_areLetters 28 = .ok (.goto (-26), 3) := by decide +kernel
theorem dX11_areLetters_31 : decode cX11_areLetters 31 = .ok (.iconst 1, 1) := by decide +kernel
theorem dX11_areLetters_32 : decode cX11_areLetters 32 = .ok (.ireturn, 1) := by decide +kernel
theorem dX11_placeOfColon_0 : decode cX11_placeOfColon 0 = .ok (.iconst 0, 1) := by decide +kernel
theorem dX11_placeOfColon_1 : decode cX11_placeOfColon 1 = .ok (.istore_n 2, 1) := by decide +kernel
theorem dX11_placeOfColon_2 : decode cX11_placeOfColon 2 = .ok (.iload_n 2, 1) := by decide +kernel
theorem dX11_placeOfColon_3 : decode cX11_placeOfColon 3 = .ok (.iload_n 1, 1) := by decide +kernel
theorem dX11_placeOfColon_4 : decode cX11_placeOfColon 4 = .ok (.if_icmp .ge 22, 3) := by decide +kernel
theorem dX11_placeOfColon_7 : decode cX11_placeOfColon 7 = .ok (.aload_n 0, 1) := by decide +kernel
theorem dX11_placeOfColon_8 : decode cX11_placeOfColon 8 = .ok (.getfield 9, 3) := by decide +kernel
theorem dX11_placeOfColon_11 : decode cX11_placeOfColon 11 = .ok (.iload_n 2, 1) := by decide +kernel
theorem dX11_placeOfColon_12 : decode cX11_placeOfColon 12 = .ok (.iaload, 1) := by decide +kernel
theorem dX11_placeOfColon_13 : decode cX11_placeOfColon 13 = .ok (.bipush 58, 2) := by decide +kernel
theorem dX11_placeOfColon_15 : decode cX11_placeOfColon 15 = .ok (.if_icmp .ne 5, 3) := by decide +kernel
theorem dX11_placeOfColon_18 : decode cX11_placeOfColon 18 = .ok (.iload_n 2, 1) := by decide +kernel
theorem dX11_placeOfColon_19 : decode cX11_placeOfColon 19 = .ok (.ireturn, 1) := by decide +kernel
theorem dX11_placeOfColon_20 : decode cX11_placeOfColon 20 = .ok (.iinc 2 1, 3) := by decide +kernel
theorem dX11_placeOfColon_23 : decode cX11_placeOfColon 23 = .ok (.goto (-21), 3) := by decide +kernel
theorem dX11_placeOfColon_26 : decode cX11_placeOfColon 26 = .ok (.iconst (-1), 1) := by decide +kernel
theorem dX11_placeOfColon_27 : decode cX11_placeOfColon 27 = .ok (.ireturn, 1) := by decide +kernel
theorem dX11_rule_0 : decode cX11_rule 0 = .ok (.aload_n 0, 1) := by decide +kernel
theorem dX11_rule_1 : decode cX11_rule 1 = .ok (.iload_n 1, 1) := by decide +kernel
theorem dX11_rule_2 : decode cX11_rule 2 = .ok (.invokevirtual 192, 3) := by decide +kernel
theorem dX11_rule_5 : decode cX11_rule 5 = .ok (.ifCond .ne 5, 3) := by decide +kernel
theorem dX11_rule_8 : decode cX11_rule 8 = .ok (.iconst (-1), 1) := by decide +kernel
theorem dX11_rule_9 : decode cX11_rule 9 = .ok (.ireturn, 1) := by decide +kernel
theorem dX11_rule_10 : decode cX11_rule 10 = .ok (.aload_n 0, 1) := by decide +kernel
theorem dX11_rule_11 : decode cX11_rule 11 = .ok (.getfield 24, 3) := by decide +kernel
theorem dX11_rule_14 : decode cX11_rule 14 = .ok (.getfield 169, 3) := by decide +kernel
theorem dX11_rule_17 : decode cX11_rule 17 = .ok (.iload_n 1, 1) := by decide +kernel
theorem dX11_rule_18 : decode cX11_rule 18 = .ok (.aaload, 1) := by decide +kernel
theorem dX11_rule_19 : decode cX11_rule 19 = .ok (.astore_n 3, 1) := by decide +kernel
theorem dX11_rule_20 : decode cX11_rule 20 = .ok (.iload_n 2, 1) := by decide +kernel
theorem dX11_rule_21 : decode cX11_rule 21 = .ok (.tableswitch 67 0 4 #[35, 40, 45, 50, 55], 35) := by decide +kernel
theorem dX11_rule_56 : decode cX11_rule 56 = .ok (.aload_n 3, 1) := by decide +kernel
theorem dX11_rule_57 : decode cX11_rule 57 = .ok (.getfield 290, 3) := by decide +kernel
theorem dX11_rule_60 : decode cX11_rule 60 = .ok (.ireturn, 1) := by decide +kernel
theorem dX11_rule_61 : decode cX11_rule 61 = .ok (.aload_n 3, 1) := by decide +kernel
theorem dX11_rule_62 : decode cX11_rule 62 = .ok (.getfield 293, 3) := by decide +kernel
theorem dX11_rule_65 : decode cX11_rule 65 = .ok (.ireturn, 1) := by decide +kernel
theorem dX11_rule_66 : decode cX11_rule 66 = .ok (.aload_n 3, 1) := by decide +kernel
theorem dX11_rule_67 : decode cX11_rule 67 = .ok (.getfield 296, 3) := by decide +kernel
theorem dX11_rule_70 : decode cX11_rule 70 = .ok (.ireturn, 1) := by decide +kernel
theorem dX11_rule_71 : decode cX11_rule 71 = .ok (.aload_n 3, 1) := by decide +kernel
theorem dX11_rule_72 : decode cX11_rule 72 = .ok (.getfield 299, 3) := by decide +kernel
theorem dX11_rule_75 : decode cX11_rule 75 = .ok (.ireturn, 1) := by decide +kernel
theorem dX11_rule_76 : decode cX11_rule 76 = .ok (.aload_n 0, 1) := by decide +kernel
theorem dX11_rule_77 : decode cX11_rule 77 = .ok (.getfield 33, 3) := by decide +kernel
theorem dX11_rule_80 : decode cX11_rule 80 = .ok (.getfield 128, 3) := by decide +kernel
theorem dX11_rule_83 : decode cX11_rule 83 = .ok (.iload_n 1, 1) := by decide +kernel
theorem dX11_rule_84 : decode cX11_rule 84 = .ok (.ishr, 1) := by decide +kernel
theorem dX11_rule_85 : decode cX11_rule 85 = .ok (.iconst 1, 1) := by decide +kernel
theorem dX11_rule_86 : decode cX11_rule 86 = .ok (.iand, 1) := by decide +kernel
theorem dX11_rule_87 : decode cX11_rule 87 = .ok (.ireturn, 1) := by decide +kernel
theorem dX11_rule_88 : decode cX11_rule 88 = .ok (.iconst (-1), 1) := by decide +kernel
theorem dX11_rule_89 : decode cX11_rule 89 = .ok (.ireturn, 1) := by decide +kernel
theorem dX11_order_0 : decode cX11_order 0 = .ok (.aload_n 0, 1) := by decide +kernel
theorem dX11_order_1 : decode cX11_order 1 = .ok (.iload_n 1, 1) := by decide +kernel
theorem dX11_order_2 : decode cX11_order 2 = .ok (.invokevirtual 192, 3) := by decide +kernel
theorem dX11_order_5 : decode cX11_order 5 = .ok (.ifCond .eq 11, 3) := by decide +kernel
theorem dX11_order_8 : decode cX11_order 8 = .ok (.aload_n 0, 1) := by decide +kernel
theorem dX11_order_9 : decode cX11_order 9 = .ok (.iload_n 2, 1) := by decide +kernel
theorem dX11_order_10 : decode cX11_order 10 = .ok (.invokevirtual 192, 3) := by decide +kernel
theorem dX11_order_13 : decode cX11_order 13 = .ok (.ifCond .ne 5, 3) := by decide +kernel
theorem dX11_order_16 : decode cX11_order 16 = .ok (.iconst 0, 1) := by decide +kernel
theorem dX11_order_17 : decode cX11_order 17 = .ok (.ireturn, 1) := by decide +kernel
theorem dX11_order_18 : decode cX11_order 18 = .ok (.aload_n 0, 1) := by decide +kernel
theorem dX11_order_19 : decode cX11_order 19 = .ok (.getfield 33, 3) := by decide +kernel
theorem dX11_order_22 : decode cX11_order 22 = .ok (.iload_n 1, 1) := by decide +kernel
theorem dX11_order_23 : decode cX11_order 23 = .ok (.iload_n 2, 1) := by decide +kernel
theorem dX11_order_24 : decode cX11_order 24 = .ok (.aload_n 0, 1) := by decide +kernel
theorem dX11_order_25 : decode cX11_order 25 = .ok (.getfield 24, 3) := by decide +kernel
theorem dX11_order_28 : decode cX11_order 28 = .ok (.getfield 98, 3) := by decide +kernel
theorem dX11_order_31 : decode cX11_order 31 = .ok (.invokevirtual 195, 3) := by decide +kernel
theorem dX11_order_34 : decode cX11_order 34 = .ok (.iconst 1, 1) := by decide +kernel
theorem dX11_order_35 : decode cX11_order 35 = .ok (.ireturn, 1) := by decide +kernel
theorem dX11_meant_0 : decode cX11_meant 0 = .ok (.iload_n 1, 1) := by decide +kernel
theorem dX11_meant_1 : decode cX11_meant 1 = .ok (.ifCond .lt 20, 3) := by decide +kernel
theorem dX11_meant_4 : decode cX11_meant 4 = .ok (.iload_n 1, 1) := by decide +kernel
theorem dX11_meant_5 : decode cX11_meant 5 = .ok (.aload_n 0, 1) := by decide +kernel
theorem dX11_meant_6 : decode cX11_meant 6 = .ok (.getfield 112, 3) := by decide +kernel
theorem dX11_meant_9 : decode cX11_meant 9 = .ok (.if_icmp .ge 12, 3) := by decide +kernel
theorem dX11_meant_12 : decode cX11_meant 12 = .ok (.iload_n 2, 1) := by decide +kernel
theorem dX11_meant_13 : decode cX11_meant 13 = .ok (.ifCond .eq 10, 3) := by decide +kernel
theorem dX11_meant_16 : decode cX11_meant 16 = .ok (.iload_n 2, 1) := by decide +kernel
theorem dX11_meant_17 : decode cX11_meant 17 = .ok (.iconst 1, 1) := by decide +kernel
theorem dX11_meant_18 : decode cX11_meant 18 = .ok (.if_icmp .eq 5, 3) := by decide +kernel
theorem dX11_meant_21 : decode cX11_meant 21 = .ok (.iconst (-1), 1) := by decide +kernel
theorem dX11_meant_22 : decode cX11_meant 22 = .ok (.ireturn, 1) := by decide +kernel
theorem dX11_meant_23 : decode cX11_meant 23 = .ok (.iload_n 2, 1) := by decide +kernel
theorem dX11_meant_24 : decode cX11_meant 24 = .ok (.ifCond .ne 15, 3) := by decide +kernel
theorem dX11_meant_27 : decode cX11_meant 27 = .ok (.aload_n 0, 1) := by decide +kernel
