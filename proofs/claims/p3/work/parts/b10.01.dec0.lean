theorem dX12_fault_0 : decode cX12_fault 0 = .ok (.iload_n 1, 1) := by decide +kernel
theorem dX12_fault_1 : decode cX12_fault 1 = .ok (.ifCond .ne 10, 3) := by decide +kernel
theorem dX12_fault_4 : decode cX12_fault 4 = .ok (.aload_n 0, 1) := by decide +kernel
theorem dX12_fault_5 : decode cX12_fault 5 = .ok (.getfield 239, 3) := by decide +kernel
theorem dX12_fault_8 : decode cX12_fault 8 = .ok (.goto 16, 3) := by decide +kernel
theorem dX12_fault_11 : decode cX12_fault 11 = .ok (.iload_n 1, 1) := by decide +kernel
theorem dX12_fault_12 : decode cX12_fault 12 = .ok (.iconst 1, 1) := by decide +kernel
theorem dX12_fault_13 : decode cX12_fault 13 = .ok (.if_icmp .ne 10, 3) := by decide +kernel
theorem dX12_fault_16 : decode cX12_fault 16 = .ok (.aload_n 0, 1) := by decide +kernel
theorem dX12_fault_17 : decode cX12_fault 17 = .ok (.getfield 22, 3) := by decide +kernel
theorem dX12_fault_20 : decode cX12_fault 20 = .ok (.goto 4, 3) := by decide +kernel
theorem dX12_fault_23 : decode cX12_fault 23 = .ok (.iconst (-1), 1) := by decide +kernel
theorem dX12_fault_24 : decode cX12_fault 24 = .ok (.ireturn, 1) := by decide +kernel
theorem dX12_allRules_0 : decode cX12_allRules 0 = .ok (.iconst 1, 1) := by decide +kernel
theorem dX12_allRules_1 : decode cX12_allRules 1 = .ok (.aload_n 0, 1) := by decide +kernel
theorem dX12_allRules_2 : decode cX12_allRules 2 = .ok (.getfield 7, 3) := by decide +kernel
theorem dX12_allRules_5 : decode cX12_allRules 5 = .ok (.bipush 17, 2) := by decide +kernel
theorem dX12_allRules_7 : decode cX12_allRules 7 = .ok (.iaload, 1) := by decide +kernel
theorem dX12_allRules_8 : decode cX12_allRules 8 = .ok (.ishl, 1) := by decide +kernel
theorem dX12_allRules_9 : decode cX12_allRules 9 = .ok (.iconst 1, 1) := by decide +kernel
theorem dX12_allRules_10 : decode cX12_allRules 10 = .ok (.isub, 1) := by decide +kernel
theorem dX12_allRules_11 : decode cX12_allRules 11 = .ok (.ireturn, 1) := by decide +kernel
theorem dX12_use_0 : decode cX12_use 0 = .ok (.iload_n 1, 1) := by decide +kernel
theorem dX12_use_1 : decode cX12_use 1 = .ok (.iconst 0, 1) := by decide +kernel
theorem dX12_use_2 : decode cX12_use 2 = .ok (.aload_n 0, 1) := by decide +kernel
theorem dX12_use_3 : decode cX12_use 3 = .ok (.invokevirtual 251, 3) := by decide +kernel
theorem dX12_use_6 : decode cX12_use 6 = .ok (.invokestatic 119, 3) := by decide +kernel
theorem dX12_use_9 : decode cX12_use 9 = .ok (.ifCond .ne 5, 3) := by decide +kernel
theorem dX12_use_12 : decode cX12_use 12 = .ok (.iconst 0, 1) := by decide +kernel
theorem dX12_use_13 : decode cX12_use 13 = .ok (.ireturn, 1) := by decide +kernel
theorem dX12_use_14 : decode cX12_use 14 = .ok (.aload_n 0, 1) := by decide +kernel
theorem dX12_use_15 : decode cX12_use 15 = .ok (.getfield 7, 3) := by decide +kernel
theorem dX12_use_18 : decode cX12_use 18 = .ok (.bipush 40, 2) := by decide +kernel
theorem dX12_use_20 : decode cX12_use 20 = .ok (.iload_n 1, 1) := by decide +kernel
theorem dX12_use_21 : decode cX12_use 21 = .ok (.iastore, 1) := by decide +kernel
theorem dX12_use_22 : decode cX12_use 22 = .ok (.iconst 1, 1) := by decide +kernel
theorem dX12_use_23 : decode cX12_use 23 = .ok (.ireturn, 1) := by decide +kernel
theorem dX12_slack_0 : decode cX12_slack 0 = .ok (.iload_n 1, 1) := by decide +kernel
theorem dX12_slack_1 : decode cX12_slack 1 = .ok (.iconst 0, 1) := by decide +kernel
theorem dX12_slack_2 : decode cX12_slack 2 = .ok (.iconst 1, 1) := by decide +kernel
theorem dX12_slack_3 : decode cX12_slack 3 = .ok (.invokestatic 119, 3) := by decide +kernel
theorem dX12_slack_6 : decode cX12_slack 6 = .ok (.ifCond .ne 5, 3) := by decide +kernel
theorem dX12_slack_9 : decode cX12_slack 9 = .ok (.iconst 0, 1) := by decide +kernel
theorem dX12_slack_10 : decode cX12_slack 10 = .ok (.ireturn, 1) := by decide +kernel
theorem dX12_slack_11 : decode cX12_slack 11 = .ok (.aload_n 0, 1) := by decide +kernel
theorem dX12_slack_12 : decode cX12_slack 12 = .ok (.getfield 7, 3) := by decide +kernel
theorem dX12_slack_15 : decode cX12_slack 15 = .ok (.bipush 41, 2) := by decide +kernel
theorem dX12_slack_17 : decode cX12_slack 17 = .ok (.iload_n 1, 1) := by decide +kernel
theorem dX12_slack_18 : decode cX12_slack 18 = .ok (.iastore, 1) := by decide +kernel
theorem dX12_slack_19 : decode cX12_slack 19 = .ok (.iconst 1, 1) := by decide +kernel
theorem dX12_slack_20 : decode cX12_slack 20 = .ok (.ireturn, 1) := by decide +kernel
theorem dX12_order_0 : decode cX12_order 0 = .ok (.iload_n 1, 1) := by decide +kernel
theorem dX12_order_1 : decode cX12_order 1 = .ok (.iconst 0, 1) := by decide +kernel
theorem dX12_order_2 : decode cX12_order 2 = .ok (.aload_n 0, 1) := by decide +kernel
theorem dX12_order_3 : decode cX12_order 3 = .ok (.getfield 7, 3) := by decide +kernel
theorem dX12_order_6 : decode cX12_order 6 = .ok (.bipush 17, 2) := by decide +kernel
theorem dX12_order_8 : decode cX12_order 8 = .ok (.iaload, 1) := by decide +kernel
theorem dX12_order_9 : decode cX12_order 9 = .ok (.iconst 1, 1) := by decide +kernel
theorem dX12_order_10 : decode cX12_order 10 = .ok (.isub, 1) := by decide +kernel
theorem dX12_order_11 : decode cX12_order 11 = .ok (.invokestatic 119, 3) := by decide +kernel
theorem dX12_order_14 : decode cX12_order 14 = .ok (.ifCond .eq 20, 3) := by decide +kernel
theorem dX12_order_17 : decode cX12_order 17 = .ok (.iload_n 2, 1) := by decide +kernel
theorem dX12_order_18 : decode cX12_order 18 = .ok (.iconst 0, 1) := by decide +kernel
theorem dX12_order_19 : decode cX12_order 19 = .ok (.aload_n 0, 1) := by decide +kernel
theorem dX12_order_20 : decode cX12_order 20 = .ok (.getfield 7, 3) := by decide +kernel
theorem dX12_order_23 : decode cX12_order 23 = .ok (.bipush 17, 2) := by decide +kernel
theorem dX12_order_25 : decode cX12_order 25 = .ok (.iaload, 1) := by decide +kernel
theorem dX12_order_26 : decode cX12_order 26 = .ok (.iconst 1, 1) := by decide +kernel
theorem dX12_order_27 : decode cX12_order 27 = .ok (.isub, 1) := by decide +kernel
theorem dX12_order_28 : decode cX12_order 28 = .ok (.invokestatic 119, 3) := by decide +kernel
theorem dX12_order_31 : decode cX12_order 31 = .ok (.ifCond .ne 5, 3) := by decide +kernel
theorem dX12_order_34 : decode cX12_order 34 = .ok (.iconst 0, 1) := by decide +kernel
theorem dX12_order_35 : decode cX12_order 35 = .ok (.ireturn, 1) := by decide +kernel
theorem dX12_order_36 : decode cX12_order 36 = .ok (.iconst 0, 1) := by decide +kernel
theorem dX12_order_37 : decode cX12_order 37 = .ok (.istore_n 3, 1) := by decide +kernel
theorem dX12_order_38 : decode cX12_order 38 = .ok (.iload_n 3, 1) := by decide +kernel
theorem dX12_order_39 : decode cX12_order 39 = .ok (.aload_n 0, 1) := by decide +kernel
theorem dX12_order_40 : decode cX12_order 40 = .ok (.getfield 7, 3) := by decide +kernel
theorem dX12_order_43 : decode cX12_order 43 = .ok (.bipush 17, 2) := by decide +kernel
theorem dX12_order_45 : decode cX12_order 45 = .ok (.iaload, 1) := by decide +kernel
theorem dX12_order_46 : decode cX12_order 46 = .ok (.if_icmp .ge 40, 3) := by decide +kernel
theorem dX12_order_49 : decode cX12_order 49 = .ok (.aload_n 0, 1) := by decide +kernel
theorem dX12_order_50 : decode cX12_order 50 = .ok (.getfield 7, 3) := by decide +kernel
theorem dX12_order_53 : decode cX12_order 53 = .ok (.bipush 43, 2) := by decide +kernel
theorem dX12_order_55 : decode cX12_order 55 = .ok (.iload_n 3, 1) := by decide +kernel
theorem dX12_order_56 : decode cX12_order 56 = .ok (.iadd, 1) := by decide +kernel
theorem dX12_order_57 : decode cX12_order 57 = .ok (.iaload, 1) := by decide +kernel
theorem dX12_order_58 : decode cX12_order 58 = .ok (.iload_n 2, 1) := by decide +kernel
theorem dX12_order_59 : decode cX12_order 59 = .ok (.if_icmp .ne 21, 3) := by decide +kernel
theorem dX12_order_62 : decode cX12_order 62 = .ok (.aload_n 0, 1) := by decide +kernel
theorem dX12_order_63 : decode cX12_order 63 = .ok (.getfield 7, 3) := by decide +kernel
theorem dX12_order_66 : decode cX12_order 66 = .ok (.bipush 43, 2) := by decide +kernel
theorem dX12_order_68 : decode cX12_order 68 = .ok (.iload_n 3, 1) := by decide +kernel
theorem dX12_order_69 : decode cX12_order 69 = .ok (.iadd, 1) := by decide +kernel
theorem dX12_order_70 : decode cX12_order 70 = .ok (.aload_n 0, 1) := by decide +kernel
theorem dX12_order_71 : decode cX12_order 71 = .ok (.getfield 7, 3) := by decide +kernel
theorem dX12_order_74 : decode cX12_order 74 = .ok (.bipush 43, 2) := by decide +kernel
theorem dX12_order_76 : decode cX12_order 76 = .ok (.iload_n 1, 1) := by decide +kernel
theorem dX12_order_77 : decode cX12_order 77 = .ok (.iadd, 1) := by decide +kernel
theorem dX12_order_78 : decode cX12_order 78 = .ok (.iaload, 1) := by decide +kernel
theorem dX12_order_79 : decode cX12_order 79 = .ok (.iastore, 1) := by decide +kernel
theorem dX12_order_80 : decode cX12_order 80 = .ok (.iinc 3 1, 3) := by decide +kernel
theorem dX12_order_83 : decode cX12_order 83 = .ok (.goto (-45), 3) := by decide +kernel
theorem dX12_order_86 : decode cX12_order 86 = .ok (.aload_n 0, 1) := by decide +kernel
theorem dX12_order_87 : decode cX12_order 87 = .ok (.getfield 7, 3) := by decide +kernel
theorem dX12_order_90 : decode cX12_order 90 = .ok (.bipush 43, 2) := by decide +kernel
theorem dX12_order_92 : decode cX12_order 92 = .ok (.iload_n 1, 1) := by decide +kernel
theorem dX12_order_93 : decode cX12_order 93 = .ok (.iadd, 1) := by decide +kernel
theorem dX12_order_94 : decode cX12_order 94 = .ok (.iload_n 2, 1) := by decide +kernel
theorem dX12_order_95 : decode cX12_order 95 = .ok (.iastore, 1) := by decide +kernel
theorem dX12_order_96 : decode cX12_order 96 = .ok (.iconst 1, 1) := by decide +kernel
theorem dX12_order_97 : decode cX12_order 97 = .ok (.ireturn, 1) := by decide +kernel
theorem dX12_ofRule_0 : decode cX12_ofRule 0 = .ok (.aload_n 0, 1) := by decide +kernel
theorem dX12_ofRule_1 : decode cX12_ofRule 1 = .ok (.getfield 7, 3) := by decide +kernel
theorem dX12_ofRule_4 : decode cX12_ofRule 4 = .ok (.sipush 460, 3) := by decide +kernel
theorem dX12_ofRule_7 : decode cX12_ofRule 7 = .ok (.iconst 4, 1) := by decide +kernel
theorem dX12_ofRule_8 : decode cX12_ofRule 8 = .ok (.iload_n 1, 1) := by decide +kernel
theorem dX12_ofRule_9 : decode cX12_ofRule 9 = .ok (.imul, 1) := by decide +kernel
theorem dX12_ofRule_10 : decode cX12_ofRule 10 = .ok (.iadd, 1) := by decide +kernel
theorem dX12_ofRule_11 : decode cX12_ofRule 11 = .ok (.iload_n 2, 1) := by decide +kernel
theorem dX12_ofRule_12 : decode cX12_ofRule 12 = .ok (.iadd, 1) := by decide +kernel
theorem dX12_ofRule_13 : decode cX12_ofRule 13 = .ok (.iaload, 1) := by decide +kernel
theorem dX12_ofRule_14 : decode cX12_ofRule 14 = .ok (.ireturn, 1) := by decide +kernel
theorem dX12_itemsOf_0 : decode cX12_itemsOf 0 = .ok (.aload_n 0, 1) := by decide +kernel
theorem dX12_itemsOf_1 : decode cX12_itemsOf 1 = .ok (.getfield 7, 3) := by decide +kernel
theorem dX12_itemsOf_4 : decode cX12_itemsOf 4 = .ok (.sipush 500, 3) := by decide +kernel
theorem dX12_itemsOf_7 : decode cX12_itemsOf 7 = .ok (.iconst 4, 1) := by decide +kernel
theorem dX12_itemsOf_8 : decode cX12_itemsOf 8 = .ok (.iload_n 1, 1) := by decide +kernel
theorem dX12_itemsOf_9 : decode cX12_itemsOf 9 = .ok (.imul, 1) := by decide +kernel
theorem dX12_itemsOf_10 : decode cX12_itemsOf 10 = .ok (.iadd, 1) := by decide +kernel
theorem dX12_itemsOf_11 : decode cX12_itemsOf 11 = .ok (.iconst 2, 1) := by decide +kernel
theorem dX12_itemsOf_12 : decode cX12_itemsOf 12 = .ok (.iadd, 1) := by decide +kernel
theorem dX12_itemsOf_13 : decode cX12_itemsOf 13 = .ok (.iload_n 2, 1) := by decide +kernel
theorem dX12_itemsOf_14 : decode cX12_itemsOf 14 = .ok (.iadd, 1) := by decide +kernel
theorem dX12_itemsOf_15 : decode cX12_itemsOf 15 = .ok (.iaload, 1) := by decide +kernel
theorem dX12_itemsOf_16 : decode cX12_itemsOf 16 = .ok (.ireturn, 1) := by decide +kernel
theorem dX12_isAnchored_0 : decode cX12_isAnchored 0 = .ok (.aload_n 0, 1) := by decide +kernel
theorem dX12_isAnchored_1 : decode cX12_isAnchored 1 = .ok (.getfield 7, 3) := by decide +kernel
theorem dX12_isAnchored_4 : decode cX12_isAnchored 4 = .ok (.sipush 500, 3) := by decide +kernel
theorem dX12_isAnchored_7 : decode cX12_isAnchored 7 = .ok (.iconst 4, 1) := by decide +kernel
theorem dX12_isAnchored_8 : decode cX12_isAnchored 8 = .ok (.iload_n 1, 1) := by decide +kernel
theorem dX12_isAnchored_9 : decode cX12_isAnchored 9 = .ok (.imul, 1) := by decide +kernel
theorem dX12_isAnchored_10 : decode cX12_isAnchored 10 = .ok (.iadd, 1) := by decide +kernel
theorem dX12_isAnchored_11 : decode cX12_isAnchored 11 = .ok (.iload_n 2, 1) := by decide +kernel
theorem dX12_isAnchored_12 : decode cX12_isAnchored 12 = .ok (.iadd, 1) := by decide +kernel
theorem dX12_isAnchored_13 : decode cX12_isAnchored 13 = .ok (.iaload, 1) := by decide +kernel
theorem dX12_isAnchored_14 : decode cX12_isAnchored 14 = .ok (.iconst 1, 1) := by decide +kernel
theorem dX12_isAnchored_15 : decode cX12_isAnchored 15 = .ok (.if_icmp .ne 7, 3) := by decide +kernel
theorem dX12_isAnchored_18 : decode cX12_isAnchored 18 = .ok (.iconst 1, 1) := by decide +kernel
theorem dX12_isAnchored_19 : decode cX12_isAnchored 19 = .ok (.goto 4, 3) := by decide +kernel
theorem dX12_isAnchored_22 : decode cX12_isAnchored 22 = .ok (.iconst 0, 1) := by decide +kernel
theorem dX12_isAnchored_23 : decode cX12_isAnchored 23 = .ok (.ireturn, 1) := by decide +kernel
theorem dX12_closed_0 : decode cX12_closed 0 = .ok (.iload_n 3, 1) := by decide +kernel
theorem dX12_closed_1 : decode cX12_closed 1 = .ok (.istore 4, 2) := by decide +kernel
theorem dX12_closed_3 : decode cX12_closed 3 = .ok (.iconst 0, 1) := by decide +kernel
theorem dX12_closed_4 : decode cX12_closed 4 = .ok (.istore 5, 2) := by decide +kernel
theorem dX12_closed_6 : decode cX12_closed 6 = .ok (.iload 5, 2) := by decide +kernel
theorem dX12_closed_8 : decode cX12_closed 8 = .ok (.aload_n 0, 1) := by decide +kernel
theorem dX12_closed_9 : decode cX12_closed 9 = .ok (.iload_n 1, 1) := by decide +kernel
theorem dX12_closed_10 : decode cX12_closed 10 = .ok (.iload_n 2, 1) := by decide +kernel
theorem dX12_closed_11 : decode cX12_closed 11 = .ok (.invokevirtual 254, 3) := by decide +kernel
theorem dX12_closed_14 : decode cX12_closed 14 = .ok (.if_icmp .ge 57, 3) := by decide +kernel
theorem dX12_closed_17 : decode cX12_closed 17 = .ok (.iload 4, 2) := by decide +kernel
theorem dX12_closed_19 : decode cX12_closed 19 = .ok (.iload 5, 2) := by decide +kernel
theorem dX12_closed_21 : decode cX12_closed 21 = .ok (.ishr, 1) := by decide +kernel
theorem dX12_closed_22 : decode cX12_closed 22 = .ok (.iconst 1, 1) := by decide +kernel
theorem dX12_closed_23 : decode cX12_closed 23 = .ok (.iand, 1) := by decide +kernel
theorem dX12_closed_24 : decode cX12_closed 24 = .ok (.iconst 1, 1) := by decide +kernel
theorem dX12_closed_25 : decode cX12_closed 25 = .ok (.if_icmp .ne 40, 3) := by decide +kernel
theorem dX12_closed_28 : decode cX12_closed 28 = .ok (.aload_n 0, 1) := by decide +kernel
theorem dX12_closed_29 : decode cX12_closed 29 = .ok (.getfield 7, 3) := by decide +kernel
theorem dX12_closed_32 : decode cX12_closed 32 = .ok (.sipush 600, 3) := by decide +kernel
theorem dX12_closed_35 : decode cX12_closed 35 = .ok (.iconst 4, 1) := by decide +kernel
theorem dX12_closed_36 : decode cX12_closed 36 = .ok (.bipush 10, 2) := by decide +kernel
theorem dX12_closed_38 : decode cX12_closed 38 = .ok (.iload_n 1, 1) := by decide +kernel
theorem dX12_closed_39 : decode cX12_closed 39 = .ok (.imul, 1) := by decide +kernel
theorem dX12_closed_40 : decode cX12_closed 40 = .ok (.iconst 5, 1) := by decide +kernel
theorem dX12_closed_41 : decode cX12_closed 41 = .ok (.iload_n 2, 1) := by decide +kernel
theorem dX12_closed_42 : decode cX12_closed 42 = .ok (.imul, 1) := by decide +kernel
theorem dX12_closed_43 : decode cX12_closed 43 = .ok (.iadd, 1) := by decide +kernel
theorem dX12_closed_44 : decode cX12_closed 44 = .ok (.iload 5, 2) := by decide +kernel
theorem dX12_closed_46 : decode cX12_closed 46 = .ok (.iadd, 1) := by decide +kernel
theorem dX12_closed_47 : decode cX12_closed 47 = .ok (.imul, 1) := by decide +kernel
theorem dX12_closed_48 : decode cX12_closed 48 = .ok (.iadd, 1) := by decide +kernel
theorem dX12_closed_49 : decode cX12_closed 49 = .ok (.iconst 3, 1) := by decide +kernel
theorem dX12_closed_50 : decode cX12_closed 50 = .ok (.iadd, 1) := by decide +kernel
theorem dX12_closed_51 : decode cX12_closed 51 = .ok (.iaload, 1) := by decide +kernel
theorem dX12_closed_52 : decode cX12_closed 52 = .ok (.iconst 1, 1) := by decide +kernel
theorem dX12_closed_53 : decode cX12_closed 53 = .ok (.if_icmp .ne 12, 3) := by decide +kernel
theorem dX12_closed_56 : decode cX12_closed 56 = .ok (.iload 4, 2) := by decide +kernel
theorem dX12_closed_58 : decode cX12_closed 58 = .ok (.iconst 2, 1) := by decide +kernel
theorem dX12_closed_59 : decode cX12_closed 59 = .ok (.iload 5, 2) := by decide +kernel
theorem dX12_closed_61 : decode cX12_closed 61 = .ok (.ishl, 1) := by decide +kernel
theorem dX12_closed_62 : decode cX12_closed 62 = .ok (.ior, 1) := by decide +kernel
theorem dX12_closed_63 : decode cX12_closed 63 = .ok (.istore 4, 2) := by decide +kernel
theorem dX12_closed_65 : decode cX12_closed 65 = .ok (.iinc 5 1, 3) := by decide +kernel
theorem dX12_closed_68 : decode cX12_closed 68 = .ok (.goto (-62), 3) := by decide +kernel
theorem dX12_closed_71 : decode cX12_closed 71 = .ok (.iload 4, 2) := by decide +kernel
theorem dX12_closed_73 : decode cX12_closed 73 = .ok (.ireturn, 1) := by decide +kernel
theorem dX12_goesOn_0 : decode cX12_goesOn 0 = .ok (.iload 4, 2) := by decide +kernel
theorem dX12_goesOn_2 : decode cX12_goesOn 2 = .ok (.bipush 9, 2) := by decide +kernel
theorem dX12_goesOn_4 : decode cX12_goesOn 4 = .ok (.idiv, 1) := by decide +kernel
theorem dX12_goesOn_5 : decode cX12_goesOn 5 = .ok (.istore 5, 2) := by decide +kernel
theorem dX12_goesOn_7 : decode cX12_goesOn 7 = .ok (.iload 4, 2) := by decide +kernel
theorem dX12_goesOn_9 : decode cX12_goesOn 9 = .ok (.bipush 9, 2) := by decide +kernel
theorem dX12_goesOn_11 : decode cX12_goesOn 11 = .ok (.irem, 1) := by decide +kernel
theorem dX12_goesOn_12 : decode cX12_goesOn 12 = .ok (.istore 6, 2) := by decide +kernel
theorem dX12_goesOn_14 : decode cX12_goesOn 14 = .ok (.iconst 0, 1) := by decide +kernel
theorem dX12_goesOn_15 : decode cX12_goesOn 15 = .ok (.istore 7, 2) := by decide +kernel
theorem dX12_goesOn_17 : decode cX12_goesOn 17 = .ok (.iconst 0, 1) := by decide +kernel
theorem dX12_goesOn_18 : decode cX12_goesOn 18 = .ok (.istore 8, 2) := by decide +kernel
theorem dX12_goesOn_20 : decode cX12_goesOn 20 = .ok (.iload 8, 2) := by decide +kernel
theorem dX12_goesOn_22 : decode cX12_goesOn 22 = .ok (.aload_n 0, 1) := by decide +kernel
theorem dX12_goesOn_23 : decode cX12_goesOn 23 = .ok (.iload_n 1, 1) := by decide +kernel
theorem dX12_goesOn_24 : decode cX12_goesOn 24 = .ok (.iload_n 2, 1) := by decide +kernel
theorem dX12_goesOn_25 : decode cX12_goesOn 25 = .ok (.invokevirtual 254, 3) := by decide +kernel
theorem dX12_goesOn_28 : decode cX12_goesOn 28 = .ok (.if_icmp .ge 121, 3) := by decide +kernel
theorem dX12_goesOn_31 : decode cX12_goesOn 31 = .ok (.sipush 600, 3) := by decide +kernel
theorem dX12_goesOn_34 : decode cX12_goesOn 34 = .ok (.iconst 4, 1) := by decide +kernel
theorem dX12_goesOn_35 : decode cX12_goesOn 35 = .ok (.bipush 10, 2) := by decide +kernel
theorem dX12_goesOn_37 : decode cX12_goesOn 37 = .ok (.iload_n 1, 1) := by decide +kernel
theorem dX12_goesOn_38 : decode cX12_goesOn 38 = .ok (.imul, 1) := by decide +kernel
theorem dX12_goesOn_39 : decode cX12_goesOn 39 = .ok (.iconst 5, 1) := by decide +kernel
theorem dX12_goesOn_40 : decode cX12_goesOn 40 = .ok (.iload_n 2, 1) := by decide +kernel
theorem dX12_goesOn_41 : decode cX12_goesOn 41 = .ok (.imul, 1) := by decide +kernel
theorem dX12_goesOn_42 : decode cX12_goesOn 42 = .ok (.iadd, 1) := by decide +kernel
theorem dX12_goesOn_43 : decode cX12_goesOn 43 = .ok (.iload 8, 2) := by decide +kernel
theorem dX12_goesOn_45 : decode cX12_goesOn 45 = .ok (.iadd, 1) := by decide +kernel
theorem dX12_goesOn_46 : decode cX12_goesOn 46 = .ok (.imul, 1) := by decide +kernel
theorem dX12_goesOn_47 : decode cX12_goesOn 47 = .ok (.iadd, 1) := by decide +kernel
theorem dX12_goesOn_48 : decode cX12_goesOn 48 = .ok (.istore 9, 2) := by decide +kernel
theorem dX12_goesOn_50 : decode cX12_goesOn 50 = .ok (.iload_n 3, 1) := by decide +kernel
theorem dX12_goesOn_51 : decode cX12_goesOn 51 = .ok (.iload 8, 2) := by decide +kernel
theorem dX12_goesOn_53 : decode cX12_goesOn 53 = .ok (.ishr, 1) := by decide +kernel
theorem dX12_goesOn_54 : decode cX12_goesOn 54 = .ok (.iconst 1, 1) := by decide +kernel
theorem dX12_goesOn_55 : decode cX12_goesOn 55 = .ok (.iand, 1) := by decide +kernel
theorem dX12_goesOn_56 : decode cX12_goesOn 56 = .ok (.ifCond .eq 87, 3) := by decide +kernel
theorem dX12_goesOn_59 : decode cX12_goesOn 59 = .ok (.aload_n 0, 1) := by decide +kernel
theorem dX12_goesOn_60 : decode cX12_goesOn 60 = .ok (.getfield 7, 3) := by decide +kernel
theorem dX12_goesOn_63 : decode cX12_goesOn 63 = .ok (.iload 9, 2) := by decide +kernel
theorem dX12_goesOn_65 : decode cX12_goesOn 65 = .ok (.iaload, 1) := by decide +kernel
theorem dX12_goesOn_66 : decode cX12_goesOn 66 = .ok (.iload 5, 2) := by decide +kernel
theorem dX12_goesOn_68 : decode cX12_goesOn 68 = .ok (.ishr, 1) := by decide +kernel
theorem dX12_goesOn_69 : decode cX12_goesOn 69 = .ok (.iconst 1, 1) := by decide +kernel
theorem dX12_goesOn_70 : decode cX12_goesOn 70 = .ok (.iand, 1) := by decide +kernel
theorem dX12_goesOn_71 : decode cX12_goesOn 71 = .ok (.ifCond .eq 72, 3) := by decide +kernel
theorem dX12_goesOn_74 : decode cX12_goesOn 74 = .ok (.aload_n 0, 1) := by decide +kernel
theorem dX12_goesOn_75 : decode cX12_goesOn 75 = .ok (.getfield 7, 3) := by decide +kernel
theorem dX12_goesOn_78 : decode cX12_goesOn 78 = .ok (.iload 9, 2) := by decide +kernel
theorem dX12_goesOn_80 : decode cX12_goesOn 80 = .ok (.iconst 1, 1) := by decide +kernel
theorem dX12_goesOn_81 : decode cX12_goesOn 81 = .ok (.iadd, 1) := by decide +kernel
theorem dX12_goesOn_82 : decode cX12_goesOn 82 = .ok (.iaload, 1) := by decide +kernel
theorem dX12_goesOn_83 : decode cX12_goesOn 83 = .ok (.iload 6, 2) := by decide +kernel
theorem dX12_goesOn_85 : decode cX12_goesOn 85 = .ok (.ishr, 1) := by decide +kernel
theorem dX12_goesOn_86 : decode cX12_goesOn 86 = .ok (.iconst 1, 1) := by decide +kernel
theorem dX12_goesOn_87 : decode cX12_goesOn 87 = .ok (.iand, 1) := by decide +kernel
theorem dX12_goesOn_88 : decode cX12_goesOn 88 = .ok (.ifCond .eq 55, 3) := by decide +kernel
theorem dX12_goesOn_91 : decode cX12_goesOn 91 = .ok (.aload_n 0, 1) := by decide +kernel
theorem dX12_goesOn_92 : decode cX12_goesOn 92 = .ok (.getfield 7, 3) := by decide +kernel
theorem dX12_goesOn_95 : decode cX12_goesOn 95 = .ok (.iload 9, 2) := by decide +kernel
theorem dX12_goesOn_97 : decode cX12_goesOn 97 = .ok (.iconst 2, 1) := by decide +kernel
theorem dX12_goesOn_98 : decode cX12_goesOn 98 = .ok (.iadd, 1) := by decide +kernel
theorem dX12_goesOn_99 : decode cX12_goesOn 99 = .ok (.iaload, 1) := by decide +kernel
theorem dX12_goesOn_100 : decode cX12_goesOn 100 = .ok (.iconst 1, 1) := by decide +kernel
theorem dX12_goesOn_101 : decode cX12_goesOn 101 = .ok (.if_icmp .ne 13, 3) := by decide +kernel
theorem dX12_goesOn_104 : decode cX12_goesOn 104 = .ok (.iload 5, 2) := by decide +kernel
theorem dX12_goesOn_106 : decode cX12_goesOn 106 = .ok (.iload 6, 2) := by decide +kernel
theorem dX12_goesOn_108 : decode cX12_goesOn 108 = .ok (.if_icmp .eq 6, 3) := by decide +kernel
theorem dX12_goesOn_111 : decode cX12_goesOn 111 = .ok (.goto 32, 3) := by decide +kernel
theorem dX12_goesOn_114 : decode cX12_goesOn 114 = .ok (.iload 7, 2) := by decide +kernel
theorem dX12_goesOn_116 : decode cX12_goesOn 116 = .ok (.aload_n 0, 1) := by decide +kernel
theorem dX12_goesOn_117 : decode cX12_goesOn 117 = .ok (.getfield 7, 3) := by decide +kernel
theorem dX12_goesOn_120 : decode cX12_goesOn 120 = .ok (.iload 9, 2) := by decide +kernel
theorem dX12_goesOn_122 : decode cX12_goesOn 122 = .ok (.iconst 3, 1) := by decide +kernel
theorem dX12_goesOn_123 : decode cX12_goesOn 123 = .ok (.iadd, 1) := by decide +kernel
theorem dX12_goesOn_124 : decode cX12_goesOn 124 = .ok (.iaload, 1) := by decide +kernel
theorem dX12_goesOn_125 : decode cX12_goesOn 125 = .ok (.iconst 1, 1) := by decide +kernel
theorem dX12_goesOn_126 : decode cX12_goesOn 126 = .ok (.if_icmp .ne 10, 3) := by decide +kernel
theorem dX12_goesOn_129 : decode cX12_goesOn 129 = .ok (.iconst 1, 1) := by decide +kernel
theorem dX12_goesOn_130 : decode cX12_goesOn 130 = .ok (.iload 8, 2) := by decide +kernel
theorem dX12_goesOn_132 : decode cX12_goesOn 132 = .ok (.ishl, 1) := by decide +kernel
theorem dX12_goesOn_133 : decode cX12_goesOn 133 = .ok (.goto 7, 3) := by decide +kernel
theorem dX12_goesOn_136 : decode cX12_goesOn 136 = .ok (.iconst 2, 1) := by decide +kernel
theorem dX12_goesOn_137 : decode cX12_goesOn 137 = .ok (.iload 8, 2) := by decide +kernel
theorem dX12_goesOn_139 : decode cX12_goesOn 139 = .ok (.ishl, 1) := by decide +kernel
theorem dX12_goesOn_140 : decode cX12_goesOn 140 = .ok (.ior, 1) := by decide +kernel
theorem dX12_goesOn_141 : decode cX12_goesOn 141 = .ok (.istore 7, 2) := by decide +kernel
theorem dX12_goesOn_143 : decode cX12_goesOn 143 = .ok (.iinc 8 1, 3) := by decide +kernel
theorem dX12_goesOn_146 : decode cX12_goesOn 146 = .ok (.goto (-126), 3) := by decide +kernel
theorem dX12_goesOn_149 : decode cX12_goesOn 149 = .ok (.aload_n 0, 1) := by decide +kernel
theorem dX12_goesOn_150 : decode cX12_goesOn 150 = .ok (.iload_n 1, 1) := by decide +kernel
theorem dX12_goesOn_151 : decode cX12_goesOn 151 = .ok (.iload_n 2, 1) := by decide +kernel
theorem dX12_goesOn_152 : decode cX12_goesOn 152 = .ok (.iload 7, 2) := by decide +kernel
theorem dX12_goesOn_154 : decode cX12_goesOn 154 = .ok (.invokevirtual 258, 3) := by decide +kernel
theorem dX12_goesOn_157 : decode cX12_goesOn 157 = .ok (.ireturn, 1) := by decide +kernel
theorem dX12_isDone_0 : decode cX12_isDone 0 = .ok (.iload_n 3, 1) := by decide +kernel
theorem dX12_isDone_1 : decode cX12_isDone 1 = .ok (.aload_n 0, 1) := by decide +kernel
theorem dX12_isDone_2 : decode cX12_isDone 2 = .ok (.iload_n 1, 1) := by decide +kernel
theorem dX12_isDone_3 : decode cX12_isDone 3 = .ok (.iload_n 2, 1) := by decide +kernel
theorem dX12_isDone_4 : decode cX12_isDone 4 = .ok (.invokevirtual 254, 3) := by decide +kernel
theorem dX12_isDone_7 : decode cX12_isDone 7 = .ok (.ishr, 1) := by decide +kernel
theorem dX12_isDone_8 : decode cX12_isDone 8 = .ok (.iconst 1, 1) := by decide +kernel
theorem dX12_isDone_9 : decode cX12_isDone 9 = .ok (.iand, 1) := by decide +kernel
theorem dX12_isDone_10 : decode cX12_isDone 10 = .ok (.iconst 1, 1) := by decide +kernel
theorem dX12_isDone_11 : decode cX12_isDone 11 = .ok (.if_icmp .ne 7, 3) := by decide +kernel
theorem dX12_isDone_14 : decode cX12_isDone 14 = .ok (.iconst 1, 1) := by decide +kernel
theorem dX12_isDone_15 : decode cX12_isDone 15 = .ok (.goto 4, 3) := by decide +kernel
theorem dX12_isDone_18 : decode cX12_isDone 18 = .ok (.iconst 0, 1) := by decide +kernel
theorem dX12_isDone_19 : decode cX12_isDone 19 = .ok (.ireturn, 1) := by decide +kernel
theorem dX12_holds_0 : decode cX12_holds 0 = .ok (.aload_n 0, 1) := by decide +kernel
theorem dX12_holds_1 : decode cX12_holds 1 = .ok (.iload_n 1, 1) := by decide +kernel
theorem dX12_holds_2 : decode cX12_holds 2 = .ok (.iconst 0, 1) := by decide +kernel
theorem dX12_holds_3 : decode cX12_holds 3 = .ok (.iconst 1, 1) := by decide +kernel
theorem dX12_holds_4 : decode cX12_holds 4 = .ok (.invokevirtual 258, 3) := by decide +kernel
theorem dX12_holds_7 : decode cX12_holds 7 = .ok (.istore 5, 2) := by decide +kernel
theorem dX12_holds_9 : decode cX12_holds 9 = .ok (.iconst 0, 1) := by decide +kernel
theorem dX12_holds_10 : decode cX12_holds 10 = .ok (.istore 6, 2) := by decide +kernel
theorem dX12_holds_12 : decode cX12_holds 12 = .ok (.iload 6, 2) := by decide +kernel
theorem dX12_holds_14 : decode cX12_holds 14 = .ok (.iload_n 2, 1) := by decide +kernel
theorem dX12_holds_15 : decode cX12_holds 15 = .ok (.if_icmp .ge 44, 3) := by decide +kernel
theorem dX12_holds_18 : decode cX12_holds 18 = .ok (.aload_n 0, 1) := by decide +kernel
theorem dX12_holds_19 : decode cX12_holds 19 = .ok (.iload_n 1, 1) := by decide +kernel
theorem dX12_holds_20 : decode cX12_holds 20 = .ok (.iconst 0, 1) := by decide +kernel
theorem dX12_holds_21 : decode cX12_holds 21 = .ok (.iload 5, 2) := by decide +kernel
theorem dX12_holds_23 : decode cX12_holds 23 = .ok (.aload_n 3, 1) := by decide +kernel
theorem dX12_holds_24 : decode cX12_holds 24 = .ok (.iload 6, 2) := by decide +kernel
theorem dX12_holds_26 : decode cX12_holds 26 = .ok (.iaload, 1) := by decide +kernel
theorem dX12_holds_27 : decode cX12_holds 27 = .ok (.invokevirtual 262, 3) := by decide +kernel
theorem dX12_holds_30 : decode cX12_holds 30 = .ok (.aload_n 0, 1) := by decide +kernel
theorem dX12_holds_31 : decode cX12_holds 31 = .ok (.iload_n 1, 1) := by decide +kernel
theorem dX12_holds_32 : decode cX12_holds 32 = .ok (.iconst 0, 1) := by decide +kernel
theorem dX12_holds_33 : decode cX12_holds 33 = .ok (.invokevirtual 266, 3) := by decide +kernel
theorem dX12_holds_36 : decode cX12_holds 36 = .ok (.ifCond .eq 7, 3) := by decide +kernel
theorem dX12_holds_39 : decode cX12_holds 39 = .ok (.iconst 0, 1) := by decide +kernel
theorem dX12_holds_40 : decode cX12_holds 40 = .ok (.goto 10, 3) := by decide +kernel
theorem dX12_holds_43 : decode cX12_holds 43 = .ok (.aload_n 0, 1) := by decide +kernel
theorem dX12_holds_44 : decode cX12_holds 44 = .ok (.iload_n 1, 1) := by decide +kernel
theorem dX12_holds_45 : decode cX12_holds 45 = .ok (.iconst 0, 1) := by decide +kernel
theorem dX12_holds_46 : decode cX12_holds 46 = .ok (.iconst 1, 1) := by decide +kernel
theorem dX12_holds_47 : decode cX12_holds 47 = .ok (.invokevirtual 258, 3) := by decide +kernel
theorem dX12_holds_50 : decode cX12_holds 50 = .ok (.ior, 1) := by decide +kernel
theorem dX12_holds_51 : decode cX12_holds 51 = .ok (.istore 5, 2) := by decide +kernel
theorem dX12_holds_53 : decode cX12_holds 53 = .ok (.iinc 6 1, 3) := by decide +kernel
theorem dX12_holds_56 : decode cX12_holds 56 = .ok (.goto (-44), 3) := by decide +kernel
theorem dX12_holds_59 : decode cX12_holds 59 = .ok (.aload_n 0, 1) := by decide +kernel
theorem dX12_holds_60 : decode cX12_holds 60 = .ok (.iload_n 1, 1) := by decide +kernel
theorem dX12_holds_61 : decode cX12_holds 61 = .ok (.iconst 0, 1) := by decide +kernel
theorem dX12_holds_62 : decode cX12_holds 62 = .ok (.iload 5, 2) := by decide +kernel
theorem dX12_holds_64 : decode cX12_holds 64 = .ok (.invokevirtual 269, 3) := by decide +kernel
theorem dX12_holds_67 : decode cX12_holds 67 = .ok (.ifCond .ne 5, 3) := by decide +kernel
theorem dX12_holds_70 : decode cX12_holds 70 = .ok (.iconst 0, 1) := by decide +kernel
theorem dX12_holds_71 : decode cX12_holds 71 = .ok (.ireturn, 1) := by decide +kernel
theorem dX12_holds_72 : decode cX12_holds 72 = .ok (.aload_n 0, 1) := by decide +kernel
theorem dX12_holds_73 : decode cX12_holds 73 = .ok (.iload_n 1, 1) := by decide +kernel
theorem dX12_holds_74 : decode cX12_holds 74 = .ok (.iconst 1, 1) := by decide +kernel
theorem dX12_holds_75 : decode cX12_holds 75 = .ok (.iconst 1, 1) := by decide +kernel
theorem dX12_holds_76 : decode cX12_holds 76 = .ok (.invokevirtual 258, 3) := by decide +kernel
theorem dX12_holds_79 : decode cX12_holds 79 = .ok (.istore 5, 2) := by decide +kernel
theorem dX12_holds_81 : decode cX12_holds 81 = .ok (.aload_n 0, 1) := by decide +kernel
theorem dX12_holds_82 : decode cX12_holds 82 = .ok (.iload_n 1, 1) := by decide +kernel
theorem dX12_holds_83 : decode cX12_holds 83 = .ok (.iconst 1, 1) := by decide +kernel
theorem dX12_holds_84 : decode cX12_holds 84 = .ok (.invokevirtual 266, 3) := by decide +kernel
theorem dX12_holds_87 : decode cX12_holds 87 = .ok (.ifCond .ne 7, 3) := by decide +kernel
theorem dX12_holds_90 : decode cX12_holds 90 = .ok (.iconst 1, 1) := by decide +kernel
theorem dX12_holds_91 : decode cX12_holds 91 = .ok (.goto 4, 3) := by decide +kernel
theorem dX12_holds_94 : decode cX12_holds 94 = .ok (.iconst 0, 1) := by decide +kernel
theorem dX12_holds_95 : decode cX12_holds 95 = .ok (.istore 6, 2) := by decide +kernel
theorem dX12_holds_97 : decode cX12_holds 97 = .ok (.iload_n 2, 1) := by decide +kernel
theorem dX12_holds_98 : decode cX12_holds 98 = .ok (.iconst 1, 1) := by decide +kernel
theorem dX12_holds_99 : decode cX12_holds 99 = .ok (.iadd, 1) := by decide +kernel
theorem dX12_holds_100 : decode cX12_holds 100 = .ok (.istore 7, 2) := by decide +kernel
theorem dX12_holds_102 : decode cX12_holds 102 = .ok (.iload 7, 2) := by decide +kernel
theorem dX12_holds_104 : decode cX12_holds 104 = .ok (.iload 4, 2) := by decide +kernel
theorem dX12_holds_106 : decode cX12_holds 106 = .ok (.if_icmp .ge 39, 3) := by decide +kernel
theorem dX12_holds_109 : decode cX12_holds 109 = .ok (.iload 6, 2) := by decide +kernel
theorem dX12_holds_111 : decode cX12_holds 111 = .ok (.ifCond .eq 14, 3) := by decide +kernel
theorem dX12_holds_114 : decode cX12_holds 114 = .ok (.aload_n 0, 1) := by decide +kernel
theorem dX12_holds_115 : decode cX12_holds 115 = .ok (.iload_n 1, 1) := by decide +kernel
theorem dX12_holds_116 : decode cX12_holds 116 = .ok (.iconst 1, 1) := by decide +kernel
theorem dX12_holds_117 : decode cX12_holds 117 = .ok (.iload 5, 2) := by decide +kernel
theorem dX12_holds_119 : decode cX12_holds 119 = .ok (.invokevirtual 269, 3) := by decide +kernel
theorem dX12_holds_122 : decode cX12_holds 122 = .ok (.ifCond .ne 23, 3) := by decide +kernel
theorem dX12_holds_125 : decode cX12_holds 125 = .ok (.aload_n 0, 1) := by decide +kernel
theorem dX12_holds_126 : decode cX12_holds 126 = .ok (.iload_n 1, 1) := by decide +kernel
theorem dX12_holds_127 : decode cX12_holds 127 = .ok (.iconst 1, 1) := by decide +kernel
theorem dX12_holds_128 : decode cX12_holds 128 = .ok (.iload 5, 2) := by decide +kernel
theorem dX12_holds_130 : decode cX12_holds 130 = .ok (.aload_n 3, 1) := by decide +kernel
theorem dX12_holds_131 : decode cX12_holds 131 = .ok (.iload 7, 2) := by decide +kernel
theorem dX12_holds_133 : decode cX12_holds 133 = .ok (.iaload, 1) := by decide +kernel
theorem dX12_holds_134 : decode cX12_holds 134 = .ok (.invokevirtual 262, 3) := by decide +kernel
theorem dX12_holds_137 : decode cX12_holds 137 = .ok (.istore 5, 2) := by decide +kernel
theorem dX12_holds_139 : decode cX12_holds 139 = .ok (.iinc 7 1, 3) := by decide +kernel
theorem dX12_holds_142 : decode cX12_holds 142 = .ok (.goto (-40), 3) := by decide +kernel
theorem dX12_holds_145 : decode cX12_holds 145 = .ok (.aload_n 0, 1) := by decide +kernel
theorem dX12_holds_146 : decode cX12_holds 146 = .ok (.iload_n 1, 1) := by decide +kernel
theorem dX12_holds_147 : decode cX12_holds 147 = .ok (.iconst 1, 1) := by decide +kernel
theorem dX12_holds_148 : decode cX12_holds 148 = .ok (.iload 5, 2) := by decide +kernel
theorem dX12_holds_150 : decode cX12_holds 150 = .ok (.invokevirtual 269, 3) := by decide +kernel
theorem dX12_holds_153 : decode cX12_holds 153 = .ok (.ireturn, 1) := by decide +kernel
theorem dX12_someHolds_0 : decode cX12_someHolds 0 = .ok (.iconst 0, 1) := by decide +kernel
theorem dX12_someHolds_1 : decode cX12_someHolds 1 = .ok (.istore 5, 2) := by decide +kernel
theorem dX12_someHolds_3 : decode cX12_someHolds 3 = .ok (.iload 5, 2) := by decide +kernel
theorem dX12_someHolds_5 : decode cX12_someHolds 5 = .ok (.aload_n 0, 1) := by decide +kernel
theorem dX12_someHolds_6 : decode cX12_someHolds 6 = .ok (.iload_n 1, 1) := by decide +kernel
theorem dX12_someHolds_7 : decode cX12_someHolds 7 = .ok (.iconst 3, 1) := by decide +kernel
theorem dX12_someHolds_8 : decode cX12_someHolds 8 = .ok (.invokevirtual 272, 3) := by decide +kernel
theorem dX12_someHolds_11 : decode cX12_someHolds 11 = .ok (.if_icmp .ge 28, 3) := by decide +kernel
theorem dX12_someHolds_14 : decode cX12_someHolds 14 = .ok (.aload_n 0, 1) := by decide +kernel
theorem dX12_someHolds_15 : decode cX12_someHolds 15 = .ok (.iconst 3, 1) := by decide +kernel
theorem dX12_someHolds_16 : decode cX12_someHolds 16 = .ok (.iload_n 1, 1) := by decide +kernel
theorem dX12_someHolds_17 : decode cX12_someHolds 17 = .ok (.imul, 1) := by decide +kernel
theorem dX12_someHolds_18 : decode cX12_someHolds 18 = .ok (.iload 5, 2) := by decide +kernel
theorem dX12_someHolds_20 : decode cX12_someHolds 20 = .ok (.iadd, 1) := by decide +kernel
theorem dX12_someHolds_21 : decode cX12_someHolds 21 = .ok (.iload_n 2, 1) := by decide +kernel
theorem dX12_someHolds_22 : decode cX12_someHolds 22 = .ok (.aload_n 3, 1) := by decide +kernel
theorem dX12_someHolds_23 : decode cX12_someHolds 23 = .ok (.iload 4, 2) := by decide +kernel
theorem dX12_someHolds_25 : decode cX12_someHolds 25 = .ok (.invokevirtual 275, 3) := by decide +kernel
theorem dX12_someHolds_28 : decode cX12_someHolds 28 = .ok (.ifCond .eq 5, 3) := by decide +kernel
theorem dX12_someHolds_31 : decode cX12_someHolds 31 = .ok (.iconst 1, 1) := by decide +kernel
theorem dX12_someHolds_32 : decode cX12_someHolds 32 = .ok (.ireturn, 1) := by decide +kernel
theorem dX12_someHolds_33 : decode cX12_someHolds 33 = .ok (.iinc 5 1, 3) := by decide +kernel
theorem dX12_someHolds_36 : decode cX12_someHolds 36 = .ok (.goto (-33), 3) := by decide +kernel
theorem dX12_someHolds_39 : decode cX12_someHolds 39 = .ok (.iconst 0, 1) := by decide +kernel
theorem dX12_someHolds_40 : decode cX12_someHolds 40 = .ok (.ireturn, 1) := by decide +kernel
theorem dX12_isBroken_0 : decode cX12_isBroken 0 = .ok (.aload_n 3, 1) := by decide +kernel
theorem dX12_isBroken_1 : decode cX12_isBroken 1 = .ok (.iload_n 2, 1) := by decide +kernel
theorem dX12_isBroken_2 : decode cX12_isBroken 2 = .ok (.iaload, 1) := by decide +kernel
theorem dX12_isBroken_3 : decode cX12_isBroken 3 = .ok (.bipush 9, 2) := by decide +kernel
theorem dX12_isBroken_5 : decode cX12_isBroken 5 = .ok (.idiv, 1) := by decide +kernel
theorem dX12_isBroken_6 : decode cX12_isBroken 6 = .ok (.istore 5, 2) := by decide +kernel
theorem dX12_isBroken_8 : decode cX12_isBroken 8 = .ok (.aload_n 3, 1) := by decide +kernel
theorem dX12_isBroken_9 : decode cX12_isBroken 9 = .ok (.iload_n 2, 1) := by decide +kernel
theorem dX12_isBroken_10 : decode cX12_isBroken 10 = .ok (.iaload, 1) := by decide +kernel
theorem dX12_isBroken_11 : decode cX12_isBroken 11 = .ok (.bipush 9, 2) := by decide +kernel
theorem dX12_isBroken_13 : decode cX12_isBroken 13 = .ok (.irem, 1) := by decide +kernel
theorem dX12_isBroken_14 : decode cX12_isBroken 14 = .ok (.istore 6, 2) := by decide +kernel
theorem dX12_isBroken_16 : decode cX12_isBroken 16 = .ok (.aload_n 0, 1) := by decide +kernel
theorem dX12_isBroken_17 : decode cX12_isBroken 17 = .ok (.iload_n 1, 1) := by decide +kernel
theorem dX12_isBroken_18 : decode cX12_isBroken 18 = .ok (.iconst 2, 1) := by decide +kernel
theorem dX12_isBroken_19 : decode cX12_isBroken 19 = .ok (.invokevirtual 272, 3) := by decide +kernel
theorem dX12_isBroken_22 : decode cX12_isBroken 22 = .ok (.istore 7, 2) := by decide +kernel
theorem dX12_isBroken_24 : decode cX12_isBroken 24 = .ok (.iload 5, 2) := by decide +kernel
theorem dX12_isBroken_26 : decode cX12_isBroken 26 = .ok (.aload_n 0, 1) := by decide +kernel
theorem dX12_isBroken_27 : decode cX12_isBroken 27 = .ok (.iload_n 1, 1) := by decide +kernel
theorem dX12_isBroken_28 : decode cX12_isBroken 28 = .ok (.iconst 0, 1) := by decide +kernel
theorem dX12_isBroken_29 : decode cX12_isBroken 29 = .ok (.invokevirtual 272, 3) := by decide +kernel
theorem dX12_isBroken_32 : decode cX12_isBroken 32 = .ok (.if_icmp .eq 5, 3) := by decide +kernel
theorem dX12_isBroken_35 : decode cX12_isBroken 35 = .ok (.iconst 0, 1) := by decide +kernel
theorem dX12_isBroken_36 : decode cX12_isBroken 36 = .ok (.ireturn, 1) := by decide +kernel
theorem dX12_isBroken_37 : decode cX12_isBroken 37 = .ok (.iload 6, 2) := by decide +kernel
theorem dX12_isBroken_39 : decode cX12_isBroken 39 = .ok (.aload_n 0, 1) := by decide +kernel
theorem dX12_isBroken_40 : decode cX12_isBroken 40 = .ok (.iload_n 1, 1) := by decide +kernel
theorem dX12_isBroken_41 : decode cX12_isBroken 41 = .ok (.iconst 1, 1) := by decide +kernel
theorem dX12_isBroken_42 : decode cX12_isBroken 42 = .ok (.invokevirtual 272, 3) := by decide +kernel
theorem dX12_isBroken_45 : decode cX12_isBroken 45 = .ok (.if_icmp .ne 7, 3) := by decide +kernel
theorem dX12_isBroken_48 : decode cX12_isBroken 48 = .ok (.iconst 1, 1) := by decide +kernel
theorem dX12_isBroken_49 : decode cX12_isBroken 49 = .ok (.goto 4, 3) := by decide +kernel
theorem dX12_isBroken_52 : decode cX12_isBroken 52 = .ok (.iconst 0, 1) := by decide +kernel
theorem dX12_isBroken_53 : decode cX12_isBroken 53 = .ok (.istore 8, 2) := by decide +kernel
theorem dX12_isBroken_55 : decode cX12_isBroken 55 = .ok (.iload 8, 2) := by decide +kernel
theorem dX12_isBroken_57 : decode cX12_isBroken 57 = .ok (.ifCond .eq 32, 3) := by decide +kernel
theorem dX12_isBroken_60 : decode cX12_isBroken 60 = .ok (.iload 7, 2) := by decide +kernel
theorem dX12_isBroken_62 : decode cX12_isBroken 62 = .ok (.ifCond .eq 9, 3) := by decide +kernel
theorem dX12_isBroken_65 : decode cX12_isBroken 65 = .ok (.iload 7, 2) := by decide +kernel
theorem dX12_isBroken_67 : decode cX12_isBroken 67 = .ok (.iconst 2, 1) := by decide +kernel
theorem dX12_isBroken_68 : decode cX12_isBroken 68 = .ok (.if_icmp .ne 21, 3) := by decide +kernel
theorem dX12_isBroken_71 : decode cX12_isBroken 71 = .ok (.aload_n 0, 1) := by decide +kernel
theorem dX12_isBroken_72 : decode cX12_isBroken 72 = .ok (.iload_n 1, 1) := by decide +kernel
theorem dX12_isBroken_73 : decode cX12_isBroken 73 = .ok (.iload_n 2, 1) := by decide +kernel
theorem dX12_isBroken_74 : decode cX12_isBroken 74 = .ok (.aload_n 3, 1) := by decide +kernel
theorem dX12_isBroken_75 : decode cX12_isBroken 75 = .ok (.iload 4, 2) := by decide +kernel
theorem dX12_isBroken_77 : decode cX12_isBroken 77 = .ok (.invokevirtual 279, 3) := by decide +kernel
theorem dX12_isBroken_80 : decode cX12_isBroken 80 = .ok (.ifCond .ne 7, 3) := by decide +kernel
theorem dX12_isBroken_83 : decode cX12_isBroken 83 = .ok (.iconst 1, 1) := by decide +kernel
theorem dX12_isBroken_84 : decode cX12_isBroken 84 = .ok (.goto 4, 3) := by decide +kernel
theorem dX12_isBroken_87 : decode cX12_isBroken 87 = .ok (.iconst 0, 1) := by decide +kernel
theorem dX12_isBroken_88 : decode cX12_isBroken 88 = .ok (.ireturn, 1) := by decide +kernel
theorem dX12_isBroken_89 : decode cX12_isBroken 89 = .ok (.iload 8, 2) := by decide +kernel
theorem dX12_isBroken_91 : decode cX12_isBroken 91 = .ok (.ifCond .eq 17, 3) := by decide +kernel
theorem dX12_isBroken_94 : decode cX12_isBroken 94 = .ok (.iload 7, 2) := by decide +kernel
theorem dX12_isBroken_96 : decode cX12_isBroken 96 = .ok (.iconst 3, 1) := by decide +kernel
theorem dX12_isBroken_97 : decode cX12_isBroken 97 = .ok (.if_icmp .ne 7, 3) := by decide +kernel
theorem dX12_isBroken_100 : decode cX12_isBroken 100 = .ok (.iconst 1, 1) := by decide +kernel
theorem dX12_isBroken_101 : decode cX12_isBroken 101 = .ok (.goto 24, 3) := by decide +kernel
theorem dX12_isBroken_104 : decode cX12_isBroken 104 = .ok (.iconst 0, 1) := by decide +kernel
theorem dX12_isBroken_105 : decode cX12_isBroken 105 = .ok (.goto 20, 3) := by decide +kernel
theorem dX12_isBroken_108 : decode cX12_isBroken 108 = .ok (.iload 7, 2) := by decide +kernel
theorem dX12_isBroken_110 : decode cX12_isBroken 110 = .ok (.iconst 1, 1) := by decide +kernel
theorem dX12_isBroken_111 : decode cX12_isBroken 111 = .ok (.if_icmp .eq 9, 3) := by decide +kernel
theorem dX12_isBroken_114 : decode cX12_isBroken 114 = .ok (.iload 7, 2) := by decide +kernel
theorem dX12_isBroken_116 : decode cX12_isBroken 116 = .ok (.iconst 2, 1) := by decide +kernel
theorem dX12_isBroken_117 : decode cX12_isBroken 117 = .ok (.if_icmp .ne 7, 3) := by decide +kernel
theorem dX12_isBroken_120 : decode cX12_isBroken 120 = .ok (.iconst 1, 1) := by decide +kernel
theorem dX12_isBroken_121 : decode cX12_isBroken 121 = .ok (.goto 4, 3) := by decide +kernel
theorem dX12_isBroken_124 : decode cX12_isBroken 124 = .ok (.iconst 0, 1) := by decide +kernel
theorem dX12_isBroken_125 : decode cX12_isBroken 125 = .ok (.istore 9, 2) := by decide +kernel
theorem dX12_isBroken_127 : decode cX12_isBroken 127 = .ok (.iload 9, 2) := by decide +kernel
theorem dX12_isBroken_129 : decode cX12_isBroken 129 = .ok (.ifCond .eq 19, 3) := by decide +kernel
theorem dX12_isBroken_132 : decode cX12_isBroken 132 = .ok (.aload_n 0, 1) := by decide +kernel
theorem dX12_isBroken_133 : decode cX12_isBroken 133 = .ok (.iload_n 1, 1) := by decide +kernel
theorem dX12_isBroken_134 : decode cX12_isBroken 134 = .ok (.iload_n 2, 1) := by decide +kernel
theorem dX12_isBroken_135 : decode cX12_isBroken 135 = .ok (.aload_n 3, 1) := by decide +kernel
theorem dX12_isBroken_136 : decode cX12_isBroken 136 = .ok (.iload 4, 2) := by decide +kernel
theorem dX12_isBroken_138 : decode cX12_isBroken 138 = .ok (.invokevirtual 279, 3) := by decide +kernel
theorem dX12_isBroken_141 : decode cX12_isBroken 141 = .ok (.ifCond .eq 7, 3) := by decide +kernel
theorem dX12_isBroken_144 : decode cX12_isBroken 144 = .ok (.iconst 1, 1) := by decide +kernel
theorem dX12_isBroken_145 : decode cX12_isBroken 145 = .ok (.goto 4, 3) := by decide +kernel
theorem dX12_isBroken_148 : decode cX12_isBroken 148 = .ok (.iconst 0, 1) := by decide +kernel
theorem dX12_isBroken_149 : decode cX12_isBroken 149 = .ok (.ireturn, 1) := by decide +kernel
theorem dX12_begins_0 : decode cX12_begins 0 = .ok (.iconst 0, 1) := by decide +kernel
theorem dX12_begins_1 : decode cX12_begins 1 = .ok (.istore_n 1, 1) := by decide +kernel
theorem dX12_begins_2 : decode cX12_begins 2 = .ok (.iload_n 1, 1) := by decide +kernel
theorem dX12_begins_3 : decode cX12_begins 3 = .ok (.iconst 3, 1) := by decide +kernel
theorem dX12_begins_4 : decode cX12_begins 4 = .ok (.aload_n 0, 1) := by decide +kernel
theorem dX12_begins_5 : decode cX12_begins 5 = .ok (.getfield 7, 3) := by decide +kernel
theorem dX12_begins_8 : decode cX12_begins 8 = .ok (.bipush 17, 2) := by decide +kernel
theorem dX12_begins_10 : decode cX12_begins 10 = .ok (.iaload, 1) := by decide +kernel
theorem dX12_begins_11 : decode cX12_begins 11 = .ok (.imul, 1) := by decide +kernel
theorem dX12_begins_12 : decode cX12_begins 12 = .ok (.if_icmp .ge 33, 3) := by decide +kernel
theorem dX12_begins_15 : decode cX12_begins 15 = .ok (.aload_n 0, 1) := by decide +kernel
theorem dX12_begins_16 : decode cX12_begins 16 = .ok (.getfield 28, 3) := by decide +kernel
theorem dX12_begins_19 : decode cX12_begins 19 = .ok (.iconst 0, 1) := by decide +kernel
theorem dX12_begins_20 : decode cX12_begins 20 = .ok (.aaload, 1) := by decide +kernel
theorem dX12_begins_21 : decode cX12_begins 21 = .ok (.iload_n 1, 1) := by decide +kernel
theorem dX12_begins_22 : decode cX12_begins 22 = .ok (.aload_n 0, 1) := by decide +kernel
theorem dX12_begins_23 : decode cX12_begins 23 = .ok (.iload_n 1, 1) := by decide +kernel
theorem dX12_begins_24 : decode cX12_begins 24 = .ok (.iconst 0, 1) := by decide +kernel
theorem dX12_begins_25 : decode cX12_begins 25 = .ok (.iconst 1, 1) := by decide +kernel
theorem dX12_begins_26 : decode cX12_begins 26 = .ok (.invokevirtual 258, 3) := by decide +kernel
theorem dX12_begins_29 : decode cX12_begins 29 = .ok (.iastore, 1) := by decide +kernel
theorem dX12_begins_30 : decode cX12_begins 30 = .ok (.aload_n 0, 1) := by decide +kernel
theorem dX12_begins_31 : decode cX12_begins 31 = .ok (.getfield 31, 3) := by decide +kernel
theorem dX12_begins_34 : decode cX12_begins 34 = .ok (.iconst 0, 1) := by decide +kernel
theorem dX12_begins_35 : decode cX12_begins 35 = .ok (.aaload, 1) := by decide +kernel
theorem dX12_begins_36 : decode cX12_begins 36 = .ok (.iload_n 1, 1) := by decide +kernel
theorem dX12_begins_37 : decode cX12_begins 37 = .ok (.iconst 0, 1) := by decide +kernel
theorem dX12_begins_38 : decode cX12_begins 38 = .ok (.iastore, 1) := by decide +kernel
theorem dX12_begins_39 : decode cX12_begins 39 = .ok (.iinc 1 1, 3) := by decide +kernel
theorem dX12_begins_42 : decode cX12_begins 42 = .ok (.goto (-40), 3) := by decide +kernel
theorem dX12_begins_45 : decode cX12_begins 45 = .ok (.aload_n 0, 1) := by decide +kernel
theorem dX12_begins_46 : decode cX12_begins 46 = .ok (.getfield 40, 3) := by decide +kernel
theorem dX12_begins_49 : decode cX12_begins 49 = .ok (.iconst 0, 1) := by decide +kernel
theorem dX12_begins_50 : decode cX12_begins 50 = .ok (.iconst 0, 1) := by decide +kernel
theorem dX12_begins_51 : decode cX12_begins 51 = .ok (.iastore, 1) := by decide +kernel
theorem dX12_begins_52 : decode cX12_begins 52 = .ok (.return_, 1) := by decide +kernel
theorem dX12_isMet_0 : decode cX12_isMet 0 = .ok (.aload_n 0, 1) := by decide +kernel
theorem dX12_isMet_1 : decode cX12_isMet 1 = .ok (.iload_n 1, 1) := by decide +kernel
theorem dX12_isMet_2 : decode cX12_isMet 2 = .ok (.iconst 1, 1) := by decide +kernel
theorem dX12_isMet_3 : decode cX12_isMet 3 = .ok (.invokevirtual 266, 3) := by decide +kernel
theorem dX12_isMet_6 : decode cX12_isMet 6 = .ok (.ifCond .ne 17, 3) := by decide +kernel
theorem dX12_isMet_9 : decode cX12_isMet 9 = .ok (.aload_n 0, 1) := by decide +kernel
theorem dX12_isMet_10 : decode cX12_isMet 10 = .ok (.iload_n 1, 1) := by decide +kernel
theorem dX12_isMet_11 : decode cX12_isMet 11 = .ok (.iconst 1, 1) := by decide +kernel
theorem dX12_isMet_12 : decode cX12_isMet 12 = .ok (.iload_n 2, 1) := by decide +kernel
theorem dX12_isMet_13 : decode cX12_isMet 13 = .ok (.invokevirtual 269, 3) := by decide +kernel
theorem dX12_isMet_16 : decode cX12_isMet 16 = .ok (.ifCond .eq 7, 3) := by decide +kernel
theorem dX12_isMet_19 : decode cX12_isMet 19 = .ok (.iconst 1, 1) := by decide +kernel
theorem dX12_isMet_20 : decode cX12_isMet 20 = .ok (.goto 4, 3) := by decide +kernel
theorem dX12_isMet_23 : decode cX12_isMet 23 = .ok (.iconst 0, 1) := by decide +kernel
theorem dX12_isMet_24 : decode cX12_isMet 24 = .ok (.ireturn, 1) := by decide +kernel
theorem dX12_needsGoOn_0 : decode cX12_needsGoOn 0 = .ok (.iconst 0, 1) := by decide +kernel
theorem dX12_needsGoOn_1 : decode cX12_needsGoOn 1 = .ok (.istore_n 3, 1) := by decide +kernel
theorem dX12_needsGoOn_2 : decode cX12_needsGoOn 2 = .ok (.iconst 0, 1) := by decide +kernel
theorem dX12_needsGoOn_3 : decode cX12_needsGoOn 3 = .ok (.istore 4, 2) := by decide +kernel
theorem dX12_needsGoOn_5 : decode cX12_needsGoOn 5 = .ok (.iload 4, 2) := by decide +kernel
theorem dX12_needsGoOn_7 : decode cX12_needsGoOn 7 = .ok (.aload_n 0, 1) := by decide +kernel
theorem dX12_needsGoOn_8 : decode cX12_needsGoOn 8 = .ok (.getfield 40, 3) := by decide +kernel
theorem dX12_needsGoOn_11 : decode cX12_needsGoOn 11 = .ok (.iload_n 1, 1) := by decide +kernel
theorem dX12_needsGoOn_12 : decode cX12_needsGoOn 12 = .ok (.iaload, 1) := by decide +kernel
theorem dX12_needsGoOn_13 : decode cX12_needsGoOn 13 = .ok (.if_icmp .ge 178, 3) := by decide +kernel
theorem dX12_needsGoOn_16 : decode cX12_needsGoOn 16 = .ok (.aload_n 0, 1) := by decide +kernel
theorem dX12_needsGoOn_17 : decode cX12_needsGoOn 17 = .ok (.getfield 34, 3) := by decide +kernel
theorem dX12_needsGoOn_20 : decode cX12_needsGoOn 20 = .ok (.iload_n 1, 1) := by decide +kernel
theorem dX12_needsGoOn_21 : decode cX12_needsGoOn 21 = .ok (.aaload, 1) := by decide +kernel
theorem dX12_needsGoOn_22 : decode cX12_needsGoOn 22 = .ok (.iload 4, 2) := by decide +kernel
theorem dX12_needsGoOn_24 : decode cX12_needsGoOn 24 = .ok (.iaload, 1) := by decide +kernel
theorem dX12_needsGoOn_25 : decode cX12_needsGoOn 25 = .ok (.istore 5, 2) := by decide +kernel
theorem dX12_needsGoOn_27 : decode cX12_needsGoOn 27 = .ok (.iconst 0, 1) := by decide +kernel
theorem dX12_needsGoOn_28 : decode cX12_needsGoOn 28 = .ok (.istore 6, 2) := by decide +kernel
theorem dX12_needsGoOn_30 : decode cX12_needsGoOn 30 = .ok (.iconst 0, 1) := by decide +kernel
theorem dX12_needsGoOn_31 : decode cX12_needsGoOn 31 = .ok (.istore 7, 2) := by decide +kernel
theorem dX12_needsGoOn_33 : decode cX12_needsGoOn 33 = .ok (.iconst 0, 1) := by decide +kernel
theorem dX12_needsGoOn_34 : decode cX12_needsGoOn 34 = .ok (.istore 8, 2) := by decide +kernel
theorem dX12_needsGoOn_36 : decode cX12_needsGoOn 36 = .ok (.iload 8, 2) := by decide +kernel
theorem dX12_needsGoOn_38 : decode cX12_needsGoOn 38 = .ok (.iconst 3, 1) := by decide +kernel
theorem dX12_needsGoOn_39 : decode cX12_needsGoOn 39 = .ok (.if_icmp .ge 116, 3) := by decide +kernel
theorem dX12_needsGoOn_42 : decode cX12_needsGoOn 42 = .ok (.aload_n 0, 1) := by decide +kernel
theorem dX12_needsGoOn_43 : decode cX12_needsGoOn 43 = .ok (.getfield 37, 3) := by decide +kernel
theorem dX12_needsGoOn_46 : decode cX12_needsGoOn 46 = .ok (.iload_n 1, 1) := by decide +kernel
theorem dX12_needsGoOn_47 : decode cX12_needsGoOn 47 = .ok (.aaload, 1) := by decide +kernel
theorem dX12_needsGoOn_48 : decode cX12_needsGoOn 48 = .ok (.iconst 3, 1) := by decide +kernel
theorem dX12_needsGoOn_49 : decode cX12_needsGoOn 49 = .ok (.iload 4, 2) := by decide +kernel
theorem dX12_needsGoOn_51 : decode cX12_needsGoOn 51 = .ok (.imul, 1) := by decide +kernel
theorem dX12_needsGoOn_52 : decode cX12_needsGoOn 52 = .ok (.iload 8, 2) := by decide +kernel
theorem dX12_needsGoOn_54 : decode cX12_needsGoOn 54 = .ok (.iadd, 1) := by decide +kernel
theorem dX12_needsGoOn_55 : decode cX12_needsGoOn 55 = .ok (.iaload, 1) := by decide +kernel
theorem dX12_needsGoOn_56 : decode cX12_needsGoOn 56 = .ok (.ifCond .ne 7, 3) := by decide +kernel
theorem dX12_needsGoOn_59 : decode cX12_needsGoOn 59 = .ok (.iconst 0, 1) := by decide +kernel
theorem dX12_needsGoOn_60 : decode cX12_needsGoOn 60 = .ok (.goto 30, 3) := by decide +kernel
theorem dX12_needsGoOn_63 : decode cX12_needsGoOn 63 = .ok (.aload_n 0, 1) := by decide +kernel
