theorem dX6_study_0 : decode cX6_study 0 = .ok (.iconst 1, 1) := by decide +kernel
theorem dX6_study_1 : decode cX6_study 1 = .ok (.iload_n 2, 1) := by decide +kernel
theorem dX6_study_2 : decode cX6_study 2 = .ok (.ishl, 1) := by decide +kernel
theorem dX6_study_3 : decode cX6_study 3 = .ok (.iconst 1, 1) := by decide +kernel
theorem dX6_study_4 : decode cX6_study 4 = .ok (.isub, 1) := by decide +kernel
theorem dX6_study_5 : decode cX6_study 5 = .ok (.istore_n 3, 1) := by decide +kernel
theorem dX6_study_6 : decode cX6_study 6 = .ok (.iconst 0, 1) := by decide +kernel
theorem dX6_study_7 : decode cX6_study 7 = .ok (.istore 4, 2) := by decide +kernel
theorem dX6_study_9 : decode cX6_study 9 = .ok (.iload 4, 2) := by decide +kernel
theorem dX6_study_11 : decode cX6_study 11 = .ok (.aload_n 0, 1) := by decide +kernel
theorem dX6_study_12 : decode cX6_study 12 = .ok (.getfield 24, 3) := by decide +kernel
theorem dX6_study_15 : decode cX6_study 15 = .ok (.getfield 59, 3) := by decide +kernel
theorem dX6_study_18 : decode cX6_study 18 = .ok (.if_icmp .ge 110, 3) := by decide +kernel
theorem dX6_study_21 : decode cX6_study 21 = .ok (.aload_n 1, 1) := by decide +kernel
theorem dX6_study_22 : decode cX6_study 22 = .ok (.aload_n 0, 1) := by decide +kernel
theorem dX6_study_23 : decode cX6_study 23 = .ok (.getfield 37, 3) := by decide +kernel
theorem dX6_study_26 : decode cX6_study 26 = .ok (.aload_n 0, 1) := by decide +kernel
theorem dX6_study_27 : decode cX6_study 27 = .ok (.getfield 28, 3) := by decide +kernel
theorem dX6_study_30 : decode cX6_study 30 = .ok (.iload 4, 2) := by decide +kernel
theorem dX6_study_32 : decode cX6_study 32 = .ok (.aload_n 0, 1) := by decide +kernel
theorem dX6_study_33 : decode cX6_study 33 = .ok (.getfield 37, 3) := by decide +kernel
theorem dX6_study_36 : decode cX6_study 36 = .ok (.iconst 0, 1) := by decide +kernel
theorem dX6_study_37 : decode cX6_study 37 = .ok (.invokevirtual 65, 3) := by decide +kernel
theorem dX6_study_40 : decode cX6_study 40 = .ok (.invokevirtual 69, 3) := by decide +kernel
theorem dX6_study_43 : decode cX6_study 43 = .ok (.aload_n 0, 1) := by decide +kernel
theorem dX6_study_44 : decode cX6_study 44 = .ok (.getfield 24, 3) := by decide +kernel
theorem dX6_study_47 : decode cX6_study 47 = .ok (.iload 4, 2) := by decide +kernel
theorem dX6_study_49 : decode cX6_study 49 = .ok (.aload_n 0, 1) := by decide +kernel
theorem dX6_study_50 : decode cX6_study 50 = .ok (.getfield 37, 3) := by decide +kernel
theorem dX6_study_53 : decode cX6_study 53 = .ok (.iconst 0, 1) := by decide +kernel
theorem dX6_study_54 : decode cX6_study 54 = .ok (.invokevirtual 65, 3) := by decide +kernel
theorem dX6_study_57 : decode cX6_study 57 = .ok (.istore 5, 2) := by decide +kernel
theorem dX6_study_59 : decode cX6_study 59 = .ok (.aload_n 0, 1) := by decide +kernel
theorem dX6_study_60 : decode cX6_study 60 = .ok (.getfield 34, 3) := by decide +kernel
theorem dX6_study_63 : decode cX6_study 63 = .ok (.iload 4, 2) := by decide +kernel
theorem dX6_study_65 : decode cX6_study 65 = .ok (.aload_n 1, 1) := by decide +kernel
theorem dX6_study_66 : decode cX6_study 66 = .ok (.aload_n 0, 1) := by decide +kernel
theorem dX6_study_67 : decode cX6_study 67 = .ok (.getfield 37, 3) := by decide +kernel
theorem dX6_study_70 : decode cX6_study 70 = .ok (.iload 5, 2) := by decide +kernel
theorem dX6_study_72 : decode cX6_study 72 = .ok (.iload_n 3, 1) := by decide +kernel
theorem dX6_study_73 : decode cX6_study 73 = .ok (.aload_n 0, 1) := by decide +kernel
theorem dX6_study_74 : decode cX6_study 74 = .ok (.getfield 9, 3) := by decide +kernel
theorem dX6_study_77 : decode cX6_study 77 = .ok (.invokevirtual 75, 3) := by decide +kernel
theorem dX6_study_80 : decode cX6_study 80 = .ok (.iastore, 1) := by decide +kernel
theorem dX6_study_81 : decode cX6_study 81 = .ok (.iconst 0, 1) := by decide +kernel
theorem dX6_study_82 : decode cX6_study 82 = .ok (.istore 6, 2) := by decide +kernel
theorem dX6_study_84 : decode cX6_study 84 = .ok (.iload 6, 2) := by decide +kernel
theorem dX6_study_86 : decode cX6_study 86 = .ok (.aload_n 0, 1) := by decide +kernel
theorem dX6_study_87 : decode cX6_study 87 = .ok (.getfield 34, 3) := by decide +kernel
theorem dX6_study_90 : decode cX6_study 90 = .ok (.iload 4, 2) := by decide +kernel
theorem dX6_study_92 : decode cX6_study 92 = .ok (.iaload, 1) := by decide +kernel
theorem dX6_study_93 : decode cX6_study 93 = .ok (.if_icmp .ge 29, 3) := by decide +kernel
theorem dX6_study_96 : decode cX6_study 96 = .ok (.aload_n 0, 1) := by decide +kernel
theorem dX6_study_97 : decode cX6_study 97 = .ok (.getfield 31, 3) := by decide +kernel
theorem dX6_study_100 : decode cX6_study 100 = .ok (.iload 4, 2) := by decide +kernel
theorem dX6_study_102 : decode cX6_study 102 = .ok (.bipush 9, 2) := by decide +kernel
theorem dX6_study_104 : decode cX6_study 104 = .ok (.imul, 1) := by decide +kernel
theorem dX6_study_105 : decode cX6_study 105 = .ok (.iload 6, 2) := by decide +kernel
theorem dX6_study_107 : decode cX6_study 107 = .ok (.iadd, 1) := by decide +kernel
theorem dX6_study_108 : decode cX6_study 108 = .ok (.aload_n 1, 1) := by decide +kernel
theorem dX6_study_109 : decode cX6_study 109 = .ok (.getfield 79, 3) := by decide +kernel
theorem dX6_study_112 : decode cX6_study 112 = .ok (.iload 6, 2) := by decide +kernel
theorem dX6_study_114 : decode cX6_study 114 = .ok (.iaload, 1) := by decide +kernel
theorem dX6_study_115 : decode cX6_study 115 = .ok (.iastore, 1) := by decide +kernel
theorem dX6_study_116 : decode cX6_study 116 = .ok (.iinc 6 1, 3) := by decide +kernel
theorem dX6_study_119 : decode cX6_study 119 = .ok (.goto (-35), 3) := by decide +kernel
theorem dX6_study_122 : decode cX6_study 122 = .ok (.iinc 4 1, 3) := by decide +kernel
theorem dX6_study_125 : decode cX6_study 125 = .ok (.goto (-116), 3) := by decide +kernel
theorem dX6_study_128 : decode cX6_study 128 = .ok (.return_, 1) := by decide +kernel
theorem dX0_noteSaid_0 : decode cX0_noteSaid 0 = .ok (.iconst 0, 1) := by decide +kernel
theorem dX0_noteSaid_1 : decode cX0_noteSaid 1 = .ok (.istore_n 3, 1) := by decide +kernel
theorem dX0_noteSaid_2 : decode cX0_noteSaid 2 = .ok (.iload_n 3, 1) := by decide +kernel
theorem dX0_noteSaid_3 : decode cX0_noteSaid 3 = .ok (.aload_n 1, 1) := by decide +kernel
theorem dX0_noteSaid_4 : decode cX0_noteSaid 4 = .ok (.getfield 104, 3) := by decide +kernel
theorem dX0_noteSaid_7 : decode cX0_noteSaid 7 = .ok (.if_icmp .ge 56, 3) := by decide +kernel
theorem dX0_noteSaid_10 : decode cX0_noteSaid 10 = .ok (.aload_n 1, 1) := by decide +kernel
theorem dX0_noteSaid_11 : decode cX0_noteSaid 11 = .ok (.getfield 107, 3) := by decide +kernel
theorem dX0_noteSaid_14 : decode cX0_noteSaid 14 = .ok (.iload_n 3, 1) := by decide +kernel
theorem dX0_noteSaid_15 : decode cX0_noteSaid 15 = .ok (.iaload, 1) := by decide +kernel
theorem dX0_noteSaid_16 : decode cX0_noteSaid 16 = .ok (.istore 4, 2) := by decide +kernel
theorem dX0_noteSaid_18 : decode cX0_noteSaid 18 = .ok (.iload 4, 2) := by decide +kernel
theorem dX0_noteSaid_20 : decode cX0_noteSaid 20 = .ok (.iconst 2, 1) := by decide +kernel
theorem dX0_noteSaid_21 : decode cX0_noteSaid 21 = .ok (.invokestatic 110, 3) := by decide +kernel
theorem dX0_noteSaid_24 : decode cX0_noteSaid 24 = .ok (.ifCond .ne 33, 3) := by decide +kernel
theorem dX0_noteSaid_27 : decode cX0_noteSaid 27 = .ok (.iload 4, 2) := by decide +kernel
theorem dX0_noteSaid_29 : decode cX0_noteSaid 29 = .ok (.iconst 0, 1) := by decide +kernel
theorem dX0_noteSaid_30 : decode cX0_noteSaid 30 = .ok (.invokestatic 110, 3) := by decide +kernel
theorem dX0_noteSaid_33 : decode cX0_noteSaid 33 = .ok (.iload 4, 2) := by decide +kernel
theorem dX0_noteSaid_35 : decode cX0_noteSaid 35 = .ok (.iconst 1, 1) := by decide +kernel
theorem dX0_noteSaid_36 : decode cX0_noteSaid 36 = .ok (.invokestatic 110, 3) := by decide +kernel
theorem dX0_noteSaid_39 : decode cX0_noteSaid 39 = .ok (.invokestatic 80, 3) := by decide +kernel
theorem dX0_noteSaid_42 : decode cX0_noteSaid 42 = .ok (.istore 5, 2) := by decide +kernel
theorem dX0_noteSaid_44 : decode cX0_noteSaid 44 = .ok (.aload_n 0, 1) := by decide +kernel
theorem dX0_noteSaid_45 : decode cX0_noteSaid 45 = .ok (.getfield 15, 3) := by decide +kernel
theorem dX0_noteSaid_48 : decode cX0_noteSaid 48 = .ok (.iload_n 2, 1) := by decide +kernel
theorem dX0_noteSaid_49 : decode cX0_noteSaid 49 = .ok (.bipush 73, 2) := by decide +kernel
theorem dX0_noteSaid_51 : decode cX0_noteSaid 51 = .ok (.imul, 1) := by decide +kernel
theorem dX0_noteSaid_52 : decode cX0_noteSaid 52 = .ok (.iload 5, 2) := by decide +kernel
theorem dX0_noteSaid_54 : decode cX0_noteSaid 54 = .ok (.iadd, 1) := by decide +kernel
theorem dX0_noteSaid_55 : decode cX0_noteSaid 55 = .ok (.iconst 1, 1) := by decide +kernel
theorem dX0_noteSaid_56 : decode cX0_noteSaid 56 = .ok (.iastore, 1) := by decide +kernel
theorem dX0_noteSaid_57 : decode cX0_noteSaid 57 = .ok (.iinc 3 1, 3) := by decide +kernel
theorem dX0_noteSaid_60 : decode cX0_noteSaid 60 = .ok (.goto (-58), 3) := by decide +kernel
theorem dX0_noteSaid_63 : decode cX0_noteSaid 63 = .ok (.return_, 1) := by decide +kernel
theorem dX0_tryOrders_0 : decode cX0_tryOrders 0 = .ok (.iload_n 1, 1) := by decide +kernel
theorem dX0_tryOrders_1 : decode cX0_tryOrders 1 = .ok (.aload_n 0, 1) := by decide +kernel
theorem dX0_tryOrders_2 : decode cX0_tryOrders 2 = .ok (.getfield 40, 3) := by decide +kernel
theorem dX0_tryOrders_5 : decode cX0_tryOrders 5 = .ok (.if_icmp .lt 9, 3) := by decide +kernel
theorem dX0_tryOrders_8 : decode cX0_tryOrders 8 = .ok (.aload_n 0, 1) := by decide +kernel
theorem dX0_tryOrders_9 : decode cX0_tryOrders 9 = .ok (.iload_n 1, 1) := by decide +kernel
theorem dX0_tryOrders_10 : decode cX0_tryOrders 10 = .ok (.invokevirtual 115, 3) := by decide +kernel
theorem dX0_tryOrders_13 : decode cX0_tryOrders 13 = .ok (.return_, 1) := by decide +kernel
theorem dX0_tryOrders_14 : decode cX0_tryOrders 14 = .ok (.iconst 0, 1) := by decide +kernel
theorem dX0_tryOrders_15 : decode cX0_tryOrders 15 = .ok (.istore_n 3, 1) := by decide +kernel
theorem dX0_tryOrders_16 : decode cX0_tryOrders 16 = .ok (.iload_n 3, 1) := by decide +kernel
theorem dX0_tryOrders_17 : decode cX0_tryOrders 17 = .ok (.aload_n 0, 1) := by decide +kernel
theorem dX0_tryOrders_18 : decode cX0_tryOrders 18 = .ok (.getfield 40, 3) := by decide +kernel
theorem dX0_tryOrders_21 : decode cX0_tryOrders 21 = .ok (.if_icmp .ge 102, 3) := by decide +kernel
theorem dX0_tryOrders_24 : decode cX0_tryOrders 24 = .ok (.iload_n 2, 1) := by decide +kernel
theorem dX0_tryOrders_25 : decode cX0_tryOrders 25 = .ok (.iload_n 3, 1) := by decide +kernel
theorem dX0_tryOrders_26 : decode cX0_tryOrders 26 = .ok (.ishr, 1) := by decide +kernel
theorem dX0_tryOrders_27 : decode cX0_tryOrders 27 = .ok (.iconst 1, 1) := by decide +kernel
theorem dX0_tryOrders_28 : decode cX0_tryOrders 28 = .ok (.iand, 1) := by decide +kernel
theorem dX0_tryOrders_29 : decode cX0_tryOrders 29 = .ok (.ifCond .ne 88, 3) := by decide +kernel
theorem dX0_tryOrders_32 : decode cX0_tryOrders 32 = .ok (.aload_n 0, 1) := by decide +kernel
theorem dX0_tryOrders_33 : decode cX0_tryOrders 33 = .ok (.getfield 21, 3) := by decide +kernel
theorem dX0_tryOrders_36 : decode cX0_tryOrders 36 = .ok (.iload_n 1, 1) := by decide +kernel
theorem dX0_tryOrders_37 : decode cX0_tryOrders 37 = .ok (.aload_n 0, 1) := by decide +kernel
theorem dX0_tryOrders_38 : decode cX0_tryOrders 38 = .ok (.getfield 18, 3) := by decide +kernel
theorem dX0_tryOrders_41 : decode cX0_tryOrders 41 = .ok (.iload_n 3, 1) := by decide +kernel
theorem dX0_tryOrders_42 : decode cX0_tryOrders 42 = .ok (.iaload, 1) := by decide +kernel
theorem dX0_tryOrders_43 : decode cX0_tryOrders 43 = .ok (.iastore, 1) := by decide +kernel
theorem dX0_tryOrders_44 : decode cX0_tryOrders 44 = .ok (.iconst 0, 1) := by decide +kernel
theorem dX0_tryOrders_45 : decode cX0_tryOrders 45 = .ok (.istore 4, 2) := by decide +kernel
theorem dX0_tryOrders_47 : decode cX0_tryOrders 47 = .ok (.iload 4, 2) := by decide +kernel
theorem dX0_tryOrders_49 : decode cX0_tryOrders 49 = .ok (.bipush 73, 2) := by decide +kernel
theorem dX0_tryOrders_51 : decode cX0_tryOrders 51 = .ok (.if_icmp .ge 54, 3) := by decide +kernel
theorem dX0_tryOrders_54 : decode cX0_tryOrders 54 = .ok (.aload_n 0, 1) := by decide +kernel
theorem dX0_tryOrders_55 : decode cX0_tryOrders 55 = .ok (.getfield 24, 3) := by decide +kernel
theorem dX0_tryOrders_58 : decode cX0_tryOrders 58 = .ok (.iload_n 1, 1) := by decide +kernel
theorem dX0_tryOrders_59 : decode cX0_tryOrders 59 = .ok (.bipush 73, 2) := by decide +kernel
theorem dX0_tryOrders_61 : decode cX0_tryOrders 61 = .ok (.imul, 1) := by decide +kernel
theorem dX0_tryOrders_62 : decode cX0_tryOrders 62 = .ok (.iload 4, 2) := by decide +kernel
theorem dX0_tryOrders_64 : decode cX0_tryOrders 64 = .ok (.iadd, 1) := by decide +kernel
theorem dX0_tryOrders_65 : decode cX0_tryOrders 65 = .ok (.iaload, 1) := by decide +kernel
theorem dX0_tryOrders_66 : decode cX0_tryOrders 66 = .ok (.istore 5, 2) := by decide +kernel
theorem dX0_tryOrders_68 : decode cX0_tryOrders 68 = .ok (.aload_n 0, 1) := by decide +kernel
theorem dX0_tryOrders_69 : decode cX0_tryOrders 69 = .ok (.getfield 24, 3) := by decide +kernel
theorem dX0_tryOrders_72 : decode cX0_tryOrders 72 = .ok (.iload_n 1, 1) := by decide +kernel
theorem dX0_tryOrders_73 : decode cX0_tryOrders 73 = .ok (.iconst 1, 1) := by decide +kernel
theorem dX0_tryOrders_74 : decode cX0_tryOrders 74 = .ok (.iadd, 1) := by decide +kernel
theorem dX0_tryOrders_75 : decode cX0_tryOrders 75 = .ok (.bipush 73, 2) := by decide +kernel
theorem dX0_tryOrders_77 : decode cX0_tryOrders 77 = .ok (.imul, 1) := by decide +kernel
theorem dX0_tryOrders_78 : decode cX0_tryOrders 78 = .ok (.iload 4, 2) := by decide +kernel
theorem dX0_tryOrders_80 : decode cX0_tryOrders 80 = .ok (.iadd, 1) := by decide +kernel
theorem dX0_tryOrders_81 : decode cX0_tryOrders 81 = .ok (.aload_n 0, 1) := by decide +kernel
theorem dX0_tryOrders_82 : decode cX0_tryOrders 82 = .ok (.getfield 11, 3) := by decide +kernel
theorem dX0_tryOrders_85 : decode cX0_tryOrders 85 = .ok (.aload_n 0, 1) := by decide +kernel
theorem dX0_tryOrders_86 : decode cX0_tryOrders 86 = .ok (.getfield 18, 3) := by decide +kernel
theorem dX0_tryOrders_89 : decode cX0_tryOrders 89 = .ok (.iload_n 3, 1) := by decide +kernel
theorem dX0_tryOrders_90 : decode cX0_tryOrders 90 = .ok (.iaload, 1) := by decide +kernel
theorem dX0_tryOrders_91 : decode cX0_tryOrders 91 = .ok (.bipush 73, 2) := by decide +kernel
theorem dX0_tryOrders_93 : decode cX0_tryOrders 93 = .ok (.imul, 1) := by decide +kernel
theorem dX0_tryOrders_94 : decode cX0_tryOrders 94 = .ok (.iload 5, 2) := by decide +kernel
theorem dX0_tryOrders_96 : decode cX0_tryOrders 96 = .ok (.iadd, 1) := by decide +kernel
theorem dX0_tryOrders_97 : decode cX0_tryOrders 97 = .ok (.iaload, 1) := by decide +kernel
theorem dX0_tryOrders_98 : decode cX0_tryOrders 98 = .ok (.iastore, 1) := by decide +kernel
theorem dX0_tryOrders_99 : decode cX0_tryOrders 99 = .ok (.iinc 4 1, 3) := by decide +kernel
theorem dX0_tryOrders_102 : decode cX0_tryOrders 102 = .ok (.goto (-55), 3) := by decide +kernel
theorem dX0_tryOrders_105 : decode cX0_tryOrders 105 = .ok (.aload_n 0, 1) := by decide +kernel
theorem dX0_tryOrders_106 : decode cX0_tryOrders 106 = .ok (.iload_n 1, 1) := by decide +kernel
theorem dX0_tryOrders_107 : decode cX0_tryOrders 107 = .ok (.iconst 1, 1) := by decide +kernel
theorem dX0_tryOrders_108 : decode cX0_tryOrders 108 = .ok (.iadd, 1) := by decide +kernel
theorem dX0_tryOrders_109 : decode cX0_tryOrders 109 = .ok (.iload_n 2, 1) := by decide +kernel
theorem dX0_tryOrders_110 : decode cX0_tryOrders 110 = .ok (.iconst 1, 1) := by decide +kernel
theorem dX0_tryOrders_111 : decode cX0_tryOrders 111 = .ok (.iload_n 3, 1) := by decide +kernel
theorem dX0_tryOrders_112 : decode cX0_tryOrders 112 = .ok (.ishl, 1) := by decide +kernel
theorem dX0_tryOrders_113 : decode cX0_tryOrders 113 = .ok (.ior, 1) := by decide +kernel
theorem dX0_tryOrders_114 : decode cX0_tryOrders 114 = .ok (.invokevirtual 69, 3) := by decide +kernel
theorem dX0_tryOrders_117 : decode cX0_tryOrders 117 = .ok (.iinc 3 1, 3) := by decide +kernel
theorem dX0_tryOrders_120 : decode cX0_tryOrders 120 = .ok (.goto (-104), 3) := by decide +kernel
theorem dX0_tryOrders_123 : decode cX0_tryOrders 123 = .ok (.return_, 1) := by decide +kernel
theorem dX11_takeWord_0 : decode cX11_takeWord 0 = .ok (.aload_n 0, 1) := by decide +kernel
theorem dX11_takeWord_1 : decode cX11_takeWord 1 = .ok (.invokevirtual 83, 3) := by decide +kernel
theorem dX11_takeWord_4 : decode cX11_takeWord 4 = .ok (.istore_n 1, 1) := by decide +kernel
theorem dX11_takeWord_5 : decode cX11_takeWord 5 = .ok (.iload_n 1, 1) := by decide +kernel
theorem dX11_takeWord_6 : decode cX11_takeWord 6 = .ok (.iconst 1, 1) := by decide +kernel
theorem dX11_takeWord_7 : decode cX11_takeWord 7 = .ok (.if_icmp .lt 18, 3) := by decide +kernel
theorem dX11_takeWord_10 : decode cX11_takeWord 10 = .ok (.iload_n 1, 1) := by decide +kernel
theorem dX11_takeWord_11 : decode cX11_takeWord 11 = .ok (.bipush 8, 2) := by decide +kernel
theorem dX11_takeWord_13 : decode cX11_takeWord 13 = .ok (.if_icmp .gt 12, 3) := by decide +kernel
theorem dX11_takeWord_16 : decode cX11_takeWord 16 = .ok (.aload_n 0, 1) := by decide +kernel
theorem dX11_takeWord_17 : decode cX11_takeWord 17 = .ok (.iconst 0, 1) := by decide +kernel
theorem dX11_takeWord_18 : decode cX11_takeWord 18 = .ok (.iload_n 1, 1) := by decide +kernel
theorem dX11_takeWord_19 : decode cX11_takeWord 19 = .ok (.invokevirtual 260, 3) := by decide +kernel
theorem dX11_takeWord_22 : decode cX11_takeWord 22 = .ok (.ifCond .ne 5, 3) := by decide +kernel
theorem dX11_takeWord_25 : decode cX11_takeWord 25 = .ok (.iconst (-1), 1) := by decide +kernel
theorem dX11_takeWord_26 : decode cX11_takeWord 26 = .ok (.ireturn, 1) := by decide +kernel
theorem dX11_takeWord_27 : decode cX11_takeWord 27 = .ok (.iconst 0, 1) := by decide +kernel
theorem dX11_takeWord_28 : decode cX11_takeWord 28 = .ok (.istore_n 2, 1) := by decide +kernel
theorem dX11_takeWord_29 : decode cX11_takeWord 29 = .ok (.iload_n 2, 1) := by decide +kernel
theorem dX11_takeWord_30 : decode cX11_takeWord 30 = .ok (.iload_n 1, 1) := by decide +kernel
theorem dX11_takeWord_31 : decode cX11_takeWord 31 = .ok (.if_icmp .ge 28, 3) := by decide +kernel
theorem dX11_takeWord_34 : decode cX11_takeWord 34 = .ok (.aload_n 0, 1) := by decide +kernel
theorem dX11_takeWord_35 : decode cX11_takeWord 35 = .ok (.getfield 70, 3) := by decide +kernel
theorem dX11_takeWord_38 : decode cX11_takeWord 38 = .ok (.iload_n 2, 1) := by decide +kernel
theorem dX11_takeWord_39 : decode cX11_takeWord 39 = .ok (.aload_n 0, 1) := by decide +kernel
theorem dX11_takeWord_40 : decode cX11_takeWord 40 = .ok (.getfield 24, 3) := by decide +kernel
theorem dX11_takeWord_43 : decode cX11_takeWord 43 = .ok (.aload_n 0, 1) := by decide +kernel
theorem dX11_takeWord_44 : decode cX11_takeWord 44 = .ok (.getfield 9, 3) := by decide +kernel
theorem dX11_takeWord_47 : decode cX11_takeWord 47 = .ok (.iload_n 2, 1) := by decide +kernel
theorem dX11_takeWord_48 : decode cX11_takeWord 48 = .ok (.iaload, 1) := by decide +kernel
theorem dX11_takeWord_49 : decode cX11_takeWord 49 = .ok (.invokevirtual 268, 3) := by decide +kernel
theorem dX11_takeWord_52 : decode cX11_takeWord 52 = .ok (.iastore, 1) := by decide +kernel
theorem dX11_takeWord_53 : decode cX11_takeWord 53 = .ok (.iinc 2 1, 3) := by decide +kernel
theorem dX11_takeWord_56 : decode cX11_takeWord 56 = .ok (.goto (-27), 3) := by decide +kernel
theorem dX11_takeWord_59 : decode cX11_takeWord 59 = .ok (.iload_n 1, 1) := by decide +kernel
theorem dX11_takeWord_60 : decode cX11_takeWord 60 = .ok (.ireturn, 1) := by decide +kernel
theorem dX11_pairOfSigns_0 : decode cX11_pairOfSigns 0 = .ok (.aload_n 0, 1) := by decide +kernel
theorem dX11_pairOfSigns_1 : decode cX11_pairOfSigns 1 = .ok (.getfield 24, 3) := by decide +kernel
theorem dX11_pairOfSigns_4 : decode cX11_pairOfSigns 4 = .ok (.iload_n 1, 1) := by decide +kernel
theorem dX11_pairOfSigns_5 : decode cX11_pairOfSigns 5 = .ok (.invokevirtual 268, 3) := by decide +kernel
theorem dX11_pairOfSigns_8 : decode cX11_pairOfSigns 8 = .ok (.istore_n 3, 1) := by decide +kernel
theorem dX11_pairOfSigns_9 : decode cX11_pairOfSigns 9 = .ok (.aload_n 0, 1) := by decide +kernel
theorem dX11_pairOfSigns_10 : decode cX11_pairOfSigns 10 = .ok (.getfield 24, 3) := by decide +kernel
theorem dX11_pairOfSigns_13 : decode cX11_pairOfSigns 13 = .ok (.iload_n 2, 1) := by decide +kernel
theorem dX11_pairOfSigns_14 : decode cX11_pairOfSigns 14 = .ok (.invokevirtual 268, 3) := by decide +kernel
theorem dX11_pairOfSigns_17 : decode cX11_pairOfSigns 17 = .ok (.istore 4, 2) := by decide +kernel
theorem dX11_pairOfSigns_19 : decode cX11_pairOfSigns 19 = .ok (.iload_n 3, 1) := by decide +kernel
theorem dX11_pairOfSigns_20 : decode cX11_pairOfSigns 20 = .ok (.ifCond .ne 9, 3) := by decide +kernel
theorem dX11_pairOfSigns_23 : decode cX11_pairOfSigns 23 = .ok (.iload_n 1, 1) := by decide +kernel
theorem dX11_pairOfSigns_24 : decode cX11_pairOfSigns 24 = .ok (.bipush 48, 2) := by decide +kernel
theorem dX11_pairOfSigns_26 : decode cX11_pairOfSigns 26 = .ok (.if_icmp .ne 14, 3) := by decide +kernel
theorem dX11_pairOfSigns_29 : decode cX11_pairOfSigns 29 = .ok (.iload 4, 2) := by decide +kernel
theorem dX11_pairOfSigns_31 : decode cX11_pairOfSigns 31 = .ok (.ifCond .ne 11, 3) := by decide +kernel
theorem dX11_pairOfSigns_34 : decode cX11_pairOfSigns 34 = .ok (.iload_n 2, 1) := by decide +kernel
theorem dX11_pairOfSigns_35 : decode cX11_pairOfSigns 35 = .ok (.bipush 48, 2) := by decide +kernel
theorem dX11_pairOfSigns_37 : decode cX11_pairOfSigns 37 = .ok (.if_icmp .eq 5, 3) := by decide +kernel
theorem dX11_pairOfSigns_40 : decode cX11_pairOfSigns 40 = .ok (.iconst (-1), 1) := by decide +kernel
theorem dX11_pairOfSigns_41 : decode cX11_pairOfSigns 41 = .ok (.ireturn, 1) := by decide +kernel
theorem dX11_pairOfSigns_42 : decode cX11_pairOfSigns 42 = .ok (.aload_n 0, 1) := by decide +kernel
theorem dX11_pairOfSigns_43 : decode cX11_pairOfSigns 43 = .ok (.getfield 24, 3) := by decide +kernel
theorem dX11_pairOfSigns_46 : decode cX11_pairOfSigns 46 = .ok (.iload_n 3, 1) := by decide +kernel
theorem dX11_pairOfSigns_47 : decode cX11_pairOfSigns 47 = .ok (.iload 4, 2) := by decide +kernel
theorem dX11_pairOfSigns_49 : decode cX11_pairOfSigns 49 = .ok (.invokevirtual 198, 3) := by decide +kernel
theorem dX11_pairOfSigns_52 : decode cX11_pairOfSigns 52 = .ok (.ireturn, 1) := by decide +kernel
theorem dX11_takeRow_0 : decode cX11_takeRow 0 = .ok (.aload_n 0, 1) := by decide +kernel
theorem dX11_takeRow_1 : decode cX11_takeRow 1 = .ok (.invokevirtual 83, 3) := by decide +kernel
theorem dX11_takeRow_4 : decode cX11_takeRow 4 = .ok (.istore_n 1, 1) := by decide +kernel
theorem dX11_takeRow_5 : decode cX11_takeRow 5 = .ok (.iload_n 1, 1) := by decide +kernel
theorem dX11_takeRow_6 : decode cX11_takeRow 6 = .ok (.iconst 2, 1) := by decide +kernel
theorem dX11_takeRow_7 : decode cX11_takeRow 7 = .ok (.if_icmp .lt 15, 3) := by decide +kernel
theorem dX11_takeRow_10 : decode cX11_takeRow 10 = .ok (.iload_n 1, 1) := by decide +kernel
theorem dX11_takeRow_11 : decode cX11_takeRow 11 = .ok (.bipush 32, 2) := by decide +kernel
theorem dX11_takeRow_13 : decode cX11_takeRow 13 = .ok (.if_icmp .gt 9, 3) := by decide +kernel
theorem dX11_takeRow_16 : decode cX11_takeRow 16 = .ok (.iload_n 1, 1) := by decide +kernel
theorem dX11_takeRow_17 : decode cX11_takeRow 17 = .ok (.iconst 2, 1) := by decide +kernel
theorem dX11_takeRow_18 : decode cX11_takeRow 18 = .ok (.irem, 1) := by decide +kernel
theorem dX11_takeRow_19 : decode cX11_takeRow 19 = .ok (.ifCond .eq 5, 3) := by decide +kernel
theorem dX11_takeRow_22 : decode cX11_takeRow 22 = .ok (.iconst (-1), 1) := by decide +kernel
theorem dX11_takeRow_23 : decode cX11_takeRow 23 = .ok (.ireturn, 1) := by decide +kernel
theorem dX11_takeRow_24 : decode cX11_takeRow 24 = .ok (.iconst 0, 1) := by decide +kernel
theorem dX11_takeRow_25 : decode cX11_takeRow 25 = .ok (.istore_n 2, 1) := by decide +kernel
theorem dX11_takeRow_26 : decode cX11_takeRow 26 = .ok (.iload_n 2, 1) := by decide +kernel
theorem dX11_takeRow_27 : decode cX11_takeRow 27 = .ok (.iload_n 1, 1) := by decide +kernel
theorem dX11_takeRow_28 : decode cX11_takeRow 28 = .ok (.if_icmp .ge 44, 3) := by decide +kernel
theorem dX11_takeRow_31 : decode cX11_takeRow 31 = .ok (.aload_n 0, 1) := by decide +kernel
theorem dX11_takeRow_32 : decode cX11_takeRow 32 = .ok (.aload_n 0, 1) := by decide +kernel
theorem dX11_takeRow_33 : decode cX11_takeRow 33 = .ok (.getfield 9, 3) := by decide +kernel
theorem dX11_takeRow_36 : decode cX11_takeRow 36 = .ok (.iload_n 2, 1) := by decide +kernel
theorem dX11_takeRow_37 : decode cX11_takeRow 37 = .ok (.iaload, 1) := by decide +kernel
theorem dX11_takeRow_38 : decode cX11_takeRow 38 = .ok (.aload_n 0, 1) := by decide +kernel
theorem dX11_takeRow_39 : decode cX11_takeRow 39 = .ok (.getfield 9, 3) := by decide +kernel
theorem dX11_takeRow_42 : decode cX11_takeRow 42 = .ok (.iload_n 2, 1) := by decide +kernel
theorem dX11_takeRow_43 : decode cX11_takeRow 43 = .ok (.iconst 1, 1) := by decide +kernel
theorem dX11_takeRow_44 : decode cX11_takeRow 44 = .ok (.iadd, 1) := by decide +kernel
theorem dX11_takeRow_45 : decode cX11_takeRow 45 = .ok (.iaload, 1) := by decide +kernel
theorem dX11_takeRow_46 : decode cX11_takeRow 46 = .ok (.invokevirtual 316, 3) := by decide +kernel
theorem dX11_takeRow_49 : decode cX11_takeRow 49 = .ok (.istore_n 3, 1) := by decide +kernel
theorem dX11_takeRow_50 : decode cX11_takeRow 50 = .ok (.iload_n 3, 1) := by decide +kernel
theorem dX11_takeRow_51 : decode cX11_takeRow 51 = .ok (.iconst (-1), 1) := by decide +kernel
theorem dX11_takeRow_52 : decode cX11_takeRow 52 = .ok (.if_icmp .ne 5, 3) := by decide +kernel
theorem dX11_takeRow_55 : decode cX11_takeRow 55 = .ok (.iconst (-1), 1) := by decide +kernel
theorem dX11_takeRow_56 : decode cX11_takeRow 56 = .ok (.ireturn, 1) := by decide +kernel
theorem dX11_takeRow_57 : decode cX11_takeRow 57 = .ok (.aload_n 0, 1) := by decide +kernel
theorem dX11_takeRow_58 : decode cX11_takeRow 58 = .ok (.getfield 70, 3) := by decide +kernel
theorem dX11_takeRow_61 : decode cX11_takeRow 61 = .ok (.iload_n 2, 1) := by decide +kernel
theorem dX11_takeRow_62 : decode cX11_takeRow 62 = .ok (.iconst 2, 1) := by decide +kernel
theorem dX11_takeRow_63 : decode cX11_takeRow 63 = .ok (.idiv, 1) := by decide +kernel
theorem dX11_takeRow_64 : decode cX11_takeRow 64 = .ok (.iload_n 3, 1) := by decide +kernel
theorem dX11_takeRow_65 : decode cX11_takeRow 65 = .ok (.iastore, 1) := by decide +kernel
theorem dX11_takeRow_66 : decode cX11_takeRow 66 = .ok (.iinc 2 2, 3) := by decide +kernel
theorem dX11_takeRow_69 : decode cX11_takeRow 69 = .ok (.goto (-43), 3) := by decide +kernel
theorem dX11_takeRow_72 : decode cX11_takeRow 72 = .ok (.iload_n 1, 1) := by decide +kernel
theorem dX11_takeRow_73 : decode cX11_takeRow 73 = .ok (.iconst 2, 1) := by decide +kernel
theorem dX11_takeRow_74 : decode cX11_takeRow 74 = .ok (.idiv, 1) := by decide +kernel
theorem dX11_takeRow_75 : decode cX11_takeRow 75 = .ok (.ireturn, 1) := by decide +kernel
theorem dX11_quarrel_0 : decode cX11_quarrel 0 = .ok (.aload_n 0, 1) := by decide +kernel
theorem dX11_quarrel_1 : decode cX11_quarrel 1 = .ok (.iload_n 1, 1) := by decide +kernel
theorem dX11_quarrel_2 : decode cX11_quarrel 2 = .ok (.invokevirtual 192, 3) := by decide +kernel
theorem dX11_quarrel_5 : decode cX11_quarrel 5 = .ok (.ifCond .eq 16, 3) := by decide +kernel
theorem dX11_quarrel_8 : decode cX11_quarrel 8 = .ok (.aload_n 0, 1) := by decide +kernel
theorem dX11_quarrel_9 : decode cX11_quarrel 9 = .ok (.iload_n 2, 1) := by decide +kernel
theorem dX11_quarrel_10 : decode cX11_quarrel 10 = .ok (.invokevirtual 192, 3) := by decide +kernel
theorem dX11_quarrel_13 : decode cX11_quarrel 13 = .ok (.ifCond .eq 8, 3) := by decide +kernel
theorem dX11_quarrel_16 : decode cX11_quarrel 16 = .ok (.iload_n 1, 1) := by decide +kernel
theorem dX11_quarrel_17 : decode cX11_quarrel 17 = .ok (.iload_n 2, 1) := by decide +kernel
theorem dX11_quarrel_18 : decode cX11_quarrel 18 = .ok (.if_icmp .ne 5, 3) := by decide +kernel
theorem dX11_quarrel_21 : decode cX11_quarrel 21 = .ok (.iconst (-1), 1) := by decide +kernel
theorem dX11_quarrel_22 : decode cX11_quarrel 22 = .ok (.ireturn, 1) := by decide +kernel
theorem dX11_quarrel_23 : decode cX11_quarrel 23 = .ok (.aload_n 0, 1) := by decide +kernel
theorem dX11_quarrel_24 : decode cX11_quarrel 24 = .ok (.getfield 24, 3) := by decide +kernel
theorem dX11_quarrel_27 : decode cX11_quarrel 27 = .ok (.getfield 169, 3) := by decide +kernel
theorem dX11_quarrel_30 : decode cX11_quarrel 30 = .ok (.iload_n 1, 1) := by decide +kernel
theorem dX11_quarrel_31 : decode cX11_quarrel 31 = .ok (.aaload, 1) := by decide +kernel
theorem dX11_quarrel_32 : decode cX11_quarrel 32 = .ok (.astore_n 3, 1) := by decide +kernel
theorem dX11_quarrel_33 : decode cX11_quarrel 33 = .ok (.aload_n 0, 1) := by decide +kernel
theorem dX11_quarrel_34 : decode cX11_quarrel 34 = .ok (.getfield 24, 3) := by decide +kernel
theorem dX11_quarrel_37 : decode cX11_quarrel 37 = .ok (.getfield 169, 3) := by decide +kernel
theorem dX11_quarrel_40 : decode cX11_quarrel 40 = .ok (.iload_n 2, 1) := by decide +kernel
theorem dX11_quarrel_41 : decode cX11_quarrel 41 = .ok (.aaload, 1) := by decide +kernel
theorem dX11_quarrel_42 : decode cX11_quarrel 42 = .ok (.astore 4, 2) := by decide +kernel
theorem dX11_quarrel_44 : decode cX11_quarrel 44 = .ok (.aload_n 3, 1) := by decide +kernel
theorem dX11_quarrel_45 : decode cX11_quarrel 45 = .ok (.aload 4, 2) := by decide +kernel
theorem dX11_quarrel_47 : decode cX11_quarrel 47 = .ok (.invokevirtual 230, 3) := by decide +kernel
theorem dX11_quarrel_50 : decode cX11_quarrel 50 = .ok (.ifCond .eq 19, 3) := by decide +kernel
theorem dX11_quarrel_53 : decode cX11_quarrel 53 = .ok (.aload_n 3, 1) := by decide +kernel
theorem dX11_quarrel_54 : decode cX11_quarrel 54 = .ok (.aload 4, 2) := by decide +kernel
theorem dX11_quarrel_56 : decode cX11_quarrel 56 = .ok (.aload_n 0, 1) := by decide +kernel
theorem dX11_quarrel_57 : decode cX11_quarrel 57 = .ok (.getfield 24, 3) := by decide +kernel
theorem dX11_quarrel_60 : decode cX11_quarrel 60 = .ok (.getfield 234, 3) := by decide +kernel
theorem dX11_quarrel_63 : decode cX11_quarrel 63 = .ok (.invokevirtual 237, 3) := by decide +kernel
theorem dX11_quarrel_66 : decode cX11_quarrel 66 = .ok (.goto 4, 3) := by decide +kernel
theorem dX11_quarrel_69 : decode cX11_quarrel 69 = .ok (.iconst (-1), 1) := by decide +kernel
theorem dX11_quarrel_70 : decode cX11_quarrel 70 = .ok (.ireturn, 1) := by decide +kernel
theorem dX11_found_0 : decode cX11_found 0 = .ok (.iload_n 1, 1) := by decide +kernel
theorem dX11_found_1 : decode cX11_found 1 = .ok (.ifCond .lt 14, 3) := by decide +kernel
theorem dX11_found_4 : decode cX11_found 4 = .ok (.iload_n 1, 1) := by decide +kernel
theorem dX11_found_5 : decode cX11_found 5 = .ok (.aload_n 0, 1) := by decide +kernel
theorem dX11_found_6 : decode cX11_found 6 = .ok (.getfield 29, 3) := by decide +kernel
theorem dX11_found_9 : decode cX11_found 9 = .ok (.getfield 138, 3) := by decide +kernel
theorem dX11_found_12 : decode cX11_found 12 = .ok (.if_icmp .lt 5, 3) := by decide +kernel
theorem dX11_found_15 : decode cX11_found 15 = .ok (.iconst (-1), 1) := by decide +kernel
theorem dX11_found_16 : decode cX11_found 16 = .ok (.ireturn, 1) := by decide +kernel
theorem dX11_found_17 : decode cX11_found 17 = .ok (.iload_n 2, 1) := by decide +kernel
theorem dX11_found_18 : decode cX11_found 18 = .ok (.iconst (-1), 1) := by decide +kernel
theorem dX11_found_19 : decode cX11_found 19 = .ok (.if_icmp .ne 14, 3) := by decide +kernel
theorem dX11_found_22 : decode cX11_found 22 = .ok (.aload_n 0, 1) := by decide +kernel
theorem dX11_found_23 : decode cX11_found 23 = .ok (.getfield 29, 3) := by decide +kernel
theorem dX11_found_26 : decode cX11_found 26 = .ok (.iload_n 1, 1) := by decide +kernel
theorem dX11_found_27 : decode cX11_found 27 = .ok (.invokevirtual 141, 3) := by decide +kernel
theorem dX11_found_30 : decode cX11_found 30 = .ok (.goto 12, 3) := by decide +kernel
theorem dX11_found_33 : decode cX11_found 33 = .ok (.aload_n 0, 1) := by decide +kernel
theorem dX11_found_34 : decode cX11_found 34 = .ok (.getfield 29, 3) := by decide +kernel
theorem dX11_found_37 : decode cX11_found 37 = .ok (.iload_n 1, 1) := by decide +kernel
theorem dX11_found_38 : decode cX11_found 38 = .ok (.iload_n 2, 1) := by decide +kernel
theorem dX11_found_39 : decode cX11_found 39 = .ok (.invokevirtual 145, 3) := by decide +kernel
theorem dX11_found_42 : decode cX11_found 42 = .ok (.ireturn, 1) := by decide +kernel
theorem dX11_lookFurther_0 : decode cX11_lookFurther 0 = .ok (.iload_n 1, 1) := by decide +kernel
theorem dX11_lookFurther_1 : decode cX11_lookFurther 1 = .ok (.bipush 10, 2) := by decide +kernel
theorem dX11_lookFurther_3 : decode cX11_lookFurther 3 = .ok (.if_icmp .lt 25, 3) := by decide +kernel
theorem dX11_lookFurther_6 : decode cX11_lookFurther 6 = .ok (.iload_n 1, 1) := by decide +kernel
theorem dX11_lookFurther_7 : decode cX11_lookFurther 7 = .ok (.bipush 16, 2) := by decide +kernel
theorem dX11_lookFurther_9 : decode cX11_lookFurther 9 = .ok (.if_icmp .ge 19, 3) := by decide +kernel
theorem dX11_lookFurther_12 : decode cX11_lookFurther 12 = .ok (.aload_n 0, 1) := by decide +kernel
theorem dX11_lookFurther_13 : decode cX11_lookFurther 13 = .ok (.getfield 24, 3) := by decide +kernel
theorem dX11_lookFurther_16 : decode cX11_lookFurther 16 = .ok (.getfield 312, 3) := by decide +kernel
theorem dX11_lookFurther_19 : decode cX11_lookFurther 19 = .ok (.iload_n 1, 1) := by decide +kernel
theorem dX11_lookFurther_20 : decode cX11_lookFurther 20 = .ok (.bipush 10, 2) := by decide +kernel
theorem dX11_lookFurther_22 : decode cX11_lookFurther 22 = .ok (.isub, 1) := by decide +kernel
theorem dX11_lookFurther_23 : decode cX11_lookFurther 23 = .ok (.iaload, 1) := by decide +kernel
theorem dX11_lookFurther_24 : decode cX11_lookFurther 24 = .ok (.invokestatic 212, 3) := by decide +kernel
theorem dX11_lookFurther_27 : decode cX11_lookFurther 27 = .ok (.ireturn, 1) := by decide +kernel
theorem dX11_lookFurther_28 : decode cX11_lookFurther 28 = .ok (.iload_n 1, 1) := by decide +kernel
theorem dX11_lookFurther_29 : decode cX11_lookFurther 29 = .ok (.bipush 20, 2) := by decide +kernel
theorem dX11_lookFurther_31 : decode cX11_lookFurther 31 = .ok (.if_icmp .lt 24, 3) := by decide +kernel
theorem dX11_lookFurther_34 : decode cX11_lookFurther 34 = .ok (.iload_n 1, 1) := by decide +kernel
theorem dX11_lookFurther_35 : decode cX11_lookFurther 35 = .ok (.bipush 40, 2) := by decide +kernel
theorem dX11_lookFurther_37 : decode cX11_lookFurther 37 = .ok (.if_icmp .ge 18, 3) := by decide +kernel
theorem dX11_lookFurther_40 : decode cX11_lookFurther 40 = .ok (.aload_n 0, 1) := by decide +kernel
theorem dX11_lookFurther_41 : decode cX11_lookFurther 41 = .ok (.getfield 24, 3) := by decide +kernel
theorem dX11_lookFurther_44 : decode cX11_lookFurther 44 = .ok (.getfield 152, 3) := by decide +kernel
theorem dX11_lookFurther_47 : decode cX11_lookFurther 47 = .ok (.iload_n 1, 1) := by decide +kernel
theorem dX11_lookFurther_48 : decode cX11_lookFurther 48 = .ok (.bipush 20, 2) := by decide +kernel
theorem dX11_lookFurther_50 : decode cX11_lookFurther 50 = .ok (.isub, 1) := by decide +kernel
theorem dX11_lookFurther_51 : decode cX11_lookFurther 51 = .ok (.invokevirtual 315, 3) := by decide +kernel
theorem dX11_lookFurther_54 : decode cX11_lookFurther 54 = .ok (.ireturn, 1) := by decide +kernel
theorem dX11_lookFurther_55 : decode cX11_lookFurther 55 = .ok (.iload_n 1, 1) := by decide +kernel
theorem dX11_lookFurther_56 : decode cX11_lookFurther 56 = .ok (.bipush 40, 2) := by decide +kernel
theorem dX11_lookFurther_58 : decode cX11_lookFurther 58 = .ok (.if_icmp .lt 24, 3) := by decide +kernel
theorem dX11_lookFurther_61 : decode cX11_lookFurther 61 = .ok (.iload_n 1, 1) := by decide +kernel
theorem dX11_lookFurther_62 : decode cX11_lookFurther 62 = .ok (.bipush 50, 2) := by decide +kernel
theorem dX11_lookFurther_64 : decode cX11_lookFurther 64 = .ok (.if_icmp .ge 18, 3) := by decide +kernel
theorem dX11_lookFurther_67 : decode cX11_lookFurther 67 = .ok (.aload_n 0, 1) := by decide +kernel
theorem dX11_lookFurther_68 : decode cX11_lookFurther 68 = .ok (.getfield 24, 3) := by decide +kernel
theorem dX11_lookFurther_71 : decode cX11_lookFurther 71 = .ok (.getfield 159, 3) := by decide +kernel
theorem dX11_lookFurther_74 : decode cX11_lookFurther 74 = .ok (.iload_n 1, 1) := by decide +kernel
theorem dX11_lookFurther_75 : decode cX11_lookFurther 75 = .ok (.bipush 40, 2) := by decide +kernel
theorem dX11_lookFurther_77 : decode cX11_lookFurther 77 = .ok (.isub, 1) := by decide +kernel
theorem dX11_lookFurther_78 : decode cX11_lookFurther 78 = .ok (.invokevirtual 315, 3) := by decide +kernel
theorem dX11_lookFurther_81 : decode cX11_lookFurther 81 = .ok (.ireturn, 1) := by decide +kernel
theorem dX11_lookFurther_82 : decode cX11_lookFurther 82 = .ok (.iload_n 1, 1) := by decide +kernel
theorem dX11_lookFurther_83 : decode cX11_lookFurther 83 = .ok (.bipush 50, 2) := by decide +kernel
theorem dX11_lookFurther_85 : decode cX11_lookFurther 85 = .ok (.if_icmp .lt 30, 3) := by decide +kernel
theorem dX11_lookFurther_88 : decode cX11_lookFurther 88 = .ok (.iload_n 1, 1) := by decide +kernel
theorem dX11_lookFurther_89 : decode cX11_lookFurther 89 = .ok (.bipush 50, 2) := by decide +kernel
theorem dX11_lookFurther_91 : decode cX11_lookFurther 91 = .ok (.aload_n 0, 1) := by decide +kernel
theorem dX11_lookFurther_92 : decode cX11_lookFurther 92 = .ok (.getfield 24, 3) := by decide +kernel
theorem dX11_lookFurther_95 : decode cX11_lookFurther 95 = .ok (.getfield 98, 3) := by decide +kernel
theorem dX11_lookFurther_98 : decode cX11_lookFurther 98 = .ok (.iadd, 1) := by decide +kernel
theorem dX11_lookFurther_99 : decode cX11_lookFurther 99 = .ok (.if_icmp .ge 16, 3) := by decide +kernel
theorem dX11_lookFurther_102 : decode cX11_lookFurther 102 = .ok (.aload_n 0, 1) := by decide +kernel
theorem dX11_lookFurther_103 : decode cX11_lookFurther 103 = .ok (.getfield 33, 3) := by decide +kernel
theorem dX11_lookFurther_106 : decode cX11_lookFurther 106 = .ok (.getfield 185, 3) := by decide +kernel
theorem dX11_lookFurther_109 : decode cX11_lookFurther 109 = .ok (.iload_n 1, 1) := by decide +kernel
theorem dX11_lookFurther_110 : decode cX11_lookFurther 110 = .ok (.bipush 50, 2) := by decide +kernel
theorem dX11_lookFurther_112 : decode cX11_lookFurther 112 = .ok (.isub, 1) := by decide +kernel
theorem dX11_lookFurther_113 : decode cX11_lookFurther 113 = .ok (.iaload, 1) := by decide +kernel
theorem dX11_lookFurther_114 : decode cX11_lookFurther 114 = .ok (.ireturn, 1) := by decide +kernel
theorem dX11_lookFurther_115 : decode cX11_lookFurther 115 = .ok (.iconst (-1), 1) := by decide +kernel
theorem dX11_lookFurther_116 : decode cX11_lookFurther 116 = .ok (.ireturn, 1) := by decide +kernel
theorem dX11_look_0 : decode cX11_look 0 = .ok (.iload_n 1, 1) := by decide +kernel
theorem dX11_look_1 : decode cX11_look 1 = .ok (.tableswitch 120 0 7 #[47, 55, 63, 71, 82, 93, 101, 109], 47) := by decide +kernel
theorem dX11_look_48 : decode cX11_look 48 = .ok (.aload_n 0, 1) := by decide +kernel
theorem dX11_look_49 : decode cX11_look 49 = .ok (.getfield 24, 3) := by decide +kernel
theorem dX11_look_52 : decode cX11_look 52 = .ok (.getfield 201, 3) := by decide +kernel
theorem dX11_look_55 : decode cX11_look 55 = .ok (.ireturn, 1) := by decide +kernel
theorem dX11_look_56 : decode cX11_look 56 = .ok (.aload_n 0, 1) := by decide +kernel
theorem dX11_look_57 : decode cX11_look 57 = .ok (.getfield 24, 3) := by decide +kernel
theorem dX11_look_60 : decode cX11_look 60 = .ok (.getfield 234, 3) := by decide +kernel
theorem dX11_look_63 : decode cX11_look 63 = .ok (.ireturn, 1) := by decide +kernel
theorem dX11_look_64 : decode cX11_look 64 = .ok (.aload_n 0, 1) := by decide +kernel
theorem dX11_look_65 : decode cX11_look 65 = .ok (.getfield 24, 3) := by decide +kernel
theorem dX11_look_68 : decode cX11_look 68 = .ok (.getfield 98, 3) := by decide +kernel
theorem dX11_look_71 : decode cX11_look 71 = .ok (.ireturn, 1) := by decide +kernel
theorem dX11_look_72 : decode cX11_look 72 = .ok (.aload_n 0, 1) := by decide +kernel
theorem dX11_look_73 : decode cX11_look 73 = .ok (.getfield 24, 3) := by decide +kernel
theorem dX11_look_76 : decode cX11_look 76 = .ok (.getfield 152, 3) := by decide +kernel
theorem dX11_look_79 : decode cX11_look 79 = .ok (.getfield 156, 3) := by decide +kernel
theorem dX11_look_82 : decode cX11_look 82 = .ok (.ireturn, 1) := by decide +kernel
theorem dX11_look_83 : decode cX11_look 83 = .ok (.aload_n 0, 1) := by decide +kernel
theorem dX11_look_84 : decode cX11_look 84 = .ok (.getfield 24, 3) := by decide +kernel
theorem dX11_look_87 : decode cX11_look 87 = .ok (.getfield 159, 3) := by decide +kernel
theorem dX11_look_90 : decode cX11_look 90 = .ok (.getfield 156, 3) := by decide +kernel
theorem dX11_look_93 : decode cX11_look 93 = .ok (.ireturn, 1) := by decide +kernel
theorem dX11_look_94 : decode cX11_look 94 = .ok (.aload_n 0, 1) := by decide +kernel
theorem dX11_look_95 : decode cX11_look 95 = .ok (.getfield 33, 3) := by decide +kernel
theorem dX11_look_98 : decode cX11_look 98 = .ok (.getfield 128, 3) := by decide +kernel
theorem dX11_look_101 : decode cX11_look 101 = .ok (.ireturn, 1) := by decide +kernel
theorem dX11_look_102 : decode cX11_look 102 = .ok (.aload_n 0, 1) := by decide +kernel
theorem dX11_look_103 : decode cX11_look 103 = .ok (.getfield 33, 3) := by decide +kernel
theorem dX11_look_106 : decode cX11_look 106 = .ok (.getfield 131, 3) := by decide +kernel
theorem dX11_look_109 : decode cX11_look 109 = .ok (.ireturn, 1) := by decide +kernel
theorem dX11_look_110 : decode cX11_look 110 = .ok (.aload_n 0, 1) := by decide +kernel
theorem dX11_look_111 : decode cX11_look 111 = .ok (.getfield 33, 3) := by decide +kernel
theorem dX11_look_114 : decode cX11_look 114 = .ok (.getfield 254, 3) := by decide +kernel
theorem dX11_look_117 : decode cX11_look 117 = .ok (.getfield 156, 3) := by decide +kernel
theorem dX11_look_120 : decode cX11_look 120 = .ok (.ireturn, 1) := by decide +kernel
theorem dX11_look_121 : decode cX11_look 121 = .ok (.aload_n 0, 1) := by decide +kernel
theorem dX11_look_122 : decode cX11_look 122 = .ok (.iload_n 1, 1) := by decide +kernel
theorem dX11_look_123 : decode cX11_look 123 = .ok (.invokevirtual 309, 3) := by decide +kernel
theorem dX11_look_126 : decode cX11_look 126 = .ok (.ireturn, 1) := by decide +kernel
theorem dX11_walk_0 : decode cX11_walk 0 = .ok (.aload_n 0, 1) := by decide +kernel
theorem dX11_walk_1 : decode cX11_walk 1 = .ok (.iconst (-1), 1) := by decide +kernel
theorem dX11_walk_2 : decode cX11_walk 2 = .ok (.putfield 63, 3) := by decide +kernel
theorem dX11_walk_5 : decode cX11_walk 5 = .ok (.aload_n 0, 1) := by decide +kernel
theorem dX11_walk_6 : decode cX11_walk 6 = .ok (.invokevirtual 166, 3) := by decide +kernel
theorem dX11_walk_9 : decode cX11_walk 9 = .ok (.istore_n 1, 1) := by decide +kernel
theorem dX11_walk_10 : decode cX11_walk 10 = .ok (.iload_n 1, 1) := by decide +kernel
theorem dX11_walk_11 : decode cX11_walk 11 = .ok (.iconst (-1), 1) := by decide +kernel
theorem dX11_walk_12 : decode cX11_walk 12 = .ok (.if_icmp .ne 6, 3) := by decide +kernel
theorem dX11_walk_15 : decode cX11_walk 15 = .ok (.bipush (-2), 2) := by decide +kernel
theorem dX11_walk_17 : decode cX11_walk 17 = .ok (.ireturn, 1) := by decide +kernel
theorem dX11_walk_18 : decode cX11_walk 18 = .ok (.iconst 0, 1) := by decide +kernel
theorem dX11_walk_19 : decode cX11_walk 19 = .ok (.istore_n 2, 1) := by decide +kernel
theorem dX11_walk_20 : decode cX11_walk 20 = .ok (.iload_n 2, 1) := by decide +kernel
theorem dX11_walk_21 : decode cX11_walk 21 = .ok (.aload_n 0, 1) := by decide +kernel
theorem dX11_walk_22 : decode cX11_walk 22 = .ok (.getfield 24, 3) := by decide +kernel
theorem dX11_walk_25 : decode cX11_walk 25 = .ok (.getfield 98, 3) := by decide +kernel
theorem dX11_walk_28 : decode cX11_walk 28 = .ok (.if_icmp .ge 55, 3) := by decide +kernel
theorem dX11_walk_31 : decode cX11_walk 31 = .ok (.aload_n 0, 1) := by decide +kernel
theorem dX11_walk_32 : decode cX11_walk 32 = .ok (.getfield 33, 3) := by decide +kernel
theorem dX11_walk_35 : decode cX11_walk 35 = .ok (.getfield 128, 3) := by decide +kernel
theorem dX11_walk_38 : decode cX11_walk 38 = .ok (.iload_n 2, 1) := by decide +kernel
theorem dX11_walk_39 : decode cX11_walk 39 = .ok (.ishr, 1) := by decide +kernel
theorem dX11_walk_40 : decode cX11_walk 40 = .ok (.iconst 1, 1) := by decide +kernel
theorem dX11_walk_41 : decode cX11_walk 41 = .ok (.iand, 1) := by decide +kernel
theorem dX11_walk_42 : decode cX11_walk 42 = .ok (.iconst 1, 1) := by decide +kernel
theorem dX11_walk_43 : decode cX11_walk 43 = .ok (.if_icmp .ne 24, 3) := by decide +kernel
theorem dX11_walk_46 : decode cX11_walk 46 = .ok (.aload_n 0, 1) := by decide +kernel
theorem dX11_walk_47 : decode cX11_walk 47 = .ok (.aload_n 0, 1) := by decide +kernel
theorem dX11_walk_48 : decode cX11_walk 48 = .ok (.getfield 24, 3) := by decide +kernel
theorem dX11_walk_51 : decode cX11_walk 51 = .ok (.getfield 169, 3) := by decide +kernel
theorem dX11_walk_54 : decode cX11_walk 54 = .ok (.iload_n 2, 1) := by decide +kernel
theorem dX11_walk_55 : decode cX11_walk 55 = .ok (.aaload, 1) := by decide +kernel
theorem dX11_walk_56 : decode cX11_walk 56 = .ok (.aload_n 0, 1) := by decide +kernel
theorem dX11_walk_57 : decode cX11_walk 57 = .ok (.getfield 70, 3) := by decide +kernel
theorem dX11_walk_60 : decode cX11_walk 60 = .ok (.iload_n 1, 1) := by decide +kernel
theorem dX11_walk_61 : decode cX11_walk 61 = .ok (.invokevirtual 173, 3) := by decide +kernel
theorem dX11_walk_64 : decode cX11_walk 64 = .ok (.putfield 63, 3) := by decide +kernel
theorem dX11_walk_67 : decode cX11_walk 67 = .ok (.aload_n 0, 1) := by decide +kernel
theorem dX11_walk_68 : decode cX11_walk 68 = .ok (.getfield 63, 3) := by decide +kernel
theorem dX11_walk_71 : decode cX11_walk 71 = .ok (.iconst (-1), 1) := by decide +kernel
theorem dX11_walk_72 : decode cX11_walk 72 = .ok (.if_icmp .eq 5, 3) := by decide +kernel
theorem dX11_walk_75 : decode cX11_walk 75 = .ok (.iload_n 2, 1) := by decide +kernel
theorem dX11_walk_76 : decode cX11_walk 76 = .ok (.ireturn, 1) := by decide +kernel
theorem dX11_walk_77 : decode cX11_walk 77 = .ok (.iinc 2 1, 3) := by decide +kernel
theorem dX11_walk_80 : decode cX11_walk 80 = .ok (.goto (-60), 3) := by decide +kernel
theorem dX11_walk_83 : decode cX11_walk 83 = .ok (.iconst (-1), 1) := by decide +kernel
theorem dX11_walk_84 : decode cX11_walk 84 = .ok (.ireturn, 1) := by decide +kernel
