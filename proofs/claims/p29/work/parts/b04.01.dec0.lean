theorem dX8_writeTo_0 : decode cX8_writeTo 0 = .ok (.iload_n 2, 1) := by decide +kernel
theorem dX8_writeTo_1 : decode cX8_writeTo 1 = .ok (.istore 5, 2) := by decide +kernel
theorem dX8_writeTo_3 : decode cX8_writeTo 3 = .ok (.iconst 0, 1) := by decide +kernel
theorem dX8_writeTo_4 : decode cX8_writeTo 4 = .ok (.istore 6, 2) := by decide +kernel
theorem dX8_writeTo_6 : decode cX8_writeTo 6 = .ok (.iload 6, 2) := by decide +kernel
theorem dX8_writeTo_8 : decode cX8_writeTo 8 = .ok (.bipush 8, 2) := by decide +kernel
theorem dX8_writeTo_10 : decode cX8_writeTo 10 = .ok (.if_icmp .ge 114, 3) := by decide +kernel
theorem dX8_writeTo_13 : decode cX8_writeTo 13 = .ok (.iload_n 3, 1) := by decide +kernel
theorem dX8_writeTo_14 : decode cX8_writeTo 14 = .ok (.iload 6, 2) := by decide +kernel
theorem dX8_writeTo_16 : decode cX8_writeTo 16 = .ok (.ishr, 1) := by decide +kernel
theorem dX8_writeTo_17 : decode cX8_writeTo 17 = .ok (.iconst 1, 1) := by decide +kernel
theorem dX8_writeTo_18 : decode cX8_writeTo 18 = .ok (.iand, 1) := by decide +kernel
theorem dX8_writeTo_19 : decode cX8_writeTo 19 = .ok (.iconst 1, 1) := by decide +kernel
theorem dX8_writeTo_20 : decode cX8_writeTo 20 = .ok (.if_icmp .ne 98, 3) := by decide +kernel
theorem dX8_writeTo_23 : decode cX8_writeTo 23 = .ok (.iload 4, 2) := by decide +kernel
theorem dX8_writeTo_25 : decode cX8_writeTo 25 = .ok (.bipush 8, 2) := by decide +kernel
theorem dX8_writeTo_27 : decode cX8_writeTo 27 = .ok (.imul, 1) := by decide +kernel
theorem dX8_writeTo_28 : decode cX8_writeTo 28 = .ok (.iload 6, 2) := by decide +kernel
theorem dX8_writeTo_30 : decode cX8_writeTo 30 = .ok (.iadd, 1) := by decide +kernel
theorem dX8_writeTo_31 : decode cX8_writeTo 31 = .ok (.istore 7, 2) := by decide +kernel
theorem dX8_writeTo_33 : decode cX8_writeTo 33 = .ok (.aload_n 0, 1) := by decide +kernel
theorem dX8_writeTo_34 : decode cX8_writeTo 34 = .ok (.getfield 17, 3) := by decide +kernel
theorem dX8_writeTo_37 : decode cX8_writeTo 37 = .ok (.iload 7, 2) := by decide +kernel
theorem dX8_writeTo_39 : decode cX8_writeTo 39 = .ok (.iaload, 1) := by decide +kernel
theorem dX8_writeTo_40 : decode cX8_writeTo 40 = .ok (.i2l, 1) := by decide +kernel
theorem dX8_writeTo_41 : decode cX8_writeTo 41 = .ok (.bipush 18, 2) := by decide +kernel
theorem dX8_writeTo_43 : decode cX8_writeTo 43 = .ok (.lshl, 1) := by decide +kernel
theorem dX8_writeTo_44 : decode cX8_writeTo 44 = .ok (.aload_n 0, 1) := by decide +kernel
theorem dX8_writeTo_45 : decode cX8_writeTo 45 = .ok (.getfield 13, 3) := by decide +kernel
theorem dX8_writeTo_48 : decode cX8_writeTo 48 = .ok (.iload 7, 2) := by decide +kernel
theorem dX8_writeTo_50 : decode cX8_writeTo 50 = .ok (.iaload, 1) := by decide +kernel
theorem dX8_writeTo_51 : decode cX8_writeTo 51 = .ok (.i2l, 1) := by decide +kernel
theorem dX8_writeTo_52 : decode cX8_writeTo 52 = .ok (.lor, 1) := by decide +kernel
theorem dX8_writeTo_53 : decode cX8_writeTo 53 = .ok (.lstore 8, 2) := by decide +kernel
theorem dX8_writeTo_55 : decode cX8_writeTo 55 = .ok (.aload_n 1, 1) := by decide +kernel
theorem dX8_writeTo_56 : decode cX8_writeTo 56 = .ok (.iload 5, 2) := by decide +kernel
theorem dX8_writeTo_58 : decode cX8_writeTo 58 = .ok (.aload_n 0, 1) := by decide +kernel
theorem dX8_writeTo_59 : decode cX8_writeTo 59 = .ok (.getfield 20, 3) := by decide +kernel
theorem dX8_writeTo_62 : decode cX8_writeTo 62 = .ok (.iload 7, 2) := by decide +kernel
theorem dX8_writeTo_64 : decode cX8_writeTo 64 = .ok (.iaload, 1) := by decide +kernel
theorem dX8_writeTo_65 : decode cX8_writeTo 65 = .ok (.i2l, 1) := by decide +kernel
theorem dX8_writeTo_66 : decode cX8_writeTo 66 = .ok (.bipush 36, 2) := by decide +kernel
theorem dX8_writeTo_68 : decode cX8_writeTo 68 = .ok (.lshl, 1) := by decide +kernel
theorem dX8_writeTo_69 : decode cX8_writeTo 69 = .ok (.lload 8, 2) := by decide +kernel
theorem dX8_writeTo_71 : decode cX8_writeTo 71 = .ok (.lor, 1) := by decide +kernel
theorem dX8_writeTo_72 : decode cX8_writeTo 72 = .ok (.lastore, 1) := by decide +kernel
theorem dX8_writeTo_73 : decode cX8_writeTo 73 = .ok (.iinc 5 1, 3) := by decide +kernel
theorem dX8_writeTo_76 : decode cX8_writeTo 76 = .ok (.iconst 0, 1) := by decide +kernel
theorem dX8_writeTo_77 : decode cX8_writeTo 77 = .ok (.istore 10, 2) := by decide +kernel
theorem dX8_writeTo_79 : decode cX8_writeTo 79 = .ok (.iload 10, 2) := by decide +kernel
theorem dX8_writeTo_81 : decode cX8_writeTo 81 = .ok (.aload_n 0, 1) := by decide +kernel
theorem dX8_writeTo_82 : decode cX8_writeTo 82 = .ok (.getfield 20, 3) := by decide +kernel
theorem dX8_writeTo_85 : decode cX8_writeTo 85 = .ok (.iload 7, 2) := by decide +kernel
theorem dX8_writeTo_87 : decode cX8_writeTo 87 = .ok (.iaload, 1) := by decide +kernel
theorem dX8_writeTo_88 : decode cX8_writeTo 88 = .ok (.if_icmp .ge 30, 3) := by decide +kernel
theorem dX8_writeTo_91 : decode cX8_writeTo 91 = .ok (.aload_n 1, 1) := by decide +kernel
theorem dX8_writeTo_92 : decode cX8_writeTo 92 = .ok (.iload 5, 2) := by decide +kernel
theorem dX8_writeTo_94 : decode cX8_writeTo 94 = .ok (.aload_n 0, 1) := by decide +kernel
theorem dX8_writeTo_95 : decode cX8_writeTo 95 = .ok (.getfield 23, 3) := by decide +kernel
theorem dX8_writeTo_98 : decode cX8_writeTo 98 = .ok (.iload 7, 2) := by decide +kernel
theorem dX8_writeTo_100 : decode cX8_writeTo 100 = .ok (.bipush 10, 2) := by decide +kernel
theorem dX8_writeTo_102 : decode cX8_writeTo 102 = .ok (.imul, 1) := by decide +kernel
theorem dX8_writeTo_103 : decode cX8_writeTo 103 = .ok (.iload 10, 2) := by decide +kernel
theorem dX8_writeTo_105 : decode cX8_writeTo 105 = .ok (.iadd, 1) := by decide +kernel
theorem dX8_writeTo_106 : decode cX8_writeTo 106 = .ok (.iaload, 1) := by decide +kernel
theorem dX8_writeTo_107 : decode cX8_writeTo 107 = .ok (.i2l, 1) := by decide +kernel
theorem dX8_writeTo_108 : decode cX8_writeTo 108 = .ok (.lastore, 1) := by decide +kernel
theorem dX8_writeTo_109 : decode cX8_writeTo 109 = .ok (.iinc 5 1, 3) := by decide +kernel
theorem dX8_writeTo_112 : decode cX8_writeTo 112 = .ok (.iinc 10 1, 3) := by decide +kernel
theorem dX8_writeTo_115 : decode cX8_writeTo 115 = .ok (.goto (-36), 3) := by decide +kernel
theorem dX8_writeTo_118 : decode cX8_writeTo 118 = .ok (.iinc 6 1, 3) := by decide +kernel
theorem dX8_writeTo_121 : decode cX8_writeTo 121 = .ok (.goto (-115), 3) := by decide +kernel
theorem dX8_writeTo_124 : decode cX8_writeTo 124 = .ok (.iload 5, 2) := by decide +kernel
theorem dX8_writeTo_126 : decode cX8_writeTo 126 = .ok (.ireturn, 1) := by decide +kernel
theorem dX1_makeKey_0 : decode cX1_makeKey 0 = .ok (.aload_n 0, 1) := by decide +kernel
theorem dX1_makeKey_1 : decode cX1_makeKey 1 = .ok (.getfield 22, 3) := by decide +kernel
theorem dX1_makeKey_4 : decode cX1_makeKey 4 = .ok (.iconst 0, 1) := by decide +kernel
theorem dX1_makeKey_5 : decode cX1_makeKey 5 = .ok (.iload 4, 2) := by decide +kernel
theorem dX1_makeKey_7 : decode cX1_makeKey 7 = .ok (.i2l, 1) := by decide +kernel
theorem dX1_makeKey_8 : decode cX1_makeKey 8 = .ok (.lastore, 1) := by decide +kernel
theorem dX1_makeKey_9 : decode cX1_makeKey 9 = .ok (.aload_n 0, 1) := by decide +kernel
theorem dX1_makeKey_10 : decode cX1_makeKey 10 = .ok (.aload_n 1, 1) := by decide +kernel
theorem dX1_makeKey_11 : decode cX1_makeKey 11 = .ok (.aload_n 0, 1) := by decide +kernel
theorem dX1_makeKey_12 : decode cX1_makeKey 12 = .ok (.getfield 22, 3) := by decide +kernel
theorem dX1_makeKey_15 : decode cX1_makeKey 15 = .ok (.iconst 1, 1) := by decide +kernel
theorem dX1_makeKey_16 : decode cX1_makeKey 16 = .ok (.iload_n 2, 1) := by decide +kernel
theorem dX1_makeKey_17 : decode cX1_makeKey 17 = .ok (.iload_n 3, 1) := by decide +kernel
theorem dX1_makeKey_18 : decode cX1_makeKey 18 = .ok (.invokevirtual 38, 3) := by decide +kernel
theorem dX1_makeKey_21 : decode cX1_makeKey 21 = .ok (.putfield 42, 3) := by decide +kernel
theorem dX1_makeKey_24 : decode cX1_makeKey 24 = .ok (.return_, 1) := by decide +kernel
theorem dX1_isKeyAt_0 : decode cX1_isKeyAt 0 = .ok (.aload_n 0, 1) := by decide +kernel
theorem dX1_isKeyAt_1 : decode cX1_isKeyAt 1 = .ok (.getfield 16, 3) := by decide +kernel
theorem dX1_isKeyAt_4 : decode cX1_isKeyAt 4 = .ok (.iload_n 1, 1) := by decide +kernel
theorem dX1_isKeyAt_5 : decode cX1_isKeyAt 5 = .ok (.laload, 1) := by decide +kernel
theorem dX1_isKeyAt_6 : decode cX1_isKeyAt 6 = .ok (.aload_n 0, 1) := by decide +kernel
theorem dX1_isKeyAt_7 : decode cX1_isKeyAt 7 = .ok (.getfield 42, 3) := by decide +kernel
theorem dX1_isKeyAt_10 : decode cX1_isKeyAt 10 = .ok (.i2l, 1) := by decide +kernel
theorem dX1_isKeyAt_11 : decode cX1_isKeyAt 11 = .ok (.lcmp, 1) := by decide +kernel
theorem dX1_isKeyAt_12 : decode cX1_isKeyAt 12 = .ok (.ifCond .eq 5, 3) := by decide +kernel
theorem dX1_isKeyAt_15 : decode cX1_isKeyAt 15 = .ok (.iconst 0, 1) := by decide +kernel
theorem dX1_isKeyAt_16 : decode cX1_isKeyAt 16 = .ok (.ireturn, 1) := by decide +kernel
theorem dX1_isKeyAt_17 : decode cX1_isKeyAt 17 = .ok (.iconst 0, 1) := by decide +kernel
theorem dX1_isKeyAt_18 : decode cX1_isKeyAt 18 = .ok (.istore_n 2, 1) := by decide +kernel
theorem dX1_isKeyAt_19 : decode cX1_isKeyAt 19 = .ok (.iload_n 2, 1) := by decide +kernel
theorem dX1_isKeyAt_20 : decode cX1_isKeyAt 20 = .ok (.aload_n 0, 1) := by decide +kernel
theorem dX1_isKeyAt_21 : decode cX1_isKeyAt 21 = .ok (.getfield 42, 3) := by decide +kernel
theorem dX1_isKeyAt_24 : decode cX1_isKeyAt 24 = .ok (.if_icmp .ge 31, 3) := by decide +kernel
theorem dX1_isKeyAt_27 : decode cX1_isKeyAt 27 = .ok (.aload_n 0, 1) := by decide +kernel
theorem dX1_isKeyAt_28 : decode cX1_isKeyAt 28 = .ok (.getfield 16, 3) := by decide +kernel
theorem dX1_isKeyAt_31 : decode cX1_isKeyAt 31 = .ok (.iload_n 1, 1) := by decide +kernel
theorem dX1_isKeyAt_32 : decode cX1_isKeyAt 32 = .ok (.iconst 1, 1) := by decide +kernel
theorem dX1_isKeyAt_33 : decode cX1_isKeyAt 33 = .ok (.iadd, 1) := by decide +kernel
theorem dX1_isKeyAt_34 : decode cX1_isKeyAt 34 = .ok (.iload_n 2, 1) := by decide +kernel
theorem dX1_isKeyAt_35 : decode cX1_isKeyAt 35 = .ok (.iadd, 1) := by decide +kernel
theorem dX1_isKeyAt_36 : decode cX1_isKeyAt 36 = .ok (.laload, 1) := by decide +kernel
theorem dX1_isKeyAt_37 : decode cX1_isKeyAt 37 = .ok (.aload_n 0, 1) := by decide +kernel
theorem dX1_isKeyAt_38 : decode cX1_isKeyAt 38 = .ok (.getfield 22, 3) := by decide +kernel
theorem dX1_isKeyAt_41 : decode cX1_isKeyAt 41 = .ok (.iload_n 2, 1) := by decide +kernel
theorem dX1_isKeyAt_42 : decode cX1_isKeyAt 42 = .ok (.laload, 1) := by decide +kernel
theorem dX1_isKeyAt_43 : decode cX1_isKeyAt 43 = .ok (.lcmp, 1) := by decide +kernel
theorem dX1_isKeyAt_44 : decode cX1_isKeyAt 44 = .ok (.ifCond .eq 5, 3) := by decide +kernel
theorem dX1_isKeyAt_47 : decode cX1_isKeyAt 47 = .ok (.iconst 0, 1) := by decide +kernel
theorem dX1_isKeyAt_48 : decode cX1_isKeyAt 48 = .ok (.ireturn, 1) := by decide +kernel
theorem dX1_isKeyAt_49 : decode cX1_isKeyAt 49 = .ok (.iinc 2 1, 3) := by decide +kernel
theorem dX1_isKeyAt_52 : decode cX1_isKeyAt 52 = .ok (.goto (-33), 3) := by decide +kernel
theorem dX1_isKeyAt_55 : decode cX1_isKeyAt 55 = .ok (.iconst 1, 1) := by decide +kernel
theorem dX1_isKeyAt_56 : decode cX1_isKeyAt 56 = .ok (.ireturn, 1) := by decide +kernel
theorem dX1_slotOfKey_0 : decode cX1_slotOfKey 0 = .ok (.aload_n 0, 1) := by decide +kernel
theorem dX1_slotOfKey_1 : decode cX1_slotOfKey 1 = .ok (.getfield 42, 3) := by decide +kernel
theorem dX1_slotOfKey_4 : decode cX1_slotOfKey 4 = .ok (.i2l, 1) := by decide +kernel
theorem dX1_slotOfKey_5 : decode cX1_slotOfKey 5 = .ok (.lstore_n 1, 1) := by decide +kernel
theorem dX1_slotOfKey_6 : decode cX1_slotOfKey 6 = .ok (.iconst 0, 1) := by decide +kernel
theorem dX1_slotOfKey_7 : decode cX1_slotOfKey 7 = .ok (.istore_n 3, 1) := by decide +kernel
theorem dX1_slotOfKey_8 : decode cX1_slotOfKey 8 = .ok (.iload_n 3, 1) := by decide +kernel
theorem dX1_slotOfKey_9 : decode cX1_slotOfKey 9 = .ok (.aload_n 0, 1) := by decide +kernel
theorem dX1_slotOfKey_10 : decode cX1_slotOfKey 10 = .ok (.getfield 42, 3) := by decide +kernel
theorem dX1_slotOfKey_13 : decode cX1_slotOfKey 13 = .ok (.if_icmp .ge 29, 3) := by decide +kernel
theorem dX1_slotOfKey_16 : decode cX1_slotOfKey 16 = .ok (.lload_n 1, 1) := by decide +kernel
theorem dX1_slotOfKey_17 : decode cX1_slotOfKey 17 = .ok (.aload_n 0, 1) := by decide +kernel
theorem dX1_slotOfKey_18 : decode cX1_slotOfKey 18 = .ok (.getfield 22, 3) := by decide +kernel
theorem dX1_slotOfKey_21 : decode cX1_slotOfKey 21 = .ok (.iload_n 3, 1) := by decide +kernel
theorem dX1_slotOfKey_22 : decode cX1_slotOfKey 22 = .ok (.laload, 1) := by decide +kernel
theorem dX1_slotOfKey_23 : decode cX1_slotOfKey 23 = .ok (.lxor, 1) := by decide +kernel
theorem dX1_slotOfKey_24 : decode cX1_slotOfKey 24 = .ok (.ldc2_w 55, 3) := by decide +kernel
theorem dX1_slotOfKey_27 : decode cX1_slotOfKey 27 = .ok (.lmul, 1) := by decide +kernel
theorem dX1_slotOfKey_28 : decode cX1_slotOfKey 28 = .ok (.lstore_n 1, 1) := by decide +kernel
theorem dX1_slotOfKey_29 : decode cX1_slotOfKey 29 = .ok (.lload_n 1, 1) := by decide +kernel
theorem dX1_slotOfKey_30 : decode cX1_slotOfKey 30 = .ok (.lload_n 1, 1) := by decide +kernel
theorem dX1_slotOfKey_31 : decode cX1_slotOfKey 31 = .ok (.bipush 32, 2) := by decide +kernel
theorem dX1_slotOfKey_33 : decode cX1_slotOfKey 33 = .ok (.lushr, 1) := by decide +kernel
theorem dX1_slotOfKey_34 : decode cX1_slotOfKey 34 = .ok (.lxor, 1) := by decide +kernel
theorem dX1_slotOfKey_35 : decode cX1_slotOfKey 35 = .ok (.lstore_n 1, 1) := by decide +kernel
theorem dX1_slotOfKey_36 : decode cX1_slotOfKey 36 = .ok (.iinc 3 1, 3) := by decide +kernel
theorem dX1_slotOfKey_39 : decode cX1_slotOfKey 39 = .ok (.goto (-31), 3) := by decide +kernel
theorem dX1_slotOfKey_42 : decode cX1_slotOfKey 42 = .ok (.iconst 0, 1) := by decide +kernel
theorem dX1_slotOfKey_43 : decode cX1_slotOfKey 43 = .ok (.istore_n 3, 1) := by decide +kernel
theorem dX1_slotOfKey_44 : decode cX1_slotOfKey 44 = .ok (.iload_n 3, 1) := by decide +kernel
theorem dX1_slotOfKey_45 : decode cX1_slotOfKey 45 = .ok (.sipush 4096, 3) := by decide +kernel
theorem dX1_slotOfKey_48 : decode cX1_slotOfKey 48 = .ok (.if_icmp .ge 49, 3) := by decide +kernel
theorem dX1_slotOfKey_51 : decode cX1_slotOfKey 51 = .ok (.lload_n 1, 1) := by decide +kernel
theorem dX1_slotOfKey_52 : decode cX1_slotOfKey 52 = .ok (.iload_n 3, 1) := by decide +kernel
theorem dX1_slotOfKey_53 : decode cX1_slotOfKey 53 = .ok (.i2l, 1) := by decide +kernel
theorem dX1_slotOfKey_54 : decode cX1_slotOfKey 54 = .ok (.ladd, 1) := by decide +kernel
theorem dX1_slotOfKey_55 : decode cX1_slotOfKey 55 = .ok (.l2i, 1) := by decide +kernel
theorem dX1_slotOfKey_56 : decode cX1_slotOfKey 56 = .ok (.sipush 4095, 3) := by decide +kernel
theorem dX1_slotOfKey_59 : decode cX1_slotOfKey 59 = .ok (.iand, 1) := by decide +kernel
theorem dX1_slotOfKey_60 : decode cX1_slotOfKey 60 = .ok (.istore 4, 2) := by decide +kernel
theorem dX1_slotOfKey_62 : decode cX1_slotOfKey 62 = .ok (.aload_n 0, 1) := by decide +kernel
theorem dX1_slotOfKey_63 : decode cX1_slotOfKey 63 = .ok (.getfield 11, 3) := by decide +kernel
theorem dX1_slotOfKey_66 : decode cX1_slotOfKey 66 = .ok (.iload 4, 2) := by decide +kernel
theorem dX1_slotOfKey_68 : decode cX1_slotOfKey 68 = .ok (.iaload, 1) := by decide +kernel
theorem dX1_slotOfKey_69 : decode cX1_slotOfKey 69 = .ok (.ifCond .eq 19, 3) := by decide +kernel
theorem dX1_slotOfKey_72 : decode cX1_slotOfKey 72 = .ok (.aload_n 0, 1) := by decide +kernel
theorem dX1_slotOfKey_73 : decode cX1_slotOfKey 73 = .ok (.aload_n 0, 1) := by decide +kernel
theorem dX1_slotOfKey_74 : decode cX1_slotOfKey 74 = .ok (.getfield 11, 3) := by decide +kernel
theorem dX1_slotOfKey_77 : decode cX1_slotOfKey 77 = .ok (.iload 4, 2) := by decide +kernel
theorem dX1_slotOfKey_79 : decode cX1_slotOfKey 79 = .ok (.iaload, 1) := by decide +kernel
theorem dX1_slotOfKey_80 : decode cX1_slotOfKey 80 = .ok (.iconst 1, 1) := by decide +kernel
theorem dX1_slotOfKey_81 : decode cX1_slotOfKey 81 = .ok (.isub, 1) := by decide +kernel
theorem dX1_slotOfKey_82 : decode cX1_slotOfKey 82 = .ok (.invokevirtual 57, 3) := by decide +kernel
theorem dX1_slotOfKey_85 : decode cX1_slotOfKey 85 = .ok (.ifCond .eq 6, 3) := by decide +kernel
theorem dX1_slotOfKey_88 : decode cX1_slotOfKey 88 = .ok (.iload 4, 2) := by decide +kernel
theorem dX1_slotOfKey_90 : decode cX1_slotOfKey 90 = .ok (.ireturn, 1) := by decide +kernel
theorem dX1_slotOfKey_91 : decode cX1_slotOfKey 91 = .ok (.iinc 3 1, 3) := by decide +kernel
theorem dX1_slotOfKey_94 : decode cX1_slotOfKey 94 = .ok (.goto (-50), 3) := by decide +kernel
theorem dX1_slotOfKey_97 : decode cX1_slotOfKey 97 = .ok (.iconst (-1), 1) := by decide +kernel
theorem dX1_slotOfKey_98 : decode cX1_slotOfKey 98 = .ok (.ireturn, 1) := by decide +kernel
theorem dX1_hasKey_0 : decode cX1_hasKey 0 = .ok (.aload_n 0, 1) := by decide +kernel
theorem dX1_hasKey_1 : decode cX1_hasKey 1 = .ok (.invokevirtual 45, 3) := by decide +kernel
theorem dX1_hasKey_4 : decode cX1_hasKey 4 = .ok (.istore_n 1, 1) := by decide +kernel
theorem dX1_hasKey_5 : decode cX1_hasKey 5 = .ok (.iload_n 1, 1) := by decide +kernel
theorem dX1_hasKey_6 : decode cX1_hasKey 6 = .ok (.iconst (-1), 1) := by decide +kernel
theorem dX1_hasKey_7 : decode cX1_hasKey 7 = .ok (.if_icmp .eq 16, 3) := by decide +kernel
theorem dX1_hasKey_10 : decode cX1_hasKey 10 = .ok (.aload_n 0, 1) := by decide +kernel
theorem dX1_hasKey_11 : decode cX1_hasKey 11 = .ok (.getfield 11, 3) := by decide +kernel
theorem dX1_hasKey_14 : decode cX1_hasKey 14 = .ok (.iload_n 1, 1) := by decide +kernel
theorem dX1_hasKey_15 : decode cX1_hasKey 15 = .ok (.iaload, 1) := by decide +kernel
theorem dX1_hasKey_16 : decode cX1_hasKey 16 = .ok (.ifCond .eq 7, 3) := by decide +kernel
theorem dX1_hasKey_19 : decode cX1_hasKey 19 = .ok (.iconst 1, 1) := by decide +kernel
theorem dX1_hasKey_20 : decode cX1_hasKey 20 = .ok (.goto 4, 3) := by decide +kernel
theorem dX1_hasKey_23 : decode cX1_hasKey 23 = .ok (.iconst 0, 1) := by decide +kernel
theorem dX1_hasKey_24 : decode cX1_hasKey 24 = .ok (.ireturn, 1) := by decide +kernel
theorem dX1_clear_0 : decode cX1_clear 0 = .ok (.aload_n 0, 1) := by decide +kernel
theorem dX1_clear_1 : decode cX1_clear 1 = .ok (.getfield 11, 3) := by decide +kernel
theorem dX1_clear_4 : decode cX1_clear 4 = .ok (.iconst 0, 1) := by decide +kernel
theorem dX1_clear_5 : decode cX1_clear 5 = .ok (.invokestatic 25, 3) := by decide +kernel
theorem dX1_clear_8 : decode cX1_clear 8 = .ok (.aload_n 0, 1) := by decide +kernel
theorem dX1_clear_9 : decode cX1_clear 9 = .ok (.iconst 0, 1) := by decide +kernel
theorem dX1_clear_10 : decode cX1_clear 10 = .ok (.putfield 31, 3) := by decide +kernel
theorem dX1_clear_13 : decode cX1_clear 13 = .ok (.aload_n 0, 1) := by decide +kernel
theorem dX1_clear_14 : decode cX1_clear 14 = .ok (.iconst 0, 1) := by decide +kernel
theorem dX1_clear_15 : decode cX1_clear 15 = .ok (.putfield 35, 3) := by decide +kernel
theorem dX1_clear_18 : decode cX1_clear 18 = .ok (.return_, 1) := by decide +kernel
theorem dX1_addKey_0 : decode cX1_addKey 0 = .ok (.aload_n 0, 1) := by decide +kernel
theorem dX1_addKey_1 : decode cX1_addKey 1 = .ok (.invokevirtual 45, 3) := by decide +kernel
theorem dX1_addKey_4 : decode cX1_addKey 4 = .ok (.istore_n 1, 1) := by decide +kernel
theorem dX1_addKey_5 : decode cX1_addKey 5 = .ok (.aload_n 0, 1) := by decide +kernel
theorem dX1_addKey_6 : decode cX1_addKey 6 = .ok (.getfield 31, 3) := by decide +kernel
theorem dX1_addKey_9 : decode cX1_addKey 9 = .ok (.sipush 3072, 3) := by decide +kernel
theorem dX1_addKey_12 : decode cX1_addKey 12 = .ok (.if_icmp .ge 19, 3) := by decide +kernel
theorem dX1_addKey_15 : decode cX1_addKey 15 = .ok (.aload_n 0, 1) := by decide +kernel
theorem dX1_addKey_16 : decode cX1_addKey 16 = .ok (.getfield 35, 3) := by decide +kernel
theorem dX1_addKey_19 : decode cX1_addKey 19 = .ok (.aload_n 0, 1) := by decide +kernel
theorem dX1_addKey_20 : decode cX1_addKey 20 = .ok (.getfield 42, 3) := by decide +kernel
theorem dX1_addKey_23 : decode cX1_addKey 23 = .ok (.iadd, 1) := by decide +kernel
theorem dX1_addKey_24 : decode cX1_addKey 24 = .ok (.iconst 1, 1) := by decide +kernel
theorem dX1_addKey_25 : decode cX1_addKey 25 = .ok (.iadd, 1) := by decide +kernel
theorem dX1_addKey_26 : decode cX1_addKey 26 = .ok (.ldc 15, 2) := by decide +kernel
theorem dX1_addKey_28 : decode cX1_addKey 28 = .ok (.if_icmp .le 7, 3) := by decide +kernel
theorem dX1_addKey_31 : decode cX1_addKey 31 = .ok (.iconst 1, 1) := by decide +kernel
theorem dX1_addKey_32 : decode cX1_addKey 32 = .ok (.goto 4, 3) := by decide +kernel
theorem dX1_addKey_35 : decode cX1_addKey 35 = .ok (.iconst 0, 1) := by decide +kernel
theorem dX1_addKey_36 : decode cX1_addKey 36 = .ok (.istore_n 2, 1) := by decide +kernel
theorem dX1_addKey_37 : decode cX1_addKey 37 = .ok (.iload_n 1, 1) := by decide +kernel
theorem dX1_addKey_38 : decode cX1_addKey 38 = .ok (.iconst (-1), 1) := by decide +kernel
theorem dX1_addKey_39 : decode cX1_addKey 39 = .ok (.if_icmp .eq 16, 3) := by decide +kernel
theorem dX1_addKey_42 : decode cX1_addKey 42 = .ok (.aload_n 0, 1) := by decide +kernel
theorem dX1_addKey_43 : decode cX1_addKey 43 = .ok (.getfield 11, 3) := by decide +kernel
theorem dX1_addKey_46 : decode cX1_addKey 46 = .ok (.iload_n 1, 1) := by decide +kernel
theorem dX1_addKey_47 : decode cX1_addKey 47 = .ok (.iaload, 1) := by decide +kernel
theorem dX1_addKey_48 : decode cX1_addKey 48 = .ok (.ifCond .ne 7, 3) := by decide +kernel
theorem dX1_addKey_51 : decode cX1_addKey 51 = .ok (.iload_n 2, 1) := by decide +kernel
theorem dX1_addKey_52 : decode cX1_addKey 52 = .ok (.ifCond .eq 4, 3) := by decide +kernel
theorem dX1_addKey_55 : decode cX1_addKey 55 = .ok (.return_, 1) := by decide +kernel
theorem dX1_addKey_56 : decode cX1_addKey 56 = .ok (.aload_n 0, 1) := by decide +kernel
theorem dX1_addKey_57 : decode cX1_addKey 57 = .ok (.getfield 16, 3) := by decide +kernel
theorem dX1_addKey_60 : decode cX1_addKey 60 = .ok (.aload_n 0, 1) := by decide +kernel
theorem dX1_addKey_61 : decode cX1_addKey 61 = .ok (.getfield 35, 3) := by decide +kernel
theorem dX1_addKey_64 : decode cX1_addKey 64 = .ok (.aload_n 0, 1) := by decide +kernel
theorem dX1_addKey_65 : decode cX1_addKey 65 = .ok (.getfield 42, 3) := by decide +kernel
theorem dX1_addKey_68 : decode cX1_addKey 68 = .ok (.i2l, 1) := by decide +kernel
theorem dX1_addKey_69 : decode cX1_addKey 69 = .ok (.lastore, 1) := by decide +kernel
theorem dX1_addKey_70 : decode cX1_addKey 70 = .ok (.aload_n 0, 1) := by decide +kernel
theorem dX1_addKey_71 : decode cX1_addKey 71 = .ok (.getfield 22, 3) := by decide +kernel
theorem dX1_addKey_74 : decode cX1_addKey 74 = .ok (.iconst 0, 1) := by decide +kernel
theorem dX1_addKey_75 : decode cX1_addKey 75 = .ok (.aload_n 0, 1) := by decide +kernel
theorem dX1_addKey_76 : decode cX1_addKey 76 = .ok (.getfield 16, 3) := by decide +kernel
theorem dX1_addKey_79 : decode cX1_addKey 79 = .ok (.aload_n 0, 1) := by decide +kernel
theorem dX1_addKey_80 : decode cX1_addKey 80 = .ok (.getfield 35, 3) := by decide +kernel
theorem dX1_addKey_83 : decode cX1_addKey 83 = .ok (.iconst 1, 1) := by decide +kernel
theorem dX1_addKey_84 : decode cX1_addKey 84 = .ok (.iadd, 1) := by decide +kernel
theorem dX1_addKey_85 : decode cX1_addKey 85 = .ok (.aload_n 0, 1) := by decide +kernel
theorem dX1_addKey_86 : decode cX1_addKey 86 = .ok (.getfield 42, 3) := by decide +kernel
theorem dX1_addKey_89 : decode cX1_addKey 89 = .ok (.invokestatic 49, 3) := by decide +kernel
theorem dX1_addKey_92 : decode cX1_addKey 92 = .ok (.aload_n 0, 1) := by decide +kernel
theorem dX1_addKey_93 : decode cX1_addKey 93 = .ok (.getfield 11, 3) := by decide +kernel
theorem dX1_addKey_96 : decode cX1_addKey 96 = .ok (.iload_n 1, 1) := by decide +kernel
theorem dX1_addKey_97 : decode cX1_addKey 97 = .ok (.aload_n 0, 1) := by decide +kernel
theorem dX1_addKey_98 : decode cX1_addKey 98 = .ok (.getfield 35, 3) := by decide +kernel
theorem dX1_addKey_101 : decode cX1_addKey 101 = .ok (.iconst 1, 1) := by decide +kernel
theorem dX1_addKey_102 : decode cX1_addKey 102 = .ok (.iadd, 1) := by decide +kernel
theorem dX1_addKey_103 : decode cX1_addKey 103 = .ok (.iastore, 1) := by decide +kernel
theorem dX1_addKey_104 : decode cX1_addKey 104 = .ok (.aload_n 0, 1) := by decide +kernel
theorem dX1_addKey_105 : decode cX1_addKey 105 = .ok (.dup, 1) := by decide +kernel
theorem dX1_addKey_106 : decode cX1_addKey 106 = .ok (.getfield 35, 3) := by decide +kernel
theorem dX1_addKey_109 : decode cX1_addKey 109 = .ok (.aload_n 0, 1) := by decide +kernel
theorem dX1_addKey_110 : decode cX1_addKey 110 = .ok (.getfield 42, 3) := by decide +kernel
theorem dX1_addKey_113 : decode cX1_addKey 113 = .ok (.iconst 1, 1) := by decide +kernel
theorem dX1_addKey_114 : decode cX1_addKey 114 = .ok (.iadd, 1) := by decide +kernel
theorem dX1_addKey_115 : decode cX1_addKey 115 = .ok (.iadd, 1) := by decide +kernel
theorem dX1_addKey_116 : decode cX1_addKey 116 = .ok (.putfield 35, 3) := by decide +kernel
theorem dX1_addKey_119 : decode cX1_addKey 119 = .ok (.aload_n 0, 1) := by decide +kernel
theorem dX1_addKey_120 : decode cX1_addKey 120 = .ok (.dup, 1) := by decide +kernel
theorem dX1_addKey_121 : decode cX1_addKey 121 = .ok (.getfield 31, 3) := by decide +kernel
theorem dX1_addKey_124 : decode cX1_addKey 124 = .ok (.iconst 1, 1) := by decide +kernel
theorem dX1_addKey_125 : decode cX1_addKey 125 = .ok (.iadd, 1) := by decide +kernel
theorem dX1_addKey_126 : decode cX1_addKey 126 = .ok (.putfield 31, 3) := by decide +kernel
theorem dX1_addKey_129 : decode cX1_addKey 129 = .ok (.return_, 1) := by decide +kernel
theorem dX10_signIn_0 : decode cX10_signIn 0 = .ok (.iload_n 0, 1) := by decide +kernel
theorem dX10_signIn_1 : decode cX10_signIn 1 = .ok (.getstatic 29, 3) := by decide +kernel
theorem dX10_signIn_4 : decode cX10_signIn 4 = .ok (.iload_n 1, 1) := by decide +kernel
theorem dX10_signIn_5 : decode cX10_signIn 5 = .ok (.iaload, 1) := by decide +kernel
theorem dX10_signIn_6 : decode cX10_signIn 6 = .ok (.idiv, 1) := by decide +kernel
theorem dX10_signIn_7 : decode cX10_signIn 7 = .ok (.bipush 9, 2) := by decide +kernel
theorem dX10_signIn_9 : decode cX10_signIn 9 = .ok (.irem, 1) := by decide +kernel
theorem dX10_signIn_10 : decode cX10_signIn 10 = .ok (.ireturn, 1) := by decide +kernel
theorem dX10_letterOf_0 : decode cX10_letterOf 0 = .ok (.iload_n 1, 1) := by decide +kernel
theorem dX10_letterOf_1 : decode cX10_letterOf 1 = .ok (.ifCond .lt 23, 3) := by decide +kernel
theorem dX10_letterOf_4 : decode cX10_letterOf 4 = .ok (.iload_n 1, 1) := by decide +kernel
theorem dX10_letterOf_5 : decode cX10_letterOf 5 = .ok (.aload_n 0, 1) := by decide +kernel
theorem dX10_letterOf_6 : decode cX10_letterOf 6 = .ok (.getfield 15, 3) := by decide +kernel
theorem dX10_letterOf_9 : decode cX10_letterOf 9 = .ok (.if_icmp .ge 15, 3) := by decide +kernel
theorem dX10_letterOf_12 : decode cX10_letterOf 12 = .ok (.iload_n 2, 1) := by decide +kernel
theorem dX10_letterOf_13 : decode cX10_letterOf 13 = .ok (.ifCond .lt 11, 3) := by decide +kernel
theorem dX10_letterOf_16 : decode cX10_letterOf 16 = .ok (.iload_n 2, 1) := by decide +kernel
theorem dX10_letterOf_17 : decode cX10_letterOf 17 = .ok (.getstatic 29, 3) := by decide +kernel
theorem dX10_letterOf_20 : decode cX10_letterOf 20 = .ok (.arraylength, 1) := by decide +kernel
theorem dX10_letterOf_21 : decode cX10_letterOf 21 = .ok (.if_icmp .lt 5, 3) := by decide +kernel
theorem dX10_letterOf_24 : decode cX10_letterOf 24 = .ok (.iconst (-1), 1) := by decide +kernel
theorem dX10_letterOf_25 : decode cX10_letterOf 25 = .ok (.ireturn, 1) := by decide +kernel
theorem dX10_letterOf_26 : decode cX10_letterOf 26 = .ok (.aload_n 0, 1) := by decide +kernel
theorem dX10_letterOf_27 : decode cX10_letterOf 27 = .ok (.getfield 11, 3) := by decide +kernel
theorem dX10_letterOf_30 : decode cX10_letterOf 30 = .ok (.iload_n 1, 1) := by decide +kernel
theorem dX10_letterOf_31 : decode cX10_letterOf 31 = .ok (.iaload, 1) := by decide +kernel
theorem dX10_letterOf_32 : decode cX10_letterOf 32 = .ok (.iload_n 2, 1) := by decide +kernel
theorem dX10_letterOf_33 : decode cX10_letterOf 33 = .ok (.invokestatic 32, 3) := by decide +kernel
theorem dX10_letterOf_36 : decode cX10_letterOf 36 = .ok (.iconst 1, 1) := by decide +kernel
theorem dX10_letterOf_37 : decode cX10_letterOf 37 = .ok (.isub, 1) := by decide +kernel
theorem dX10_letterOf_38 : decode cX10_letterOf 38 = .ok (.ireturn, 1) := by decide +kernel
theorem dX10_lengthOf_0 : decode cX10_lengthOf 0 = .ok (.iconst 0, 1) := by decide +kernel
theorem dX10_lengthOf_1 : decode cX10_lengthOf 1 = .ok (.istore_n 2, 1) := by decide +kernel
theorem dX10_lengthOf_2 : decode cX10_lengthOf 2 = .ok (.iload_n 2, 1) := by decide +kernel
theorem dX10_lengthOf_3 : decode cX10_lengthOf 3 = .ok (.getstatic 29, 3) := by decide +kernel
theorem dX10_lengthOf_6 : decode cX10_lengthOf 6 = .ok (.arraylength, 1) := by decide +kernel
theorem dX10_lengthOf_7 : decode cX10_lengthOf 7 = .ok (.if_icmp .ge 21, 3) := by decide +kernel
theorem dX10_lengthOf_10 : decode cX10_lengthOf 10 = .ok (.aload_n 0, 1) := by decide +kernel
theorem dX10_lengthOf_11 : decode cX10_lengthOf 11 = .ok (.iload_n 1, 1) := by decide +kernel
theorem dX10_lengthOf_12 : decode cX10_lengthOf 12 = .ok (.iload_n 2, 1) := by decide +kernel
theorem dX10_lengthOf_13 : decode cX10_lengthOf 13 = .ok (.invokevirtual 36, 3) := by decide +kernel
theorem dX10_lengthOf_16 : decode cX10_lengthOf 16 = .ok (.iconst (-1), 1) := by decide +kernel
theorem dX10_lengthOf_17 : decode cX10_lengthOf 17 = .ok (.if_icmp .ne 5, 3) := by decide +kernel
theorem dX10_lengthOf_20 : decode cX10_lengthOf 20 = .ok (.iload_n 2, 1) := by decide +kernel
theorem dX10_lengthOf_21 : decode cX10_lengthOf 21 = .ok (.ireturn, 1) := by decide +kernel
theorem dX10_lengthOf_22 : decode cX10_lengthOf 22 = .ok (.iinc 2 1, 3) := by decide +kernel
theorem dX10_lengthOf_25 : decode cX10_lengthOf 25 = .ok (.goto (-23), 3) := by decide +kernel
theorem dX10_lengthOf_28 : decode cX10_lengthOf 28 = .ok (.getstatic 29, 3) := by decide +kernel
theorem dX10_lengthOf_31 : decode cX10_lengthOf 31 = .ok (.arraylength, 1) := by decide +kernel
theorem dX10_lengthOf_32 : decode cX10_lengthOf 32 = .ok (.ireturn, 1) := by decide +kernel
theorem dX3_complete_0 : decode cX3_complete 0 = .ok (.aload_n 0, 1) := by decide +kernel
theorem dX3_complete_1 : decode cX3_complete 1 = .ok (.getfield 28, 3) := by decide +kernel
theorem dX3_complete_4 : decode cX3_complete 4 = .ok (.aload_n 0, 1) := by decide +kernel
theorem dX3_complete_5 : decode cX3_complete 5 = .ok (.getfield 94, 3) := by decide +kernel
theorem dX3_complete_8 : decode cX3_complete 8 = .ok (.iload_n 1, 1) := by decide +kernel
theorem dX3_complete_9 : decode cX3_complete 9 = .ok (.invokevirtual 176, 3) := by decide +kernel
theorem dX3_complete_12 : decode cX3_complete 12 = .ok (.istore_n 3, 1) := by decide +kernel
theorem dX3_complete_13 : decode cX3_complete 13 = .ok (.aload_n 0, 1) := by decide +kernel
theorem dX3_complete_14 : decode cX3_complete 14 = .ok (.iload_n 3, 1) := by decide +kernel
theorem dX3_complete_15 : decode cX3_complete 15 = .ok (.invokevirtual 161, 3) := by decide +kernel
theorem dX3_complete_18 : decode cX3_complete 18 = .ok (.ifCond .ne 11, 3) := by decide +kernel
theorem dX3_complete_21 : decode cX3_complete 21 = .ok (.aload_n 0, 1) := by decide +kernel
theorem dX3_complete_22 : decode cX3_complete 22 = .ok (.iload_n 1, 1) := by decide +kernel
theorem dX3_complete_23 : decode cX3_complete 23 = .ok (.invokevirtual 179, 3) := by decide +kernel
theorem dX3_complete_26 : decode cX3_complete 26 = .ok (.ifCond .ne 5, 3) := by decide +kernel
theorem dX3_complete_29 : decode cX3_complete 29 = .ok (.iconst 0, 1) := by decide +kernel
theorem dX3_complete_30 : decode cX3_complete 30 = .ok (.ireturn, 1) := by decide +kernel
theorem dX3_complete_31 : decode cX3_complete 31 = .ok (.aload_n 0, 1) := by decide +kernel
theorem dX3_complete_32 : decode cX3_complete 32 = .ok (.getfield 87, 3) := by decide +kernel
theorem dX3_complete_35 : decode cX3_complete 35 = .ok (.ifCond .eq 14, 3) := by decide +kernel
theorem dX3_complete_38 : decode cX3_complete 38 = .ok (.aload_n 0, 1) := by decide +kernel
theorem dX3_complete_39 : decode cX3_complete 39 = .ok (.getfield 21, 3) := by decide +kernel
theorem dX3_complete_42 : decode cX3_complete 42 = .ok (.iload_n 2, 1) := by decide +kernel
theorem dX3_complete_43 : decode cX3_complete 43 = .ok (.invokevirtual 182, 3) := by decide +kernel
theorem dX3_complete_46 : decode cX3_complete 46 = .ok (.goto 43, 3) := by decide +kernel
theorem dX3_complete_49 : decode cX3_complete 49 = .ok (.aload_n 0, 1) := by decide +kernel
theorem dX3_complete_50 : decode cX3_complete 50 = .ok (.getfield 114, 3) := by decide +kernel
theorem dX3_complete_53 : decode cX3_complete 53 = .ok (.sipush 1024, 3) := by decide +kernel
theorem dX3_complete_56 : decode cX3_complete 56 = .ok (.if_icmp .ge 33, 3) := by decide +kernel
theorem dX3_complete_59 : decode cX3_complete 59 = .ok (.aload_n 0, 1) := by decide +kernel
theorem dX3_complete_60 : decode cX3_complete 60 = .ok (.getfield 50, 3) := by decide +kernel
theorem dX3_complete_63 : decode cX3_complete 63 = .ok (.aload_n 0, 1) := by decide +kernel
theorem dX3_complete_64 : decode cX3_complete 64 = .ok (.getfield 114, 3) := by decide +kernel
theorem dX3_complete_67 : decode cX3_complete 67 = .ok (.iload_n 2, 1) := by decide +kernel
theorem dX3_complete_68 : decode cX3_complete 68 = .ok (.iastore, 1) := by decide +kernel
theorem dX3_complete_69 : decode cX3_complete 69 = .ok (.aload_n 0, 1) := by decide +kernel
theorem dX3_complete_70 : decode cX3_complete 70 = .ok (.getfield 53, 3) := by decide +kernel
theorem dX3_complete_73 : decode cX3_complete 73 = .ok (.aload_n 0, 1) := by decide +kernel
theorem dX3_complete_74 : decode cX3_complete 74 = .ok (.getfield 114, 3) := by decide +kernel
theorem dX3_complete_77 : decode cX3_complete 77 = .ok (.iload_n 3, 1) := by decide +kernel
theorem dX3_complete_78 : decode cX3_complete 78 = .ok (.iastore, 1) := by decide +kernel
theorem dX3_complete_79 : decode cX3_complete 79 = .ok (.aload_n 0, 1) := by decide +kernel
theorem dX3_complete_80 : decode cX3_complete 80 = .ok (.dup, 1) := by decide +kernel
theorem dX3_complete_81 : decode cX3_complete 81 = .ok (.getfield 114, 3) := by decide +kernel
theorem dX3_complete_84 : decode cX3_complete 84 = .ok (.iconst 1, 1) := by decide +kernel
theorem dX3_complete_85 : decode cX3_complete 85 = .ok (.iadd, 1) := by decide +kernel
theorem dX3_complete_86 : decode cX3_complete 86 = .ok (.putfield 114, 3) := by decide +kernel
theorem dX3_complete_89 : decode cX3_complete 89 = .ok (.iconst 1, 1) := by decide +kernel
theorem dX3_complete_90 : decode cX3_complete 90 = .ok (.ireturn, 1) := by decide +kernel
theorem dX3_descend_0 : decode cX3_descend 0 = .ok (.aload_n 0, 1) := by decide +kernel
theorem dX3_descend_1 : decode cX3_descend 1 = .ok (.getfield 87, 3) := by decide +kernel
theorem dX3_descend_4 : decode cX3_descend 4 = .ok (.ifCond .eq 17, 3) := by decide +kernel
theorem dX3_descend_7 : decode cX3_descend 7 = .ok (.aload_n 0, 1) := by decide +kernel
theorem dX3_descend_8 : decode cX3_descend 8 = .ok (.getfield 71, 3) := by decide +kernel
theorem dX3_descend_11 : decode cX3_descend 11 = .ok (.iload_n 2, 1) := by decide +kernel
theorem dX3_descend_12 : decode cX3_descend 12 = .ok (.isub, 1) := by decide +kernel
theorem dX3_descend_13 : decode cX3_descend 13 = .ok (.iconst 2, 1) := by decide +kernel
theorem dX3_descend_14 : decode cX3_descend 14 = .ok (.if_icmp .lt 7, 3) := by decide +kernel
theorem dX3_descend_17 : decode cX3_descend 17 = .ok (.iconst 1, 1) := by decide +kernel
theorem dX3_descend_18 : decode cX3_descend 18 = .ok (.goto 4, 3) := by decide +kernel
theorem dX3_descend_21 : decode cX3_descend 21 = .ok (.iconst 0, 1) := by decide +kernel
theorem dX3_descend_22 : decode cX3_descend 22 = .ok (.istore 6, 2) := by decide +kernel
theorem dX3_descend_24 : decode cX3_descend 24 = .ok (.iload_n 2, 1) := by decide +kernel
theorem dX3_descend_25 : decode cX3_descend 25 = .ok (.iconst 2, 1) := by decide +kernel
theorem dX3_descend_26 : decode cX3_descend 26 = .ok (.imul, 1) := by decide +kernel
theorem dX3_descend_27 : decode cX3_descend 27 = .ok (.iload_n 3, 1) := by decide +kernel
theorem dX3_descend_28 : decode cX3_descend 28 = .ok (.iadd, 1) := by decide +kernel
theorem dX3_descend_29 : decode cX3_descend 29 = .ok (.istore 7, 2) := by decide +kernel
theorem dX3_descend_31 : decode cX3_descend 31 = .ok (.iload 6, 2) := by decide +kernel
theorem dX3_descend_33 : decode cX3_descend 33 = .ok (.ifCond .eq 33, 3) := by decide +kernel
theorem dX3_descend_36 : decode cX3_descend 36 = .ok (.aload_n 0, 1) := by decide +kernel
theorem dX3_descend_37 : decode cX3_descend 37 = .ok (.getfield 35, 3) := by decide +kernel
theorem dX3_descend_40 : decode cX3_descend 40 = .ok (.aload_n 0, 1) := by decide +kernel
theorem dX3_descend_41 : decode cX3_descend 41 = .ok (.getfield 28, 3) := by decide +kernel
theorem dX3_descend_44 : decode cX3_descend 44 = .ok (.aload_n 0, 1) := by decide +kernel
theorem dX3_descend_45 : decode cX3_descend 45 = .ok (.getfield 94, 3) := by decide +kernel
theorem dX3_descend_48 : decode cX3_descend 48 = .ok (.iload_n 1, 1) := by decide +kernel
theorem dX3_descend_49 : decode cX3_descend 49 = .ok (.iload 7, 2) := by decide +kernel
theorem dX3_descend_51 : decode cX3_descend 51 = .ok (.invokevirtual 133, 3) := by decide +kernel
theorem dX3_descend_54 : decode cX3_descend 54 = .ok (.aload_n 0, 1) := by decide +kernel
theorem dX3_descend_55 : decode cX3_descend 55 = .ok (.getfield 35, 3) := by decide +kernel
theorem dX3_descend_58 : decode cX3_descend 58 = .ok (.invokevirtual 137, 3) := by decide +kernel
theorem dX3_descend_61 : decode cX3_descend 61 = .ok (.ifCond .eq 5, 3) := by decide +kernel
theorem dX3_descend_64 : decode cX3_descend 64 = .ok (.iconst 0, 1) := by decide +kernel
theorem dX3_descend_65 : decode cX3_descend 65 = .ok (.ireturn, 1) := by decide +kernel
theorem dX3_descend_66 : decode cX3_descend 66 = .ok (.iload_n 2, 1) := by decide +kernel
theorem dX3_descend_67 : decode cX3_descend 67 = .ok (.aload_n 0, 1) := by decide +kernel
theorem dX3_descend_68 : decode cX3_descend 68 = .ok (.getfield 71, 3) := by decide +kernel
theorem dX3_descend_71 : decode cX3_descend 71 = .ok (.if_icmp .ne 17, 3) := by decide +kernel
theorem dX3_descend_74 : decode cX3_descend 74 = .ok (.aload_n 0, 1) := by decide +kernel
theorem dX3_descend_75 : decode cX3_descend 75 = .ok (.iload_n 1, 1) := by decide +kernel
theorem dX3_descend_76 : decode cX3_descend 76 = .ok (.iload 4, 2) := by decide +kernel
theorem dX3_descend_78 : decode cX3_descend 78 = .ok (.invokevirtual 141, 3) := by decide +kernel
theorem dX3_descend_81 : decode cX3_descend 81 = .ok (.ifCond .eq 7, 3) := by decide +kernel
theorem dX3_descend_84 : decode cX3_descend 84 = .ok (.iconst 1, 1) := by decide +kernel
theorem dX3_descend_85 : decode cX3_descend 85 = .ok (.goto 4, 3) := by decide +kernel
theorem dX3_descend_88 : decode cX3_descend 88 = .ok (.iconst 0, 1) := by decide +kernel
theorem dX3_descend_89 : decode cX3_descend 89 = .ok (.istore 8, 2) := by decide +kernel
theorem dX3_descend_91 : decode cX3_descend 91 = .ok (.iload_n 1, 1) := by decide +kernel
theorem dX3_descend_92 : decode cX3_descend 92 = .ok (.bipush 9, 2) := by decide +kernel
theorem dX3_descend_94 : decode cX3_descend 94 = .ok (.if_icmp .ge 8, 3) := by decide +kernel
theorem dX3_descend_97 : decode cX3_descend 97 = .ok (.bipush 8, 2) := by decide +kernel
theorem dX3_descend_99 : decode cX3_descend 99 = .ok (.goto 4, 3) := by decide +kernel
theorem dX3_descend_102 : decode cX3_descend 102 = .ok (.iconst 0, 1) := by decide +kernel
theorem dX3_descend_103 : decode cX3_descend 103 = .ok (.istore 9, 2) := by decide +kernel
theorem dX3_descend_105 : decode cX3_descend 105 = .ok (.iload_n 2, 1) := by decide +kernel
theorem dX3_descend_106 : decode cX3_descend 106 = .ok (.aload_n 0, 1) := by decide +kernel
theorem dX3_descend_107 : decode cX3_descend 107 = .ok (.getfield 71, 3) := by decide +kernel
theorem dX3_descend_110 : decode cX3_descend 110 = .ok (.if_icmp .ge 7, 3) := by decide +kernel
theorem dX3_descend_113 : decode cX3_descend 113 = .ok (.iconst 0, 1) := by decide +kernel
theorem dX3_descend_114 : decode cX3_descend 114 = .ok (.goto 4, 3) := by decide +kernel
theorem dX3_descend_117 : decode cX3_descend 117 = .ok (.iconst 4, 1) := by decide +kernel
theorem dX3_descend_118 : decode cX3_descend 118 = .ok (.istore 10, 2) := by decide +kernel
theorem dX3_descend_120 : decode cX3_descend 120 = .ok (.iload 10, 2) := by decide +kernel
theorem dX3_descend_122 : decode cX3_descend 122 = .ok (.iload 9, 2) := by decide +kernel
theorem dX3_descend_124 : decode cX3_descend 124 = .ok (.if_icmp .ge 225, 3) := by decide +kernel
theorem dX3_descend_127 : decode cX3_descend 127 = .ok (.aload_n 0, 1) := by decide +kernel
theorem dX3_descend_128 : decode cX3_descend 128 = .ok (.getfield 21, 3) := by decide +kernel
theorem dX3_descend_131 : decode cX3_descend 131 = .ok (.getfield 145, 3) := by decide +kernel
theorem dX3_descend_134 : decode cX3_descend 134 = .ok (.ifCond .ne 215, 3) := by decide +kernel
theorem dX3_descend_137 : decode cX3_descend 137 = .ok (.iload 10, 2) := by decide +kernel
theorem dX3_descend_139 : decode cX3_descend 139 = .ok (.iconst 4, 1) := by decide +kernel
theorem dX3_descend_140 : decode cX3_descend 140 = .ok (.if_icmp .ge 12, 3) := by decide +kernel
theorem dX3_descend_143 : decode cX3_descend 143 = .ok (.aload_n 0, 1) := by decide +kernel
theorem dX3_descend_144 : decode cX3_descend 144 = .ok (.getfield 39, 3) := by decide +kernel
theorem dX3_descend_147 : decode cX3_descend 147 = .ok (.iload_n 2, 1) := by decide +kernel
theorem dX3_descend_148 : decode cX3_descend 148 = .ok (.iaload, 1) := by decide +kernel
theorem dX3_descend_149 : decode cX3_descend 149 = .ok (.goto 4, 3) := by decide +kernel
theorem dX3_descend_152 : decode cX3_descend 152 = .ok (.iconst 0, 1) := by decide +kernel
theorem dX3_descend_153 : decode cX3_descend 153 = .ok (.istore 11, 2) := by decide +kernel
theorem dX3_descend_155 : decode cX3_descend 155 = .ok (.aload_n 0, 1) := by decide +kernel
theorem dX3_descend_156 : decode cX3_descend 156 = .ok (.iload 11, 2) := by decide +kernel
theorem dX3_descend_158 : decode cX3_descend 158 = .ok (.iload 10, 2) := by decide +kernel
theorem dX3_descend_160 : decode cX3_descend 160 = .ok (.iconst 4, 1) := by decide +kernel
theorem dX3_descend_161 : decode cX3_descend 161 = .ok (.irem, 1) := by decide +kernel
theorem dX3_descend_162 : decode cX3_descend 162 = .ok (.invokevirtual 148, 3) := by decide +kernel
theorem dX3_descend_165 : decode cX3_descend 165 = .ok (.istore 12, 2) := by decide +kernel
theorem dX3_descend_167 : decode cX3_descend 167 = .ok (.iload 12, 2) := by decide +kernel
theorem dX3_descend_169 : decode cX3_descend 169 = .ok (.iconst (-1), 1) := by decide +kernel
theorem dX3_descend_170 : decode cX3_descend 170 = .ok (.if_icmp .ne 6, 3) := by decide +kernel
theorem dX3_descend_173 : decode cX3_descend 173 = .ok (.goto 170, 3) := by decide +kernel
theorem dX3_descend_176 : decode cX3_descend 176 = .ok (.aload_n 0, 1) := by decide +kernel
theorem dX3_descend_177 : decode cX3_descend 177 = .ok (.getfield 83, 3) := by decide +kernel
theorem dX3_descend_180 : decode cX3_descend 180 = .ok (.ifCond .eq 16, 3) := by decide +kernel
theorem dX3_descend_183 : decode cX3_descend 183 = .ok (.aload_n 0, 1) := by decide +kernel
theorem dX3_descend_184 : decode cX3_descend 184 = .ok (.getfield 14, 3) := by decide +kernel
theorem dX3_descend_187 : decode cX3_descend 187 = .ok (.getfield 151, 3) := by decide +kernel
theorem dX3_descend_190 : decode cX3_descend 190 = .ok (.iload 12, 2) := by decide +kernel
theorem dX3_descend_192 : decode cX3_descend 192 = .ok (.iaload, 1) := by decide +kernel
theorem dX3_descend_193 : decode cX3_descend 193 = .ok (.goto 13, 3) := by decide +kernel
theorem dX3_descend_196 : decode cX3_descend 196 = .ok (.aload_n 0, 1) := by decide +kernel
theorem dX3_descend_197 : decode cX3_descend 197 = .ok (.getfield 14, 3) := by decide +kernel
theorem dX3_descend_200 : decode cX3_descend 200 = .ok (.getfield 154, 3) := by decide +kernel
theorem dX3_descend_203 : decode cX3_descend 203 = .ok (.iload 12, 2) := by decide +kernel
theorem dX3_descend_205 : decode cX3_descend 205 = .ok (.iaload, 1) := by decide +kernel
theorem dX3_descend_206 : decode cX3_descend 206 = .ok (.istore 13, 2) := by decide +kernel
theorem dX3_descend_208 : decode cX3_descend 208 = .ok (.iload 11, 2) := by decide +kernel
theorem dX3_descend_210 : decode cX3_descend 210 = .ok (.ifCond .eq 8, 3) := by decide +kernel
theorem dX3_descend_213 : decode cX3_descend 213 = .ok (.iload 13, 2) := by decide +kernel
theorem dX3_descend_215 : decode cX3_descend 215 = .ok (.ifCond .ne 7, 3) := by decide +kernel
theorem dX3_descend_218 : decode cX3_descend 218 = .ok (.iconst 1, 1) := by decide +kernel
theorem dX3_descend_219 : decode cX3_descend 219 = .ok (.goto 4, 3) := by decide +kernel
theorem dX3_descend_222 : decode cX3_descend 222 = .ok (.iconst 0, 1) := by decide +kernel
theorem dX3_descend_223 : decode cX3_descend 223 = .ok (.istore 14, 2) := by decide +kernel
theorem dX3_descend_225 : decode cX3_descend 225 = .ok (.iload 14, 2) := by decide +kernel
theorem dX3_descend_227 : decode cX3_descend 227 = .ok (.iload_n 3, 1) := by decide +kernel
theorem dX3_descend_228 : decode cX3_descend 228 = .ok (.if_icmp .gt 115, 3) := by decide +kernel
theorem dX3_descend_231 : decode cX3_descend 231 = .ok (.aload_n 0, 1) := by decide +kernel
theorem dX3_descend_232 : decode cX3_descend 232 = .ok (.aload_n 0, 1) := by decide +kernel
theorem dX3_descend_233 : decode cX3_descend 233 = .ok (.getfield 28, 3) := by decide +kernel
theorem dX3_descend_236 : decode cX3_descend 236 = .ok (.aload_n 0, 1) := by decide +kernel
theorem dX3_descend_237 : decode cX3_descend 237 = .ok (.getfield 14, 3) := by decide +kernel
theorem dX3_descend_240 : decode cX3_descend 240 = .ok (.aload_n 0, 1) := by decide +kernel
theorem dX3_descend_241 : decode cX3_descend 241 = .ok (.getfield 94, 3) := by decide +kernel
theorem dX3_descend_244 : decode cX3_descend 244 = .ok (.iload_n 1, 1) := by decide +kernel
theorem dX3_descend_245 : decode cX3_descend 245 = .ok (.iload 12, 2) := by decide +kernel
theorem dX3_descend_247 : decode cX3_descend 247 = .ok (.invokevirtual 157, 3) := by decide +kernel
theorem dX3_descend_250 : decode cX3_descend 250 = .ok (.invokevirtual 161, 3) := by decide +kernel
theorem dX3_descend_253 : decode cX3_descend 253 = .ok (.ifCond .eq 6, 3) := by decide +kernel
theorem dX3_descend_256 : decode cX3_descend 256 = .ok (.goto 87, 3) := by decide +kernel
theorem dX3_descend_259 : decode cX3_descend 259 = .ok (.aload_n 0, 1) := by decide +kernel
theorem dX3_descend_260 : decode cX3_descend 260 = .ok (.getfield 47, 3) := by decide +kernel
theorem dX3_descend_263 : decode cX3_descend 263 = .ok (.iload_n 1, 1) := by decide +kernel
theorem dX3_descend_264 : decode cX3_descend 264 = .ok (.iload 12, 2) := by decide +kernel
theorem dX3_descend_266 : decode cX3_descend 266 = .ok (.iastore, 1) := by decide +kernel
theorem dX3_descend_267 : decode cX3_descend 267 = .ok (.iload 11, 2) := by decide +kernel
theorem dX3_descend_269 : decode cX3_descend 269 = .ok (.ifCond .ne 7, 3) := by decide +kernel
theorem dX3_descend_272 : decode cX3_descend 272 = .ok (.iload_n 2, 1) := by decide +kernel
theorem dX3_descend_273 : decode cX3_descend 273 = .ok (.goto 6, 3) := by decide +kernel
theorem dX3_descend_276 : decode cX3_descend 276 = .ok (.iload_n 2, 1) := by decide +kernel
theorem dX3_descend_277 : decode cX3_descend 277 = .ok (.iconst 1, 1) := by decide +kernel
theorem dX3_descend_278 : decode cX3_descend 278 = .ok (.iadd, 1) := by decide +kernel
theorem dX3_descend_279 : decode cX3_descend 279 = .ok (.istore 15, 2) := by decide +kernel
theorem dX3_descend_281 : decode cX3_descend 281 = .ok (.iload 13, 2) := by decide +kernel
theorem dX3_descend_283 : decode cX3_descend 283 = .ok (.ifCond .ne 8, 3) := by decide +kernel
theorem dX3_descend_286 : decode cX3_descend 286 = .ok (.iload 4, 2) := by decide +kernel
theorem dX3_descend_288 : decode cX3_descend 288 = .ok (.goto 15, 3) := by decide +kernel
theorem dX3_descend_291 : decode cX3_descend 291 = .ok (.iload 4, 2) := by decide +kernel
theorem dX3_descend_293 : decode cX3_descend 293 = .ok (.iload 13, 2) := by decide +kernel
theorem dX3_descend_295 : decode cX3_descend 295 = .ok (.getstatic 164, 3) := by decide +kernel
theorem dX3_descend_298 : decode cX3_descend 298 = .ok (.iload 5, 2) := by decide +kernel
theorem dX3_descend_300 : decode cX3_descend 300 = .ok (.iaload, 1) := by decide +kernel
theorem dX3_descend_301 : decode cX3_descend 301 = .ok (.imul, 1) := by decide +kernel
theorem dX3_descend_302 : decode cX3_descend 302 = .ok (.iadd, 1) := by decide +kernel
theorem dX3_descend_303 : decode cX3_descend 303 = .ok (.istore 16, 2) := by decide +kernel
theorem dX3_descend_305 : decode cX3_descend 305 = .ok (.iload 13, 2) := by decide +kernel
theorem dX3_descend_307 : decode cX3_descend 307 = .ok (.ifCond .ne 8, 3) := by decide +kernel
theorem dX3_descend_310 : decode cX3_descend 310 = .ok (.iload 5, 2) := by decide +kernel
theorem dX3_descend_312 : decode cX3_descend 312 = .ok (.goto 7, 3) := by decide +kernel
theorem dX3_descend_315 : decode cX3_descend 315 = .ok (.iload 5, 2) := by decide +kernel
theorem dX3_descend_317 : decode cX3_descend 317 = .ok (.iconst 1, 1) := by decide +kernel
theorem dX3_descend_318 : decode cX3_descend 318 = .ok (.iadd, 1) := by decide +kernel
theorem dX3_descend_319 : decode cX3_descend 319 = .ok (.istore 17, 2) := by decide +kernel
theorem dX3_descend_321 : decode cX3_descend 321 = .ok (.iload 8, 2) := by decide +kernel
theorem dX3_descend_323 : decode cX3_descend 323 = .ok (.aload_n 0, 1) := by decide +kernel
theorem dX3_descend_324 : decode cX3_descend 324 = .ok (.iload_n 1, 1) := by decide +kernel
theorem dX3_descend_325 : decode cX3_descend 325 = .ok (.iconst 1, 1) := by decide +kernel
theorem dX3_descend_326 : decode cX3_descend 326 = .ok (.iadd, 1) := by decide +kernel
theorem dX3_descend_327 : decode cX3_descend 327 = .ok (.iload 15, 2) := by decide +kernel
theorem dX3_descend_329 : decode cX3_descend 329 = .ok (.iload_n 3, 1) := by decide +kernel
theorem dX3_descend_330 : decode cX3_descend 330 = .ok (.iload 14, 2) := by decide +kernel
theorem dX3_descend_332 : decode cX3_descend 332 = .ok (.isub, 1) := by decide +kernel
theorem dX3_descend_333 : decode cX3_descend 333 = .ok (.iload 16, 2) := by decide +kernel
theorem dX3_descend_335 : decode cX3_descend 335 = .ok (.iload 17, 2) := by decide +kernel
theorem dX3_descend_337 : decode cX3_descend 337 = .ok (.invokevirtual 110, 3) := by decide +kernel
theorem dX3_descend_340 : decode cX3_descend 340 = .ok (.ior, 1) := by decide +kernel
theorem dX3_descend_341 : decode cX3_descend 341 = .ok (.istore 8, 2) := by decide +kernel
theorem dX3_descend_343 : decode cX3_descend 343 = .ok (.iinc 10 1, 3) := by decide +kernel
theorem dX3_descend_346 : decode cX3_descend 346 = .ok (.goto (-226), 3) := by decide +kernel
theorem dX3_descend_349 : decode cX3_descend 349 = .ok (.iload 6, 2) := by decide +kernel
theorem dX3_descend_351 : decode cX3_descend 351 = .ok (.ifCond .eq 43, 3) := by decide +kernel
theorem dX3_descend_354 : decode cX3_descend 354 = .ok (.iload 8, 2) := by decide +kernel
theorem dX3_descend_356 : decode cX3_descend 356 = .ok (.ifCond .ne 38, 3) := by decide +kernel
theorem dX3_descend_359 : decode cX3_descend 359 = .ok (.aload_n 0, 1) := by decide +kernel
theorem dX3_descend_360 : decode cX3_descend 360 = .ok (.getfield 21, 3) := by decide +kernel
theorem dX3_descend_363 : decode cX3_descend 363 = .ok (.getfield 145, 3) := by decide +kernel
theorem dX3_descend_366 : decode cX3_descend 366 = .ok (.ifCond .ne 28, 3) := by decide +kernel
theorem dX3_descend_369 : decode cX3_descend 369 = .ok (.aload_n 0, 1) := by decide +kernel
theorem dX3_descend_370 : decode cX3_descend 370 = .ok (.getfield 35, 3) := by decide +kernel
theorem dX3_descend_373 : decode cX3_descend 373 = .ok (.aload_n 0, 1) := by decide +kernel
theorem dX3_descend_374 : decode cX3_descend 374 = .ok (.getfield 28, 3) := by decide +kernel
theorem dX3_descend_377 : decode cX3_descend 377 = .ok (.aload_n 0, 1) := by decide +kernel
theorem dX3_descend_378 : decode cX3_descend 378 = .ok (.getfield 94, 3) := by decide +kernel
theorem dX3_descend_381 : decode cX3_descend 381 = .ok (.iload_n 1, 1) := by decide +kernel
theorem dX3_descend_382 : decode cX3_descend 382 = .ok (.iload 7, 2) := by decide +kernel
theorem dX3_descend_384 : decode cX3_descend 384 = .ok (.invokevirtual 133, 3) := by decide +kernel
theorem dX3_descend_387 : decode cX3_descend 387 = .ok (.aload_n 0, 1) := by decide +kernel
theorem dX3_descend_388 : decode cX3_descend 388 = .ok (.getfield 35, 3) := by decide +kernel
theorem dX3_descend_391 : decode cX3_descend 391 = .ok (.invokevirtual 167, 3) := by decide +kernel
theorem dX3_descend_394 : decode cX3_descend 394 = .ok (.iload 8, 2) := by decide +kernel
theorem dX3_descend_396 : decode cX3_descend 396 = .ok (.ireturn, 1) := by decide +kernel
