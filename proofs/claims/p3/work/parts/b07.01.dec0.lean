theorem dX11_text_0 : decode cX11_text 0 = .ok (.aload_n 0, 1) := by decide +kernel
theorem dX11_text_1 : decode cX11_text 1 = .ok (.getfield 49, 3) := by decide +kernel
theorem dX11_text_4 : decode cX11_text 4 = .ok (.aload_n 0, 1) := by decide +kernel
theorem dX11_text_5 : decode cX11_text 5 = .ok (.getfield 9, 3) := by decide +kernel
theorem dX11_text_8 : decode cX11_text 8 = .ok (.aload_n 0, 1) := by decide +kernel
theorem dX11_text_9 : decode cX11_text 9 = .ok (.invokevirtual 83, 3) := by decide +kernel
theorem dX11_text_12 : decode cX11_text 12 = .ok (.invokevirtual 87, 3) := by decide +kernel
theorem dX11_text_15 : decode cX11_text 15 = .ok (.ifCond .ne 5, 3) := by decide +kernel
theorem dX11_text_18 : decode cX11_text 18 = .ok (.iconst (-1), 1) := by decide +kernel
theorem dX11_text_19 : decode cX11_text 19 = .ok (.ireturn, 1) := by decide +kernel
theorem dX11_text_20 : decode cX11_text 20 = .ok (.aload_n 0, 1) := by decide +kernel
theorem dX11_text_21 : decode cX11_text 21 = .ok (.getfield 24, 3) := by decide +kernel
theorem dX11_text_24 : decode cX11_text 24 = .ok (.aload_n 0, 1) := by decide +kernel
theorem dX11_text_25 : decode cX11_text 25 = .ok (.getfield 49, 3) := by decide +kernel
theorem dX11_text_28 : decode cX11_text 28 = .ok (.getfield 91, 3) := by decide +kernel
theorem dX11_text_31 : decode cX11_text 31 = .ok (.invokevirtual 94, 3) := by decide +kernel
theorem dX11_text_34 : decode cX11_text 34 = .ok (.aload_n 0, 1) := by decide +kernel
theorem dX11_text_35 : decode cX11_text 35 = .ok (.getfield 33, 3) := by decide +kernel
theorem dX11_text_38 : decode cX11_text 38 = .ok (.aload_n 0, 1) := by decide +kernel
theorem dX11_text_39 : decode cX11_text 39 = .ok (.getfield 24, 3) := by decide +kernel
theorem dX11_text_42 : decode cX11_text 42 = .ok (.getfield 98, 3) := by decide +kernel
theorem dX11_text_45 : decode cX11_text 45 = .ok (.invokevirtual 101, 3) := by decide +kernel
theorem dX11_text_48 : decode cX11_text 48 = .ok (.aload_n 0, 1) := by decide +kernel
theorem dX11_text_49 : decode cX11_text 49 = .ok (.dup, 1) := by decide +kernel
theorem dX11_text_50 : decode cX11_text 50 = .ok (.getfield 104, 3) := by decide +kernel
theorem dX11_text_53 : decode cX11_text 53 = .ok (.iconst 1, 1) := by decide +kernel
theorem dX11_text_54 : decode cX11_text 54 = .ok (.iadd, 1) := by decide +kernel
theorem dX11_text_55 : decode cX11_text 55 = .ok (.putfield 104, 3) := by decide +kernel
theorem dX11_text_58 : decode cX11_text 58 = .ok (.aload_n 0, 1) := by decide +kernel
theorem dX11_text_59 : decode cX11_text 59 = .ok (.getfield 29, 3) := by decide +kernel
theorem dX11_text_62 : decode cX11_text 62 = .ok (.invokevirtual 107, 3) := by decide +kernel
theorem dX11_text_65 : decode cX11_text 65 = .ok (.aload_n 0, 1) := by decide +kernel
theorem dX11_text_66 : decode cX11_text 66 = .ok (.iconst 0, 1) := by decide +kernel
theorem dX11_text_67 : decode cX11_text 67 = .ok (.putfield 112, 3) := by decide +kernel
theorem dX11_text_70 : decode cX11_text 70 = .ok (.aload_n 0, 1) := by decide +kernel
theorem dX11_text_71 : decode cX11_text 71 = .ok (.iconst (-1), 1) := by decide +kernel
theorem dX11_text_72 : decode cX11_text 72 = .ok (.putfield 63, 3) := by decide +kernel
theorem dX11_text_75 : decode cX11_text 75 = .ok (.aload_n 0, 1) := by decide +kernel
theorem dX11_text_76 : decode cX11_text 76 = .ok (.iconst 0, 1) := by decide +kernel
theorem dX11_text_77 : decode cX11_text 77 = .ok (.putfield 115, 3) := by decide +kernel
theorem dX11_text_80 : decode cX11_text 80 = .ok (.aload_n 0, 1) := by decide +kernel
theorem dX11_text_81 : decode cX11_text 81 = .ok (.getfield 24, 3) := by decide +kernel
theorem dX11_text_84 : decode cX11_text 84 = .ok (.getfield 98, 3) := by decide +kernel
theorem dX11_text_87 : decode cX11_text 87 = .ok (.ireturn, 1) := by decide +kernel
theorem dX11_image_0 : decode cX11_image 0 = .ok (.iload_n 1, 1) := by decide +kernel
theorem dX11_image_1 : decode cX11_image 1 = .ok (.ifCond .eq 32, 3) := by decide +kernel
theorem dX11_image_4 : decode cX11_image 4 = .ok (.aload_n 0, 1) := by decide +kernel
theorem dX11_image_5 : decode cX11_image 5 = .ok (.getfield 40, 3) := by decide +kernel
theorem dX11_image_8 : decode cX11_image 8 = .ok (.aload_n 0, 1) := by decide +kernel
theorem dX11_image_9 : decode cX11_image 9 = .ok (.getfield 24, 3) := by decide +kernel
theorem dX11_image_12 : decode cX11_image 12 = .ok (.invokevirtual 94, 3) := by decide +kernel
theorem dX11_image_15 : decode cX11_image 15 = .ok (.aload_n 0, 1) := by decide +kernel
theorem dX11_image_16 : decode cX11_image 16 = .ok (.getfield 43, 3) := by decide +kernel
theorem dX11_image_19 : decode cX11_image 19 = .ok (.aload_n 0, 1) := by decide +kernel
theorem dX11_image_20 : decode cX11_image 20 = .ok (.getfield 33, 3) := by decide +kernel
theorem dX11_image_23 : decode cX11_image 23 = .ok (.invokevirtual 302, 3) := by decide +kernel
theorem dX11_image_26 : decode cX11_image 26 = .ok (.aload_n 0, 1) := by decide +kernel
theorem dX11_image_27 : decode cX11_image 27 = .ok (.iconst 1, 1) := by decide +kernel
theorem dX11_image_28 : decode cX11_image 28 = .ok (.putfield 305, 3) := by decide +kernel
theorem dX11_image_31 : decode cX11_image 31 = .ok (.iconst 1, 1) := by decide +kernel
theorem dX11_image_32 : decode cX11_image 32 = .ok (.ireturn, 1) := by decide +kernel
theorem dX11_image_33 : decode cX11_image 33 = .ok (.aload_n 0, 1) := by decide +kernel
theorem dX11_image_34 : decode cX11_image 34 = .ok (.getfield 305, 3) := by decide +kernel
theorem dX11_image_37 : decode cX11_image 37 = .ok (.ifCond .ne 5, 3) := by decide +kernel
theorem dX11_image_40 : decode cX11_image 40 = .ok (.iconst 0, 1) := by decide +kernel
theorem dX11_image_41 : decode cX11_image 41 = .ok (.ireturn, 1) := by decide +kernel
theorem dX11_image_42 : decode cX11_image 42 = .ok (.aload_n 0, 1) := by decide +kernel
theorem dX11_image_43 : decode cX11_image 43 = .ok (.getfield 24, 3) := by decide +kernel
theorem dX11_image_46 : decode cX11_image 46 = .ok (.aload_n 0, 1) := by decide +kernel
theorem dX11_image_47 : decode cX11_image 47 = .ok (.getfield 40, 3) := by decide +kernel
theorem dX11_image_50 : decode cX11_image 50 = .ok (.invokevirtual 94, 3) := by decide +kernel
theorem dX11_image_53 : decode cX11_image 53 = .ok (.aload_n 0, 1) := by decide +kernel
theorem dX11_image_54 : decode cX11_image 54 = .ok (.getfield 33, 3) := by decide +kernel
theorem dX11_image_57 : decode cX11_image 57 = .ok (.aload_n 0, 1) := by decide +kernel
theorem dX11_image_58 : decode cX11_image 58 = .ok (.getfield 43, 3) := by decide +kernel
theorem dX11_image_61 : decode cX11_image 61 = .ok (.invokevirtual 302, 3) := by decide +kernel
theorem dX11_image_64 : decode cX11_image 64 = .ok (.aload_n 0, 1) := by decide +kernel
theorem dX11_image_65 : decode cX11_image 65 = .ok (.dup, 1) := by decide +kernel
theorem dX11_image_66 : decode cX11_image 66 = .ok (.getfield 104, 3) := by decide +kernel
theorem dX11_image_69 : decode cX11_image 69 = .ok (.iconst 1, 1) := by decide +kernel
theorem dX11_image_70 : decode cX11_image 70 = .ok (.iadd, 1) := by decide +kernel
theorem dX11_image_71 : decode cX11_image 71 = .ok (.putfield 104, 3) := by decide +kernel
theorem dX11_image_74 : decode cX11_image 74 = .ok (.iconst 1, 1) := by decide +kernel
theorem dX11_image_75 : decode cX11_image 75 = .ok (.ireturn, 1) := by decide +kernel
theorem dX11_findWords_0 : decode cX11_findWords 0 = .ok (.aload_n 0, 1) := by decide +kernel
theorem dX11_findWords_1 : decode cX11_findWords 1 = .ok (.getfield 29, 3) := by decide +kernel
theorem dX11_findWords_4 : decode cX11_findWords 4 = .ok (.invokevirtual 107, 3) := by decide +kernel
theorem dX11_findWords_7 : decode cX11_findWords 7 = .ok (.aload_n 0, 1) := by decide +kernel
theorem dX11_findWords_8 : decode cX11_findWords 8 = .ok (.invokevirtual 149, 3) := by decide +kernel
theorem dX11_findWords_11 : decode cX11_findWords 11 = .ok (.istore_n 2, 1) := by decide +kernel
theorem dX11_findWords_12 : decode cX11_findWords 12 = .ok (.iload_n 2, 1) := by decide +kernel
theorem dX11_findWords_13 : decode cX11_findWords 13 = .ok (.iconst (-1), 1) := by decide +kernel
theorem dX11_findWords_14 : decode cX11_findWords 14 = .ok (.if_icmp .ne 5, 3) := by decide +kernel
theorem dX11_findWords_17 : decode cX11_findWords 17 = .ok (.iconst (-1), 1) := by decide +kernel
theorem dX11_findWords_18 : decode cX11_findWords 18 = .ok (.ireturn, 1) := by decide +kernel
theorem dX11_findWords_19 : decode cX11_findWords 19 = .ok (.aload_n 0, 1) := by decide +kernel
theorem dX11_findWords_20 : decode cX11_findWords 20 = .ok (.getfield 16, 3) := by decide +kernel
theorem dX11_findWords_23 : decode cX11_findWords 23 = .ok (.aload_n 0, 1) := by decide +kernel
theorem dX11_findWords_24 : decode cX11_findWords 24 = .ok (.getfield 70, 3) := by decide +kernel
theorem dX11_findWords_27 : decode cX11_findWords 27 = .ok (.iload_n 2, 1) := by decide +kernel
theorem dX11_findWords_28 : decode cX11_findWords 28 = .ok (.invokevirtual 319, 3) := by decide +kernel
theorem dX11_findWords_31 : decode cX11_findWords 31 = .ok (.aload_n 0, 1) := by decide +kernel
theorem dX11_findWords_32 : decode cX11_findWords 32 = .ok (.getfield 16, 3) := by decide +kernel
theorem dX11_findWords_35 : decode cX11_findWords 35 = .ok (.iload_n 1, 1) := by decide +kernel
theorem dX11_findWords_36 : decode cX11_findWords 36 = .ok (.aload_n 0, 1) := by decide +kernel
theorem dX11_findWords_37 : decode cX11_findWords 37 = .ok (.getfield 33, 3) := by decide +kernel
theorem dX11_findWords_40 : decode cX11_findWords 40 = .ok (.getfield 128, 3) := by decide +kernel
theorem dX11_findWords_43 : decode cX11_findWords 43 = .ok (.aload_n 0, 1) := by decide +kernel
theorem dX11_findWords_44 : decode cX11_findWords 44 = .ok (.getfield 33, 3) := by decide +kernel
theorem dX11_findWords_47 : decode cX11_findWords 47 = .ok (.getfield 131, 3) := by decide +kernel
theorem dX11_findWords_50 : decode cX11_findWords 50 = .ok (.invokevirtual 323, 3) := by decide +kernel
theorem dX11_findWords_53 : decode cX11_findWords 53 = .ok (.aload_n 0, 1) := by decide +kernel
theorem dX11_findWords_54 : decode cX11_findWords 54 = .ok (.getfield 29, 3) := by decide +kernel
theorem dX11_findWords_57 : decode cX11_findWords 57 = .ok (.getfield 327, 3) := by decide +kernel
theorem dX11_findWords_60 : decode cX11_findWords 60 = .ok (.ifCond .eq 13, 3) := by decide +kernel
theorem dX11_findWords_63 : decode cX11_findWords 63 = .ok (.aload_n 0, 1) := by decide +kernel
theorem dX11_findWords_64 : decode cX11_findWords 64 = .ok (.getfield 29, 3) := by decide +kernel
theorem dX11_findWords_67 : decode cX11_findWords 67 = .ok (.invokevirtual 107, 3) := by decide +kernel
theorem dX11_findWords_70 : decode cX11_findWords 70 = .ok (.bipush (-2), 2) := by decide +kernel
theorem dX11_findWords_72 : decode cX11_findWords 72 = .ok (.ireturn, 1) := by decide +kernel
theorem dX11_findWords_73 : decode cX11_findWords 73 = .ok (.aload_n 0, 1) := by decide +kernel
theorem dX11_findWords_74 : decode cX11_findWords 74 = .ok (.getfield 29, 3) := by decide +kernel
theorem dX11_findWords_77 : decode cX11_findWords 77 = .ok (.getfield 138, 3) := by decide +kernel
theorem dX11_findWords_80 : decode cX11_findWords 80 = .ok (.ireturn, 1) := by decide +kernel
theorem dX11_say_0 : decode cX11_say 0 = .ok (.aload_n 0, 1) := by decide +kernel
theorem dX11_say_1 : decode cX11_say 1 = .ok (.iconst 1, 1) := by decide +kernel
theorem dX11_say_2 : decode cX11_say 2 = .ok (.invokevirtual 134, 3) := by decide +kernel
theorem dX11_say_5 : decode cX11_say 5 = .ok (.ireturn, 1) := by decide +kernel
theorem dX11_hear_0 : decode cX11_hear 0 = .ok (.aload_n 0, 1) := by decide +kernel
theorem dX11_hear_1 : decode cX11_hear 1 = .ok (.iconst 0, 1) := by decide +kernel
theorem dX11_hear_2 : decode cX11_hear 2 = .ok (.invokevirtual 134, 3) := by decide +kernel
theorem dX11_hear_5 : decode cX11_hear 5 = .ok (.ireturn, 1) := by decide +kernel
theorem dX11_keepCouple_0 : decode cX11_keepCouple 0 = .ok (.aload_n 0, 1) := by decide +kernel
theorem dX11_keepCouple_1 : decode cX11_keepCouple 1 = .ok (.getfield 24, 3) := by decide +kernel
theorem dX11_keepCouple_4 : decode cX11_keepCouple 4 = .ok (.getfield 152, 3) := by decide +kernel
theorem dX11_keepCouple_7 : decode cX11_keepCouple 7 = .ok (.iload_n 1, 1) := by decide +kernel
theorem dX11_keepCouple_8 : decode cX11_keepCouple 8 = .ok (.aload_n 0, 1) := by decide +kernel
theorem dX11_keepCouple_9 : decode cX11_keepCouple 9 = .ok (.getfield 73, 3) := by decide +kernel
theorem dX11_keepCouple_12 : decode cX11_keepCouple 12 = .ok (.iconst 0, 1) := by decide +kernel
theorem dX11_keepCouple_13 : decode cX11_keepCouple 13 = .ok (.invokevirtual 330, 3) := by decide +kernel
theorem dX11_keepCouple_16 : decode cX11_keepCouple 16 = .ok (.istore 4, 2) := by decide +kernel
theorem dX11_keepCouple_18 : decode cX11_keepCouple 18 = .ok (.aload_n 0, 1) := by decide +kernel
theorem dX11_keepCouple_19 : decode cX11_keepCouple 19 = .ok (.getfield 24, 3) := by decide +kernel
theorem dX11_keepCouple_22 : decode cX11_keepCouple 22 = .ok (.getfield 159, 3) := by decide +kernel
theorem dX11_keepCouple_25 : decode cX11_keepCouple 25 = .ok (.iload_n 2, 1) := by decide +kernel
theorem dX11_keepCouple_26 : decode cX11_keepCouple 26 = .ok (.aload_n 0, 1) := by decide +kernel
theorem dX11_keepCouple_27 : decode cX11_keepCouple 27 = .ok (.getfield 73, 3) := by decide +kernel
theorem dX11_keepCouple_30 : decode cX11_keepCouple 30 = .ok (.iload 4, 2) := by decide +kernel
theorem dX11_keepCouple_32 : decode cX11_keepCouple 32 = .ok (.invokevirtual 330, 3) := by decide +kernel
theorem dX11_keepCouple_35 : decode cX11_keepCouple 35 = .ok (.istore 5, 2) := by decide +kernel
theorem dX11_keepCouple_37 : decode cX11_keepCouple 37 = .ok (.aload_n 0, 1) := by decide +kernel
theorem dX11_keepCouple_38 : decode cX11_keepCouple 38 = .ok (.getfield 16, 3) := by decide +kernel
theorem dX11_keepCouple_41 : decode cX11_keepCouple 41 = .ok (.aload_n 0, 1) := by decide +kernel
theorem dX11_keepCouple_42 : decode cX11_keepCouple 42 = .ok (.getfield 70, 3) := by decide +kernel
theorem dX11_keepCouple_45 : decode cX11_keepCouple 45 = .ok (.iload_n 3, 1) := by decide +kernel
theorem dX11_keepCouple_46 : decode cX11_keepCouple 46 = .ok (.invokevirtual 319, 3) := by decide +kernel
theorem dX11_keepCouple_49 : decode cX11_keepCouple 49 = .ok (.aload_n 0, 1) := by decide +kernel
theorem dX11_keepCouple_50 : decode cX11_keepCouple 50 = .ok (.getfield 16, 3) := by decide +kernel
theorem dX11_keepCouple_53 : decode cX11_keepCouple 53 = .ok (.aload_n 0, 1) := by decide +kernel
theorem dX11_keepCouple_54 : decode cX11_keepCouple 54 = .ok (.getfield 73, 3) := by decide +kernel
theorem dX11_keepCouple_57 : decode cX11_keepCouple 57 = .ok (.iload 5, 2) := by decide +kernel
theorem dX11_keepCouple_59 : decode cX11_keepCouple 59 = .ok (.aload_n 0, 1) := by decide +kernel
theorem dX11_keepCouple_60 : decode cX11_keepCouple 60 = .ok (.getfield 33, 3) := by decide +kernel
theorem dX11_keepCouple_63 : decode cX11_keepCouple 63 = .ok (.getfield 128, 3) := by decide +kernel
theorem dX11_keepCouple_66 : decode cX11_keepCouple 66 = .ok (.aload_n 0, 1) := by decide +kernel
theorem dX11_keepCouple_67 : decode cX11_keepCouple 67 = .ok (.getfield 33, 3) := by decide +kernel
theorem dX11_keepCouple_70 : decode cX11_keepCouple 70 = .ok (.getfield 131, 3) := by decide +kernel
theorem dX11_keepCouple_73 : decode cX11_keepCouple 73 = .ok (.invokevirtual 333, 3) := by decide +kernel
theorem dX11_keepCouple_76 : decode cX11_keepCouple 76 = .ok (.ifCond .eq 28, 3) := by decide +kernel
theorem dX11_keepCouple_79 : decode cX11_keepCouple 79 = .ok (.aload_n 0, 1) := by decide +kernel
theorem dX11_keepCouple_80 : decode cX11_keepCouple 80 = .ok (.getfield 60, 3) := by decide +kernel
theorem dX11_keepCouple_83 : decode cX11_keepCouple 83 = .ok (.aload_n 0, 1) := by decide +kernel
theorem dX11_keepCouple_84 : decode cX11_keepCouple 84 = .ok (.getfield 112, 3) := by decide +kernel
theorem dX11_keepCouple_87 : decode cX11_keepCouple 87 = .ok (.iload_n 1, 1) := by decide +kernel
theorem dX11_keepCouple_88 : decode cX11_keepCouple 88 = .ok (.bipush 8, 2) := by decide +kernel
theorem dX11_keepCouple_90 : decode cX11_keepCouple 90 = .ok (.imul, 1) := by decide +kernel
theorem dX11_keepCouple_91 : decode cX11_keepCouple 91 = .ok (.iload_n 2, 1) := by decide +kernel
theorem dX11_keepCouple_92 : decode cX11_keepCouple 92 = .ok (.iadd, 1) := by decide +kernel
theorem dX11_keepCouple_93 : decode cX11_keepCouple 93 = .ok (.iastore, 1) := by decide +kernel
theorem dX11_keepCouple_94 : decode cX11_keepCouple 94 = .ok (.aload_n 0, 1) := by decide +kernel
theorem dX11_keepCouple_95 : decode cX11_keepCouple 95 = .ok (.dup, 1) := by decide +kernel
theorem dX11_keepCouple_96 : decode cX11_keepCouple 96 = .ok (.getfield 112, 3) := by decide +kernel
theorem dX11_keepCouple_99 : decode cX11_keepCouple 99 = .ok (.iconst 1, 1) := by decide +kernel
theorem dX11_keepCouple_100 : decode cX11_keepCouple 100 = .ok (.iadd, 1) := by decide +kernel
theorem dX11_keepCouple_101 : decode cX11_keepCouple 101 = .ok (.putfield 112, 3) := by decide +kernel
theorem dX11_keepCouple_104 : decode cX11_keepCouple 104 = .ok (.return_, 1) := by decide +kernel
theorem dX11_understand_0 : decode cX11_understand 0 = .ok (.aload_n 0, 1) := by decide +kernel
theorem dX11_understand_1 : decode cX11_understand 1 = .ok (.iconst 0, 1) := by decide +kernel
theorem dX11_understand_2 : decode cX11_understand 2 = .ok (.putfield 112, 3) := by decide +kernel
theorem dX11_understand_5 : decode cX11_understand 5 = .ok (.aload_n 0, 1) := by decide +kernel
theorem dX11_understand_6 : decode cX11_understand 6 = .ok (.invokevirtual 149, 3) := by decide +kernel
theorem dX11_understand_9 : decode cX11_understand 9 = .ok (.istore_n 1, 1) := by decide +kernel
theorem dX11_understand_10 : decode cX11_understand 10 = .ok (.iload_n 1, 1) := by decide +kernel
theorem dX11_understand_11 : decode cX11_understand 11 = .ok (.iconst (-1), 1) := by decide +kernel
theorem dX11_understand_12 : decode cX11_understand 12 = .ok (.if_icmp .ne 5, 3) := by decide +kernel
theorem dX11_understand_15 : decode cX11_understand 15 = .ok (.iconst (-1), 1) := by decide +kernel
theorem dX11_understand_16 : decode cX11_understand 16 = .ok (.ireturn, 1) := by decide +kernel
theorem dX11_understand_17 : decode cX11_understand 17 = .ok (.iconst 0, 1) := by decide +kernel
theorem dX11_understand_18 : decode cX11_understand 18 = .ok (.istore_n 2, 1) := by decide +kernel
theorem dX11_understand_19 : decode cX11_understand 19 = .ok (.iload_n 2, 1) := by decide +kernel
theorem dX11_understand_20 : decode cX11_understand 20 = .ok (.aload_n 0, 1) := by decide +kernel
theorem dX11_understand_21 : decode cX11_understand 21 = .ok (.getfield 24, 3) := by decide +kernel
theorem dX11_understand_24 : decode cX11_understand 24 = .ok (.getfield 152, 3) := by decide +kernel
theorem dX11_understand_27 : decode cX11_understand 27 = .ok (.getfield 156, 3) := by decide +kernel
theorem dX11_understand_30 : decode cX11_understand 30 = .ok (.if_icmp .ge 38, 3) := by decide +kernel
theorem dX11_understand_33 : decode cX11_understand 33 = .ok (.iconst 0, 1) := by decide +kernel
theorem dX11_understand_34 : decode cX11_understand 34 = .ok (.istore_n 3, 1) := by decide +kernel
theorem dX11_understand_35 : decode cX11_understand 35 = .ok (.iload_n 3, 1) := by decide +kernel
theorem dX11_understand_36 : decode cX11_understand 36 = .ok (.aload_n 0, 1) := by decide +kernel
theorem dX11_understand_37 : decode cX11_understand 37 = .ok (.getfield 24, 3) := by decide +kernel
theorem dX11_understand_40 : decode cX11_understand 40 = .ok (.getfield 159, 3) := by decide +kernel
theorem dX11_understand_43 : decode cX11_understand 43 = .ok (.getfield 156, 3) := by decide +kernel
theorem dX11_understand_46 : decode cX11_understand 46 = .ok (.if_icmp .ge 16, 3) := by decide +kernel
theorem dX11_understand_49 : decode cX11_understand 49 = .ok (.aload_n 0, 1) := by decide +kernel
theorem dX11_understand_50 : decode cX11_understand 50 = .ok (.iload_n 2, 1) := by decide +kernel
theorem dX11_understand_51 : decode cX11_understand 51 = .ok (.iload_n 3, 1) := by decide +kernel
theorem dX11_understand_52 : decode cX11_understand 52 = .ok (.iload_n 1, 1) := by decide +kernel
theorem dX11_understand_53 : decode cX11_understand 53 = .ok (.invokevirtual 162, 3) := by decide +kernel
theorem dX11_understand_56 : decode cX11_understand 56 = .ok (.iinc 3 1, 3) := by decide +kernel
theorem dX11_understand_59 : decode cX11_understand 59 = .ok (.goto (-24), 3) := by decide +kernel
theorem dX11_understand_62 : decode cX11_understand 62 = .ok (.iinc 2 1, 3) := by decide +kernel
theorem dX11_understand_65 : decode cX11_understand 65 = .ok (.goto (-46), 3) := by decide +kernel
theorem dX11_understand_68 : decode cX11_understand 68 = .ok (.aload_n 0, 1) := by decide +kernel
theorem dX11_understand_69 : decode cX11_understand 69 = .ok (.getfield 112, 3) := by decide +kernel
theorem dX11_understand_72 : decode cX11_understand 72 = .ok (.ireturn, 1) := by decide +kernel
theorem dX11_lives_0 : decode cX11_lives 0 = .ok (.aload_n 0, 1) := by decide +kernel
theorem dX11_lives_1 : decode cX11_lives 1 = .ok (.getfield 24, 3) := by decide +kernel
theorem dX11_lives_4 : decode cX11_lives 4 = .ok (.iload_n 1, 1) := by decide +kernel
theorem dX11_lives_5 : decode cX11_lives 5 = .ok (.iload_n 2, 1) := by decide +kernel
theorem dX11_lives_6 : decode cX11_lives 6 = .ok (.invokevirtual 198, 3) := by decide +kernel
theorem dX11_lives_9 : decode cX11_lives 9 = .ok (.istore 4, 2) := by decide +kernel
theorem dX11_lives_11 : decode cX11_lives 11 = .ok (.iload 4, 2) := by decide +kernel
theorem dX11_lives_13 : decode cX11_lives 13 = .ok (.iconst (-1), 1) := by decide +kernel
theorem dX11_lives_14 : decode cX11_lives 14 = .ok (.if_icmp .eq 13, 3) := by decide +kernel
theorem dX11_lives_17 : decode cX11_lives 17 = .ok (.iload_n 3, 1) := by decide +kernel
theorem dX11_lives_18 : decode cX11_lives 18 = .ok (.iconst 1, 1) := by decide +kernel
theorem dX11_lives_19 : decode cX11_lives 19 = .ok (.if_icmp .lt 8, 3) := by decide +kernel
theorem dX11_lives_22 : decode cX11_lives 22 = .ok (.iload_n 3, 1) := by decide +kernel
theorem dX11_lives_23 : decode cX11_lives 23 = .ok (.iconst 3, 1) := by decide +kernel
theorem dX11_lives_24 : decode cX11_lives 24 = .ok (.if_icmp .le 5, 3) := by decide +kernel
theorem dX11_lives_27 : decode cX11_lives 27 = .ok (.iconst (-1), 1) := by decide +kernel
theorem dX11_lives_28 : decode cX11_lives 28 = .ok (.ireturn, 1) := by decide +kernel
theorem dX11_lives_29 : decode cX11_lives 29 = .ok (.iconst 1, 1) := by decide +kernel
theorem dX11_lives_30 : decode cX11_lives 30 = .ok (.istore 5, 2) := by decide +kernel
theorem dX11_lives_32 : decode cX11_lives 32 = .ok (.iconst 1, 1) := by decide +kernel
theorem dX11_lives_33 : decode cX11_lives 33 = .ok (.istore 6, 2) := by decide +kernel
theorem dX11_lives_35 : decode cX11_lives 35 = .ok (.iload 6, 2) := by decide +kernel
theorem dX11_lives_37 : decode cX11_lives 37 = .ok (.iload_n 3, 1) := by decide +kernel
theorem dX11_lives_38 : decode cX11_lives 38 = .ok (.if_icmp .gt 76, 3) := by decide +kernel
theorem dX11_lives_41 : decode cX11_lives 41 = .ok (.iload 5, 2) := by decide +kernel
theorem dX11_lives_43 : decode cX11_lives 43 = .ok (.aload_n 0, 1) := by decide +kernel
theorem dX11_lives_44 : decode cX11_lives 44 = .ok (.getfield 24, 3) := by decide +kernel
theorem dX11_lives_47 : decode cX11_lives 47 = .ok (.getfield 201, 3) := by decide +kernel
theorem dX11_lives_50 : decode cX11_lives 50 = .ok (.imul, 1) := by decide +kernel
theorem dX11_lives_51 : decode cX11_lives 51 = .ok (.istore 5, 2) := by decide +kernel
theorem dX11_lives_53 : decode cX11_lives 53 = .ok (.iconst 0, 1) := by decide +kernel
theorem dX11_lives_54 : decode cX11_lives 54 = .ok (.istore 7, 2) := by decide +kernel
theorem dX11_lives_56 : decode cX11_lives 56 = .ok (.iload 7, 2) := by decide +kernel
theorem dX11_lives_58 : decode cX11_lives 58 = .ok (.iload 5, 2) := by decide +kernel
theorem dX11_lives_60 : decode cX11_lives 60 = .ok (.if_icmp .ge 48, 3) := by decide +kernel
theorem dX11_lives_63 : decode cX11_lives 63 = .ok (.aload_n 0, 1) := by decide +kernel
theorem dX11_lives_64 : decode cX11_lives 64 = .ok (.getfield 16, 3) := by decide +kernel
theorem dX11_lives_67 : decode cX11_lives 67 = .ok (.iload 6, 2) := by decide +kernel
theorem dX11_lives_69 : decode cX11_lives 69 = .ok (.iload 7, 2) := by decide +kernel
theorem dX11_lives_71 : decode cX11_lives 71 = .ok (.invokevirtual 204, 3) := by decide +kernel
theorem dX11_lives_74 : decode cX11_lives 74 = .ok (.aload_n 0, 1) := by decide +kernel
theorem dX11_lives_75 : decode cX11_lives 75 = .ok (.getfield 16, 3) := by decide +kernel
theorem dX11_lives_78 : decode cX11_lives 78 = .ok (.iload 4, 2) := by decide +kernel
theorem dX11_lives_80 : decode cX11_lives 80 = .ok (.aload_n 0, 1) := by decide +kernel
theorem dX11_lives_81 : decode cX11_lives 81 = .ok (.getfield 33, 3) := by decide +kernel
theorem dX11_lives_84 : decode cX11_lives 84 = .ok (.getfield 128, 3) := by decide +kernel
theorem dX11_lives_87 : decode cX11_lives 87 = .ok (.aload_n 0, 1) := by decide +kernel
theorem dX11_lives_88 : decode cX11_lives 88 = .ok (.getfield 33, 3) := by decide +kernel
theorem dX11_lives_91 : decode cX11_lives 91 = .ok (.getfield 131, 3) := by decide +kernel
theorem dX11_lives_94 : decode cX11_lives 94 = .ok (.invokevirtual 208, 3) := by decide +kernel
theorem dX11_lives_97 : decode cX11_lives 97 = .ok (.ifCond .eq 5, 3) := by decide +kernel
theorem dX11_lives_100 : decode cX11_lives 100 = .ok (.iconst 1, 1) := by decide +kernel
theorem dX11_lives_101 : decode cX11_lives 101 = .ok (.ireturn, 1) := by decide +kernel
theorem dX11_lives_102 : decode cX11_lives 102 = .ok (.iinc 7 1, 3) := by decide +kernel
theorem dX11_lives_105 : decode cX11_lives 105 = .ok (.goto (-49), 3) := by decide +kernel
theorem dX11_lives_108 : decode cX11_lives 108 = .ok (.iinc 6 1, 3) := by decide +kernel
theorem dX11_lives_111 : decode cX11_lives 111 = .ok (.goto (-76), 3) := by decide +kernel
theorem dX11_lives_114 : decode cX11_lives 114 = .ok (.iconst 0, 1) := by decide +kernel
theorem dX11_lives_115 : decode cX11_lives 115 = .ok (.ireturn, 1) := by decide +kernel
theorem dX11_firstParted_0 : decode cX11_firstParted 0 = .ok (.iconst 0, 1) := by decide +kernel
theorem dX11_firstParted_1 : decode cX11_firstParted 1 = .ok (.istore 4, 2) := by decide +kernel
theorem dX11_firstParted_3 : decode cX11_firstParted 3 = .ok (.iconst 1, 1) := by decide +kernel
theorem dX11_firstParted_4 : decode cX11_firstParted 4 = .ok (.istore 5, 2) := by decide +kernel
theorem dX11_firstParted_6 : decode cX11_firstParted 6 = .ok (.iconst 1, 1) := by decide +kernel
theorem dX11_firstParted_7 : decode cX11_firstParted 7 = .ok (.istore 6, 2) := by decide +kernel
theorem dX11_firstParted_9 : decode cX11_firstParted 9 = .ok (.iload 6, 2) := by decide +kernel
theorem dX11_firstParted_11 : decode cX11_firstParted 11 = .ok (.iload_n 3, 1) := by decide +kernel
theorem dX11_firstParted_12 : decode cX11_firstParted 12 = .ok (.if_icmp .gt 78, 3) := by decide +kernel
theorem dX11_firstParted_15 : decode cX11_firstParted 15 = .ok (.iload_n 1, 1) := by decide +kernel
theorem dX11_firstParted_16 : decode cX11_firstParted 16 = .ok (.iload_n 2, 1) := by decide +kernel
theorem dX11_firstParted_17 : decode cX11_firstParted 17 = .ok (.if_icmp .eq 73, 3) := by decide +kernel
theorem dX11_firstParted_20 : decode cX11_firstParted 20 = .ok (.iload 5, 2) := by decide +kernel
theorem dX11_firstParted_22 : decode cX11_firstParted 22 = .ok (.aload_n 0, 1) := by decide +kernel
theorem dX11_firstParted_23 : decode cX11_firstParted 23 = .ok (.getfield 24, 3) := by decide +kernel
theorem dX11_firstParted_26 : decode cX11_firstParted 26 = .ok (.getfield 201, 3) := by decide +kernel
theorem dX11_firstParted_29 : decode cX11_firstParted 29 = .ok (.imul, 1) := by decide +kernel
theorem dX11_firstParted_30 : decode cX11_firstParted 30 = .ok (.istore 5, 2) := by decide +kernel
theorem dX11_firstParted_32 : decode cX11_firstParted 32 = .ok (.iconst 0, 1) := by decide +kernel
theorem dX11_firstParted_33 : decode cX11_firstParted 33 = .ok (.istore 7, 2) := by decide +kernel
theorem dX11_firstParted_35 : decode cX11_firstParted 35 = .ok (.iload 7, 2) := by decide +kernel
theorem dX11_firstParted_37 : decode cX11_firstParted 37 = .ok (.iload 5, 2) := by decide +kernel
theorem dX11_firstParted_39 : decode cX11_firstParted 39 = .ok (.if_icmp .ge 45, 3) := by decide +kernel
theorem dX11_firstParted_42 : decode cX11_firstParted 42 = .ok (.aload_n 0, 1) := by decide +kernel
theorem dX11_firstParted_43 : decode cX11_firstParted 43 = .ok (.getfield 16, 3) := by decide +kernel
theorem dX11_firstParted_46 : decode cX11_firstParted 46 = .ok (.iload 6, 2) := by decide +kernel
theorem dX11_firstParted_48 : decode cX11_firstParted 48 = .ok (.iload 7, 2) := by decide +kernel
theorem dX11_firstParted_50 : decode cX11_firstParted 50 = .ok (.invokevirtual 204, 3) := by decide +kernel
theorem dX11_firstParted_53 : decode cX11_firstParted 53 = .ok (.aload_n 0, 1) := by decide +kernel
theorem dX11_firstParted_54 : decode cX11_firstParted 54 = .ok (.getfield 16, 3) := by decide +kernel
theorem dX11_firstParted_57 : decode cX11_firstParted 57 = .ok (.iload_n 1, 1) := by decide +kernel
theorem dX11_firstParted_58 : decode cX11_firstParted 58 = .ok (.iload_n 2, 1) := by decide +kernel
theorem dX11_firstParted_59 : decode cX11_firstParted 59 = .ok (.aload_n 0, 1) := by decide +kernel
theorem dX11_firstParted_60 : decode cX11_firstParted 60 = .ok (.getfield 33, 3) := by decide +kernel
theorem dX11_firstParted_63 : decode cX11_firstParted 63 = .ok (.getfield 131, 3) := by decide +kernel
theorem dX11_firstParted_66 : decode cX11_firstParted 66 = .ok (.invokevirtual 337, 3) := by decide +kernel
theorem dX11_firstParted_69 : decode cX11_firstParted 69 = .ok (.ifCond .eq 6, 3) := by decide +kernel
theorem dX11_firstParted_72 : decode cX11_firstParted 72 = .ok (.iload 4, 2) := by decide +kernel
theorem dX11_firstParted_74 : decode cX11_firstParted 74 = .ok (.ireturn, 1) := by decide +kernel
theorem dX11_firstParted_75 : decode cX11_firstParted 75 = .ok (.iinc 4 1, 3) := by decide +kernel
theorem dX11_firstParted_78 : decode cX11_firstParted 78 = .ok (.iinc 7 1, 3) := by decide +kernel
theorem dX11_firstParted_81 : decode cX11_firstParted 81 = .ok (.goto (-46), 3) := by decide +kernel
theorem dX11_firstParted_84 : decode cX11_firstParted 84 = .ok (.iinc 6 1, 3) := by decide +kernel
theorem dX11_firstParted_87 : decode cX11_firstParted 87 = .ok (.goto (-78), 3) := by decide +kernel
theorem dX11_firstParted_90 : decode cX11_firstParted 90 = .ok (.iconst (-1), 1) := by decide +kernel
theorem dX11_firstParted_91 : decode cX11_firstParted 91 = .ok (.ireturn, 1) := by decide +kernel
theorem dX11_parts_0 : decode cX11_parts 0 = .ok (.aload_n 0, 1) := by decide +kernel
theorem dX11_parts_1 : decode cX11_parts 1 = .ok (.iload_n 1, 1) := by decide +kernel
theorem dX11_parts_2 : decode cX11_parts 2 = .ok (.invokevirtual 124, 3) := by decide +kernel
theorem dX11_parts_5 : decode cX11_parts 5 = .ok (.ifCond .eq 21, 3) := by decide +kernel
theorem dX11_parts_8 : decode cX11_parts 8 = .ok (.aload_n 0, 1) := by decide +kernel
theorem dX11_parts_9 : decode cX11_parts 9 = .ok (.iload_n 2, 1) := by decide +kernel
theorem dX11_parts_10 : decode cX11_parts 10 = .ok (.invokevirtual 124, 3) := by decide +kernel
theorem dX11_parts_13 : decode cX11_parts 13 = .ok (.ifCond .eq 13, 3) := by decide +kernel
theorem dX11_parts_16 : decode cX11_parts 16 = .ok (.iload_n 3, 1) := by decide +kernel
theorem dX11_parts_17 : decode cX11_parts 17 = .ok (.iconst 1, 1) := by decide +kernel
theorem dX11_parts_18 : decode cX11_parts 18 = .ok (.if_icmp .lt 8, 3) := by decide +kernel
theorem dX11_parts_21 : decode cX11_parts 21 = .ok (.iload_n 3, 1) := by decide +kernel
theorem dX11_parts_22 : decode cX11_parts 22 = .ok (.iconst 3, 1) := by decide +kernel
theorem dX11_parts_23 : decode cX11_parts 23 = .ok (.if_icmp .le 6, 3) := by decide +kernel
theorem dX11_parts_26 : decode cX11_parts 26 = .ok (.bipush (-2), 2) := by decide +kernel
theorem dX11_parts_28 : decode cX11_parts 28 = .ok (.ireturn, 1) := by decide +kernel
theorem dX11_parts_29 : decode cX11_parts 29 = .ok (.aload_n 0, 1) := by decide +kernel
theorem dX11_parts_30 : decode cX11_parts 30 = .ok (.iload_n 1, 1) := by decide +kernel
theorem dX11_parts_31 : decode cX11_parts 31 = .ok (.iload_n 2, 1) := by decide +kernel
theorem dX11_parts_32 : decode cX11_parts 32 = .ok (.iload_n 3, 1) := by decide +kernel
theorem dX11_parts_33 : decode cX11_parts 33 = .ok (.invokevirtual 241, 3) := by decide +kernel
theorem dX11_parts_36 : decode cX11_parts 36 = .ok (.ireturn, 1) := by decide +kernel
theorem dX11_idle_0 : decode cX11_idle 0 = .ok (.aload_n 0, 1) := by decide +kernel
theorem dX11_idle_1 : decode cX11_idle 1 = .ok (.iload_n 1, 1) := by decide +kernel
theorem dX11_idle_2 : decode cX11_idle 2 = .ok (.invokevirtual 192, 3) := by decide +kernel
theorem dX11_idle_5 : decode cX11_idle 5 = .ok (.ifCond .eq 27, 3) := by decide +kernel
theorem dX11_idle_8 : decode cX11_idle 8 = .ok (.iload_n 2, 1) := by decide +kernel
theorem dX11_idle_9 : decode cX11_idle 9 = .ok (.iconst 1, 1) := by decide +kernel
theorem dX11_idle_10 : decode cX11_idle 10 = .ok (.if_icmp .lt 22, 3) := by decide +kernel
theorem dX11_idle_13 : decode cX11_idle 13 = .ok (.iload_n 2, 1) := by decide +kernel
theorem dX11_idle_14 : decode cX11_idle 14 = .ok (.iconst 3, 1) := by decide +kernel
theorem dX11_idle_15 : decode cX11_idle 15 = .ok (.if_icmp .gt 17, 3) := by decide +kernel
theorem dX11_idle_18 : decode cX11_idle 18 = .ok (.aload_n 0, 1) := by decide +kernel
theorem dX11_idle_19 : decode cX11_idle 19 = .ok (.getfield 33, 3) := by decide +kernel
theorem dX11_idle_22 : decode cX11_idle 22 = .ok (.getfield 128, 3) := by decide +kernel
theorem dX11_idle_25 : decode cX11_idle 25 = .ok (.iload_n 1, 1) := by decide +kernel
theorem dX11_idle_26 : decode cX11_idle 26 = .ok (.ishr, 1) := by decide +kernel
theorem dX11_idle_27 : decode cX11_idle 27 = .ok (.iconst 1, 1) := by decide +kernel
theorem dX11_idle_28 : decode cX11_idle 28 = .ok (.iand, 1) := by decide +kernel
theorem dX11_idle_29 : decode cX11_idle 29 = .ok (.ifCond .ne 5, 3) := by decide +kernel
theorem dX11_idle_32 : decode cX11_idle 32 = .ok (.iconst (-1), 1) := by decide +kernel
theorem dX11_idle_33 : decode cX11_idle 33 = .ok (.ireturn, 1) := by decide +kernel
theorem dX11_idle_34 : decode cX11_idle 34 = .ok (.aload_n 0, 1) := by decide +kernel
theorem dX11_idle_35 : decode cX11_idle 35 = .ok (.getfield 33, 3) := by decide +kernel
theorem dX11_idle_38 : decode cX11_idle 38 = .ok (.getfield 128, 3) := by decide +kernel
theorem dX11_idle_41 : decode cX11_idle 41 = .ok (.iconst 1, 1) := by decide +kernel
theorem dX11_idle_42 : decode cX11_idle 42 = .ok (.iload_n 1, 1) := by decide +kernel
theorem dX11_idle_43 : decode cX11_idle 43 = .ok (.ishl, 1) := by decide +kernel
theorem dX11_idle_44 : decode cX11_idle 44 = .ok (.iconst (-1), 1) := by decide +kernel
theorem dX11_idle_45 : decode cX11_idle 45 = .ok (.ixor, 1) := by decide +kernel
theorem dX11_idle_46 : decode cX11_idle 46 = .ok (.iand, 1) := by decide +kernel
theorem dX11_idle_47 : decode cX11_idle 47 = .ok (.istore_n 3, 1) := by decide +kernel
theorem dX11_idle_48 : decode cX11_idle 48 = .ok (.aload_n 0, 1) := by decide +kernel
theorem dX11_idle_49 : decode cX11_idle 49 = .ok (.aload_n 0, 1) := by decide +kernel
theorem dX11_idle_50 : decode cX11_idle 50 = .ok (.getfield 33, 3) := by decide +kernel
theorem dX11_idle_53 : decode cX11_idle 53 = .ok (.getfield 128, 3) := by decide +kernel
theorem dX11_idle_56 : decode cX11_idle 56 = .ok (.iload_n 3, 1) := by decide +kernel
theorem dX11_idle_57 : decode cX11_idle 57 = .ok (.iload_n 2, 1) := by decide +kernel
theorem dX11_idle_58 : decode cX11_idle 58 = .ok (.invokevirtual 241, 3) := by decide +kernel
theorem dX11_idle_61 : decode cX11_idle 61 = .ok (.iconst (-1), 1) := by decide +kernel
theorem dX11_idle_62 : decode cX11_idle 62 = .ok (.if_icmp .ne 7, 3) := by decide +kernel
theorem dX11_idle_65 : decode cX11_idle 65 = .ok (.iconst 1, 1) := by decide +kernel
theorem dX11_idle_66 : decode cX11_idle 66 = .ok (.goto 4, 3) := by decide +kernel
theorem dX11_idle_69 : decode cX11_idle 69 = .ok (.iconst 0, 1) := by decide +kernel
theorem dX11_idle_70 : decode cX11_idle 70 = .ok (.ireturn, 1) := by decide +kernel
theorem dX11_fewest_0 : decode cX11_fewest 0 = .ok (.iload_n 1, 1) := by decide +kernel
theorem dX11_fewest_1 : decode cX11_fewest 1 = .ok (.iconst 1, 1) := by decide +kernel
theorem dX11_fewest_2 : decode cX11_fewest 2 = .ok (.if_icmp .lt 8, 3) := by decide +kernel
theorem dX11_fewest_5 : decode cX11_fewest 5 = .ok (.iload_n 1, 1) := by decide +kernel
theorem dX11_fewest_6 : decode cX11_fewest 6 = .ok (.iconst 2, 1) := by decide +kernel
theorem dX11_fewest_7 : decode cX11_fewest 7 = .ok (.if_icmp .le 5, 3) := by decide +kernel
theorem dX11_fewest_10 : decode cX11_fewest 10 = .ok (.iconst (-1), 1) := by decide +kernel
theorem dX11_fewest_11 : decode cX11_fewest 11 = .ok (.ireturn, 1) := by decide +kernel
theorem dX11_fewest_12 : decode cX11_fewest 12 = .ok (.aload_n 0, 1) := by decide +kernel
theorem dX11_fewest_13 : decode cX11_fewest 13 = .ok (.getfield 16, 3) := by decide +kernel
theorem dX11_fewest_16 : decode cX11_fewest 16 = .ok (.invokevirtual 245, 3) := by decide +kernel
theorem dX11_fewest_19 : decode cX11_fewest 19 = .ok (.iconst 1, 1) := by decide +kernel
theorem dX11_fewest_20 : decode cX11_fewest 20 = .ok (.istore_n 2, 1) := by decide +kernel
theorem dX11_fewest_21 : decode cX11_fewest 21 = .ok (.iconst 1, 1) := by decide +kernel
theorem dX11_fewest_22 : decode cX11_fewest 22 = .ok (.istore_n 3, 1) := by decide +kernel
theorem dX11_fewest_23 : decode cX11_fewest 23 = .ok (.iload_n 3, 1) := by decide +kernel
theorem dX11_fewest_24 : decode cX11_fewest 24 = .ok (.iload_n 1, 1) := by decide +kernel
theorem dX11_fewest_25 : decode cX11_fewest 25 = .ok (.if_icmp .gt 65, 3) := by decide +kernel
theorem dX11_fewest_28 : decode cX11_fewest 28 = .ok (.iload_n 2, 1) := by decide +kernel
theorem dX11_fewest_29 : decode cX11_fewest 29 = .ok (.aload_n 0, 1) := by decide +kernel
theorem dX11_fewest_30 : decode cX11_fewest 30 = .ok (.getfield 24, 3) := by decide +kernel
theorem dX11_fewest_33 : decode cX11_fewest 33 = .ok (.getfield 201, 3) := by decide +kernel
theorem dX11_fewest_36 : decode cX11_fewest 36 = .ok (.imul, 1) := by decide +kernel
theorem dX11_fewest_37 : decode cX11_fewest 37 = .ok (.istore_n 2, 1) := by decide +kernel
theorem dX11_fewest_38 : decode cX11_fewest 38 = .ok (.iconst 0, 1) := by decide +kernel
theorem dX11_fewest_39 : decode cX11_fewest 39 = .ok (.istore 4, 2) := by decide +kernel
theorem dX11_fewest_41 : decode cX11_fewest 41 = .ok (.iload 4, 2) := by decide +kernel
theorem dX11_fewest_43 : decode cX11_fewest 43 = .ok (.iload_n 2, 1) := by decide +kernel
theorem dX11_fewest_44 : decode cX11_fewest 44 = .ok (.if_icmp .ge 40, 3) := by decide +kernel
theorem dX11_fewest_47 : decode cX11_fewest 47 = .ok (.aload_n 0, 1) := by decide +kernel
theorem dX11_fewest_48 : decode cX11_fewest 48 = .ok (.getfield 16, 3) := by decide +kernel
theorem dX11_fewest_51 : decode cX11_fewest 51 = .ok (.iload_n 3, 1) := by decide +kernel
theorem dX11_fewest_52 : decode cX11_fewest 52 = .ok (.iload 4, 2) := by decide +kernel
theorem dX11_fewest_54 : decode cX11_fewest 54 = .ok (.invokevirtual 204, 3) := by decide +kernel
theorem dX11_fewest_57 : decode cX11_fewest 57 = .ok (.aload_n 0, 1) := by decide +kernel
theorem dX11_fewest_58 : decode cX11_fewest 58 = .ok (.getfield 16, 3) := by decide +kernel
theorem dX11_fewest_61 : decode cX11_fewest 61 = .ok (.aload_n 0, 1) := by decide +kernel
theorem dX11_fewest_62 : decode cX11_fewest 62 = .ok (.getfield 33, 3) := by decide +kernel
theorem dX11_fewest_65 : decode cX11_fewest 65 = .ok (.getfield 128, 3) := by decide +kernel
theorem dX11_fewest_68 : decode cX11_fewest 68 = .ok (.aload_n 0, 1) := by decide +kernel
theorem dX11_fewest_69 : decode cX11_fewest 69 = .ok (.getfield 33, 3) := by decide +kernel
theorem dX11_fewest_72 : decode cX11_fewest 72 = .ok (.getfield 131, 3) := by decide +kernel
theorem dX11_fewest_75 : decode cX11_fewest 75 = .ok (.invokevirtual 248, 3) := by decide +kernel
theorem dX11_fewest_78 : decode cX11_fewest 78 = .ok (.iinc 4 1, 3) := by decide +kernel
theorem dX11_fewest_81 : decode cX11_fewest 81 = .ok (.goto (-40), 3) := by decide +kernel
theorem dX11_fewest_84 : decode cX11_fewest 84 = .ok (.iinc 3 1, 3) := by decide +kernel
theorem dX11_fewest_87 : decode cX11_fewest 87 = .ok (.goto (-64), 3) := by decide +kernel
theorem dX11_fewest_90 : decode cX11_fewest 90 = .ok (.aload_n 0, 1) := by decide +kernel
theorem dX11_fewest_91 : decode cX11_fewest 91 = .ok (.getfield 16, 3) := by decide +kernel
theorem dX11_fewest_94 : decode cX11_fewest 94 = .ok (.aload_n 0, 1) := by decide +kernel
theorem dX11_fewest_95 : decode cX11_fewest 95 = .ok (.getfield 33, 3) := by decide +kernel
theorem dX11_fewest_98 : decode cX11_fewest 98 = .ok (.getfield 128, 3) := by decide +kernel
theorem dX11_fewest_101 : decode cX11_fewest 101 = .ok (.invokevirtual 251, 3) := by decide +kernel
theorem dX11_fewest_104 : decode cX11_fewest 104 = .ok (.ireturn, 1) := by decide +kernel
theorem dX11_example_0 : decode cX11_example 0 = .ok (.aload_n 0, 1) := by decide +kernel
theorem dX11_example_1 : decode cX11_example 1 = .ok (.invokevirtual 83, 3) := by decide +kernel
theorem dX11_example_4 : decode cX11_example 4 = .ok (.istore_n 2, 1) := by decide +kernel
theorem dX11_example_5 : decode cX11_example 5 = .ok (.aload_n 0, 1) := by decide +kernel
theorem dX11_example_6 : decode cX11_example 6 = .ok (.getfield 33, 3) := by decide +kernel
theorem dX11_example_9 : decode cX11_example 9 = .ok (.getfield 254, 3) := by decide +kernel
theorem dX11_example_12 : decode cX11_example 12 = .ok (.getfield 156, 3) := by decide +kernel
theorem dX11_example_15 : decode cX11_example 15 = .ok (.bipush 12, 2) := by decide +kernel
theorem dX11_example_17 : decode cX11_example 17 = .ok (.if_icmp .lt 5, 3) := by decide +kernel
theorem dX11_example_20 : decode cX11_example 20 = .ok (.iconst (-1), 1) := by decide +kernel
theorem dX11_example_21 : decode cX11_example 21 = .ok (.ireturn, 1) := by decide +kernel
theorem dX11_example_22 : decode cX11_example 22 = .ok (.aload_n 0, 1) := by decide +kernel
theorem dX11_example_23 : decode cX11_example 23 = .ok (.iload_n 2, 1) := by decide +kernel
theorem dX11_example_24 : decode cX11_example 24 = .ok (.invokevirtual 257, 3) := by decide +kernel
theorem dX11_example_27 : decode cX11_example 27 = .ok (.istore_n 3, 1) := by decide +kernel
theorem dX11_example_28 : decode cX11_example 28 = .ok (.iload_n 2, 1) := by decide +kernel
theorem dX11_example_29 : decode cX11_example 29 = .ok (.iload_n 3, 1) := by decide +kernel
theorem dX11_example_30 : decode cX11_example 30 = .ok (.isub, 1) := by decide +kernel
theorem dX11_example_31 : decode cX11_example 31 = .ok (.iconst 1, 1) := by decide +kernel
theorem dX11_example_32 : decode cX11_example 32 = .ok (.isub, 1) := by decide +kernel
theorem dX11_example_33 : decode cX11_example 33 = .ok (.istore 4, 2) := by decide +kernel
theorem dX11_example_35 : decode cX11_example 35 = .ok (.iload_n 3, 1) := by decide +kernel
theorem dX11_example_36 : decode cX11_example 36 = .ok (.iconst (-1), 1) := by decide +kernel
theorem dX11_example_37 : decode cX11_example 37 = .ok (.if_icmp .eq 21, 3) := by decide +kernel
theorem dX11_example_40 : decode cX11_example 40 = .ok (.iload_n 3, 1) := by decide +kernel
theorem dX11_example_41 : decode cX11_example 41 = .ok (.bipush 8, 2) := by decide +kernel
theorem dX11_example_43 : decode cX11_example 43 = .ok (.if_icmp .gt 15, 3) := by decide +kernel
theorem dX11_example_46 : decode cX11_example 46 = .ok (.iload 4, 2) := by decide +kernel
theorem dX11_example_48 : decode cX11_example 48 = .ok (.bipush 8, 2) := by decide +kernel
theorem dX11_example_50 : decode cX11_example 50 = .ok (.if_icmp .gt 8, 3) := by decide +kernel
theorem dX11_example_53 : decode cX11_example 53 = .ok (.iload_n 2, 1) := by decide +kernel
theorem dX11_example_54 : decode cX11_example 54 = .ok (.iconst 2, 1) := by decide +kernel
theorem dX11_example_55 : decode cX11_example 55 = .ok (.if_icmp .ge 5, 3) := by decide +kernel
theorem dX11_example_58 : decode cX11_example 58 = .ok (.iconst (-1), 1) := by decide +kernel
theorem dX11_example_59 : decode cX11_example 59 = .ok (.ireturn, 1) := by decide +kernel
theorem dX11_example_60 : decode cX11_example 60 = .ok (.aload_n 0, 1) := by decide +kernel
theorem dX11_example_61 : decode cX11_example 61 = .ok (.iconst 0, 1) := by decide +kernel
theorem dX11_example_62 : decode cX11_example 62 = .ok (.iload_n 3, 1) := by decide +kernel
theorem dX11_example_63 : decode cX11_example 63 = .ok (.invokevirtual 260, 3) := by decide +kernel
theorem dX11_example_66 : decode cX11_example 66 = .ok (.ifCond .eq 14, 3) := by decide +kernel
theorem dX11_example_69 : decode cX11_example 69 = .ok (.aload_n 0, 1) := by decide +kernel
theorem dX11_example_70 : decode cX11_example 70 = .ok (.iload_n 3, 1) := by decide +kernel
theorem dX11_example_71 : decode cX11_example 71 = .ok (.iconst 1, 1) := by decide +kernel
theorem dX11_example_72 : decode cX11_example 72 = .ok (.iadd, 1) := by decide +kernel
theorem dX11_example_73 : decode cX11_example 73 = .ok (.iload_n 2, 1) := by decide +kernel
theorem dX11_example_74 : decode cX11_example 74 = .ok (.invokevirtual 260, 3) := by decide +kernel
theorem dX11_example_77 : decode cX11_example 77 = .ok (.ifCond .ne 5, 3) := by decide +kernel
theorem dX11_example_80 : decode cX11_example 80 = .ok (.iconst (-1), 1) := by decide +kernel
theorem dX11_example_81 : decode cX11_example 81 = .ok (.ireturn, 1) := by decide +kernel
theorem dX11_example_82 : decode cX11_example 82 = .ok (.aload_n 0, 1) := by decide +kernel
theorem dX11_example_83 : decode cX11_example 83 = .ok (.getfield 33, 3) := by decide +kernel
theorem dX11_example_86 : decode cX11_example 86 = .ok (.iload_n 1, 1) := by decide +kernel
theorem dX11_example_87 : decode cX11_example 87 = .ok (.invokevirtual 264, 3) := by decide +kernel
theorem dX11_example_90 : decode cX11_example 90 = .ok (.iconst 0, 1) := by decide +kernel
theorem dX11_example_91 : decode cX11_example 91 = .ok (.istore 5, 2) := by decide +kernel
theorem dX11_example_93 : decode cX11_example 93 = .ok (.iload 5, 2) := by decide +kernel
theorem dX11_example_95 : decode cX11_example 95 = .ok (.iload_n 3, 1) := by decide +kernel
theorem dX11_example_96 : decode cX11_example 96 = .ok (.if_icmp .ge 33, 3) := by decide +kernel
theorem dX11_example_99 : decode cX11_example 99 = .ok (.aload_n 0, 1) := by decide +kernel
theorem dX11_example_100 : decode cX11_example 100 = .ok (.getfield 33, 3) := by decide +kernel
theorem dX11_example_103 : decode cX11_example 103 = .ok (.getfield 254, 3) := by decide +kernel
theorem dX11_example_106 : decode cX11_example 106 = .ok (.aload_n 0, 1) := by decide +kernel
theorem dX11_example_107 : decode cX11_example 107 = .ok (.getfield 24, 3) := by decide +kernel
theorem dX11_example_110 : decode cX11_example 110 = .ok (.aload_n 0, 1) := by decide +kernel
theorem dX11_example_111 : decode cX11_example 111 = .ok (.getfield 9, 3) := by decide +kernel
theorem dX11_example_114 : decode cX11_example 114 = .ok (.iload 5, 2) := by decide +kernel
theorem dX11_example_116 : decode cX11_example 116 = .ok (.iaload, 1) := by decide +kernel
theorem dX11_example_117 : decode cX11_example 117 = .ok (.invokevirtual 268, 3) := by decide +kernel
theorem dX11_example_120 : decode cX11_example 120 = .ok (.invokevirtual 271, 3) := by decide +kernel
theorem dX11_example_123 : decode cX11_example 123 = .ok (.iinc 5 1, 3) := by decide +kernel
theorem dX11_example_126 : decode cX11_example 126 = .ok (.goto (-33), 3) := by decide +kernel
theorem dX11_example_129 : decode cX11_example 129 = .ok (.iload_n 3, 1) := by decide +kernel
theorem dX11_example_130 : decode cX11_example 130 = .ok (.iconst 1, 1) := by decide +kernel
theorem dX11_example_131 : decode cX11_example 131 = .ok (.iadd, 1) := by decide +kernel
theorem dX11_example_132 : decode cX11_example 132 = .ok (.istore 5, 2) := by decide +kernel
theorem dX11_example_134 : decode cX11_example 134 = .ok (.iload 5, 2) := by decide +kernel
theorem dX11_example_136 : decode cX11_example 136 = .ok (.iload_n 2, 1) := by decide +kernel
theorem dX11_example_137 : decode cX11_example 137 = .ok (.if_icmp .ge 33, 3) := by decide +kernel
theorem dX11_example_140 : decode cX11_example 140 = .ok (.aload_n 0, 1) := by decide +kernel
theorem dX11_example_141 : decode cX11_example 141 = .ok (.getfield 33, 3) := by decide +kernel
theorem dX11_example_144 : decode cX11_example 144 = .ok (.getfield 274, 3) := by decide +kernel
theorem dX11_example_147 : decode cX11_example 147 = .ok (.aload_n 0, 1) := by decide +kernel
theorem dX11_example_148 : decode cX11_example 148 = .ok (.getfield 24, 3) := by decide +kernel
theorem dX11_example_151 : decode cX11_example 151 = .ok (.aload_n 0, 1) := by decide +kernel
theorem dX11_example_152 : decode cX11_example 152 = .ok (.getfield 9, 3) := by decide +kernel
theorem dX11_example_155 : decode cX11_example 155 = .ok (.iload 5, 2) := by decide +kernel
theorem dX11_example_157 : decode cX11_example 157 = .ok (.iaload, 1) := by decide +kernel
theorem dX11_example_158 : decode cX11_example 158 = .ok (.invokevirtual 268, 3) := by decide +kernel
theorem dX11_example_161 : decode cX11_example 161 = .ok (.invokevirtual 271, 3) := by decide +kernel
theorem dX11_example_164 : decode cX11_example 164 = .ok (.iinc 5 1, 3) := by decide +kernel
theorem dX11_example_167 : decode cX11_example 167 = .ok (.goto (-33), 3) := by decide +kernel
theorem dX11_example_170 : decode cX11_example 170 = .ok (.aload_n 0, 1) := by decide +kernel
theorem dX11_example_171 : decode cX11_example 171 = .ok (.getfield 33, 3) := by decide +kernel
theorem dX11_example_174 : decode cX11_example 174 = .ok (.getfield 254, 3) := by decide +kernel
theorem dX11_example_177 : decode cX11_example 177 = .ok (.getfield 156, 3) := by decide +kernel
theorem dX11_example_180 : decode cX11_example 180 = .ok (.iconst 1, 1) := by decide +kernel
theorem dX11_example_181 : decode cX11_example 181 = .ok (.isub, 1) := by decide +kernel
theorem dX11_example_182 : decode cX11_example 182 = .ok (.ireturn, 1) := by decide +kernel
theorem dX11_learn_0 : decode cX11_learn 0 = .ok (.aload_n 0, 1) := by decide +kernel
theorem dX11_learn_1 : decode cX11_learn 1 = .ok (.getfield 33, 3) := by decide +kernel
theorem dX11_learn_4 : decode cX11_learn 4 = .ok (.aload_n 0, 1) := by decide +kernel
theorem dX11_learn_5 : decode cX11_learn 5 = .ok (.getfield 16, 3) := by decide +kernel
theorem dX11_learn_8 : decode cX11_learn 8 = .ok (.aload_n 0, 1) := by decide +kernel
theorem dX11_learn_9 : decode cX11_learn 9 = .ok (.getfield 24, 3) := by decide +kernel
theorem dX11_learn_12 : decode cX11_learn 12 = .ok (.getfield 98, 3) := by decide +kernel
theorem dX11_learn_15 : decode cX11_learn 15 = .ok (.invokevirtual 277, 3) := by decide +kernel
theorem dX11_learn_18 : decode cX11_learn 18 = .ok (.aload_n 0, 1) := by decide +kernel
theorem dX11_learn_19 : decode cX11_learn 19 = .ok (.getfield 33, 3) := by decide +kernel
theorem dX11_learn_22 : decode cX11_learn 22 = .ok (.aload_n 0, 1) := by decide +kernel
theorem dX11_learn_23 : decode cX11_learn 23 = .ok (.getfield 24, 3) := by decide +kernel
theorem dX11_learn_26 : decode cX11_learn 26 = .ok (.getfield 98, 3) := by decide +kernel
theorem dX11_learn_29 : decode cX11_learn 29 = .ok (.invokevirtual 284, 3) := by decide +kernel
theorem dX11_learn_32 : decode cX11_learn 32 = .ok (.ireturn, 1) := by decide +kernel
theorem dX11_fits_0 : decode cX11_fits 0 = .ok (.aload_n 0, 1) := by decide +kernel
theorem dX11_fits_1 : decode cX11_fits 1 = .ok (.iload_n 1, 1) := by decide +kernel
theorem dX11_fits_2 : decode cX11_fits 2 = .ok (.invokevirtual 124, 3) := by decide +kernel
theorem dX11_fits_5 : decode cX11_fits 5 = .ok (.ifCond .ne 5, 3) := by decide +kernel
theorem dX11_fits_8 : decode cX11_fits 8 = .ok (.iconst (-1), 1) := by decide +kernel
theorem dX11_fits_9 : decode cX11_fits 9 = .ok (.ireturn, 1) := by decide +kernel
theorem dX11_fits_10 : decode cX11_fits 10 = .ok (.aload_n 0, 1) := by decide +kernel
theorem dX11_fits_11 : decode cX11_fits 11 = .ok (.getfield 33, 3) := by decide +kernel
theorem dX11_fits_14 : decode cX11_fits 14 = .ok (.aload_n 0, 1) := by decide +kernel
theorem dX11_fits_15 : decode cX11_fits 15 = .ok (.getfield 16, 3) := by decide +kernel
theorem dX11_fits_18 : decode cX11_fits 18 = .ok (.aload_n 0, 1) := by decide +kernel
theorem dX11_fits_19 : decode cX11_fits 19 = .ok (.getfield 24, 3) := by decide +kernel
theorem dX11_fits_22 : decode cX11_fits 22 = .ok (.getfield 98, 3) := by decide +kernel
theorem dX11_fits_25 : decode cX11_fits 25 = .ok (.invokevirtual 277, 3) := by decide +kernel
theorem dX11_fits_28 : decode cX11_fits 28 = .ok (.aload_n 0, 1) := by decide +kernel
theorem dX11_fits_29 : decode cX11_fits 29 = .ok (.getfield 33, 3) := by decide +kernel
theorem dX11_fits_32 : decode cX11_fits 32 = .ok (.iload_n 1, 1) := by decide +kernel
theorem dX11_fits_33 : decode cX11_fits 33 = .ok (.invokevirtual 281, 3) := by decide +kernel
theorem dX11_fits_36 : decode cX11_fits 36 = .ok (.iconst (-1), 1) := by decide +kernel
theorem dX11_fits_37 : decode cX11_fits 37 = .ok (.if_icmp .ne 7, 3) := by decide +kernel
theorem dX11_fits_40 : decode cX11_fits 40 = .ok (.iconst 1, 1) := by decide +kernel
theorem dX11_fits_41 : decode cX11_fits 41 = .ok (.goto 4, 3) := by decide +kernel
theorem dX11_fits_44 : decode cX11_fits 44 = .ok (.iconst 0, 1) := by decide +kernel
theorem dX11_fits_45 : decode cX11_fits 45 = .ok (.ireturn, 1) := by decide +kernel
theorem dX11_forced_0 : decode cX11_forced 0 = .ok (.aload_n 0, 1) := by decide +kernel
theorem dX11_forced_1 : decode cX11_forced 1 = .ok (.iload_n 1, 1) := by decide +kernel
theorem dX11_forced_2 : decode cX11_forced 2 = .ok (.invokevirtual 192, 3) := by decide +kernel
theorem dX11_forced_5 : decode cX11_forced 5 = .ok (.ifCond .ne 5, 3) := by decide +kernel
theorem dX11_forced_8 : decode cX11_forced 8 = .ok (.iconst (-1), 1) := by decide +kernel
theorem dX11_forced_9 : decode cX11_forced 9 = .ok (.ireturn, 1) := by decide +kernel
theorem dX11_forced_10 : decode cX11_forced 10 = .ok (.aload_n 0, 1) := by decide +kernel
theorem dX11_forced_11 : decode cX11_forced 11 = .ok (.invokevirtual 287, 3) := by decide +kernel
theorem dX11_forced_14 : decode cX11_forced 14 = .ok (.istore_n 2, 1) := by decide +kernel
theorem dX11_forced_15 : decode cX11_forced 15 = .ok (.iload_n 2, 1) := by decide +kernel
theorem dX11_forced_16 : decode cX11_forced 16 = .ok (.iconst (-1), 1) := by decide +kernel
theorem dX11_forced_17 : decode cX11_forced 17 = .ok (.if_icmp .eq 11, 3) := by decide +kernel
theorem dX11_forced_20 : decode cX11_forced 20 = .ok (.iload_n 2, 1) := by decide +kernel
theorem dX11_forced_21 : decode cX11_forced 21 = .ok (.iload_n 1, 1) := by decide +kernel
