theorem dX11_putNumber_25 : decode cX11_putNumber 25 = .ok (.getfield 76, 3) := by decide +kernel
theorem dX11_putNumber_28 : decode cX11_putNumber 28 = .ok (.iconst 1, 1) := by decide +kernel
theorem dX11_putNumber_29 : decode cX11_putNumber 29 = .ok (.iadd, 1) := by decide +kernel
theorem dX11_putNumber_30 : decode cX11_putNumber 30 = .ok (.putfield 76, 3) := by decide +kernel
theorem dX11_putNumber_33 : decode cX11_putNumber 33 = .ok (.iinc 2 (-8), 3) := by decide +kernel
theorem dX11_putNumber_36 : decode cX11_putNumber 36 = .ok (.goto (-33), 3) := by decide +kernel
theorem dX11_putNumber_39 : decode cX11_putNumber 39 = .ok (.return_, 1) := by decide +kernel
theorem dX11_feed_0 : decode cX11_feed 0 = .ok (.aload_n 0, 1) := by decide +kernel
theorem dX11_feed_1 : decode cX11_feed 1 = .ok (.getfield 76, 3) := by decide +kernel
theorem dX11_feed_4 : decode cX11_feed 4 = .ok (.bipush 20, 2) := by decide +kernel
theorem dX11_feed_6 : decode cX11_feed 6 = .ok (.iadd, 1) := by decide +kernel
theorem dX11_feed_7 : decode cX11_feed 7 = .ok (.sipush 600, 3) := by decide +kernel
theorem dX11_feed_10 : decode cX11_feed 10 = .ok (.if_icmp .le 5, 3) := by decide +kernel
theorem dX11_feed_13 : decode cX11_feed 13 = .ok (.iconst (-1), 1) := by decide +kernel
theorem dX11_feed_14 : decode cX11_feed 14 = .ok (.ireturn, 1) := by decide +kernel
theorem dX11_feed_15 : decode cX11_feed 15 = .ok (.aload_n 0, 1) := by decide +kernel
theorem dX11_feed_16 : decode cX11_feed 16 = .ok (.iload_n 1, 1) := by decide +kernel
theorem dX11_feed_17 : decode cX11_feed 17 = .ok (.invokevirtual 79, 3) := by decide +kernel
theorem dX11_feed_20 : decode cX11_feed 20 = .ok (.aload_n 0, 1) := by decide +kernel
theorem dX11_feed_21 : decode cX11_feed 21 = .ok (.iload_n 2, 1) := by decide +kernel
theorem dX11_feed_22 : decode cX11_feed 22 = .ok (.invokevirtual 79, 3) := by decide +kernel
theorem dX11_feed_25 : decode cX11_feed 25 = .ok (.aload_n 0, 1) := by decide +kernel
theorem dX11_feed_26 : decode cX11_feed 26 = .ok (.iload_n 3, 1) := by decide +kernel
theorem dX11_feed_27 : decode cX11_feed 27 = .ok (.invokevirtual 79, 3) := by decide +kernel
theorem dX11_feed_30 : decode cX11_feed 30 = .ok (.aload_n 0, 1) := by decide +kernel
theorem dX11_feed_31 : decode cX11_feed 31 = .ok (.iload 4, 2) := by decide +kernel
theorem dX11_feed_33 : decode cX11_feed 33 = .ok (.invokevirtual 79, 3) := by decide +kernel
theorem dX11_feed_36 : decode cX11_feed 36 = .ok (.aload_n 0, 1) := by decide +kernel
theorem dX11_feed_37 : decode cX11_feed 37 = .ok (.iload 5, 2) := by decide +kernel
theorem dX11_feed_39 : decode cX11_feed 39 = .ok (.invokevirtual 79, 3) := by decide +kernel
theorem dX11_feed_42 : decode cX11_feed 42 = .ok (.aload_n 0, 1) := by decide +kernel
theorem dX11_feed_43 : decode cX11_feed 43 = .ok (.getfield 76, 3) := by decide +kernel
theorem dX11_feed_46 : decode cX11_feed 46 = .ok (.ireturn, 1) := by decide +kernel
theorem dX11_areLetters_0 : decode cX11_areLetters 0 = .ok (.iload_n 1, 1) := by decide +kernel
theorem dX11_areLetters_1 : decode cX11_areLetters 1 = .ok (.istore_n 3, 1) := by decide +kernel
theorem dX11_areLetters_2 : decode cX11_areLetters 2 = .ok (.iload_n 3, 1) := by decide +kernel
theorem dX11_areLetters_3 : decode cX11_areLetters 3 = .ok (.iload_n 2, 1) := by decide +kernel
theorem dX11_areLetters_4 : decode cX11_areLetters 4 = .ok (.if_icmp .ge 27, 3) := by decide +kernel
theorem dX11_areLetters_7 : decode cX11_areLetters 7 = .ok (.aload_n 0, 1) := by decide +kernel
theorem dX11_areLetters_8 : decode cX11_areLetters 8 = .ok (.getfield 24, 3) := by decide +kernel
theorem dX11_areLetters_11 : decode cX11_areLetters 11 = .ok (.aload_n 0, 1) := by decide +kernel
theorem dX11_areLetters_12 : decode cX11_areLetters 12 = .ok (.getfield 9, 3) := by decide +kernel
theorem dX11_areLetters_15 : decode cX11_areLetters 15 = .ok (.iload_n 3, 1) := by decide +kernel
theorem dX11_areLetters_16 : decode cX11_areLetters 16 = .ok (.iaload, 1) := by decide +kernel
theorem dX11_areLetters_17 : decode cX11_areLetters 17 = .ok (.invokevirtual 268, 3) := by decide +kernel
theorem dX11_areLetters_20 : decode cX11_areLetters 20 = .ok (.ifCond .ne 5, 3) := by decide +kernel
theorem dX11_areLetters_23 : decode cX11_areLetters 23 = .ok (.iconst 0, 1) := by decide +kernel
theorem dX11_areLetters_24 : decode cX11_areLetters 24 = .ok (.ireturn, 1) := by decide +kernel
theorem dX11_areLetters_25 : decode cX11_areLetters 25 = .ok (.iinc 3 1, 3) := by decide +kernel
theorem dX11_areLetters_28 : decode cX11_areLetters 28 = .ok (.goto (-26), 3) := by decide +kernel
theorem dX11_areLetters_31 : decode cX11_areLetters 31 = .ok (.iconst 1, 1) := by decide +kernel
theorem dX11_areLetters_32 : decode cX11_areLetters 32 = .ok (.ireturn, 1) := by decide +kernel
theorem dX11_placeOfColon_0 : decode cX11_placeOfColon 0 = .ok (.iconst 0, 1) := by decide +kernel
theorem dX11_placeOfColon_1 : decode cX11_placeOfColon 1 = .ok (.istore_n 2, 1) := by decide +kernel
theorem dX11_placeOfColon_2 : decode cX11_placeOfColon 2 = .ok (.iload_n 2, 1) := by decide +kernel
theorem dX11_placeOfColon_3 : decode cX11_placeOfColon 3 = .ok (.iload_n 1, 1) := by decide +kernel
theorem dX11_placeOfColon_4 : decode cX11_placeOfColon 4 = .ok (.if_icmp .ge 22, 3) := by decide +kernel
theorem dX11_placeOfColon_7 : decode cX11_placeOfColon 7 = .ok (.aload_n 0, 1) := by decide +kernel
theorem dX11_placeOfColon_8 : decode cX11_placeOfColon 8 = .ok (.getfield 9, 3) := by decide +kernel
theorem dX11_placeOfColon_11 : decode cX11_placeOfColon 11 = .ok (.iload_n 2, 1) := by decide +kernel
theorem dX11_placeOfColon_12 : decode cX11_placeOfColon 12 = .ok (.iaload, 1) := by decide +kernel
theorem dX11_placeOfColon_13 : decode cX11_placeOfColon 13 = .ok (.bipush 58, 2) := by decide +kernel
theorem dX11_placeOfColon_15 : decode cX11_placeOfColon 15 = .ok (.if_icmp .ne 5, 3) := by decide +kernel
theorem dX11_placeOfColon_18 : decode cX11_placeOfColon 18 = .ok (.iload_n 2, 1) := by decide +kernel
theorem dX11_placeOfColon_19 : decode cX11_placeOfColon 19 = .ok (.ireturn, 1) := by decide +kernel
theorem dX11_placeOfColon_20 : decode cX11_placeOfColon 20 = .ok (.iinc 2 1, 3) := by decide +kernel
theorem dX11_placeOfColon_23 : decode cX11_placeOfColon 23 = .ok (.goto (-21), 3) := by decide +kernel
theorem dX11_placeOfColon_26 : decode cX11_placeOfColon 26 = .ok (.iconst (-1), 1) := by decide +kernel
theorem dX11_placeOfColon_27 : decode cX11_placeOfColon 27 = .ok (.ireturn, 1) := by decide +kernel
theorem dX11_rule_0 : decode cX11_rule 0 = .ok (.aload_n 0, 1) := by decide +kernel
theorem dX11_rule_1 : decode cX11_rule 1 = .ok (.iload_n 1, 1) := by decide +kernel
theorem dX11_rule_2 : decode cX11_rule 2 = .ok (.invokevirtual 192, 3) := by decide +kernel
theorem dX11_rule_5 : decode cX11_rule 5 = .ok (.ifCond .ne 5, 3) := by decide +kernel
theorem dX11_rule_8 : decode cX11_rule 8 = .ok (.iconst (-1), 1) := by decide +kernel
theorem dX11_rule_9 : decode cX11_rule 9 = .ok (.ireturn, 1) := by decide +kernel
theorem dX11_rule_10 : decode cX11_rule 10 = .ok (.aload_n 0, 1) := by decide +kernel
theorem dX11_rule_11 : decode cX11_rule 11 = .ok (.getfield 24, 3) := by decide +kernel
theorem dX11_rule_14 : decode cX11_rule 14 = .ok (.getfield 169, 3) := by decide +kernel
theorem dX11_rule_17 : decode cX11_rule 17 = .ok (.iload_n 1, 1) := by decide +kernel
theorem dX11_rule_18 : decode cX11_rule 18 = .ok (.aaload, 1) := by decide +kernel
theorem dX11_rule_19 : decode cX11_rule 19 = .ok (.astore_n 3, 1) := by decide +kernel
theorem dX11_rule_20 : decode cX11_rule 20 = .ok (.iload_n 2, 1) := by decide +kernel
theorem dX11_rule_21 : decode cX11_rule 21 = .ok (.tableswitch 67 0 4 #[35, 40, 45, 50, 55], 35) := by decide +kernel
theorem dX11_rule_56 : decode cX11_rule 56 = .ok (.aload_n 3, 1) := by decide +kernel
theorem dX11_rule_57 : decode cX11_rule 57 = .ok (.getfield 290, 3) := by decide +kernel
theorem dX11_rule_60 : decode cX11_rule 60 = .ok (.ireturn, 1) := by decide +kernel
theorem dX11_rule_61 : decode cX11_rule 61 = .ok (.aload_n 3, 1) := by decide +kernel
theorem dX11_rule_62 : decode cX11_rule 62 = .ok (.getfield 293, 3) := by decide +kernel
theorem dX11_rule_65 : decode cX11_rule 65 = .ok (.ireturn, 1) := by decide +kernel
theorem dX11_rule_66 : decode cX11_rule 66 = .ok (.aload_n 3, 1) := by decide +kernel
theorem dX11_rule_67 : decode cX11_rule 67 = .ok (.getfield 296, 3) := by decide +kernel
theorem dX11_rule_70 : decode cX11_rule 70 = .ok (.ireturn, 1) := by decide +kernel
theorem dX11_rule_71 : decode cX11_rule 71 = .ok (.aload_n 3, 1) := by decide +kernel
theorem dX11_rule_72 : decode cX11_rule 72 = .ok (.getfield 299, 3) := by decide +kernel
theorem dX11_rule_75 : decode cX11_rule 75 = .ok (.ireturn, 1) := by decide +kernel
theorem dX11_rule_76 : decode cX11_rule 76 = .ok (.aload_n 0, 1) := by decide +kernel
theorem dX11_rule_77 : decode cX11_rule 77 = .ok (.getfield 33, 3) := by decide +kernel
theorem dX11_rule_80 : decode cX11_rule 80 = .ok (.getfield 128, 3) := by decide +kernel
theorem dX11_rule_83 : decode cX11_rule 83 = .ok (.iload_n 1, 1) := by decide +kernel
theorem dX11_rule_84 : decode cX11_rule 84 = .ok (.ishr, 1) := by decide +kernel
theorem dX11_rule_85 : decode cX11_rule 85 = .ok (.iconst 1, 1) := by decide +kernel
theorem dX11_rule_86 : decode cX11_rule 86 = .ok (.iand, 1) := by decide +kernel
theorem dX11_rule_87 : decode cX11_rule 87 = .ok (.ireturn, 1) := by decide +kernel
theorem dX11_rule_88 : decode cX11_rule 88 = .ok (.iconst (-1), 1) := by decide +kernel
theorem dX11_rule_89 : decode cX11_rule 89 = .ok (.ireturn, 1) := by decide +kernel
theorem dX11_order_0 : decode cX11_order 0 = .ok (.aload_n 0, 1) := by decide +kernel
theorem dX11_order_1 : decode cX11_order 1 = .ok (.iload_n 1, 1) := by decide +kernel
theorem dX11_order_2 : decode cX11_order 2 = .ok (.invokevirtual 192, 3) := by decide +kernel
theorem dX11_order_5 : decode cX11_order 5 = .ok (.ifCond .eq 11, 3) := by decide +kernel
theorem dX11_order_8 : decode cX11_order 8 = .ok (.aload_n 0, 1) := by decide +kernel
theorem dX11_order_9 : decode cX11_order 9 = .ok (.iload_n 2, 1) := by decide +kernel
theorem dX11_order_10 : decode cX11_order 10 = .ok (.invokevirtual 192, 3) := by decide +kernel
theorem dX11_order_13 : decode cX11_order 13 = .ok (.ifCond .ne 5, 3) := by decide +kernel
theorem dX11_order_16 : decode cX11_order 16 = .ok (.iconst 0, 1) := by decide +kernel
theorem dX11_order_17 : decode cX11_order 17 = .ok (.ireturn, 1) := by decide +kernel
theorem dX11_order_18 : decode cX11_order 18 = .ok (.aload_n 0, 1) := by decide +kernel
theorem dX11_order_19 : decode cX11_order 19 = .ok (.getfield 33, 3) := by decide +kernel
theorem dX11_order_22 : decode cX11_order 22 = .ok (.iload_n 1, 1) := by decide +kernel
theorem dX11_order_23 : decode cX11_order 23 = .ok (.iload_n 2, 1) := by decide +kernel
theorem dX11_order_24 : decode cX11_order 24 = .ok (.aload_n 0, 1) := by decide +kernel
theorem dX11_order_25 : decode cX11_order 25 = .ok (.getfield 24, 3) := by decide +kernel
theorem dX11_order_28 : decode cX11_order 28 = .ok (.getfield 98, 3) := by decide +kernel
theorem dX11_order_31 : decode cX11_order 31 = .ok (.invokevirtual 195, 3) := by decide +kernel
theorem dX11_order_34 : decode cX11_order 34 = .ok (.iconst 1, 1) := by decide +kernel
theorem dX11_order_35 : decode cX11_order 35 = .ok (.ireturn, 1) := by decide +kernel
theorem dX11_image_0 : decode cX11_image 0 = .ok (.iload_n 1, 1) := by decide +kernel
theorem dX11_image_1 : decode cX11_image 1 = .ok (.ifCond .eq 32, 3) := by decide +kernel
theorem dX11_image_4 : decode cX11_image 4 = .ok (.aload_n 0, 1) := by decide +kernel
theorem dX11_image_5 : decode cX11_image 5 = .ok (.getfield 40, 3) := by decide +kernel
theorem dX11_image_8 : decode cX11_image 8 = .ok (.aload_n 0, 1) := by decide +kernel
theorem dX11_image_9 : decode cX11_image 9 = .ok (.getfield 24, 3) := by decide +kernel
theorem dX11_image_12 : decode cX11_image 12 = .ok (.invokevirtual 94, 3) := by decide +kernel
theorem dX11_image_15 : decode cX11_image 15 = .ok (.aload_n 0, 1) := by decide +kernel
theorem dX11_image_16 : decode cX11_image 16 = .ok (.getfield 43, 3) := by decide +kernel
theorem dX11_image_19 : decode cX11_image 19 = .ok (.aload_n 0, 1) := by decide +kernel
theorem dX11_image_20 : decode cX11_image 20 = .ok (.getfield 33, 3) := by decide +kernel
theorem dX11_image_23 : decode cX11_image 23 = .ok (.invokevirtual 302, 3) := by decide +kernel
theorem dX11_image_26 : decode cX11_image 26 = .ok (.aload_n 0, 1) := by decide +kernel
theorem dX11_image_27 : decode cX11_image 27 = .ok (.iconst 1, 1) := by decide +kernel
theorem dX11_image_28 : decode cX11_image 28 = .ok (.putfield 305, 3) := by decide +kernel
theorem dX11_image_31 : decode cX11_image 31 = .ok (.iconst 1, 1) := by decide +kernel
theorem dX11_image_32 : decode cX11_image 32 = .ok (.ireturn, 1) := by decide +kernel
theorem dX11_image_33 : decode cX11_image 33 = .ok (.aload_n 0, 1) := by decide +kernel
theorem dX11_image_34 : decode cX11_image 34 = .ok (.getfield 305, 3) := by decide +kernel
theorem dX11_image_37 : decode cX11_image 37 = .ok (.ifCond .ne 5, 3) := by decide +kernel
theorem dX11_image_40 : decode cX11_image 40 = .ok (.iconst 0, 1) := by decide +kernel
theorem dX11_image_41 : decode cX11_image 41 = .ok (.ireturn, 1) := by decide +kernel
theorem dX11_image_42 : decode cX11_image 42 = .ok (.aload_n 0, 1) := by decide +kernel
theorem dX11_image_43 : decode cX11_image 43 = .ok (.getfield 24, 3) := by decide +kernel
theorem dX11_image_46 : decode cX11_image 46 = .ok (.aload_n 0, 1) := by decide +kernel
theorem dX11_image_47 : decode cX11_image 47 = .ok (.getfield 40, 3) := by decide +kernel
theorem dX11_image_50 : decode cX11_image 50 = .ok (.invokevirtual 94, 3) := by decide +kernel
theorem dX11_image_53 : decode cX11_image 53 = .ok (.aload_n 0, 1) := by decide +kernel
theorem dX11_image_54 : decode cX11_image 54 = .ok (.getfield 33, 3) := by decide +kernel
theorem dX11_image_57 : decode cX11_image 57 = .ok (.aload_n 0, 1) := by decide +kernel
theorem dX11_image_58 : decode cX11_image 58 = .ok (.getfield 43, 3) := by decide +kernel
theorem dX11_image_61 : decode cX11_image 61 = .ok (.invokevirtual 302, 3) := by decide +kernel
theorem dX11_image_64 : decode cX11_image 64 = .ok (.aload_n 0, 1) := by decide +kernel
theorem dX11_image_65 : decode cX11_image 65 = .ok (.dup, 1) := by decide +kernel
theorem dX11_image_66 : decode cX11_image 66 = .ok (.getfield 104, 3) := by decide +kernel
theorem dX11_image_69 : decode cX11_image 69 = .ok (.iconst 1, 1) := by decide +kernel
theorem dX11_image_70 : decode cX11_image 70 = .ok (.iadd, 1) := by decide +kernel
theorem dX11_image_71 : decode cX11_image 71 = .ok (.putfield 104, 3) := by decide +kernel
theorem dX11_image_74 : decode cX11_image 74 = .ok (.iconst 1, 1) := by decide +kernel
theorem dX11_image_75 : decode cX11_image 75 = .ok (.ireturn, 1) := by decide +kernel
theorem dX11_meant_0 : decode cX11_meant 0 = .ok (.iload_n 1, 1) := by decide +kernel
theorem dX11_meant_1 : decode cX11_meant 1 = .ok (.ifCond .lt 20, 3) := by decide +kernel
theorem dX11_meant_4 : decode cX11_meant 4 = .ok (.iload_n 1, 1) := by decide +kernel
theorem dX11_meant_5 : decode cX11_meant 5 = .ok (.aload_n 0, 1) := by decide +kernel
theorem dX11_meant_6 : decode cX11_meant 6 = .ok (.getfield 112, 3) := by decide +kernel
theorem dX11_meant_9 : decode cX11_meant 9 = .ok (.if_icmp .ge 12, 3) := by decide +kernel
theorem dX11_meant_12 : decode cX11_meant 12 = .ok (.iload_n 2, 1) := by decide +kernel
theorem dX11_meant_13 : decode cX11_meant 13 = .ok (.ifCond .eq 10, 3) := by decide +kernel
theorem dX11_meant_16 : decode cX11_meant 16 = .ok (.iload_n 2, 1) := by decide +kernel
theorem dX11_meant_17 : decode cX11_meant 17 = .ok (.iconst 1, 1) := by decide +kernel
theorem dX11_meant_18 : decode cX11_meant 18 = .ok (.if_icmp .eq 5, 3) := by decide +kernel
theorem dX11_meant_21 : decode cX11_meant 21 = .ok (.iconst (-1), 1) := by decide +kernel
theorem dX11_meant_22 : decode cX11_meant 22 = .ok (.ireturn, 1) := by decide +kernel
theorem dX11_meant_23 : decode cX11_meant 23 = .ok (.iload_n 2, 1) := by decide +kernel
theorem dX11_meant_24 : decode cX11_meant 24 = .ok (.ifCond .ne 15, 3) := by decide +kernel
theorem dX11_meant_27 : decode cX11_meant 27 = .ok (.aload_n 0, 1) := by decide +kernel
theorem dX11_meant_28 : decode cX11_meant 28 = .ok (.getfield 60, 3) := by decide +kernel
theorem dX11_meant_31 : decode cX11_meant 31 = .ok (.iload_n 1, 1) := by decide +kernel
theorem dX11_meant_32 : decode cX11_meant 32 = .ok (.iaload, 1) := by decide +kernel
theorem dX11_meant_33 : decode cX11_meant 33 = .ok (.bipush 8, 2) := by decide +kernel
theorem dX11_meant_35 : decode cX11_meant 35 = .ok (.idiv, 1) := by decide +kernel
theorem dX11_meant_36 : decode cX11_meant 36 = .ok (.goto 12, 3) := by decide +kernel
theorem dX11_meant_39 : decode cX11_meant 39 = .ok (.aload_n 0, 1) := by decide +kernel
theorem dX11_meant_40 : decode cX11_meant 40 = .ok (.getfield 60, 3) := by decide +kernel
theorem dX11_meant_43 : decode cX11_meant 43 = .ok (.iload_n 1, 1) := by decide +kernel
theorem dX11_meant_44 : decode cX11_meant 44 = .ok (.iaload, 1) := by decide +kernel
theorem dX11_meant_45 : decode cX11_meant 45 = .ok (.bipush 8, 2) := by decide +kernel
theorem dX11_meant_47 : decode cX11_meant 47 = .ok (.irem, 1) := by decide +kernel
theorem dX11_meant_48 : decode cX11_meant 48 = .ok (.ireturn, 1) := by decide +kernel
