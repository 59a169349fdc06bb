theorem dJ7_fill_53178_0 : decode cJ7_fill_53178 0 = .ok (.iconst 0, 1) := by decide +kernel
theorem dJ7_fill_53178_1 : decode cJ7_fill_53178 1 = .ok (.istore_n 2, 1) := by decide +kernel
theorem dJ7_fill_53178_2 : decode cJ7_fill_53178 2 = .ok (.aload_n 0, 1) := by decide +kernel
theorem dJ7_fill_53178_3 : decode cJ7_fill_53178 3 = .ok (.arraylength, 1) := by decide +kernel
theorem dJ7_fill_53178_4 : decode cJ7_fill_53178 4 = .ok (.istore_n 3, 1) := by decide +kernel
theorem dJ7_fill_53178_5 : decode cJ7_fill_53178 5 = .ok (.iload_n 2, 1) := by decide +kernel
theorem dJ7_fill_53178_6 : decode cJ7_fill_53178 6 = .ok (.iload_n 3, 1) := by decide +kernel
theorem dJ7_fill_53178_7 : decode cJ7_fill_53178 7 = .ok (.if_icmp .ge 13, 3) := by decide +kernel
theorem dJ7_fill_53178_10 : decode cJ7_fill_53178 10 = .ok (.aload_n 0, 1) := by decide +kernel
theorem dJ7_fill_53178_11 : decode cJ7_fill_53178 11 = .ok (.iload_n 2, 1) := by decide +kernel
theorem dJ7_fill_53178_12 : decode cJ7_fill_53178 12 = .ok (.iload_n 1, 1) := by decide +kernel
theorem dJ7_fill_53178_13 : decode cJ7_fill_53178 13 = .ok (.iastore, 1) := by decide +kernel
theorem dJ7_fill_53178_14 : decode cJ7_fill_53178 14 = .ok (.iinc 2 1, 3) := by decide +kernel
theorem dJ7_fill_53178_17 : decode cJ7_fill_53178 17 = .ok (.goto (-12), 3) := by decide +kernel
theorem dJ7_fill_53178_20 : decode cJ7_fill_53178 20 = .ok (.return_, 1) := by decide +kernel
theorem dJ6_bitCount_0f7a4_0 : decode cJ6_bitCount_0f7a4 0 = .ok (.iload_n 0, 1) := by decide +kernel
theorem dJ6_bitCount_0f7a4_1 : decode cJ6_bitCount_0f7a4 1 = .ok (.iload_n 0, 1) := by decide +kernel
theorem dJ6_bitCount_0f7a4_2 : decode cJ6_bitCount_0f7a4 2 = .ok (.iconst 1, 1) := by decide +kernel
theorem dJ6_bitCount_0f7a4_3 : decode cJ6_bitCount_0f7a4 3 = .ok (.iushr, 1) := by decide +kernel
theorem dJ6_bitCount_0f7a4_4 : decode cJ6_bitCount_0f7a4 4 = .ok (.ldc_w 265, 3) := by decide +kernel
theorem dJ6_bitCount_0f7a4_7 : decode cJ6_bitCount_0f7a4 7 = .ok (.iand, 1) := by decide +kernel
theorem dJ6_bitCount_0f7a4_8 : decode cJ6_bitCount_0f7a4 8 = .ok (.isub, 1) := by decide +kernel
theorem dJ6_bitCount_0f7a4_9 : decode cJ6_bitCount_0f7a4 9 = .ok (.istore_n 0, 1) := by decide +kernel
theorem dJ6_bitCount_0f7a4_10 : decode cJ6_bitCount_0f7a4 10 = .ok (.iload_n 0, 1) := by decide +kernel
theorem dJ6_bitCount_0f7a4_11 : decode cJ6_bitCount_0f7a4 11 = .ok (.ldc_w 266, 3) := by decide +kernel
theorem dJ6_bitCount_0f7a4_14 : decode cJ6_bitCount_0f7a4 14 = .ok (.iand, 1) := by decide +kernel
theorem dJ6_bitCount_0f7a4_15 : decode cJ6_bitCount_0f7a4 15 = .ok (.iload_n 0, 1) := by decide +kernel
theorem dJ6_bitCount_0f7a4_16 : decode cJ6_bitCount_0f7a4 16 = .ok (.iconst 2, 1) := by decide +kernel
theorem dJ6_bitCount_0f7a4_17 : decode cJ6_bitCount_0f7a4 17 = .ok (.iushr, 1) := by decide +kernel
theorem dJ6_bitCount_0f7a4_18 : decode cJ6_bitCount_0f7a4 18 = .ok (.ldc_w 266, 3) := by decide +kernel
theorem dJ6_bitCount_0f7a4_21 : decode cJ6_bitCount_0f7a4 21 = .ok (.iand, 1) := by decide +kernel
theorem dJ6_bitCount_0f7a4_22 : decode cJ6_bitCount_0f7a4 22 = .ok (.iadd, 1) := by decide +kernel
theorem dJ6_bitCount_0f7a4_23 : decode cJ6_bitCount_0f7a4 23 = .ok (.istore_n 0, 1) := by decide +kernel
theorem dJ6_bitCount_0f7a4_24 : decode cJ6_bitCount_0f7a4 24 = .ok (.iload_n 0, 1) := by decide +kernel
theorem dJ6_bitCount_0f7a4_25 : decode cJ6_bitCount_0f7a4 25 = .ok (.iload_n 0, 1) := by decide +kernel
theorem dJ6_bitCount_0f7a4_26 : decode cJ6_bitCount_0f7a4 26 = .ok (.iconst 4, 1) := by decide +kernel
theorem dJ6_bitCount_0f7a4_27 : decode cJ6_bitCount_0f7a4 27 = .ok (.iushr, 1) := by decide +kernel
theorem dJ6_bitCount_0f7a4_28 : decode cJ6_bitCount_0f7a4 28 = .ok (.iadd, 1) := by decide +kernel
theorem dJ6_bitCount_0f7a4_29 : decode cJ6_bitCount_0f7a4 29 = .ok (.ldc_w 267, 3) := by decide +kernel
theorem dJ6_bitCount_0f7a4_32 : decode cJ6_bitCount_0f7a4 32 = .ok (.iand, 1) := by decide +kernel
theorem dJ6_bitCount_0f7a4_33 : decode cJ6_bitCount_0f7a4 33 = .ok (.istore_n 0, 1) := by decide +kernel
theorem dJ6_bitCount_0f7a4_34 : decode cJ6_bitCount_0f7a4 34 = .ok (.iload_n 0, 1) := by decide +kernel
theorem dJ6_bitCount_0f7a4_35 : decode cJ6_bitCount_0f7a4 35 = .ok (.iload_n 0, 1) := by decide +kernel
theorem dJ6_bitCount_0f7a4_36 : decode cJ6_bitCount_0f7a4 36 = .ok (.bipush 8, 2) := by decide +kernel
theorem dJ6_bitCount_0f7a4_38 : decode cJ6_bitCount_0f7a4 38 = .ok (.iushr, 1) := by decide +kernel
theorem dJ6_bitCount_0f7a4_39 : decode cJ6_bitCount_0f7a4 39 = .ok (.iadd, 1) := by decide +kernel
theorem dJ6_bitCount_0f7a4_40 : decode cJ6_bitCount_0f7a4 40 = .ok (.istore_n 0, 1) := by decide +kernel
theorem dJ6_bitCount_0f7a4_41 : decode cJ6_bitCount_0f7a4 41 = .ok (.iload_n 0, 1) := by decide +kernel
theorem dJ6_bitCount_0f7a4_42 : decode cJ6_bitCount_0f7a4 42 = .ok (.iload_n 0, 1) := by decide +kernel
theorem dJ6_bitCount_0f7a4_43 : decode cJ6_bitCount_0f7a4 43 = .ok (.bipush 16, 2) := by decide +kernel
theorem dJ6_bitCount_0f7a4_45 : decode cJ6_bitCount_0f7a4 45 = .ok (.iushr, 1) := by decide +kernel
theorem dJ6_bitCount_0f7a4_46 : decode cJ6_bitCount_0f7a4 46 = .ok (.iadd, 1) := by decide +kernel
theorem dJ6_bitCount_0f7a4_47 : decode cJ6_bitCount_0f7a4 47 = .ok (.istore_n 0, 1) := by decide +kernel
theorem dJ6_bitCount_0f7a4_48 : decode cJ6_bitCount_0f7a4 48 = .ok (.iload_n 0, 1) := by decide +kernel
theorem dJ6_bitCount_0f7a4_49 : decode cJ6_bitCount_0f7a4 49 = .ok (.bipush 63, 2) := by decide +kernel
theorem dJ6_bitCount_0f7a4_51 : decode cJ6_bitCount_0f7a4 51 = .ok (.iand, 1) := by decide +kernel
theorem dJ6_bitCount_0f7a4_52 : decode cJ6_bitCount_0f7a4 52 = .ok (.ireturn, 1) := by decide +kernel
theorem dX5_holding_0 : decode cX5_holding 0 = .ok (.iload_n 0, 1) := by decide +kernel
theorem dX5_holding_1 : decode cX5_holding 1 = .ok (.iconst 5, 1) := by decide +kernel
theorem dX5_holding_2 : decode cX5_holding 2 = .ok (.ishr, 1) := by decide +kernel
theorem dX5_holding_3 : decode cX5_holding 3 = .ok (.iconst 1, 1) := by decide +kernel
theorem dX5_holding_4 : decode cX5_holding 4 = .ok (.iand, 1) := by decide +kernel
theorem dX5_holding_5 : decode cX5_holding 5 = .ok (.iload_n 0, 1) := by decide +kernel
theorem dX5_holding_6 : decode cX5_holding 6 = .ok (.bipush 10, 2) := by decide +kernel
theorem dX5_holding_8 : decode cX5_holding 8 = .ok (.ishr, 1) := by decide +kernel
theorem dX5_holding_9 : decode cX5_holding 9 = .ok (.iconst 2, 1) := by decide +kernel
theorem dX5_holding_10 : decode cX5_holding 10 = .ok (.iand, 1) := by decide +kernel
theorem dX5_holding_11 : decode cX5_holding 11 = .ok (.ior, 1) := by decide +kernel
theorem dX5_holding_12 : decode cX5_holding 12 = .ok (.iload_n 0, 1) := by decide +kernel
theorem dX5_holding_13 : decode cX5_holding 13 = .ok (.bipush 15, 2) := by decide +kernel
theorem dX5_holding_15 : decode cX5_holding 15 = .ok (.ishr, 1) := by decide +kernel
theorem dX5_holding_16 : decode cX5_holding 16 = .ok (.iconst 4, 1) := by decide +kernel
theorem dX5_holding_17 : decode cX5_holding 17 = .ok (.iand, 1) := by decide +kernel
theorem dX5_holding_18 : decode cX5_holding 18 = .ok (.ior, 1) := by decide +kernel
theorem dX5_holding_19 : decode cX5_holding 19 = .ok (.ireturn, 1) := by decide +kernel
theorem dX5_closure_0 : decode cX5_closure 0 = .ok (.iload_n 1, 1) := by decide +kernel
theorem dX5_closure_1 : decode cX5_closure 1 = .ok (.iload_n 1, 1) := by decide +kernel
theorem dX5_closure_2 : decode cX5_closure 2 = .ok (.aload_n 0, 1) := by decide +kernel
theorem dX5_closure_3 : decode cX5_closure 3 = .ok (.getfield 27, 3) := by decide +kernel
theorem dX5_closure_6 : decode cX5_closure 6 = .ok (.iand, 1) := by decide +kernel
theorem dX5_closure_7 : decode cX5_closure 7 = .ok (.aload_n 0, 1) := by decide +kernel
theorem dX5_closure_8 : decode cX5_closure 8 = .ok (.getfield 27, 3) := by decide +kernel
theorem dX5_closure_11 : decode cX5_closure 11 = .ok (.iadd, 1) := by decide +kernel
theorem dX5_closure_12 : decode cX5_closure 12 = .ok (.aload_n 0, 1) := by decide +kernel
theorem dX5_closure_13 : decode cX5_closure 13 = .ok (.getfield 27, 3) := by decide +kernel
theorem dX5_closure_16 : decode cX5_closure 16 = .ok (.ixor, 1) := by decide +kernel
theorem dX5_closure_17 : decode cX5_closure 17 = .ok (.ior, 1) := by decide +kernel
theorem dX5_closure_18 : decode cX5_closure 18 = .ok (.ireturn, 1) := by decide +kernel
theorem dX5_step_0 : decode cX5_step 0 = .ok (.iload_n 1, 1) := by decide +kernel
theorem dX5_step_1 : decode cX5_step 1 = .ok (.aload_n 0, 1) := by decide +kernel
theorem dX5_step_2 : decode cX5_step 2 = .ok (.getfield 18, 3) := by decide +kernel
theorem dX5_step_5 : decode cX5_step 5 = .ok (.iload_n 2, 1) := by decide +kernel
theorem dX5_step_6 : decode cX5_step 6 = .ok (.iaload, 1) := by decide +kernel
theorem dX5_step_7 : decode cX5_step 7 = .ok (.iand, 1) := by decide +kernel
theorem dX5_step_8 : decode cX5_step 8 = .ok (.istore_n 3, 1) := by decide +kernel
theorem dX5_step_9 : decode cX5_step 9 = .ok (.iload_n 3, 1) := by decide +kernel
theorem dX5_step_10 : decode cX5_step 10 = .ok (.ifCond .ne 5, 3) := by decide +kernel
theorem dX5_step_13 : decode cX5_step 13 = .ok (.iconst 0, 1) := by decide +kernel
theorem dX5_step_14 : decode cX5_step 14 = .ok (.ireturn, 1) := by decide +kernel
theorem dX5_step_15 : decode cX5_step 15 = .ok (.iload_n 3, 1) := by decide +kernel
theorem dX5_step_16 : decode cX5_step 16 = .ok (.aload_n 0, 1) := by decide +kernel
theorem dX5_step_17 : decode cX5_step 17 = .ok (.getfield 27, 3) := by decide +kernel
theorem dX5_step_20 : decode cX5_step 20 = .ok (.iconst (-1), 1) := by decide +kernel
theorem dX5_step_21 : decode cX5_step 21 = .ok (.ixor, 1) := by decide +kernel
theorem dX5_step_22 : decode cX5_step 22 = .ok (.iand, 1) := by decide +kernel
theorem dX5_step_23 : decode cX5_step 23 = .ok (.iconst 1, 1) := by decide +kernel
theorem dX5_step_24 : decode cX5_step 24 = .ok (.ishl, 1) := by decide +kernel
theorem dX5_step_25 : decode cX5_step 25 = .ok (.iload_n 3, 1) := by decide +kernel
theorem dX5_step_26 : decode cX5_step 26 = .ok (.aload_n 0, 1) := by decide +kernel
theorem dX5_step_27 : decode cX5_step 27 = .ok (.getfield 27, 3) := by decide +kernel
theorem dX5_step_30 : decode cX5_step 30 = .ok (.iand, 1) := by decide +kernel
theorem dX5_step_31 : decode cX5_step 31 = .ok (.ior, 1) := by decide +kernel
theorem dX5_step_32 : decode cX5_step 32 = .ok (.istore 4, 2) := by decide +kernel
theorem dX5_step_34 : decode cX5_step 34 = .ok (.iload 4, 2) := by decide +kernel
theorem dX5_step_36 : decode cX5_step 36 = .ok (.iload 4, 2) := by decide +kernel
theorem dX5_step_38 : decode cX5_step 38 = .ok (.aload_n 0, 1) := by decide +kernel
theorem dX5_step_39 : decode cX5_step 39 = .ok (.getfield 27, 3) := by decide +kernel
theorem dX5_step_42 : decode cX5_step 42 = .ok (.iand, 1) := by decide +kernel
theorem dX5_step_43 : decode cX5_step 43 = .ok (.aload_n 0, 1) := by decide +kernel
theorem dX5_step_44 : decode cX5_step 44 = .ok (.getfield 27, 3) := by decide +kernel
theorem dX5_step_47 : decode cX5_step 47 = .ok (.iadd, 1) := by decide +kernel
theorem dX5_step_48 : decode cX5_step 48 = .ok (.aload_n 0, 1) := by decide +kernel
theorem dX5_step_49 : decode cX5_step 49 = .ok (.getfield 27, 3) := by decide +kernel
theorem dX5_step_52 : decode cX5_step 52 = .ok (.ixor, 1) := by decide +kernel
theorem dX5_step_53 : decode cX5_step 53 = .ok (.ior, 1) := by decide +kernel
theorem dX5_step_54 : decode cX5_step 54 = .ok (.ireturn, 1) := by decide +kernel
theorem dX9_clear_0 : decode cX9_clear 0 = .ok (.aload_n 0, 1) := by decide +kernel
theorem dX9_clear_1 : decode cX9_clear 1 = .ok (.iconst 0, 1) := by decide +kernel
theorem dX9_clear_2 : decode cX9_clear 2 = .ok (.putfield 18, 3) := by decide +kernel
theorem dX9_clear_5 : decode cX9_clear 5 = .ok (.return_, 1) := by decide +kernel
theorem dX9_lengthOf_0 : decode cX9_lengthOf 0 = .ok (.iload_n 1, 1) := by decide +kernel
theorem dX9_lengthOf_1 : decode cX9_lengthOf 1 = .ok (.ifCond .lt 11, 3) := by decide +kernel
theorem dX9_lengthOf_4 : decode cX9_lengthOf 4 = .ok (.iload_n 1, 1) := by decide +kernel
theorem dX9_lengthOf_5 : decode cX9_lengthOf 5 = .ok (.aload_n 0, 1) := by decide +kernel
theorem dX9_lengthOf_6 : decode cX9_lengthOf 6 = .ok (.getfield 18, 3) := by decide +kernel
theorem dX9_lengthOf_9 : decode cX9_lengthOf 9 = .ok (.if_icmp .lt 7, 3) := by decide +kernel
theorem dX9_lengthOf_12 : decode cX9_lengthOf 12 = .ok (.iconst (-1), 1) := by decide +kernel
theorem dX9_lengthOf_13 : decode cX9_lengthOf 13 = .ok (.goto 9, 3) := by decide +kernel
theorem dX9_lengthOf_16 : decode cX9_lengthOf 16 = .ok (.aload_n 0, 1) := by decide +kernel
theorem dX9_lengthOf_17 : decode cX9_lengthOf 17 = .ok (.getfield 15, 3) := by decide +kernel
theorem dX9_lengthOf_20 : decode cX9_lengthOf 20 = .ok (.iload_n 1, 1) := by decide +kernel
theorem dX9_lengthOf_21 : decode cX9_lengthOf 21 = .ok (.iaload, 1) := by decide +kernel
theorem dX9_lengthOf_22 : decode cX9_lengthOf 22 = .ok (.ireturn, 1) := by decide +kernel
theorem dX9_open_0 : decode cX9_open 0 = .ok (.aload_n 0, 1) := by decide +kernel
theorem dX9_open_1 : decode cX9_open 1 = .ok (.getfield 18, 3) := by decide +kernel
theorem dX9_open_4 : decode cX9_open 4 = .ok (.aload_n 0, 1) := by decide +kernel
theorem dX9_open_5 : decode cX9_open 5 = .ok (.getfield 15, 3) := by decide +kernel
theorem dX9_open_8 : decode cX9_open 8 = .ok (.arraylength, 1) := by decide +kernel
theorem dX9_open_9 : decode cX9_open 9 = .ok (.if_icmp .ge 23, 3) := by decide +kernel
theorem dX9_open_12 : decode cX9_open 12 = .ok (.aload_n 0, 1) := by decide +kernel
theorem dX9_open_13 : decode cX9_open 13 = .ok (.getfield 15, 3) := by decide +kernel
theorem dX9_open_16 : decode cX9_open 16 = .ok (.aload_n 0, 1) := by decide +kernel
theorem dX9_open_17 : decode cX9_open 17 = .ok (.getfield 18, 3) := by decide +kernel
theorem dX9_open_20 : decode cX9_open 20 = .ok (.iconst 0, 1) := by decide +kernel
theorem dX9_open_21 : decode cX9_open 21 = .ok (.iastore, 1) := by decide +kernel
theorem dX9_open_22 : decode cX9_open 22 = .ok (.aload_n 0, 1) := by decide +kernel
theorem dX9_open_23 : decode cX9_open 23 = .ok (.dup, 1) := by decide +kernel
theorem dX9_open_24 : decode cX9_open 24 = .ok (.getfield 18, 3) := by decide +kernel
theorem dX9_open_27 : decode cX9_open 27 = .ok (.iconst 1, 1) := by decide +kernel
theorem dX9_open_28 : decode cX9_open 28 = .ok (.iadd, 1) := by decide +kernel
theorem dX9_open_29 : decode cX9_open 29 = .ok (.putfield 18, 3) := by decide +kernel
theorem dX9_open_32 : decode cX9_open 32 = .ok (.return_, 1) := by decide +kernel
theorem dX9_push_0 : decode cX9_push 0 = .ok (.aload_n 0, 1) := by decide +kernel
theorem dX9_push_1 : decode cX9_push 1 = .ok (.getfield 18, 3) := by decide +kernel
theorem dX9_push_4 : decode cX9_push 4 = .ok (.iconst 1, 1) := by decide +kernel
theorem dX9_push_5 : decode cX9_push 5 = .ok (.isub, 1) := by decide +kernel
theorem dX9_push_6 : decode cX9_push 6 = .ok (.istore_n 2, 1) := by decide +kernel
theorem dX9_push_7 : decode cX9_push 7 = .ok (.iload_n 2, 1) := by decide +kernel
theorem dX9_push_8 : decode cX9_push 8 = .ok (.ifCond .lt 41, 3) := by decide +kernel
theorem dX9_push_11 : decode cX9_push 11 = .ok (.aload_n 0, 1) := by decide +kernel
theorem dX9_push_12 : decode cX9_push 12 = .ok (.getfield 15, 3) := by decide +kernel
theorem dX9_push_15 : decode cX9_push 15 = .ok (.iload_n 2, 1) := by decide +kernel
theorem dX9_push_16 : decode cX9_push 16 = .ok (.iaload, 1) := by decide +kernel
theorem dX9_push_17 : decode cX9_push 17 = .ok (.bipush 8, 2) := by decide +kernel
theorem dX9_push_19 : decode cX9_push 19 = .ok (.if_icmp .ge 30, 3) := by decide +kernel
theorem dX9_push_22 : decode cX9_push 22 = .ok (.aload_n 0, 1) := by decide +kernel
theorem dX9_push_23 : decode cX9_push 23 = .ok (.getfield 9, 3) := by decide +kernel
theorem dX9_push_26 : decode cX9_push 26 = .ok (.iload_n 2, 1) := by decide +kernel
theorem dX9_push_27 : decode cX9_push 27 = .ok (.bipush 8, 2) := by decide +kernel
theorem dX9_push_29 : decode cX9_push 29 = .ok (.imul, 1) := by decide +kernel
theorem dX9_push_30 : decode cX9_push 30 = .ok (.aload_n 0, 1) := by decide +kernel
theorem dX9_push_31 : decode cX9_push 31 = .ok (.getfield 15, 3) := by decide +kernel
theorem dX9_push_34 : decode cX9_push 34 = .ok (.iload_n 2, 1) := by decide +kernel
theorem dX9_push_35 : decode cX9_push 35 = .ok (.iaload, 1) := by decide +kernel
theorem dX9_push_36 : decode cX9_push 36 = .ok (.iadd, 1) := by decide +kernel
theorem dX9_push_37 : decode cX9_push 37 = .ok (.iload_n 1, 1) := by decide +kernel
theorem dX9_push_38 : decode cX9_push 38 = .ok (.iastore, 1) := by decide +kernel
theorem dX9_push_39 : decode cX9_push 39 = .ok (.aload_n 0, 1) := by decide +kernel
theorem dX9_push_40 : decode cX9_push 40 = .ok (.getfield 15, 3) := by decide +kernel
theorem dX9_push_43 : decode cX9_push 43 = .ok (.iload_n 2, 1) := by decide +kernel
theorem dX9_push_44 : decode cX9_push 44 = .ok (.dup2, 1) := by decide +kernel
theorem dX9_push_45 : decode cX9_push 45 = .ok (.iaload, 1) := by decide +kernel
theorem dX9_push_46 : decode cX9_push 46 = .ok (.iconst 1, 1) := by decide +kernel
theorem dX9_push_47 : decode cX9_push 47 = .ok (.iadd, 1) := by decide +kernel
theorem dX9_push_48 : decode cX9_push 48 = .ok (.iastore, 1) := by decide +kernel
theorem dX9_push_49 : decode cX9_push 49 = .ok (.return_, 1) := by decide +kernel
theorem dX9_copyFrom_0 : decode cX9_copyFrom 0 = .ok (.aload_n 1, 1) := by decide +kernel
theorem dX9_copyFrom_1 : decode cX9_copyFrom 1 = .ok (.getfield 9, 3) := by decide +kernel
theorem dX9_copyFrom_4 : decode cX9_copyFrom 4 = .ok (.arraylength, 1) := by decide +kernel
theorem dX9_copyFrom_5 : decode cX9_copyFrom 5 = .ok (.aload_n 0, 1) := by decide +kernel
theorem dX9_copyFrom_6 : decode cX9_copyFrom 6 = .ok (.getfield 9, 3) := by decide +kernel
theorem dX9_copyFrom_9 : decode cX9_copyFrom 9 = .ok (.arraylength, 1) := by decide +kernel
theorem dX9_copyFrom_10 : decode cX9_copyFrom 10 = .ok (.if_icmp .ne 47, 3) := by decide +kernel
theorem dX9_copyFrom_13 : decode cX9_copyFrom 13 = .ok (.aload_n 1, 1) := by decide +kernel
theorem dX9_copyFrom_14 : decode cX9_copyFrom 14 = .ok (.getfield 9, 3) := by decide +kernel
theorem dX9_copyFrom_17 : decode cX9_copyFrom 17 = .ok (.iconst 0, 1) := by decide +kernel
theorem dX9_copyFrom_18 : decode cX9_copyFrom 18 = .ok (.aload_n 0, 1) := by decide +kernel
theorem dX9_copyFrom_19 : decode cX9_copyFrom 19 = .ok (.getfield 9, 3) := by decide +kernel
theorem dX9_copyFrom_22 : decode cX9_copyFrom 22 = .ok (.iconst 0, 1) := by decide +kernel
theorem dX9_copyFrom_23 : decode cX9_copyFrom 23 = .ok (.aload_n 0, 1) := by decide +kernel
theorem dX9_copyFrom_24 : decode cX9_copyFrom 24 = .ok (.getfield 9, 3) := by decide +kernel
theorem dX9_copyFrom_27 : decode cX9_copyFrom 27 = .ok (.arraylength, 1) := by decide +kernel
theorem dX9_copyFrom_28 : decode cX9_copyFrom 28 = .ok (.invokestatic 22, 3) := by decide +kernel
theorem dX9_copyFrom_31 : decode cX9_copyFrom 31 = .ok (.aload_n 1, 1) := by decide +kernel
theorem dX9_copyFrom_32 : decode cX9_copyFrom 32 = .ok (.getfield 15, 3) := by decide +kernel
theorem dX9_copyFrom_35 : decode cX9_copyFrom 35 = .ok (.iconst 0, 1) := by decide +kernel
theorem dX9_copyFrom_36 : decode cX9_copyFrom 36 = .ok (.aload_n 0, 1) := by decide +kernel
theorem dX9_copyFrom_37 : decode cX9_copyFrom 37 = .ok (.getfield 15, 3) := by decide +kernel
theorem dX9_copyFrom_40 : decode cX9_copyFrom 40 = .ok (.iconst 0, 1) := by decide +kernel
theorem dX9_copyFrom_41 : decode cX9_copyFrom 41 = .ok (.aload_n 0, 1) := by decide +kernel
theorem dX9_copyFrom_42 : decode cX9_copyFrom 42 = .ok (.getfield 15, 3) := by decide +kernel
theorem dX9_copyFrom_45 : decode cX9_copyFrom 45 = .ok (.arraylength, 1) := by decide +kernel
theorem dX9_copyFrom_46 : decode cX9_copyFrom 46 = .ok (.invokestatic 22, 3) := by decide +kernel
theorem dX9_copyFrom_49 : decode cX9_copyFrom 49 = .ok (.aload_n 0, 1) := by decide +kernel
theorem dX9_copyFrom_50 : decode cX9_copyFrom 50 = .ok (.aload_n 1, 1) := by decide +kernel
theorem dX9_copyFrom_51 : decode cX9_copyFrom 51 = .ok (.getfield 18, 3) := by decide +kernel
theorem dX9_copyFrom_54 : decode cX9_copyFrom 54 = .ok (.putfield 18, 3) := by decide +kernel
theorem dX9_copyFrom_57 : decode cX9_copyFrom 57 = .ok (.return_, 1) := by decide +kernel
theorem dX9_copyTo_0 : decode cX9_copyTo 0 = .ok (.aload_n 0, 1) := by decide +kernel
theorem dX9_copyTo_1 : decode cX9_copyTo 1 = .ok (.iload_n 1, 1) := by decide +kernel
theorem dX9_copyTo_2 : decode cX9_copyTo 2 = .ok (.invokevirtual 28, 3) := by decide +kernel
theorem dX9_copyTo_5 : decode cX9_copyTo 5 = .ok (.istore 4, 2) := by decide +kernel
theorem dX9_copyTo_7 : decode cX9_copyTo 7 = .ok (.iload 4, 2) := by decide +kernel
theorem dX9_copyTo_9 : decode cX9_copyTo 9 = .ok (.iconst 1, 1) := by decide +kernel
theorem dX9_copyTo_10 : decode cX9_copyTo 10 = .ok (.if_icmp .lt 16, 3) := by decide +kernel
theorem dX9_copyTo_13 : decode cX9_copyTo 13 = .ok (.iload_n 3, 1) := by decide +kernel
theorem dX9_copyTo_14 : decode cX9_copyTo 14 = .ok (.ifCond .lt 12, 3) := by decide +kernel
theorem dX9_copyTo_17 : decode cX9_copyTo 17 = .ok (.iload_n 3, 1) := by decide +kernel
theorem dX9_copyTo_18 : decode cX9_copyTo 18 = .ok (.iload 4, 2) := by decide +kernel
theorem dX9_copyTo_20 : decode cX9_copyTo 20 = .ok (.iadd, 1) := by decide +kernel
theorem dX9_copyTo_21 : decode cX9_copyTo 21 = .ok (.aload_n 2, 1) := by decide +kernel
theorem dX9_copyTo_22 : decode cX9_copyTo 22 = .ok (.arraylength, 1) := by decide +kernel
theorem dX9_copyTo_23 : decode cX9_copyTo 23 = .ok (.if_icmp .le 5, 3) := by decide +kernel
theorem dX9_copyTo_26 : decode cX9_copyTo 26 = .ok (.iload_n 3, 1) := by decide +kernel
theorem dX9_copyTo_27 : decode cX9_copyTo 27 = .ok (.ireturn, 1) := by decide +kernel
theorem dX9_copyTo_28 : decode cX9_copyTo 28 = .ok (.aload_n 0, 1) := by decide +kernel
theorem dX9_copyTo_29 : decode cX9_copyTo 29 = .ok (.getfield 9, 3) := by decide +kernel
theorem dX9_copyTo_32 : decode cX9_copyTo 32 = .ok (.iload_n 1, 1) := by decide +kernel
theorem dX9_copyTo_33 : decode cX9_copyTo 33 = .ok (.bipush 8, 2) := by decide +kernel
theorem dX9_copyTo_35 : decode cX9_copyTo 35 = .ok (.imul, 1) := by decide +kernel
theorem dX9_copyTo_36 : decode cX9_copyTo 36 = .ok (.aload_n 2, 1) := by decide +kernel
theorem dX9_copyTo_37 : decode cX9_copyTo 37 = .ok (.iload_n 3, 1) := by decide +kernel
theorem dX9_copyTo_38 : decode cX9_copyTo 38 = .ok (.iload 4, 2) := by decide +kernel
theorem dX9_copyTo_40 : decode cX9_copyTo 40 = .ok (.invokestatic 22, 3) := by decide +kernel
theorem dX9_copyTo_43 : decode cX9_copyTo 43 = .ok (.iload_n 3, 1) := by decide +kernel
theorem dX9_copyTo_44 : decode cX9_copyTo 44 = .ok (.iload 4, 2) := by decide +kernel
theorem dX9_copyTo_46 : decode cX9_copyTo 46 = .ok (.iadd, 1) := by decide +kernel
theorem dX9_copyTo_47 : decode cX9_copyTo 47 = .ok (.ireturn, 1) := by decide +kernel
theorem dX5_clear_0 : decode cX5_clear 0 = .ok (.aload_n 0, 1) := by decide +kernel
theorem dX5_clear_1 : decode cX5_clear 1 = .ok (.getfield 11, 3) := by decide +kernel
theorem dX5_clear_4 : decode cX5_clear 4 = .ok (.iconst 0, 1) := by decide +kernel
theorem dX5_clear_5 : decode cX5_clear 5 = .ok (.invokestatic 21, 3) := by decide +kernel
theorem dX5_clear_8 : decode cX5_clear 8 = .ok (.aload_n 0, 1) := by decide +kernel
theorem dX5_clear_9 : decode cX5_clear 9 = .ok (.getfield 15, 3) := by decide +kernel
theorem dX5_clear_12 : decode cX5_clear 12 = .ok (.iconst 0, 1) := by decide +kernel
theorem dX5_clear_13 : decode cX5_clear 13 = .ok (.invokestatic 21, 3) := by decide +kernel
theorem dX5_clear_16 : decode cX5_clear 16 = .ok (.aload_n 0, 1) := by decide +kernel
theorem dX5_clear_17 : decode cX5_clear 17 = .ok (.getfield 18, 3) := by decide +kernel
theorem dX5_clear_20 : decode cX5_clear 20 = .ok (.iconst 0, 1) := by decide +kernel
theorem dX5_clear_21 : decode cX5_clear 21 = .ok (.invokestatic 21, 3) := by decide +kernel
theorem dX5_clear_24 : decode cX5_clear 24 = .ok (.aload_n 0, 1) := by decide +kernel
theorem dX5_clear_25 : decode cX5_clear 25 = .ok (.iconst 0, 1) := by decide +kernel
theorem dX5_clear_26 : decode cX5_clear 26 = .ok (.putfield 27, 3) := by decide +kernel
theorem dX5_clear_29 : decode cX5_clear 29 = .ok (.aload_n 0, 1) := by decide +kernel
theorem dX5_clear_30 : decode cX5_clear 30 = .ok (.iconst 0, 1) := by decide +kernel
theorem dX5_clear_31 : decode cX5_clear 31 = .ok (.putfield 31, 3) := by decide +kernel
theorem dX5_clear_34 : decode cX5_clear 34 = .ok (.aload_n 0, 1) := by decide +kernel
theorem dX5_clear_35 : decode cX5_clear 35 = .ok (.iconst 0, 1) := by decide +kernel
theorem dX5_clear_36 : decode cX5_clear 36 = .ok (.putfield 34, 3) := by decide +kernel
theorem dX5_clear_39 : decode cX5_clear 39 = .ok (.return_, 1) := by decide +kernel
theorem dX5_copyFrom_0 : decode cX5_copyFrom 0 = .ok (.aload_n 1, 1) := by decide +kernel
theorem dX5_copyFrom_1 : decode cX5_copyFrom 1 = .ok (.getfield 11, 3) := by decide +kernel
theorem dX5_copyFrom_4 : decode cX5_copyFrom 4 = .ok (.iconst 0, 1) := by decide +kernel
theorem dX5_copyFrom_5 : decode cX5_copyFrom 5 = .ok (.aload_n 0, 1) := by decide +kernel
theorem dX5_copyFrom_6 : decode cX5_copyFrom 6 = .ok (.getfield 11, 3) := by decide +kernel
theorem dX5_copyFrom_9 : decode cX5_copyFrom 9 = .ok (.iconst 0, 1) := by decide +kernel
theorem dX5_copyFrom_10 : decode cX5_copyFrom 10 = .ok (.aload_n 0, 1) := by decide +kernel
theorem dX5_copyFrom_11 : decode cX5_copyFrom 11 = .ok (.getfield 11, 3) := by decide +kernel
theorem dX5_copyFrom_14 : decode cX5_copyFrom 14 = .ok (.arraylength, 1) := by decide +kernel
theorem dX5_copyFrom_15 : decode cX5_copyFrom 15 = .ok (.invokestatic 37, 3) := by decide +kernel
theorem dX5_copyFrom_18 : decode cX5_copyFrom 18 = .ok (.aload_n 1, 1) := by decide +kernel
theorem dX5_copyFrom_19 : decode cX5_copyFrom 19 = .ok (.getfield 15, 3) := by decide +kernel
theorem dX5_copyFrom_22 : decode cX5_copyFrom 22 = .ok (.iconst 0, 1) := by decide +kernel
theorem dX5_copyFrom_23 : decode cX5_copyFrom 23 = .ok (.aload_n 0, 1) := by decide +kernel
theorem dX5_copyFrom_24 : decode cX5_copyFrom 24 = .ok (.getfield 15, 3) := by decide +kernel
theorem dX5_copyFrom_27 : decode cX5_copyFrom 27 = .ok (.iconst 0, 1) := by decide +kernel
theorem dX5_copyFrom_28 : decode cX5_copyFrom 28 = .ok (.aload_n 0, 1) := by decide +kernel
theorem dX5_copyFrom_29 : decode cX5_copyFrom 29 = .ok (.getfield 15, 3) := by decide +kernel
theorem dX5_copyFrom_32 : decode cX5_copyFrom 32 = .ok (.arraylength, 1) := by decide +kernel
theorem dX5_copyFrom_33 : decode cX5_copyFrom 33 = .ok (.invokestatic 37, 3) := by decide +kernel
theorem dX5_copyFrom_36 : decode cX5_copyFrom 36 = .ok (.aload_n 1, 1) := by decide +kernel
theorem dX5_copyFrom_37 : decode cX5_copyFrom 37 = .ok (.getfield 18, 3) := by decide +kernel
theorem dX5_copyFrom_40 : decode cX5_copyFrom 40 = .ok (.iconst 0, 1) := by decide +kernel
theorem dX5_copyFrom_41 : decode cX5_copyFrom 41 = .ok (.aload_n 0, 1) := by decide +kernel
theorem dX5_copyFrom_42 : decode cX5_copyFrom 42 = .ok (.getfield 18, 3) := by decide +kernel
theorem dX5_copyFrom_45 : decode cX5_copyFrom 45 = .ok (.iconst 0, 1) := by decide +kernel
theorem dX5_copyFrom_46 : decode cX5_copyFrom 46 = .ok (.aload_n 0, 1) := by decide +kernel
theorem dX5_copyFrom_47 : decode cX5_copyFrom 47 = .ok (.getfield 18, 3) := by decide +kernel
theorem dX5_copyFrom_50 : decode cX5_copyFrom 50 = .ok (.arraylength, 1) := by decide +kernel
theorem dX5_copyFrom_51 : decode cX5_copyFrom 51 = .ok (.invokestatic 37, 3) := by decide +kernel
theorem dX5_copyFrom_54 : decode cX5_copyFrom 54 = .ok (.aload_n 0, 1) := by decide +kernel
theorem dX5_copyFrom_55 : decode cX5_copyFrom 55 = .ok (.aload_n 1, 1) := by decide +kernel
theorem dX5_copyFrom_56 : decode cX5_copyFrom 56 = .ok (.getfield 27, 3) := by decide +kernel
theorem dX5_copyFrom_59 : decode cX5_copyFrom 59 = .ok (.putfield 27, 3) := by decide +kernel
theorem dX5_copyFrom_62 : decode cX5_copyFrom 62 = .ok (.aload_n 0, 1) := by decide +kernel
theorem dX5_copyFrom_63 : decode cX5_copyFrom 63 = .ok (.aload_n 1, 1) := by decide +kernel
theorem dX5_copyFrom_64 : decode cX5_copyFrom 64 = .ok (.getfield 31, 3) := by decide +kernel
theorem dX5_copyFrom_67 : decode cX5_copyFrom 67 = .ok (.putfield 31, 3) := by decide +kernel
theorem dX5_copyFrom_70 : decode cX5_copyFrom 70 = .ok (.aload_n 0, 1) := by decide +kernel
theorem dX5_copyFrom_71 : decode cX5_copyFrom 71 = .ok (.aload_n 1, 1) := by decide +kernel
theorem dX5_copyFrom_72 : decode cX5_copyFrom 72 = .ok (.getfield 34, 3) := by decide +kernel
theorem dX5_copyFrom_75 : decode cX5_copyFrom 75 = .ok (.putfield 34, 3) := by decide +kernel
theorem dX5_copyFrom_78 : decode cX5_copyFrom 78 = .ok (.return_, 1) := by decide +kernel
theorem dX5_openContext_0 : decode cX5_openContext 0 = .ok (.aload_n 0, 1) := by decide +kernel
theorem dX5_openContext_1 : decode cX5_openContext 1 = .ok (.dup, 1) := by decide +kernel
theorem dX5_openContext_2 : decode cX5_openContext 2 = .ok (.getfield 31, 3) := by decide +kernel
theorem dX5_openContext_5 : decode cX5_openContext 5 = .ok (.iconst 1, 1) := by decide +kernel
theorem dX5_openContext_6 : decode cX5_openContext 6 = .ok (.iload_n 1, 1) := by decide +kernel
theorem dX5_openContext_7 : decode cX5_openContext 7 = .ok (.bipush 6, 2) := by decide +kernel
theorem dX5_openContext_9 : decode cX5_openContext 9 = .ok (.imul, 1) := by decide +kernel
theorem dX5_openContext_10 : decode cX5_openContext 10 = .ok (.iconst 5, 1) := by decide +kernel
theorem dX5_openContext_11 : decode cX5_openContext 11 = .ok (.iadd, 1) := by decide +kernel
theorem dX5_openContext_12 : decode cX5_openContext 12 = .ok (.ishl, 1) := by decide +kernel
theorem dX5_openContext_13 : decode cX5_openContext 13 = .ok (.ior, 1) := by decide +kernel
theorem dX5_openContext_14 : decode cX5_openContext 14 = .ok (.putfield 31, 3) := by decide +kernel
theorem dX5_openContext_17 : decode cX5_openContext 17 = .ok (.return_, 1) := by decide +kernel
theorem dX5_putEdge_0 : decode cX5_putEdge 0 = .ok (.aload_n 0, 1) := by decide +kernel
theorem dX5_putEdge_1 : decode cX5_putEdge 1 = .ok (.dup, 1) := by decide +kernel
theorem dX5_putEdge_2 : decode cX5_putEdge 2 = .ok (.getfield 34, 3) := by decide +kernel
theorem dX5_putEdge_5 : decode cX5_putEdge 5 = .ok (.iconst 1, 1) := by decide +kernel
theorem dX5_putEdge_6 : decode cX5_putEdge 6 = .ok (.iload_n 1, 1) := by decide +kernel
theorem dX5_putEdge_7 : decode cX5_putEdge 7 = .ok (.ishl, 1) := by decide +kernel
theorem dX5_putEdge_8 : decode cX5_putEdge 8 = .ok (.ior, 1) := by decide +kernel
theorem dX5_putEdge_9 : decode cX5_putEdge 9 = .ok (.putfield 34, 3) := by decide +kernel
theorem dX5_putEdge_12 : decode cX5_putEdge 12 = .ok (.return_, 1) := by decide +kernel
theorem dX5_addItem_0 : decode cX5_addItem 0 = .ok (.iload_n 1, 1) := by decide +kernel
theorem dX5_addItem_1 : decode cX5_addItem 1 = .ok (.bipush 6, 2) := by decide +kernel
theorem dX5_addItem_3 : decode cX5_addItem 3 = .ok (.imul, 1) := by decide +kernel
theorem dX5_addItem_4 : decode cX5_addItem 4 = .ok (.istore 5, 2) := by decide +kernel
theorem dX5_addItem_6 : decode cX5_addItem 6 = .ok (.bipush 63, 2) := by decide +kernel
theorem dX5_addItem_8 : decode cX5_addItem 8 = .ok (.iload 5, 2) := by decide +kernel
theorem dX5_addItem_10 : decode cX5_addItem 10 = .ok (.ishl, 1) := by decide +kernel
theorem dX5_addItem_11 : decode cX5_addItem 11 = .ok (.istore 6, 2) := by decide +kernel
theorem dX5_addItem_13 : decode cX5_addItem 13 = .ok (.aload_n 0, 1) := by decide +kernel
theorem dX5_addItem_14 : decode cX5_addItem 14 = .ok (.getfield 11, 3) := by decide +kernel
theorem dX5_addItem_17 : decode cX5_addItem 17 = .ok (.iload 5, 2) := by decide +kernel
theorem dX5_addItem_19 : decode cX5_addItem 19 = .ok (.iconst 1, 1) := by decide +kernel
theorem dX5_addItem_20 : decode cX5_addItem 20 = .ok (.iadd, 1) := by decide +kernel
theorem dX5_addItem_21 : decode cX5_addItem 21 = .ok (.aload_n 0, 1) := by decide +kernel
theorem dX5_addItem_22 : decode cX5_addItem 22 = .ok (.getfield 11, 3) := by decide +kernel
theorem dX5_addItem_25 : decode cX5_addItem 25 = .ok (.iload 5, 2) := by decide +kernel
theorem dX5_addItem_27 : decode cX5_addItem 27 = .ok (.iconst 4, 1) := by decide +kernel
theorem dX5_addItem_28 : decode cX5_addItem 28 = .ok (.invokestatic 37, 3) := by decide +kernel
theorem dX5_addItem_31 : decode cX5_addItem 31 = .ok (.aload_n 0, 1) := by decide +kernel
theorem dX5_addItem_32 : decode cX5_addItem 32 = .ok (.getfield 15, 3) := by decide +kernel
theorem dX5_addItem_35 : decode cX5_addItem 35 = .ok (.iload 5, 2) := by decide +kernel
theorem dX5_addItem_37 : decode cX5_addItem 37 = .ok (.iconst 1, 1) := by decide +kernel
theorem dX5_addItem_38 : decode cX5_addItem 38 = .ok (.iadd, 1) := by decide +kernel
theorem dX5_addItem_39 : decode cX5_addItem 39 = .ok (.aload_n 0, 1) := by decide +kernel
theorem dX5_addItem_40 : decode cX5_addItem 40 = .ok (.getfield 15, 3) := by decide +kernel
theorem dX5_addItem_43 : decode cX5_addItem 43 = .ok (.iload 5, 2) := by decide +kernel
theorem dX5_addItem_45 : decode cX5_addItem 45 = .ok (.iconst 4, 1) := by decide +kernel
theorem dX5_addItem_46 : decode cX5_addItem 46 = .ok (.invokestatic 37, 3) := by decide +kernel
theorem dX5_addItem_49 : decode cX5_addItem 49 = .ok (.aload_n 0, 1) := by decide +kernel
theorem dX5_addItem_50 : decode cX5_addItem 50 = .ok (.getfield 11, 3) := by decide +kernel
theorem dX5_addItem_53 : decode cX5_addItem 53 = .ok (.iload 5, 2) := by decide +kernel
theorem dX5_addItem_55 : decode cX5_addItem 55 = .ok (.iconst 5, 1) := by decide +kernel
theorem dX5_addItem_56 : decode cX5_addItem 56 = .ok (.iadd, 1) := by decide +kernel
theorem dX5_addItem_57 : decode cX5_addItem 57 = .ok (.iconst 1, 1) := by decide +kernel
theorem dX5_addItem_58 : decode cX5_addItem 58 = .ok (.isub, 1) := by decide +kernel
theorem dX5_addItem_59 : decode cX5_addItem 59 = .ok (.iload_n 2, 1) := by decide +kernel
theorem dX5_addItem_60 : decode cX5_addItem 60 = .ok (.iastore, 1) := by decide +kernel
theorem dX5_addItem_61 : decode cX5_addItem 61 = .ok (.aload_n 0, 1) := by decide +kernel
theorem dX5_addItem_62 : decode cX5_addItem 62 = .ok (.getfield 15, 3) := by decide +kernel
theorem dX5_addItem_65 : decode cX5_addItem 65 = .ok (.iload 5, 2) := by decide +kernel
theorem dX5_addItem_67 : decode cX5_addItem 67 = .ok (.iconst 5, 1) := by decide +kernel
theorem dX5_addItem_68 : decode cX5_addItem 68 = .ok (.iadd, 1) := by decide +kernel
theorem dX5_addItem_69 : decode cX5_addItem 69 = .ok (.iconst 1, 1) := by decide +kernel
theorem dX5_addItem_70 : decode cX5_addItem 70 = .ok (.isub, 1) := by decide +kernel
theorem dX5_addItem_71 : decode cX5_addItem 71 = .ok (.iload_n 3, 1) := by decide +kernel
theorem dX5_addItem_72 : decode cX5_addItem 72 = .ok (.iastore, 1) := by decide +kernel
theorem dX5_addItem_73 : decode cX5_addItem 73 = .ok (.aload_n 0, 1) := by decide +kernel
theorem dX5_addItem_74 : decode cX5_addItem 74 = .ok (.aload_n 0, 1) := by decide +kernel
theorem dX5_addItem_75 : decode cX5_addItem 75 = .ok (.getfield 31, 3) := by decide +kernel
theorem dX5_addItem_78 : decode cX5_addItem 78 = .ok (.iload 6, 2) := by decide +kernel
theorem dX5_addItem_80 : decode cX5_addItem 80 = .ok (.iconst (-1), 1) := by decide +kernel
theorem dX5_addItem_81 : decode cX5_addItem 81 = .ok (.ixor, 1) := by decide +kernel
theorem dX5_addItem_82 : decode cX5_addItem 82 = .ok (.iand, 1) := by decide +kernel
theorem dX5_addItem_83 : decode cX5_addItem 83 = .ok (.aload_n 0, 1) := by decide +kernel
theorem dX5_addItem_84 : decode cX5_addItem 84 = .ok (.getfield 31, 3) := by decide +kernel
theorem dX5_addItem_87 : decode cX5_addItem 87 = .ok (.iload 6, 2) := by decide +kernel
theorem dX5_addItem_89 : decode cX5_addItem 89 = .ok (.iand, 1) := by decide +kernel
theorem dX5_addItem_90 : decode cX5_addItem 90 = .ok (.iconst 1, 1) := by decide +kernel
theorem dX5_addItem_91 : decode cX5_addItem 91 = .ok (.ishr, 1) := by decide +kernel
theorem dX5_addItem_92 : decode cX5_addItem 92 = .ok (.iload 6, 2) := by decide +kernel
theorem dX5_addItem_94 : decode cX5_addItem 94 = .ok (.iand, 1) := by decide +kernel
theorem dX5_addItem_95 : decode cX5_addItem 95 = .ok (.ior, 1) := by decide +kernel
theorem dX5_addItem_96 : decode cX5_addItem 96 = .ok (.putfield 31, 3) := by decide +kernel
theorem dX5_addItem_99 : decode cX5_addItem 99 = .ok (.aload_n 0, 1) := by decide +kernel
theorem dX5_addItem_100 : decode cX5_addItem 100 = .ok (.aload_n 0, 1) := by decide +kernel
theorem dX5_addItem_101 : decode cX5_addItem 101 = .ok (.getfield 27, 3) := by decide +kernel
theorem dX5_addItem_104 : decode cX5_addItem 104 = .ok (.iload 6, 2) := by decide +kernel
theorem dX5_addItem_106 : decode cX5_addItem 106 = .ok (.iconst (-1), 1) := by decide +kernel
theorem dX5_addItem_107 : decode cX5_addItem 107 = .ok (.ixor, 1) := by decide +kernel
theorem dX5_addItem_108 : decode cX5_addItem 108 = .ok (.iand, 1) := by decide +kernel
theorem dX5_addItem_109 : decode cX5_addItem 109 = .ok (.aload_n 0, 1) := by decide +kernel
theorem dX5_addItem_110 : decode cX5_addItem 110 = .ok (.getfield 27, 3) := by decide +kernel
theorem dX5_addItem_113 : decode cX5_addItem 113 = .ok (.iload 6, 2) := by decide +kernel
theorem dX5_addItem_115 : decode cX5_addItem 115 = .ok (.iand, 1) := by decide +kernel
theorem dX5_addItem_116 : decode cX5_addItem 116 = .ok (.iconst 1, 1) := by decide +kernel
theorem dX5_addItem_117 : decode cX5_addItem 117 = .ok (.ishr, 1) := by decide +kernel
theorem dX5_addItem_118 : decode cX5_addItem 118 = .ok (.iload 6, 2) := by decide +kernel
theorem dX5_addItem_120 : decode cX5_addItem 120 = .ok (.iand, 1) := by decide +kernel
theorem dX5_addItem_121 : decode cX5_addItem 121 = .ok (.ior, 1) := by decide +kernel
theorem dX5_addItem_122 : decode cX5_addItem 122 = .ok (.putfield 27, 3) := by decide +kernel
theorem dX5_addItem_125 : decode cX5_addItem 125 = .ok (.iload 4, 2) := by decide +kernel
theorem dX5_addItem_127 : decode cX5_addItem 127 = .ok (.ifCond .eq 20, 3) := by decide +kernel
theorem dX5_addItem_130 : decode cX5_addItem 130 = .ok (.aload_n 0, 1) := by decide +kernel
theorem dX5_addItem_131 : decode cX5_addItem 131 = .ok (.dup, 1) := by decide +kernel
theorem dX5_addItem_132 : decode cX5_addItem 132 = .ok (.getfield 27, 3) := by decide +kernel
theorem dX5_addItem_135 : decode cX5_addItem 135 = .ok (.iconst 1, 1) := by decide +kernel
theorem dX5_addItem_136 : decode cX5_addItem 136 = .ok (.iload 5, 2) := by decide +kernel
theorem dX5_addItem_138 : decode cX5_addItem 138 = .ok (.iconst 5, 1) := by decide +kernel
theorem dX5_addItem_139 : decode cX5_addItem 139 = .ok (.iadd, 1) := by decide +kernel
theorem dX5_addItem_140 : decode cX5_addItem 140 = .ok (.iconst 1, 1) := by decide +kernel
theorem dX5_addItem_141 : decode cX5_addItem 141 = .ok (.isub, 1) := by decide +kernel
theorem dX5_addItem_142 : decode cX5_addItem 142 = .ok (.ishl, 1) := by decide +kernel
theorem dX5_addItem_143 : decode cX5_addItem 143 = .ok (.ior, 1) := by decide +kernel
theorem dX5_addItem_144 : decode cX5_addItem 144 = .ok (.putfield 27, 3) := by decide +kernel
theorem dX5_addItem_147 : decode cX5_addItem 147 = .ok (.return_, 1) := by decide +kernel
theorem dX5_startsOf_0 : decode cX5_startsOf 0 = .ok (.aload_n 0, 1) := by decide +kernel
theorem dX5_startsOf_1 : decode cX5_startsOf 1 = .ok (.aload_n 0, 1) := by decide +kernel
theorem dX5_startsOf_2 : decode cX5_startsOf 2 = .ok (.getfield 31, 3) := by decide +kernel
theorem dX5_startsOf_5 : decode cX5_startsOf 5 = .ok (.bipush 63, 2) := by decide +kernel
theorem dX5_startsOf_7 : decode cX5_startsOf 7 = .ok (.iload_n 1, 1) := by decide +kernel
theorem dX5_startsOf_8 : decode cX5_startsOf 8 = .ok (.bipush 6, 2) := by decide +kernel
theorem dX5_startsOf_10 : decode cX5_startsOf 10 = .ok (.imul, 1) := by decide +kernel
theorem dX5_startsOf_11 : decode cX5_startsOf 11 = .ok (.ishl, 1) := by decide +kernel
theorem dX5_startsOf_12 : decode cX5_startsOf 12 = .ok (.iand, 1) := by decide +kernel
theorem dX5_startsOf_13 : decode cX5_startsOf 13 = .ok (.invokevirtual 58, 3) := by decide +kernel
theorem dX5_startsOf_16 : decode cX5_startsOf 16 = .ok (.ireturn, 1) := by decide +kernel
theorem dX5_freeStarts_0 : decode cX5_freeStarts 0 = .ok (.iconst 0, 1) := by decide +kernel
theorem dX5_freeStarts_1 : decode cX5_freeStarts 1 = .ok (.istore_n 1, 1) := by decide +kernel
theorem dX5_freeStarts_2 : decode cX5_freeStarts 2 = .ok (.iconst 0, 1) := by decide +kernel
theorem dX5_freeStarts_3 : decode cX5_freeStarts 3 = .ok (.istore_n 2, 1) := by decide +kernel
theorem dX5_freeStarts_4 : decode cX5_freeStarts 4 = .ok (.iload_n 2, 1) := by decide +kernel
theorem dX5_freeStarts_5 : decode cX5_freeStarts 5 = .ok (.iconst 3, 1) := by decide +kernel
theorem dX5_freeStarts_6 : decode cX5_freeStarts 6 = .ok (.if_icmp .ge 28, 3) := by decide +kernel
theorem dX5_freeStarts_9 : decode cX5_freeStarts 9 = .ok (.aload_n 0, 1) := by decide +kernel
theorem dX5_freeStarts_10 : decode cX5_freeStarts 10 = .ok (.getfield 34, 3) := by decide +kernel
theorem dX5_freeStarts_13 : decode cX5_freeStarts 13 = .ok (.iload_n 2, 1) := by decide +kernel
theorem dX5_freeStarts_14 : decode cX5_freeStarts 14 = .ok (.ishr, 1) := by decide +kernel
theorem dX5_freeStarts_15 : decode cX5_freeStarts 15 = .ok (.iconst 1, 1) := by decide +kernel
theorem dX5_freeStarts_16 : decode cX5_freeStarts 16 = .ok (.iand, 1) := by decide +kernel
theorem dX5_freeStarts_17 : decode cX5_freeStarts 17 = .ok (.ifCond .ne 11, 3) := by decide +kernel
theorem dX5_freeStarts_20 : decode cX5_freeStarts 20 = .ok (.iload_n 1, 1) := by decide +kernel
theorem dX5_freeStarts_21 : decode cX5_freeStarts 21 = .ok (.aload_n 0, 1) := by decide +kernel
theorem dX5_freeStarts_22 : decode cX5_freeStarts 22 = .ok (.iload_n 2, 1) := by decide +kernel
theorem dX5_freeStarts_23 : decode cX5_freeStarts 23 = .ok (.invokevirtual 62, 3) := by decide +kernel
theorem dX5_freeStarts_26 : decode cX5_freeStarts 26 = .ok (.ior, 1) := by decide +kernel
theorem dX5_freeStarts_27 : decode cX5_freeStarts 27 = .ok (.istore_n 1, 1) := by decide +kernel
theorem dX5_freeStarts_28 : decode cX5_freeStarts 28 = .ok (.iinc 2 1, 3) := by decide +kernel
theorem dX5_freeStarts_31 : decode cX5_freeStarts 31 = .ok (.goto (-27), 3) := by decide +kernel
theorem dX5_freeStarts_34 : decode cX5_freeStarts 34 = .ok (.iload_n 1, 1) := by decide +kernel
theorem dX5_freeStarts_35 : decode cX5_freeStarts 35 = .ok (.ireturn, 1) := by decide +kernel
theorem dX5_freeFinals_0 : decode cX5_freeFinals 0 = .ok (.iconst 0, 1) := by decide +kernel
theorem dX5_freeFinals_1 : decode cX5_freeFinals 1 = .ok (.istore_n 1, 1) := by decide +kernel
theorem dX5_freeFinals_2 : decode cX5_freeFinals 2 = .ok (.iconst 0, 1) := by decide +kernel
theorem dX5_freeFinals_3 : decode cX5_freeFinals 3 = .ok (.istore_n 2, 1) := by decide +kernel
theorem dX5_freeFinals_4 : decode cX5_freeFinals 4 = .ok (.iload_n 2, 1) := by decide +kernel
theorem dX5_freeFinals_5 : decode cX5_freeFinals 5 = .ok (.iconst 3, 1) := by decide +kernel
theorem dX5_freeFinals_6 : decode cX5_freeFinals 6 = .ok (.if_icmp .ge 31, 3) := by decide +kernel
theorem dX5_freeFinals_9 : decode cX5_freeFinals 9 = .ok (.aload_n 0, 1) := by decide +kernel
theorem dX5_freeFinals_10 : decode cX5_freeFinals 10 = .ok (.getfield 34, 3) := by decide +kernel
theorem dX5_freeFinals_13 : decode cX5_freeFinals 13 = .ok (.iload_n 2, 1) := by decide +kernel
theorem dX5_freeFinals_14 : decode cX5_freeFinals 14 = .ok (.ishr, 1) := by decide +kernel
theorem dX5_freeFinals_15 : decode cX5_freeFinals 15 = .ok (.iconst 1, 1) := by decide +kernel
theorem dX5_freeFinals_16 : decode cX5_freeFinals 16 = .ok (.iand, 1) := by decide +kernel
theorem dX5_freeFinals_17 : decode cX5_freeFinals 17 = .ok (.ifCond .ne 14, 3) := by decide +kernel
theorem dX5_freeFinals_20 : decode cX5_freeFinals 20 = .ok (.iload_n 1, 1) := by decide +kernel
theorem dX5_freeFinals_21 : decode cX5_freeFinals 21 = .ok (.iconst 1, 1) := by decide +kernel
theorem dX5_freeFinals_22 : decode cX5_freeFinals 22 = .ok (.iload_n 2, 1) := by decide +kernel
theorem dX5_freeFinals_23 : decode cX5_freeFinals 23 = .ok (.bipush 6, 2) := by decide +kernel
theorem dX5_freeFinals_25 : decode cX5_freeFinals 25 = .ok (.imul, 1) := by decide +kernel
theorem dX5_freeFinals_26 : decode cX5_freeFinals 26 = .ok (.iconst 5, 1) := by decide +kernel
theorem dX5_freeFinals_27 : decode cX5_freeFinals 27 = .ok (.iadd, 1) := by decide +kernel
theorem dX5_freeFinals_28 : decode cX5_freeFinals 28 = .ok (.ishl, 1) := by decide +kernel
theorem dX5_freeFinals_29 : decode cX5_freeFinals 29 = .ok (.ior, 1) := by decide +kernel
theorem dX5_freeFinals_30 : decode cX5_freeFinals 30 = .ok (.istore_n 1, 1) := by decide +kernel
theorem dX5_freeFinals_31 : decode cX5_freeFinals 31 = .ok (.iinc 2 1, 3) := by decide +kernel
theorem dX5_freeFinals_34 : decode cX5_freeFinals 34 = .ok (.goto (-30), 3) := by decide +kernel
theorem dX5_freeFinals_37 : decode cX5_freeFinals 37 = .ok (.iload_n 1, 1) := by decide +kernel
theorem dX5_freeFinals_38 : decode cX5_freeFinals 38 = .ok (.ireturn, 1) := by decide +kernel
theorem dX5_takes_0 : decode cX5_takes 0 = .ok (.aload_n 0, 1) := by decide +kernel
theorem dX5_takes_1 : decode cX5_takes 1 = .ok (.getfield 11, 3) := by decide +kernel
theorem dX5_takes_4 : decode cX5_takes 4 = .ok (.iload_n 1, 1) := by decide +kernel
theorem dX5_takes_5 : decode cX5_takes 5 = .ok (.iaload, 1) := by decide +kernel
theorem dX5_takes_6 : decode cX5_takes 6 = .ok (.iload_n 2, 1) := by decide +kernel
theorem dX5_takes_7 : decode cX5_takes 7 = .ok (.ishr, 1) := by decide +kernel
theorem dX5_takes_8 : decode cX5_takes 8 = .ok (.aload_n 0, 1) := by decide +kernel
theorem dX5_takes_9 : decode cX5_takes 9 = .ok (.getfield 15, 3) := by decide +kernel
theorem dX5_takes_12 : decode cX5_takes 12 = .ok (.iload_n 1, 1) := by decide +kernel
theorem dX5_takes_13 : decode cX5_takes 13 = .ok (.iaload, 1) := by decide +kernel
theorem dX5_takes_14 : decode cX5_takes 14 = .ok (.iload_n 3, 1) := by decide +kernel
theorem dX5_takes_15 : decode cX5_takes 15 = .ok (.ishr, 1) := by decide +kernel
theorem dX5_takes_16 : decode cX5_takes 16 = .ok (.iand, 1) := by decide +kernel
theorem dX5_takes_17 : decode cX5_takes 17 = .ok (.iconst 1, 1) := by decide +kernel
theorem dX5_takes_18 : decode cX5_takes 18 = .ok (.iand, 1) := by decide +kernel
theorem dX5_takes_19 : decode cX5_takes 19 = .ok (.iconst 1, 1) := by decide +kernel
theorem dX5_takes_20 : decode cX5_takes 20 = .ok (.if_icmp .ne 7, 3) := by decide +kernel
theorem dX5_takes_23 : decode cX5_takes 23 = .ok (.iconst 1, 1) := by decide +kernel
theorem dX5_takes_24 : decode cX5_takes 24 = .ok (.goto 4, 3) := by decide +kernel
theorem dX5_takes_27 : decode cX5_takes 27 = .ok (.iconst 0, 1) := by decide +kernel
theorem dX5_takes_28 : decode cX5_takes 28 = .ok (.istore 4, 2) := by decide +kernel
theorem dX5_takes_30 : decode cX5_takes 30 = .ok (.iload 4, 2) := by decide +kernel
theorem dX5_takes_32 : decode cX5_takes 32 = .ok (.ifCond .eq 25, 3) := by decide +kernel
theorem dX5_takes_35 : decode cX5_takes 35 = .ok (.iload_n 2, 1) := by decide +kernel
theorem dX5_takes_36 : decode cX5_takes 36 = .ok (.iload_n 3, 1) := by decide +kernel
theorem dX5_takes_37 : decode cX5_takes 37 = .ok (.if_icmp .eq 16, 3) := by decide +kernel
theorem dX5_takes_40 : decode cX5_takes 40 = .ok (.aload_n 0, 1) := by decide +kernel
theorem dX5_takes_41 : decode cX5_takes 41 = .ok (.getfield 15, 3) := by decide +kernel
theorem dX5_takes_44 : decode cX5_takes 44 = .ok (.iload_n 1, 1) := by decide +kernel
theorem dX5_takes_45 : decode cX5_takes 45 = .ok (.iaload, 1) := by decide +kernel
theorem dX5_takes_46 : decode cX5_takes 46 = .ok (.sipush 512, 3) := by decide +kernel
theorem dX5_takes_49 : decode cX5_takes 49 = .ok (.iand, 1) := by decide +kernel
theorem dX5_takes_50 : decode cX5_takes 50 = .ok (.ifCond .ne 7, 3) := by decide +kernel
theorem dX5_takes_53 : decode cX5_takes 53 = .ok (.iconst 1, 1) := by decide +kernel
theorem dX5_takes_54 : decode cX5_takes 54 = .ok (.goto 4, 3) := by decide +kernel
theorem dX5_takes_57 : decode cX5_takes 57 = .ok (.iconst 0, 1) := by decide +kernel
theorem dX5_takes_58 : decode cX5_takes 58 = .ok (.ireturn, 1) := by decide +kernel
theorem dX5_compile_0 : decode cX5_compile 0 = .ok (.iconst 0, 1) := by decide +kernel
theorem dX5_compile_1 : decode cX5_compile 1 = .ok (.istore_n 2, 1) := by decide +kernel
theorem dX5_compile_2 : decode cX5_compile 2 = .ok (.iload_n 2, 1) := by decide +kernel
theorem dX5_compile_3 : decode cX5_compile 3 = .ok (.aload_n 1, 1) := by decide +kernel
theorem dX5_compile_4 : decode cX5_compile 4 = .ok (.getfield 43, 3) := by decide +kernel
theorem dX5_compile_7 : decode cX5_compile 7 = .ok (.if_icmp .ge 65, 3) := by decide +kernel
theorem dX5_compile_10 : decode cX5_compile 10 = .ok (.iconst 0, 1) := by decide +kernel
theorem dX5_compile_11 : decode cX5_compile 11 = .ok (.istore_n 3, 1) := by decide +kernel
theorem dX5_compile_12 : decode cX5_compile 12 = .ok (.iconst 0, 1) := by decide +kernel
theorem dX5_compile_13 : decode cX5_compile 13 = .ok (.istore 4, 2) := by decide +kernel
theorem dX5_compile_15 : decode cX5_compile 15 = .ok (.iload 4, 2) := by decide +kernel
theorem dX5_compile_17 : decode cX5_compile 17 = .ok (.aload_n 0, 1) := by decide +kernel
theorem dX5_compile_18 : decode cX5_compile 18 = .ok (.getfield 11, 3) := by decide +kernel
theorem dX5_compile_21 : decode cX5_compile 21 = .ok (.arraylength, 1) := by decide +kernel
theorem dX5_compile_22 : decode cX5_compile 22 = .ok (.if_icmp .ge 37, 3) := by decide +kernel
theorem dX5_compile_25 : decode cX5_compile 25 = .ok (.aload_n 0, 1) := by decide +kernel
theorem dX5_compile_26 : decode cX5_compile 26 = .ok (.iload 4, 2) := by decide +kernel
theorem dX5_compile_28 : decode cX5_compile 28 = .ok (.aload_n 1, 1) := by decide +kernel
theorem dX5_compile_29 : decode cX5_compile 29 = .ok (.getfield 48, 3) := by decide +kernel
theorem dX5_compile_32 : decode cX5_compile 32 = .ok (.iload_n 2, 1) := by decide +kernel
theorem dX5_compile_33 : decode cX5_compile 33 = .ok (.iaload, 1) := by decide +kernel
theorem dX5_compile_34 : decode cX5_compile 34 = .ok (.aload_n 1, 1) := by decide +kernel
theorem dX5_compile_35 : decode cX5_compile 35 = .ok (.getfield 51, 3) := by decide +kernel
theorem dX5_compile_38 : decode cX5_compile 38 = .ok (.iload_n 2, 1) := by decide +kernel
theorem dX5_compile_39 : decode cX5_compile 39 = .ok (.iaload, 1) := by decide +kernel
theorem dX5_compile_40 : decode cX5_compile 40 = .ok (.invokevirtual 54, 3) := by decide +kernel
theorem dX5_compile_43 : decode cX5_compile 43 = .ok (.ifCond .eq 10, 3) := by decide +kernel
theorem dX5_compile_46 : decode cX5_compile 46 = .ok (.iload_n 3, 1) := by decide +kernel
theorem dX5_compile_47 : decode cX5_compile 47 = .ok (.iconst 1, 1) := by decide +kernel
theorem dX5_compile_48 : decode cX5_compile 48 = .ok (.iload 4, 2) := by decide +kernel
theorem dX5_compile_50 : decode cX5_compile 50 = .ok (.ishl, 1) := by decide +kernel
theorem dX5_compile_51 : decode cX5_compile 51 = .ok (.ior, 1) := by decide +kernel
theorem dX5_compile_52 : decode cX5_compile 52 = .ok (.istore_n 3, 1) := by decide +kernel
theorem dX5_compile_53 : decode cX5_compile 53 = .ok (.iinc 4 1, 3) := by decide +kernel
theorem dX5_compile_56 : decode cX5_compile 56 = .ok (.goto (-41), 3) := by decide +kernel
theorem dX5_compile_59 : decode cX5_compile 59 = .ok (.aload_n 0, 1) := by decide +kernel
theorem dX5_compile_60 : decode cX5_compile 60 = .ok (.getfield 18, 3) := by decide +kernel
theorem dX5_compile_63 : decode cX5_compile 63 = .ok (.iload_n 2, 1) := by decide +kernel
theorem dX5_compile_64 : decode cX5_compile 64 = .ok (.iload_n 3, 1) := by decide +kernel
theorem dX5_compile_65 : decode cX5_compile 65 = .ok (.iastore, 1) := by decide +kernel
theorem dX5_compile_66 : decode cX5_compile 66 = .ok (.iinc 2 1, 3) := by decide +kernel
theorem dX5_compile_69 : decode cX5_compile 69 = .ok (.goto (-67), 3) := by decide +kernel
theorem dX5_compile_72 : decode cX5_compile 72 = .ok (.return_, 1) := by decide +kernel
theorem dX10_clear_0 : decode cX10_clear 0 = .ok (.aload_n 0, 1) := by decide +kernel
theorem dX10_clear_1 : decode cX10_clear 1 = .ok (.iconst 0, 1) := by decide +kernel
theorem dX10_clear_2 : decode cX10_clear 2 = .ok (.putfield 15, 3) := by decide +kernel
theorem dX10_clear_5 : decode cX10_clear 5 = .ok (.aload_n 0, 1) := by decide +kernel
theorem dX10_clear_6 : decode cX10_clear 6 = .ok (.iconst 0, 1) := by decide +kernel
theorem dX10_clear_7 : decode cX10_clear 7 = .ok (.putfield 19, 3) := by decide +kernel
theorem dX10_clear_10 : decode cX10_clear 10 = .ok (.return_, 1) := by decide +kernel
theorem dX7_signOf_0 : decode cX7_signOf 0 = .ok (.iload_n 1, 1) := by decide +kernel
theorem dX7_signOf_1 : decode cX7_signOf 1 = .ok (.bipush 97, 2) := by decide +kernel
theorem dX7_signOf_3 : decode cX7_signOf 3 = .ok (.if_icmp .lt 9, 3) := by decide +kernel
theorem dX7_signOf_6 : decode cX7_signOf 6 = .ok (.iload_n 1, 1) := by decide +kernel
theorem dX7_signOf_7 : decode cX7_signOf 7 = .ok (.bipush 122, 2) := by decide +kernel
theorem dX7_signOf_9 : decode cX7_signOf 9 = .ok (.if_icmp .le 7, 3) := by decide +kernel
theorem dX7_signOf_12 : decode cX7_signOf 12 = .ok (.iconst 0, 1) := by decide +kernel
theorem dX7_signOf_13 : decode cX7_signOf 13 = .ok (.goto 12, 3) := by decide +kernel
theorem dX7_signOf_16 : decode cX7_signOf 16 = .ok (.aload_n 0, 1) := by decide +kernel
theorem dX7_signOf_17 : decode cX7_signOf 17 = .ok (.getfield 9, 3) := by decide +kernel
