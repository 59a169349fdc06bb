theorem dX11_image_32 : decode cX11_image 32 = .ok (.ireturn, 1) := by decide +kernel
theorem dX11_image_33 : decode cX11_image 33 = .ok (.aload_n 0, 1) := by decide +kernel
theorem dX11_image_34 : decode cX11_image 34 = .ok (.getfield 305, 3) := by decide +kernel
theorem dX11_image_37 : decode cX11_image 37 = .ok (.ifCond .ne 5, 3) := by decide +kernel
theorem dX11_image_40 : decode cX11_image 40 = .ok (.iconst 0, 1) := by decide +kernel
theorem dX11_image_41 : decode cX11_image 41 = .ok (.ireturn, 1) := by decide +kernel
theorem dX11_image_42 : decode cX11_image 42 = .ok (.aload_n 0, 1) := by decide +kernel
theorem dX11_image_43 : decode cX11_image 43 = .ok (.getfield 24, 3) := by decide +kernel
theorem dX11_image_46 : decode cX11_image 46 = .ok (.aload_n 0, 1) := by decide +kernel
theorem dX11_image_47 : decode cX11_image 47 = .ok (.getfield 40, 3) := by decide +kernel
theorem dX11_image_50 : decode cX11_image 50 = .ok (.invokevirtual 94, 3) := by decide +kernel
theorem dX11_image_53 : decode cX11_image 53 = .ok (.aload_n 0, 1) := by decide +kernel
theorem dX11_image_54 : decode cX11_image 54 = .ok (.getfield 33, 3) := by decide +kernel
theorem dX11_image_57 : decode cX11_image 57 = .ok (.aload_n 0, 1) := by decide +kernel
theorem dX11_image_58 : decode cX11_image 58 = .ok (.getfield 43, 3) := by decide +kernel
theorem dX11_image_61 : decode cX11_image 61 = .ok (.invokevirtual 302, 3) := by decide +kernel
theorem dX11_image_64 : decode cX11_image 64 = .ok (.aload_n 0, 1) := by decide +kernel
theorem dX11_image_65 : decode cX11_image 65 = .ok (.dup, 1) := by decide +kernel
theorem dX11_image_66 : decode cX11_image 66 = .ok (.getfield 104, 3) := by decide +kernel
theorem dX11_image_69 : decode cX11_image 69 = .ok (.iconst 1, 1) := by decide +kernel
theorem dX11_image_70 : decode cX11_image 70 = .ok (.iadd, 1) := by decide +kernel
theorem dX11_image_71 : decode cX11_image 71 = .ok (.putfield 104, 3) := by decide +kernel
theorem dX11_image_74 : decode cX11_image 74 = .ok (.iconst 1, 1) := by decide +kernel
theorem dX11_image_75 : decode cX11_image 75 = .ok (.ireturn, 1) := by decide +kernel
theorem dX11_meant_0 : decode cX11_meant 0 = .ok (.iload_n 1, 1) := by decide +kernel
theorem dX11_meant_1 : decode cX11_meant 1 = .ok (.ifCond .lt 20, 3) := by decide +kernel
theorem dX11_meant_4 : decode cX11_meant 4 = .ok (.iload_n 1, 1) := by decide +kernel
theorem dX11_meant_5 : decode cX11_meant 5 = .ok (.aload_n 0, 1) := by decide +kernel
theorem dX11_meant_6 : decode cX11_meant 6 = .ok (.getfield 112, 3) := by decide +kernel
theorem dX11_meant_9 : decode cX11_meant 9 = .ok (.if_icmp .ge 12, 3) := by decide +kernel
theorem dX11_meant_12 : decode cX11_meant 12 = .ok (.iload_n 2, 1) := by decide +kernel
theorem dX11_meant_13 : decode cX11_meant 13 = .ok (.ifCond .eq 10, 3) := by decide +kernel
theorem dX11_meant_16 : decode cX11_meant 16 = .ok (.iload_n 2, 1) := by decide +kernel
theorem dX11_meant_17 : decode cX11_meant 17 = .ok (.iconst 1, 1) := by decide +kernel
theorem dX11_meant_18 : decode cX11_meant 18 = .ok (.if_icmp .eq 5, 3) := by decide +kernel
theorem dX11_meant_21 : decode cX11_meant 21 = .ok (.iconst (-1), 1) := by decide +kernel
theorem dX11_meant_22 : decode cX11_meant 22 = .ok (.ireturn, 1) := by decide +kernel
theorem dX11_meant_23 : decode cX11_meant 23 = .ok (.iload_n 2, 1) := by decide +kernel
theorem dX11_meant_24 : decode cX11_meant 24 = .ok (.ifCond .ne 15, 3) := by decide +kernel
theorem dX11_meant_27 : decode cX11_meant 27 = .ok (.aload_n 0, 1) := by decide +kernel
theorem dX11_meant_28 : decode cX11_meant 28 = .ok (.getfield 60, 3) := by decide +kernel
theorem dX11_meant_31 : decode cX11_meant 31 = .ok (.iload_n 1, 1) := by decide +kernel
theorem dX11_meant_32 : decode cX11_meant 32 = .ok (.iaload, 1) := by decide +kernel
theorem dX11_meant_33 : decode cX11_meant 33 = .ok (.bipush 8, 2) := by decide +kernel
theorem dX11_meant_35 : decode cX11_meant 35 = .ok (.idiv, 1) := by decide +kernel
theorem dX11_meant_36 : decode cX11_meant 36 = .ok (.goto 12, 3) := by decide +kernel
theorem dX11_meant_39 : decode cX11_meant 39 = .ok (.aload_n 0, 1) := by decide +kernel
theorem dX11_meant_40 : decode cX11_meant 40 = .ok (.getfield 60, 3) := by decide +kernel
theorem dX11_meant_43 : decode cX11_meant 43 = .ok (.iload_n 1, 1) := by decide +kernel
theorem dX11_meant_44 : decode cX11_meant 44 = .ok (.iaload, 1) := by decide +kernel
theorem dX11_meant_45 : decode cX11_meant 45 = .ok (.bipush 8, 2) := by decide +kernel
theorem dX11_meant_47 : decode cX11_meant 47 = .ok (.irem, 1) := by decide +kernel
theorem dX11_meant_48 : decode cX11_meant 48 = .ok (.ireturn, 1) := by decide +kernel
