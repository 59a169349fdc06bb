theorem dX11_meant_28 : decode cX11_meant 28 = .ok (.getfield 60, 3) := by decide +kernel
theorem dX11_meant_31 : decode cX11_meant 31 = .ok (.iload_n 1, 1) := by decide +kernel
theorem dX11_meant_32 : decode cX11_meant 32 = .ok (.iaload, 1) := by decide +kernel
theorem dX11_meant_33 : decode cX11_meant 33 = .ok (.bipush 8, 2) := by decide +kernel
theorem dX11_meant_35 : decode cX11_meant 35 = .ok (.idiv, 1) := by decide +kernel
theorem dX11_meant_36 : decode cX11_meant 36 = .ok (.goto 12, 3) := by decide +kernel
theorem dX11_meant_39 : decode cX11_meant 39 = .ok (.aload_n 0, 1) := by decide +kernel
theorem dX11_meant_40 : decode cX11_meant 40 = .ok (.getfield 60, 3) := by decide +kernel
theorem dX11_meant_43 : decode cX11_meant 43 = .ok (.iload_n 1, 1) := by decide +kernel
theorem dX11_meant_44 : decode cX11_meant 44 = .ok (.iaload, 1) := by decide +kernel
theorem dX11_meant_45 : decode cX11_meant 45 = .ok (.bipush 8, 2) := by decide +kernel
theorem dX11_meant_47 : decode cX11_meant 47 = .ok (.irem, 1) := by decide +kernel
theorem dX11_meant_48 : decode cX11_meant 48 = .ok (.ireturn, 1) := by decide +kernel
