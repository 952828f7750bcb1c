theorem dX9_keep_20 : decode cX9_keep 20 = .ok (.iconst 4, 1) := by decide +kernel
theorem dX9_keep_21 : decode cX9_keep 21 = .ok (.irem, 1) := by decide +kernel
theorem dX9_keep_22 : decode cX9_keep 22 = .ok (.putfield 18, 3) := by decide +kernel
theorem dX9_keep_25 : decode cX9_keep 25 = .ok (.aload_n 0, 1) := by decide +kernel
theorem dX9_keep_26 : decode cX9_keep 26 = .ok (.aload_n 0, 1) := by decide +kernel
theorem dX9_keep_27 : decode cX9_keep 27 = .ok (.getfield 26, 3) := by decide +kernel
theorem dX9_keep_30 : decode cX9_keep 30 = .ok (.iconst 1, 1) := by decide +kernel
theorem dX9_keep_31 : decode cX9_keep 31 = .ok (.iadd, 1) := by decide +kernel
theorem dX9_keep_32 : decode cX9_keep 32 = .ok (.iconst 4, 1) := by decide +kernel
theorem dX9_keep_33 : decode cX9_keep 33 = .ok (.invokestatic 29, 3) := by decide +kernel
theorem dX9_keep_36 : decode cX9_keep 36 = .ok (.putfield 26, 3) := by decide +kernel
theorem dX9_keep_39 : decode cX9_keep 39 = .ok (.return_, 1) := by decide +kernel
theorem dX9_takeBack_0 : decode cX9_takeBack 0 = .ok (.aload_n 0, 1) := by decide +kernel
theorem dX9_takeBack_1 : decode cX9_takeBack 1 = .ok (.getfield 26, 3) := by decide +kernel
theorem dX9_takeBack_4 : decode cX9_takeBack 4 = .ok (.ifCond .ne 5, 3) := by decide +kernel
theorem dX9_takeBack_7 : decode cX9_takeBack 7 = .ok (.iconst 0, 1) := by decide +kernel
theorem dX9_takeBack_8 : decode cX9_takeBack 8 = .ok (.ireturn, 1) := by decide +kernel
