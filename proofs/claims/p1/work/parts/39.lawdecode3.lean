theorem dL_soul_15 : decode cL_soul 15 = .ok (.iconst 1, 1) := by decide +kernel
theorem dL_soul_16 : decode cL_soul 16 = .ok (.ireturn, 1) := by decide +kernel
theorem dX11_soul_0 : decode cX11_soul 0 = .ok (.aload_n 0, 1) := by decide +kernel
theorem dX11_soul_1 : decode cX11_soul 1 = .ok (.getfield 19, 3) := by decide +kernel
theorem dX11_soul_4 : decode cX11_soul 4 = .ok (.iload_n 1, 1) := by decide +kernel
theorem dX11_soul_5 : decode cX11_soul 5 = .ok (.invokevirtual 169, 3) := by decide +kernel
theorem dX11_soul_8 : decode cX11_soul 8 = .ok (.ifCond .eq 13, 3) := by decide +kernel
theorem dX11_soul_21 : decode cX11_soul 21 = .ok (.new 172, 3) := by decide +kernel
theorem dX11_soul_24 : decode cX11_soul 24 = .ok (.dup, 1) := by decide +kernel
theorem dX11_soul_25 : decode cX11_soul 25 = .ok (.invokespecial 174, 3) := by decide +kernel
theorem dX11_soul_28 : decode cX11_soul 28 = .ok (.athrow, 1) := by decide +kernel
theorem dX12_thrown_0 : decode cX12_thrown 0 = .ok (.aload_n 0, 1) := by decide +kernel
theorem dX12_thrown_1 : decode cX12_thrown 1 = .ok (.getfield 1, 3) := by decide +kernel
theorem dX12_thrown_4 : decode cX12_thrown 4 = .ok (.ireturn, 1) := by decide +kernel
