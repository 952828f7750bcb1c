theorem dX12_wishes_163 : decode cX12_wishes 163 = .ok (.getfield 33, 3) := by decide +kernel
theorem dX12_wishes_166 : decode cX12_wishes 166 = .ok (.iconst 1, 1) := by decide +kernel
theorem dX12_wishes_167 : decode cX12_wishes 167 = .ok (.iaload, 1) := by decide +kernel
theorem dX12_wishes_168 : decode cX12_wishes 168 = .ok (.putfield 59, 3) := by decide +kernel
theorem dX12_wishes_171 : decode cX12_wishes 171 = .ok (.iload_n 1, 1) := by decide +kernel
theorem dX12_wishes_172 : decode cX12_wishes 172 = .ok (.ireturn, 1) := by decide +kernel
theorem dX12_worth_0 : decode cX12_worth 0 = .ok (.aload_n 0, 1) := by decide +kernel
theorem dX12_worth_1 : decode cX12_worth 1 = .ok (.iconst 0, 1) := by decide +kernel
theorem dX12_worth_2 : decode cX12_worth 2 = .ok (.putfield 1, 3) := by decide +kernel
theorem dX12_worth_5 : decode cX12_worth 5 = .ok (.aload_n 0, 1) := by decide +kernel
theorem dX12_worth_6 : decode cX12_worth 6 = .ok (.iload_n 1, 1) := by decide +kernel
theorem dX12_worth_7 : decode cX12_worth 7 = .ok (.invokevirtual 236, 3) := by decide +kernel
theorem dX12_worth_10 : decode cX12_worth 10 = .ok (.ifCond .eq 28, 3) := by decide +kernel
theorem dX12_worth_13 : decode cX12_worth 13 = .ok (.aload_n 0, 1) := by decide +kernel
theorem dX12_worth_14 : decode cX12_worth 14 = .ok (.iload_n 2, 1) := by decide +kernel
theorem dX12_worth_15 : decode cX12_worth 15 = .ok (.invokevirtual 246, 3) := by decide +kernel
theorem dX12_worth_18 : decode cX12_worth 18 = .ok (.ifCond .eq 20, 3) := by decide +kernel
theorem dX12_worth_21 : decode cX12_worth 21 = .ok (.aload_n 0, 1) := by decide +kernel
theorem dX12_worth_22 : decode cX12_worth 22 = .ok (.getfield 33, 3) := by decide +kernel
theorem dX12_worth_25 : decode cX12_worth 25 = .ok (.bipush 56, 2) := by decide +kernel
theorem dX12_worth_27 : decode cX12_worth 27 = .ok (.bipush 9, 2) := by decide +kernel
theorem dX12_worth_29 : decode cX12_worth 29 = .ok (.iload_n 1, 1) := by decide +kernel
theorem dX12_worth_30 : decode cX12_worth 30 = .ok (.imul, 1) := by decide +kernel
theorem dX12_worth_31 : decode cX12_worth 31 = .ok (.iadd, 1) := by decide +kernel
theorem dX12_worth_32 : decode cX12_worth 32 = .ok (.iload_n 2, 1) := by decide +kernel
theorem dX12_worth_33 : decode cX12_worth 33 = .ok (.iadd, 1) := by decide +kernel
theorem dX12_worth_34 : decode cX12_worth 34 = .ok (.iaload, 1) := by decide +kernel
theorem dX12_worth_35 : decode cX12_worth 35 = .ok (.goto 4, 3) := by decide +kernel
theorem dX12_worth_38 : decode cX12_worth 38 = .ok (.iconst (-1), 1) := by decide +kernel
theorem dX12_worth_39 : decode cX12_worth 39 = .ok (.ireturn, 1) := by decide +kernel
