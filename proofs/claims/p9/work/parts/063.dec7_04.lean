theorem dX12_houseTold_74 : decode cX12_houseTold 74 = .ok (.iconst 5, 1) := by decide +kernel
theorem dX12_houseTold_75 : decode cX12_houseTold 75 = .ok (.aload_n 0, 1) := by decide +kernel
theorem dX12_houseTold_76 : decode cX12_houseTold 76 = .ok (.iconst 0, 1) := by decide +kernel
theorem dX12_houseTold_77 : decode cX12_houseTold 77 = .ok (.sipush 9999, 3) := by decide +kernel
theorem dX12_houseTold_80 : decode cX12_houseTold 80 = .ok (.invokevirtual 195, 3) := by decide +kernel
theorem dX12_houseTold_83 : decode cX12_houseTold 83 = .ok (.iastore, 1) := by decide +kernel
theorem dX12_houseTold_84 : decode cX12_houseTold 84 = .ok (.goto 23, 3) := by decide +kernel
theorem dX12_houseTold_51 : decode cX12_houseTold 51 = .ok (.aload_n 0, 1) := by decide +kernel
theorem dX12_houseTold_52 : decode cX12_houseTold 52 = .ok (.iload_n 1, 1) := by decide +kernel
theorem dX12_houseTold_53 : decode cX12_houseTold 53 = .ok (.invokevirtual 209, 3) := by decide +kernel
theorem dX12_houseTold_56 : decode cX12_houseTold 56 = .ok (.goto 51, 3) := by decide +kernel
theorem dX12_houseTold_32 : decode cX12_houseTold 32 = .ok (.aload_n 0, 1) := by decide +kernel
theorem dX12_houseTold_33 : decode cX12_houseTold 33 = .ok (.iload_n 1, 1) := by decide +kernel
theorem dX12_houseTold_34 : decode cX12_houseTold 34 = .ok (.invokevirtual 205, 3) := by decide +kernel
theorem dX12_houseTold_37 : decode cX12_houseTold 37 = .ok (.goto 70, 3) := by decide +kernel
theorem dX12_houseTold_14 : decode cX12_houseTold 14 = .ok (.aload_n 0, 1) := by decide +kernel
theorem dX12_houseTold_15 : decode cX12_houseTold 15 = .ok (.iconst 4, 1) := by decide +kernel
theorem dX12_houseTold_16 : decode cX12_houseTold 16 = .ok (.iload_n 1, 1) := by decide +kernel
theorem dX12_houseTold_17 : decode cX12_houseTold 17 = .ok (.invokevirtual 181, 3) := by decide +kernel
theorem dX12_houseTold_20 : decode cX12_houseTold 20 = .ok (.return_, 1) := by decide +kernel
theorem dX12_house_168 : decode cX12_house 168 = .ok (.goto (-19), 3) := by decide +kernel
