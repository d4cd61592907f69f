theorem dX4_readHouse_103 : decode cX4_readHouse 103 = .ok (.ireturn, 1) := by decide +kernel
theorem dX4_readHouse_93 : decode cX4_readHouse 93 = .ok (.aload_n 0, 1) := by decide +kernel
theorem dX4_readHouse_94 : decode cX4_readHouse 94 = .ok (.bipush 59, 2) := by decide +kernel
theorem dX4_readHouse_96 : decode cX4_readHouse 96 = .ok (.invokevirtual 63, 3) := by decide +kernel
theorem dX4_readHouse_99 : decode cX4_readHouse 99 = .ok (.ifCond .ne 5, 3) := by decide +kernel
theorem dX4_readHouse_104 : decode cX4_readHouse 104 = .ok (.aload_n 0, 1) := by decide +kernel
theorem dX4_readHouse_105 : decode cX4_readHouse 105 = .ok (.getfield 21, 3) := by decide +kernel
theorem dX4_readHouse_108 : decode cX4_readHouse 108 = .ok (.iload_n 1, 1) := by decide +kernel
theorem dX4_readHouse_109 : decode cX4_readHouse 109 = .ok (.iconst 1, 1) := by decide +kernel
theorem dX4_readHouse_110 : decode cX4_readHouse 110 = .ok (.iadd, 1) := by decide +kernel
theorem dX4_readHouse_111 : decode cX4_readHouse 111 = .ok (.putfield 67, 3) := by decide +kernel
theorem dX4_readHouse_114 : decode cX4_readHouse 114 = .ok (.iinc 1 1, 3) := by decide +kernel
theorem dX4_readHouse_117 : decode cX4_readHouse 117 = .ok (.goto (-87), 3) := by decide +kernel
theorem dX4_readHouse_44 : decode cX4_readHouse 44 = .ok (.iload_n 1, 1) := by decide +kernel
theorem dX4_readHouse_45 : decode cX4_readHouse 45 = .ok (.ifCond .gt 10, 3) := by decide +kernel
theorem dX4_readHouse_48 : decode cX4_readHouse 48 = .ok (.aload_n 0, 1) := by decide +kernel
theorem dX4_readHouse_49 : decode cX4_readHouse 49 = .ok (.invokevirtual 51, 3) := by decide +kernel
theorem dX4_readHouse_52 : decode cX4_readHouse 52 = .ok (.ifCond .eq 7, 3) := by decide +kernel
theorem dX4_readHouse_59 : decode cX4_readHouse 59 = .ok (.iconst 0, 1) := by decide +kernel
theorem dX4_readHouse_60 : decode cX4_readHouse 60 = .ok (.ireturn, 1) := by decide +kernel
theorem dX4_readHouse_120 : decode cX4_readHouse 120 = .ok (.iconst 0, 1) := by decide +kernel
theorem dX4_readHouse_121 : decode cX4_readHouse 121 = .ok (.ireturn, 1) := by decide +kernel
theorem dX4_readHouse_86 : decode cX4_readHouse 86 = .ok (.iconst 0, 1) := by decide +kernel
theorem dX4_readHouse_67 : decode cX4_readHouse 67 = .ok (.aload_n 0, 1) := by decide +kernel
theorem dX4_readHouse_68 : decode cX4_readHouse 68 = .ok (.iconst 4, 1) := by decide +kernel
theorem dX4_readHouse_69 : decode cX4_readHouse 69 = .ok (.aload_n 0, 1) := by decide +kernel
theorem dX4_readHouse_70 : decode cX4_readHouse 70 = .ok (.getfield 25, 3) := by decide +kernel
theorem dX4_readHouse_73 : decode cX4_readHouse 73 = .ok (.invokevirtual 55, 3) := by decide +kernel
theorem dX4_readHouse_76 : decode cX4_readHouse 76 = .ok (.ireturn, 1) := by decide +kernel
theorem dX4_readHouse_55 : decode cX4_readHouse 55 = .ok (.iconst 1, 1) := by decide +kernel
theorem dX4_readHouse_56 : decode cX4_readHouse 56 = .ok (.goto 4, 3) := by decide +kernel
theorem dX11_house_7 : decode cX11_house 7 = .ok (.istore_n 1, 1) := by decide +kernel
theorem dX11_house_8 : decode cX11_house 8 = .ok (.aload_n 0, 1) := by decide +kernel
theorem dX11_house_9 : decode cX11_house 9 = .ok (.getfield 20, 3) := by decide +kernel
theorem dX11_house_12 : decode cX11_house 12 = .ok (.iconst 0, 1) := by decide +kernel
theorem dX11_house_13 : decode cX11_house 13 = .ok (.invokevirtual 97, 3) := by decide +kernel
theorem dX11_house_16 : decode cX11_house 16 = .ok (.iload_n 1, 1) := by decide +kernel
theorem dX11_house_17 : decode cX11_house 17 = .ok (.ifCond .ne 5, 3) := by decide +kernel
theorem dX11_house_22 : decode cX11_house 22 = .ok (.aload_n 0, 1) := by decide +kernel
theorem dX11_house_23 : decode cX11_house 23 = .ok (.aload_n 0, 1) := by decide +kernel
theorem dX11_house_24 : decode cX11_house 24 = .ok (.getfield 10, 3) := by decide +kernel
theorem dX11_house_27 : decode cX11_house 27 = .ok (.aload_n 0, 1) := by decide +kernel
theorem dX11_house_28 : decode cX11_house 28 = .ok (.getfield 69, 3) := by decide +kernel
theorem dX11_house_31 : decode cX11_house 31 = .ok (.invokevirtual 104, 3) := by decide +kernel
theorem dX4_exchange_0 : decode cX4_exchange 0 = .ok (.aload_n 0, 1) := by decide +kernel
theorem dX4_exchange_1 : decode cX4_exchange 1 = .ok (.getfield 21, 3) := by decide +kernel
theorem dX4_exchange_4 : decode cX4_exchange 4 = .ok (.astore_n 2, 1) := by decide +kernel
theorem dX4_exchange_5 : decode cX4_exchange 5 = .ok (.aload_n 0, 1) := by decide +kernel
theorem dX4_exchange_6 : decode cX4_exchange 6 = .ok (.aload_n 1, 1) := by decide +kernel
theorem dX4_exchange_7 : decode cX4_exchange 7 = .ok (.putfield 21, 3) := by decide +kernel
theorem dX4_exchange_10 : decode cX4_exchange 10 = .ok (.aload_n 2, 1) := by decide +kernel
theorem dX4_exchange_11 : decode cX4_exchange 11 = .ok (.areturn, 1) := by decide +kernel
theorem dX11_house_34 : decode cX11_house 34 = .ok (.putfield 69, 3) := by decide +kernel
theorem dX11_house_37 : decode cX11_house 37 = .ok (.aload_n 0, 1) := by decide +kernel
theorem dX11_house_38 : decode cX11_house 38 = .ok (.getfield 49, 3) := by decide +kernel
theorem dX11_house_41 : decode cX11_house 41 = .ok (.iconst 0, 1) := by decide +kernel
theorem dX11_house_42 : decode cX11_house 42 = .ok (.invokestatic 108, 3) := by decide +kernel
theorem dX11_house_45 : decode cX11_house 45 = .ok (.aload_n 0, 1) := by decide +kernel
theorem dX11_house_46 : decode cX11_house 46 = .ok (.getfield 76, 3) := by decide +kernel
theorem dX11_house_49 : decode cX11_house 49 = .ok (.aload_n 0, 1) := by decide +kernel
theorem dX11_house_50 : decode cX11_house 50 = .ok (.getfield 69, 3) := by decide +kernel
theorem dX11_house_53 : decode cX11_house 53 = .ok (.invokevirtual 114, 3) := by decide +kernel
theorem dX11_house_56 : decode cX11_house 56 = .ok (.aload_n 0, 1) := by decide +kernel
theorem dX11_house_57 : decode cX11_house 57 = .ok (.getfield 24, 3) := by decide +kernel
theorem dX11_house_60 : decode cX11_house 60 = .ok (.invokevirtual 118, 3) := by decide +kernel
theorem dX11_house_63 : decode cX11_house 63 = .ok (.aload_n 0, 1) := by decide +kernel
theorem dX11_house_64 : decode cX11_house 64 = .ok (.getfield 31, 3) := by decide +kernel
theorem dX11_house_67 : decode cX11_house 67 = .ok (.invokevirtual 121, 3) := by decide +kernel
theorem dX11_house_70 : decode cX11_house 70 = .ok (.aload_n 0, 1) := by decide +kernel
theorem dX11_house_71 : decode cX11_house 71 = .ok (.getfield 38, 3) := by decide +kernel
theorem dX11_house_74 : decode cX11_house 74 = .ok (.invokevirtual 122, 3) := by decide +kernel
theorem dX11_house_77 : decode cX11_house 77 = .ok (.aload_n 0, 1) := by decide +kernel
theorem dX11_house_78 : decode cX11_house 78 = .ok (.getfield 45, 3) := by decide +kernel
theorem dX11_house_81 : decode cX11_house 81 = .ok (.invokevirtual 123, 3) := by decide +kernel
theorem dX11_house_84 : decode cX11_house 84 = .ok (.aload_n 0, 1) := by decide +kernel
theorem dX11_house_85 : decode cX11_house 85 = .ok (.getfield 69, 3) := by decide +kernel
theorem dX11_house_88 : decode cX11_house 88 = .ok (.getfield 124, 3) := by decide +kernel
theorem dX11_house_91 : decode cX11_house 91 = .ok (.ireturn, 1) := by decide +kernel
theorem dX11_house_20 : decode cX11_house 20 = .ok (.iconst (-1), 1) := by decide +kernel
theorem dX11_house_21 : decode cX11_house 21 = .ok (.ireturn, 1) := by decide +kernel
