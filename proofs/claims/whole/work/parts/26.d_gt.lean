theorem d_IM_lay_0 : decode b_IM_lay 0 = .ok (.aload_n 0, 1) := by decide +kernel
theorem d_IM_lay_1 : decode b_IM_lay 1 = .ok (.iconst 0, 1) := by decide +kernel
theorem d_IM_lay_2 : decode b_IM_lay 2 = .ok (.putfield 18, 3) := by decide +kernel
theorem d_IM_lay_5 : decode b_IM_lay 5 = .ok (.aload_n 0, 1) := by decide +kernel
theorem d_IM_lay_6 : decode b_IM_lay 6 = .ok (.aload_n 1, 1) := by decide +kernel
theorem d_IM_lay_7 : decode b_IM_lay 7 = .ok (.getfield 25, 3) := by decide +kernel
theorem d_IM_lay_10 : decode b_IM_lay 10 = .ok (.putfield 30, 3) := by decide +kernel
theorem d_IM_lay_13 : decode b_IM_lay 13 = .ok (.aload_n 0, 1) := by decide +kernel
theorem d_IM_lay_14 : decode b_IM_lay 14 = .ok (.aload_n 1, 1) := by decide +kernel
theorem d_IM_lay_15 : decode b_IM_lay 15 = .ok (.getfield 31, 3) := by decide +kernel
theorem d_IM_lay_18 : decode b_IM_lay 18 = .ok (.sipush 8192, 3) := by decide +kernel
theorem d_IM_lay_21 : decode b_IM_lay 21 = .ok (.iadd, 1) := by decide +kernel
theorem d_IM_lay_22 : decode b_IM_lay 22 = .ok (.putfield 34, 3) := by decide +kernel
theorem d_IM_lay_25 : decode b_IM_lay 25 = .ok (.aload_n 0, 1) := by decide +kernel
theorem d_IM_lay_26 : decode b_IM_lay 26 = .ok (.aload_n 3, 1) := by decide +kernel
theorem d_IM_lay_27 : decode b_IM_lay 27 = .ok (.getfield 37, 3) := by decide +kernel
theorem d_IM_lay_30 : decode b_IM_lay 30 = .ok (.putfield 40, 3) := by decide +kernel
theorem d_IM_lay_33 : decode b_IM_lay 33 = .ok (.iconst 0, 1) := by decide +kernel
theorem d_IM_lay_34 : decode b_IM_lay 34 = .ok (.istore 4, 2) := by decide +kernel
theorem d_IM_lay_36 : decode b_IM_lay 36 = .ok (.iload 4, 2) := by decide +kernel
theorem d_IM_lay_38 : decode b_IM_lay 38 = .ok (.aload_n 1, 1) := by decide +kernel
theorem d_IM_lay_39 : decode b_IM_lay 39 = .ok (.getfield 43, 3) := by decide +kernel
theorem d_IM_lay_42 : decode b_IM_lay 42 = .ok (.if_icmp .ge 31, 3) := by decide +kernel
theorem d_IM_lay_45 : decode b_IM_lay 45 = .ok (.iload 4, 2) := by decide +kernel
theorem d_IM_lay_47 : decode b_IM_lay 47 = .ok (.aload_n 1, 1) := by decide +kernel
theorem d_IM_lay_48 : decode b_IM_lay 48 = .ok (.getfield 44, 3) := by decide +kernel
theorem d_IM_lay_51 : decode b_IM_lay 51 = .ok (.arraylength, 1) := by decide +kernel
theorem d_IM_lay_52 : decode b_IM_lay 52 = .ok (.if_icmp .ge 21, 3) := by decide +kernel
theorem d_IM_lay_55 : decode b_IM_lay 55 = .ok (.aload_n 0, 1) := by decide +kernel
theorem d_IM_lay_56 : decode b_IM_lay 56 = .ok (.aload_n 1, 1) := by decide +kernel
theorem d_IM_lay_57 : decode b_IM_lay 57 = .ok (.getfield 44, 3) := by decide +kernel
theorem d_IM_lay_60 : decode b_IM_lay 60 = .ok (.iload 4, 2) := by decide +kernel
theorem d_IM_lay_62 : decode b_IM_lay 62 = .ok (.aaload, 1) := by decide +kernel
theorem d_IM_lay_63 : decode b_IM_lay 63 = .ok (.aload_n 2, 1) := by decide +kernel
theorem d_IM_lay_64 : decode b_IM_lay 64 = .ok (.invokevirtual 48, 3) := by decide +kernel
theorem d_IM_lay_67 : decode b_IM_lay 67 = .ok (.iinc 4 1, 3) := by decide +kernel
theorem d_IM_lay_70 : decode b_IM_lay 70 = .ok (.goto (-34), 3) := by decide +kernel
theorem d_IM_lay_73 : decode b_IM_lay 73 = .ok (.aload_n 0, 1) := by decide +kernel
theorem d_IM_lay_74 : decode b_IM_lay 74 = .ok (.aload_n 1, 1) := by decide +kernel
theorem d_IM_lay_75 : decode b_IM_lay 75 = .ok (.getfield 31, 3) := by decide +kernel
theorem d_IM_lay_78 : decode b_IM_lay 78 = .ok (.iconst 3, 1) := by decide +kernel
theorem d_IM_lay_79 : decode b_IM_lay 79 = .ok (.invokevirtual 52, 3) := by decide +kernel
theorem d_IM_lay_82 : decode b_IM_lay 82 = .ok (.pop, 1) := by decide +kernel
theorem d_IM_lay_83 : decode b_IM_lay 83 = .ok (.aload_n 0, 1) := by decide +kernel
theorem d_IM_lay_84 : decode b_IM_lay 84 = .ok (.aload_n 0, 1) := by decide +kernel
theorem d_IM_lay_85 : decode b_IM_lay 85 = .ok (.aload_n 1, 1) := by decide +kernel
theorem d_IM_lay_86 : decode b_IM_lay 86 = .ok (.getfield 31, 3) := by decide +kernel
theorem d_IM_lay_89 : decode b_IM_lay 89 = .ok (.sipush 4096, 3) := by decide +kernel
theorem d_IM_lay_92 : decode b_IM_lay 92 = .ok (.iadd, 1) := by decide +kernel
theorem d_IM_lay_93 : decode b_IM_lay 93 = .ok (.bipush 11, 2) := by decide +kernel
theorem d_IM_lay_95 : decode b_IM_lay 95 = .ok (.invokevirtual 52, 3) := by decide +kernel
theorem d_IM_lay_98 : decode b_IM_lay 98 = .ok (.aload_n 3, 1) := by decide +kernel
theorem d_IM_lay_99 : decode b_IM_lay 99 = .ok (.invokevirtual 56, 3) := by decide +kernel
theorem d_IM_lay_102 : decode b_IM_lay 102 = .ok (.return_, 1) := by decide +kernel
