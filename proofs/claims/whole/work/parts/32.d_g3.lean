theorem d_GT_load_0 : decode b_GT_load 0 = .ok (.aload_n 0, 1) := by decide +kernel
theorem d_GT_load_1 : decode b_GT_load 1 = .ok (.aload_n 0, 1) := by decide +kernel
theorem d_GT_load_2 : decode b_GT_load 2 = .ok (.iconst 0, 1) := by decide +kernel
theorem d_GT_load_3 : decode b_GT_load 3 = .ok (.iload_n 1, 1) := by decide +kernel
theorem d_GT_load_4 : decode b_GT_load 4 = .ok (.bipush 32, 2) := by decide +kernel
theorem d_GT_load_6 : decode b_GT_load 6 = .ok (.invokestatic 68, 3) := by decide +kernel
theorem d_GT_load_9 : decode b_GT_load 9 = .ok (.invokestatic 74, 3) := by decide +kernel
theorem d_GT_load_12 : decode b_GT_load 12 = .ok (.invokevirtual 77, 3) := by decide +kernel
theorem d_GT_load_15 : decode b_GT_load 15 = .ok (.putfield 37, 3) := by decide +kernel
theorem d_GT_load_18 : decode b_GT_load 18 = .ok (.aload_n 0, 1) := by decide +kernel
theorem d_GT_load_19 : decode b_GT_load 19 = .ok (.getfield 37, 3) := by decide +kernel
theorem d_GT_load_22 : decode b_GT_load 22 = .ok (.ifCond .eq 5, 3) := by decide +kernel
theorem d_GT_load_25 : decode b_GT_load 25 = .ok (.iconst (-1), 1) := by decide +kernel
theorem d_GT_load_26 : decode b_GT_load 26 = .ok (.ireturn, 1) := by decide +kernel
theorem d_GT_load_27 : decode b_GT_load 27 = .ok (.aload_n 0, 1) := by decide +kernel
theorem d_GT_load_28 : decode b_GT_load 28 = .ok (.getfield 33, 3) := by decide +kernel
theorem d_GT_load_31 : decode b_GT_load 31 = .ok (.aload_n 0, 1) := by decide +kernel
theorem d_GT_load_32 : decode b_GT_load 32 = .ok (.getfield 26, 3) := by decide +kernel
theorem d_GT_load_35 : decode b_GT_load 35 = .ok (.aload_n 0, 1) := by decide +kernel
theorem d_GT_load_36 : decode b_GT_load 36 = .ok (.getfield 10, 3) := by decide +kernel
theorem d_GT_load_39 : decode b_GT_load 39 = .ok (.aload_n 0, 1) := by decide +kernel
theorem d_GT_load_40 : decode b_GT_load 40 = .ok (.getfield 19, 3) := by decide +kernel
theorem d_GT_load_43 : decode b_GT_load 43 = .ok (.invokevirtual 81, 3) := by decide +kernel
theorem d_GT_load_46 : decode b_GT_load 46 = .ok (.aload_n 0, 1) := by decide +kernel
theorem d_GT_load_47 : decode b_GT_load 47 = .ok (.getfield 33, 3) := by decide +kernel
theorem d_GT_load_50 : decode b_GT_load 50 = .ok (.getfield 85, 3) := by decide +kernel
theorem d_GT_load_53 : decode b_GT_load 53 = .ok (.ireturn, 1) := by decide +kernel
