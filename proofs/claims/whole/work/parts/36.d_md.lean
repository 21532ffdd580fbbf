theorem d_MD_feed_0 : decode b_MD_feed 0 = .ok (.aload_n 0, 1) := by decide +kernel
theorem d_MD_feed_1 : decode b_MD_feed 1 = .ok (.iconst 0, 1) := by decide +kernel
theorem d_MD_feed_2 : decode b_MD_feed 2 = .ok (.putfield 60, 3) := by decide +kernel
theorem d_MD_feed_5 : decode b_MD_feed 5 = .ok (.aload_n 0, 1) := by decide +kernel
theorem d_MD_feed_6 : decode b_MD_feed 6 = .ok (.getfield 64, 3) := by decide +kernel
theorem d_MD_feed_9 : decode b_MD_feed 9 = .ok (.ldc 67, 2) := by decide +kernel
theorem d_MD_feed_11 : decode b_MD_feed 11 = .ok (.if_icmp .le 5, 3) := by decide +kernel
theorem d_MD_feed_14 : decode b_MD_feed 14 = .ok (.iconst 0, 1) := by decide +kernel
theorem d_MD_feed_15 : decode b_MD_feed 15 = .ok (.ireturn, 1) := by decide +kernel
theorem d_MD_feed_16 : decode b_MD_feed 16 = .ok (.iconst 0, 1) := by decide +kernel
theorem d_MD_feed_17 : decode b_MD_feed 17 = .ok (.istore 6, 2) := by decide +kernel
theorem d_MD_feed_19 : decode b_MD_feed 19 = .ok (.iload 6, 2) := by decide +kernel
theorem d_MD_feed_21 : decode b_MD_feed 21 = .ok (.iconst 4, 1) := by decide +kernel
theorem d_MD_feed_22 : decode b_MD_feed 22 = .ok (.if_icmp .ge 117, 3) := by decide +kernel
theorem d_MD_feed_25 : decode b_MD_feed 25 = .ok (.bipush 24, 2) := by decide +kernel
theorem d_MD_feed_27 : decode b_MD_feed 27 = .ok (.bipush 8, 2) := by decide +kernel
theorem d_MD_feed_29 : decode b_MD_feed 29 = .ok (.iload 6, 2) := by decide +kernel
theorem d_MD_feed_31 : decode b_MD_feed 31 = .ok (.imul, 1) := by decide +kernel
theorem d_MD_feed_32 : decode b_MD_feed 32 = .ok (.isub, 1) := by decide +kernel
theorem d_MD_feed_33 : decode b_MD_feed 33 = .ok (.istore 7, 2) := by decide +kernel
theorem d_MD_feed_35 : decode b_MD_feed 35 = .ok (.aload_n 0, 1) := by decide +kernel
theorem d_MD_feed_36 : decode b_MD_feed 36 = .ok (.getfield 8, 3) := by decide +kernel
theorem d_MD_feed_39 : decode b_MD_feed 39 = .ok (.aload_n 0, 1) := by decide +kernel
theorem d_MD_feed_40 : decode b_MD_feed 40 = .ok (.getfield 64, 3) := by decide +kernel
theorem d_MD_feed_43 : decode b_MD_feed 43 = .ok (.iload 6, 2) := by decide +kernel
theorem d_MD_feed_45 : decode b_MD_feed 45 = .ok (.iadd, 1) := by decide +kernel
theorem d_MD_feed_46 : decode b_MD_feed 46 = .ok (.iload_n 1, 1) := by decide +kernel
theorem d_MD_feed_47 : decode b_MD_feed 47 = .ok (.iload 7, 2) := by decide +kernel
theorem d_MD_feed_49 : decode b_MD_feed 49 = .ok (.ishr, 1) := by decide +kernel
theorem d_MD_feed_50 : decode b_MD_feed 50 = .ok (.i2b, 1) := by decide +kernel
theorem d_MD_feed_51 : decode b_MD_feed 51 = .ok (.bastore, 1) := by decide +kernel
theorem d_MD_feed_52 : decode b_MD_feed 52 = .ok (.aload_n 0, 1) := by decide +kernel
theorem d_MD_feed_53 : decode b_MD_feed 53 = .ok (.getfield 8, 3) := by decide +kernel
theorem d_MD_feed_56 : decode b_MD_feed 56 = .ok (.aload_n 0, 1) := by decide +kernel
theorem d_MD_feed_57 : decode b_MD_feed 57 = .ok (.getfield 64, 3) := by decide +kernel
theorem d_MD_feed_60 : decode b_MD_feed 60 = .ok (.iconst 4, 1) := by decide +kernel
theorem d_MD_feed_61 : decode b_MD_feed 61 = .ok (.iadd, 1) := by decide +kernel
theorem d_MD_feed_62 : decode b_MD_feed 62 = .ok (.iload 6, 2) := by decide +kernel
theorem d_MD_feed_64 : decode b_MD_feed 64 = .ok (.iadd, 1) := by decide +kernel
theorem d_MD_feed_65 : decode b_MD_feed 65 = .ok (.iload_n 2, 1) := by decide +kernel
theorem d_MD_feed_66 : decode b_MD_feed 66 = .ok (.iload 7, 2) := by decide +kernel
theorem d_MD_feed_68 : decode b_MD_feed 68 = .ok (.ishr, 1) := by decide +kernel
theorem d_MD_feed_69 : decode b_MD_feed 69 = .ok (.i2b, 1) := by decide +kernel
theorem d_MD_feed_70 : decode b_MD_feed 70 = .ok (.bastore, 1) := by decide +kernel
theorem d_MD_feed_71 : decode b_MD_feed 71 = .ok (.aload_n 0, 1) := by decide +kernel
theorem d_MD_feed_72 : decode b_MD_feed 72 = .ok (.getfield 8, 3) := by decide +kernel
theorem d_MD_feed_75 : decode b_MD_feed 75 = .ok (.aload_n 0, 1) := by decide +kernel
theorem d_MD_feed_76 : decode b_MD_feed 76 = .ok (.getfield 64, 3) := by decide +kernel
theorem d_MD_feed_79 : decode b_MD_feed 79 = .ok (.bipush 8, 2) := by decide +kernel
theorem d_MD_feed_81 : decode b_MD_feed 81 = .ok (.iadd, 1) := by decide +kernel
theorem d_MD_feed_82 : decode b_MD_feed 82 = .ok (.iload 6, 2) := by decide +kernel
theorem d_MD_feed_84 : decode b_MD_feed 84 = .ok (.iadd, 1) := by decide +kernel
theorem d_MD_feed_85 : decode b_MD_feed 85 = .ok (.iload_n 3, 1) := by decide +kernel
theorem d_MD_feed_86 : decode b_MD_feed 86 = .ok (.iload 7, 2) := by decide +kernel
theorem d_MD_feed_88 : decode b_MD_feed 88 = .ok (.ishr, 1) := by decide +kernel
theorem d_MD_feed_89 : decode b_MD_feed 89 = .ok (.i2b, 1) := by decide +kernel
theorem d_MD_feed_90 : decode b_MD_feed 90 = .ok (.bastore, 1) := by decide +kernel
theorem d_MD_feed_91 : decode b_MD_feed 91 = .ok (.aload_n 0, 1) := by decide +kernel
theorem d_MD_feed_92 : decode b_MD_feed 92 = .ok (.getfield 8, 3) := by decide +kernel
theorem d_MD_feed_95 : decode b_MD_feed 95 = .ok (.aload_n 0, 1) := by decide +kernel
theorem d_MD_feed_96 : decode b_MD_feed 96 = .ok (.getfield 64, 3) := by decide +kernel
theorem d_MD_feed_99 : decode b_MD_feed 99 = .ok (.bipush 12, 2) := by decide +kernel
theorem d_MD_feed_101 : decode b_MD_feed 101 = .ok (.iadd, 1) := by decide +kernel
theorem d_MD_feed_102 : decode b_MD_feed 102 = .ok (.iload 6, 2) := by decide +kernel
theorem d_MD_feed_104 : decode b_MD_feed 104 = .ok (.iadd, 1) := by decide +kernel
theorem d_MD_feed_105 : decode b_MD_feed 105 = .ok (.iload 4, 2) := by decide +kernel
theorem d_MD_feed_107 : decode b_MD_feed 107 = .ok (.iload 7, 2) := by decide +kernel
theorem d_MD_feed_109 : decode b_MD_feed 109 = .ok (.ishr, 1) := by decide +kernel
theorem d_MD_feed_110 : decode b_MD_feed 110 = .ok (.i2b, 1) := by decide +kernel
theorem d_MD_feed_111 : decode b_MD_feed 111 = .ok (.bastore, 1) := by decide +kernel
theorem d_MD_feed_112 : decode b_MD_feed 112 = .ok (.aload_n 0, 1) := by decide +kernel
theorem d_MD_feed_113 : decode b_MD_feed 113 = .ok (.getfield 8, 3) := by decide +kernel
theorem d_MD_feed_116 : decode b_MD_feed 116 = .ok (.aload_n 0, 1) := by decide +kernel
theorem d_MD_feed_117 : decode b_MD_feed 117 = .ok (.getfield 64, 3) := by decide +kernel
theorem d_MD_feed_120 : decode b_MD_feed 120 = .ok (.bipush 16, 2) := by decide +kernel
theorem d_MD_feed_122 : decode b_MD_feed 122 = .ok (.iadd, 1) := by decide +kernel
theorem d_MD_feed_123 : decode b_MD_feed 123 = .ok (.iload 6, 2) := by decide +kernel
theorem d_MD_feed_125 : decode b_MD_feed 125 = .ok (.iadd, 1) := by decide +kernel
theorem d_MD_feed_126 : decode b_MD_feed 126 = .ok (.iload 5, 2) := by decide +kernel
theorem d_MD_feed_128 : decode b_MD_feed 128 = .ok (.iload 7, 2) := by decide +kernel
theorem d_MD_feed_130 : decode b_MD_feed 130 = .ok (.ishr, 1) := by decide +kernel
theorem d_MD_feed_131 : decode b_MD_feed 131 = .ok (.i2b, 1) := by decide +kernel
theorem d_MD_feed_132 : decode b_MD_feed 132 = .ok (.bastore, 1) := by decide +kernel
theorem d_MD_feed_133 : decode b_MD_feed 133 = .ok (.iinc 6 1, 3) := by decide +kernel
theorem d_MD_feed_136 : decode b_MD_feed 136 = .ok (.goto (-117), 3) := by decide +kernel
theorem d_MD_feed_139 : decode b_MD_feed 139 = .ok (.aload_n 0, 1) := by decide +kernel
theorem d_MD_feed_140 : decode b_MD_feed 140 = .ok (.dup, 1) := by decide +kernel
theorem d_MD_feed_141 : decode b_MD_feed 141 = .ok (.getfield 64, 3) := by decide +kernel
theorem d_MD_feed_144 : decode b_MD_feed 144 = .ok (.bipush 20, 2) := by decide +kernel
theorem d_MD_feed_146 : decode b_MD_feed 146 = .ok (.iadd, 1) := by decide +kernel
theorem d_MD_feed_147 : decode b_MD_feed 147 = .ok (.putfield 64, 3) := by decide +kernel
theorem d_MD_feed_150 : decode b_MD_feed 150 = .ok (.iconst 1, 1) := by decide +kernel
theorem d_MD_feed_151 : decode b_MD_feed 151 = .ok (.ireturn, 1) := by decide +kernel
theorem d_MD_end_0 : decode b_MD_end 0 = .ok (.aload_n 0, 1) := by decide +kernel
theorem d_MD_end_1 : decode b_MD_end 1 = .ok (.iconst 0, 1) := by decide +kernel
theorem d_MD_end_2 : decode b_MD_end 2 = .ok (.putfield 60, 3) := by decide +kernel
theorem d_MD_end_5 : decode b_MD_end 5 = .ok (.iload_n 1, 1) := by decide +kernel
theorem d_MD_end_6 : decode b_MD_end 6 = .ok (.ifCond .lt 15, 3) := by decide +kernel
theorem d_MD_end_9 : decode b_MD_end 9 = .ok (.iload_n 1, 1) := by decide +kernel
theorem d_MD_end_10 : decode b_MD_end 10 = .ok (.aload_n 0, 1) := by decide +kernel
theorem d_MD_end_11 : decode b_MD_end 11 = .ok (.getfield 64, 3) := by decide +kernel
theorem d_MD_end_14 : decode b_MD_end 14 = .ok (.if_icmp .gt 7, 3) := by decide +kernel
theorem d_MD_end_17 : decode b_MD_end 17 = .ok (.iconst 1, 1) := by decide +kernel
theorem d_MD_end_18 : decode b_MD_end 18 = .ok (.goto 4, 3) := by decide +kernel
theorem d_MD_end_21 : decode b_MD_end 21 = .ok (.iconst 0, 1) := by decide +kernel
theorem d_MD_end_22 : decode b_MD_end 22 = .ok (.istore_n 2, 1) := by decide +kernel
theorem d_MD_end_23 : decode b_MD_end 23 = .ok (.aload_n 0, 1) := by decide +kernel
theorem d_MD_end_24 : decode b_MD_end 24 = .ok (.iload_n 2, 1) := by decide +kernel
theorem d_MD_end_25 : decode b_MD_end 25 = .ok (.ifCond .eq 7, 3) := by decide +kernel
theorem d_MD_end_28 : decode b_MD_end 28 = .ok (.iload_n 1, 1) := by decide +kernel
theorem d_MD_end_29 : decode b_MD_end 29 = .ok (.goto 7, 3) := by decide +kernel
theorem d_MD_end_32 : decode b_MD_end 32 = .ok (.aload_n 0, 1) := by decide +kernel
theorem d_MD_end_33 : decode b_MD_end 33 = .ok (.getfield 64, 3) := by decide +kernel
theorem d_MD_end_36 : decode b_MD_end 36 = .ok (.putfield 64, 3) := by decide +kernel
theorem d_MD_end_39 : decode b_MD_end 39 = .ok (.iload_n 2, 1) := by decide +kernel
theorem d_MD_end_40 : decode b_MD_end 40 = .ok (.ireturn, 1) := by decide +kernel
theorem d_MD_set_0 : decode b_MD_set 0 = .ok (.aload_n 0, 1) := by decide +kernel
theorem d_MD_set_1 : decode b_MD_set 1 = .ok (.iconst 0, 1) := by decide +kernel
theorem d_MD_set_2 : decode b_MD_set 2 = .ok (.putfield 60, 3) := by decide +kernel
theorem d_MD_set_5 : decode b_MD_set 5 = .ok (.iload_n 1, 1) := by decide +kernel
theorem d_MD_set_6 : decode b_MD_set 6 = .ok (.ifCond .lt 22, 3) := by decide +kernel
theorem d_MD_set_9 : decode b_MD_set 9 = .ok (.iload_n 1, 1) := by decide +kernel
theorem d_MD_set_10 : decode b_MD_set 10 = .ok (.aload_n 0, 1) := by decide +kernel
theorem d_MD_set_11 : decode b_MD_set 11 = .ok (.getfield 64, 3) := by decide +kernel
theorem d_MD_set_14 : decode b_MD_set 14 = .ok (.if_icmp .ge 14, 3) := by decide +kernel
theorem d_MD_set_17 : decode b_MD_set 17 = .ok (.iload_n 2, 1) := by decide +kernel
theorem d_MD_set_18 : decode b_MD_set 18 = .ok (.ifCond .lt 10, 3) := by decide +kernel
theorem d_MD_set_21 : decode b_MD_set 21 = .ok (.iload_n 2, 1) := by decide +kernel
theorem d_MD_set_22 : decode b_MD_set 22 = .ok (.sipush 255, 3) := by decide +kernel
theorem d_MD_set_25 : decode b_MD_set 25 = .ok (.if_icmp .le 5, 3) := by decide +kernel
theorem d_MD_set_28 : decode b_MD_set 28 = .ok (.iconst 0, 1) := by decide +kernel
theorem d_MD_set_29 : decode b_MD_set 29 = .ok (.ireturn, 1) := by decide +kernel
theorem d_MD_set_30 : decode b_MD_set 30 = .ok (.aload_n 0, 1) := by decide +kernel
theorem d_MD_set_31 : decode b_MD_set 31 = .ok (.getfield 8, 3) := by decide +kernel
theorem d_MD_set_34 : decode b_MD_set 34 = .ok (.iload_n 1, 1) := by decide +kernel
theorem d_MD_set_35 : decode b_MD_set 35 = .ok (.iload_n 2, 1) := by decide +kernel
theorem d_MD_set_36 : decode b_MD_set 36 = .ok (.i2b, 1) := by decide +kernel
theorem d_MD_set_37 : decode b_MD_set 37 = .ok (.bastore, 1) := by decide +kernel
theorem d_MD_set_38 : decode b_MD_set 38 = .ok (.iconst 1, 1) := by decide +kernel
theorem d_MD_set_39 : decode b_MD_set 39 = .ok (.ireturn, 1) := by decide +kernel
theorem d_MD_length_0 : decode b_MD_length 0 = .ok (.aload_n 0, 1) := by decide +kernel
theorem d_MD_length_1 : decode b_MD_length 1 = .ok (.iconst 0, 1) := by decide +kernel
theorem d_MD_length_2 : decode b_MD_length 2 = .ok (.putfield 60, 3) := by decide +kernel
theorem d_MD_length_5 : decode b_MD_length 5 = .ok (.aload_n 0, 1) := by decide +kernel
theorem d_MD_length_6 : decode b_MD_length 6 = .ok (.getfield 64, 3) := by decide +kernel
theorem d_MD_length_9 : decode b_MD_length 9 = .ok (.ireturn, 1) := by decide +kernel
theorem d_MD_argument_0 : decode b_MD_argument 0 = .ok (.aload_n 0, 1) := by decide +kernel
theorem d_MD_argument_1 : decode b_MD_argument 1 = .ok (.iconst 0, 1) := by decide +kernel
theorem d_MD_argument_2 : decode b_MD_argument 2 = .ok (.putfield 60, 3) := by decide +kernel
theorem d_MD_argument_5 : decode b_MD_argument 5 = .ok (.aload_n 0, 1) := by decide +kernel
theorem d_MD_argument_6 : decode b_MD_argument 6 = .ok (.getfield 68, 3) := by decide +kernel
theorem d_MD_argument_9 : decode b_MD_argument 9 = .ok (.bipush 32, 2) := by decide +kernel
theorem d_MD_argument_11 : decode b_MD_argument 11 = .ok (.if_icmp .ne 5, 3) := by decide +kernel
theorem d_MD_argument_14 : decode b_MD_argument 14 = .ok (.iconst 0, 1) := by decide +kernel
theorem d_MD_argument_15 : decode b_MD_argument 15 = .ok (.ireturn, 1) := by decide +kernel
theorem d_MD_argument_16 : decode b_MD_argument 16 = .ok (.aload_n 0, 1) := by decide +kernel
theorem d_MD_argument_17 : decode b_MD_argument 17 = .ok (.getfield 14, 3) := by decide +kernel
theorem d_MD_argument_20 : decode b_MD_argument 20 = .ok (.aload_n 0, 1) := by decide +kernel
theorem d_MD_argument_21 : decode b_MD_argument 21 = .ok (.getfield 68, 3) := by decide +kernel
theorem d_MD_argument_24 : decode b_MD_argument 24 = .ok (.iconst 0, 1) := by decide +kernel
theorem d_MD_argument_25 : decode b_MD_argument 25 = .ok (.iastore, 1) := by decide +kernel
theorem d_MD_argument_26 : decode b_MD_argument 26 = .ok (.aload_n 0, 1) := by decide +kernel
theorem d_MD_argument_27 : decode b_MD_argument 27 = .ok (.dup, 1) := by decide +kernel
theorem d_MD_argument_28 : decode b_MD_argument 28 = .ok (.getfield 68, 3) := by decide +kernel
theorem d_MD_argument_31 : decode b_MD_argument 31 = .ok (.iconst 1, 1) := by decide +kernel
theorem d_MD_argument_32 : decode b_MD_argument 32 = .ok (.iadd, 1) := by decide +kernel
theorem d_MD_argument_33 : decode b_MD_argument 33 = .ok (.putfield 68, 3) := by decide +kernel
theorem d_MD_argument_36 : decode b_MD_argument 36 = .ok (.iconst 1, 1) := by decide +kernel
theorem d_MD_argument_37 : decode b_MD_argument 37 = .ok (.ireturn, 1) := by decide +kernel
theorem d_MD_forget_0 : decode b_MD_forget 0 = .ok (.aload_n 0, 1) := by decide +kernel
theorem d_MD_forget_1 : decode b_MD_forget 1 = .ok (.iconst 0, 1) := by decide +kernel
theorem d_MD_forget_2 : decode b_MD_forget 2 = .ok (.putfield 60, 3) := by decide +kernel
theorem d_MD_forget_5 : decode b_MD_forget 5 = .ok (.aload_n 0, 1) := by decide +kernel
theorem d_MD_forget_6 : decode b_MD_forget 6 = .ok (.iconst 0, 1) := by decide +kernel
theorem d_MD_forget_7 : decode b_MD_forget 7 = .ok (.putfield 68, 3) := by decide +kernel
theorem d_MD_forget_10 : decode b_MD_forget 10 = .ok (.return_, 1) := by decide +kernel
theorem d_MD_why_0 : decode b_MD_why 0 = .ok (.aload_n 0, 1) := by decide +kernel
theorem d_MD_why_1 : decode b_MD_why 1 = .ok (.iconst 0, 1) := by decide +kernel
theorem d_MD_why_2 : decode b_MD_why 2 = .ok (.putfield 60, 3) := by decide +kernel
theorem d_MD_why_5 : decode b_MD_why 5 = .ok (.aload_n 0, 1) := by decide +kernel
theorem d_MD_why_6 : decode b_MD_why 6 = .ok (.getfield 145, 3) := by decide +kernel
theorem d_MD_why_9 : decode b_MD_why 9 = .ok (.ireturn, 1) := by decide +kernel
theorem d_MD_number_0 : decode b_MD_number 0 = .ok (.lconst 0, 1) := by decide +kernel
theorem d_MD_number_1 : decode b_MD_number 1 = .ok (.lstore 4, 2) := by decide +kernel
theorem d_MD_number_3 : decode b_MD_number 3 = .ok (.iconst 0, 1) := by decide +kernel
theorem d_MD_number_4 : decode b_MD_number 4 = .ok (.istore 6, 2) := by decide +kernel
theorem d_MD_number_6 : decode b_MD_number 6 = .ok (.iload 6, 2) := by decide +kernel
theorem d_MD_number_8 : decode b_MD_number 8 = .ok (.iload_n 3, 1) := by decide +kernel
theorem d_MD_number_9 : decode b_MD_number 9 = .ok (.if_icmp .ge 35, 3) := by decide +kernel
theorem d_MD_number_12 : decode b_MD_number 12 = .ok (.lload 4, 2) := by decide +kernel
theorem d_MD_number_14 : decode b_MD_number 14 = .ok (.aload_n 0, 1) := by decide +kernel
theorem d_MD_number_15 : decode b_MD_number 15 = .ok (.getfield 8, 3) := by decide +kernel
theorem d_MD_number_18 : decode b_MD_number 18 = .ok (.lload_n 1, 1) := by decide +kernel
theorem d_MD_number_19 : decode b_MD_number 19 = .ok (.l2i, 1) := by decide +kernel
theorem d_MD_number_20 : decode b_MD_number 20 = .ok (.iload 6, 2) := by decide +kernel
theorem d_MD_number_22 : decode b_MD_number 22 = .ok (.iadd, 1) := by decide +kernel
theorem d_MD_number_23 : decode b_MD_number 23 = .ok (.baload, 1) := by decide +kernel
theorem d_MD_number_24 : decode b_MD_number 24 = .ok (.i2l, 1) := by decide +kernel
theorem d_MD_number_25 : decode b_MD_number 25 = .ok (.ldc2_w 71, 3) := by decide +kernel
theorem d_MD_number_28 : decode b_MD_number 28 = .ok (.land, 1) := by decide +kernel
theorem d_MD_number_29 : decode b_MD_number 29 = .ok (.bipush 8, 2) := by decide +kernel
theorem d_MD_number_31 : decode b_MD_number 31 = .ok (.iload 6, 2) := by decide +kernel
theorem d_MD_number_33 : decode b_MD_number 33 = .ok (.imul, 1) := by decide +kernel
theorem d_MD_number_34 : decode b_MD_number 34 = .ok (.lshl, 1) := by decide +kernel
theorem d_MD_number_35 : decode b_MD_number 35 = .ok (.lor, 1) := by decide +kernel
theorem d_MD_number_36 : decode b_MD_number 36 = .ok (.lstore 4, 2) := by decide +kernel
theorem d_MD_number_38 : decode b_MD_number 38 = .ok (.iinc 6 1, 3) := by decide +kernel
theorem d_MD_number_41 : decode b_MD_number 41 = .ok (.goto (-35), 3) := by decide +kernel
theorem d_MD_number_44 : decode b_MD_number 44 = .ok (.lload 4, 2) := by decide +kernel
theorem d_MD_number_46 : decode b_MD_number 46 = .ok (.lreturn, 1) := by decide +kernel
theorem d_MD_isMarked_0 : decode b_MD_isMarked 0 = .ok (.aload_n 0, 1) := by decide +kernel
theorem d_MD_isMarked_1 : decode b_MD_isMarked 1 = .ok (.getfield 64, 3) := by decide +kernel
theorem d_MD_isMarked_4 : decode b_MD_isMarked 4 = .ok (.bipush 52, 2) := by decide +kernel
theorem d_MD_isMarked_6 : decode b_MD_isMarked 6 = .ok (.if_icmp .lt 48, 3) := by decide +kernel
theorem d_MD_isMarked_9 : decode b_MD_isMarked 9 = .ok (.aload_n 0, 1) := by decide +kernel
theorem d_MD_isMarked_10 : decode b_MD_isMarked 10 = .ok (.lconst 0, 1) := by decide +kernel
theorem d_MD_isMarked_11 : decode b_MD_isMarked 11 = .ok (.iconst 4, 1) := by decide +kernel
theorem d_MD_isMarked_12 : decode b_MD_isMarked 12 = .ok (.invokevirtual 73, 3) := by decide +kernel
theorem d_MD_isMarked_15 : decode b_MD_isMarked 15 = .ok (.ldc2_w 77, 3) := by decide +kernel
theorem d_MD_isMarked_18 : decode b_MD_isMarked 18 = .ok (.lcmp, 1) := by decide +kernel
theorem d_MD_isMarked_19 : decode b_MD_isMarked 19 = .ok (.ifCond .ne 35, 3) := by decide +kernel
theorem d_MD_isMarked_22 : decode b_MD_isMarked 22 = .ok (.aload_n 0, 1) := by decide +kernel
theorem d_MD_isMarked_23 : decode b_MD_isMarked 23 = .ok (.ldc2_w 79, 3) := by decide +kernel
theorem d_MD_isMarked_26 : decode b_MD_isMarked 26 = .ok (.iconst 2, 1) := by decide +kernel
theorem d_MD_isMarked_27 : decode b_MD_isMarked 27 = .ok (.invokevirtual 73, 3) := by decide +kernel
theorem d_MD_isMarked_30 : decode b_MD_isMarked 30 = .ok (.ldc2_w 81, 3) := by decide +kernel
theorem d_MD_isMarked_33 : decode b_MD_isMarked 33 = .ok (.lcmp, 1) := by decide +kernel
theorem d_MD_isMarked_34 : decode b_MD_isMarked 34 = .ok (.ifCond .ne 20, 3) := by decide +kernel
theorem d_MD_isMarked_37 : decode b_MD_isMarked 37 = .ok (.aload_n 0, 1) := by decide +kernel
theorem d_MD_isMarked_38 : decode b_MD_isMarked 38 = .ok (.ldc2_w 83, 3) := by decide +kernel
theorem d_MD_isMarked_41 : decode b_MD_isMarked 41 = .ok (.iconst 1, 1) := by decide +kernel
theorem d_MD_isMarked_42 : decode b_MD_isMarked 42 = .ok (.invokevirtual 73, 3) := by decide +kernel
theorem d_MD_isMarked_45 : decode b_MD_isMarked 45 = .ok (.lconst 1, 1) := by decide +kernel
theorem d_MD_isMarked_46 : decode b_MD_isMarked 46 = .ok (.lcmp, 1) := by decide +kernel
theorem d_MD_isMarked_47 : decode b_MD_isMarked 47 = .ok (.ifCond .ne 7, 3) := by decide +kernel
theorem d_MD_isMarked_50 : decode b_MD_isMarked 50 = .ok (.iconst 1, 1) := by decide +kernel
theorem d_MD_isMarked_51 : decode b_MD_isMarked 51 = .ok (.goto 4, 3) := by decide +kernel
theorem d_MD_isMarked_54 : decode b_MD_isMarked 54 = .ok (.iconst 0, 1) := by decide +kernel
theorem d_MD_isMarked_55 : decode b_MD_isMarked 55 = .ok (.ireturn, 1) := by decide +kernel
theorem d_MD_isKind_0 : decode b_MD_isKind 0 = .ok (.aload_n 0, 1) := by decide +kernel
theorem d_MD_isKind_1 : decode b_MD_isKind 1 = .ok (.ldc2_w 85, 3) := by decide +kernel
theorem d_MD_isKind_4 : decode b_MD_isKind 4 = .ok (.iconst 2, 1) := by decide +kernel
theorem d_MD_isKind_5 : decode b_MD_isKind 5 = .ok (.invokevirtual 73, 3) := by decide +kernel
theorem d_MD_isKind_8 : decode b_MD_isKind 8 = .ok (.ldc2_w 87, 3) := by decide +kernel
theorem d_MD_isKind_11 : decode b_MD_isKind 11 = .ok (.lcmp, 1) := by decide +kernel
theorem d_MD_isKind_12 : decode b_MD_isKind 12 = .ok (.ifCond .ne 65, 3) := by decide +kernel
theorem d_MD_isKind_15 : decode b_MD_isKind 15 = .ok (.aload_n 0, 1) := by decide +kernel
theorem d_MD_isKind_16 : decode b_MD_isKind 16 = .ok (.ldc2_w 89, 3) := by decide +kernel
theorem d_MD_isKind_19 : decode b_MD_isKind 19 = .ok (.iconst 2, 1) := by decide +kernel
theorem d_MD_isKind_20 : decode b_MD_isKind 20 = .ok (.invokevirtual 73, 3) := by decide +kernel
theorem d_MD_isKind_23 : decode b_MD_isKind 23 = .ok (.ldc2_w 91, 3) := by decide +kernel
theorem d_MD_isKind_26 : decode b_MD_isKind 26 = .ok (.lcmp, 1) := by decide +kernel
theorem d_MD_isKind_27 : decode b_MD_isKind 27 = .ok (.ifCond .ne 50, 3) := by decide +kernel
theorem d_MD_isKind_30 : decode b_MD_isKind 30 = .ok (.aload_n 0, 1) := by decide +kernel
theorem d_MD_isKind_31 : decode b_MD_isKind 31 = .ok (.ldc2_w 93, 3) := by decide +kernel
theorem d_MD_isKind_34 : decode b_MD_isKind 34 = .ok (.iconst 4, 1) := by decide +kernel
theorem d_MD_isKind_35 : decode b_MD_isKind 35 = .ok (.invokevirtual 73, 3) := by decide +kernel
theorem d_MD_isKind_38 : decode b_MD_isKind 38 = .ok (.lconst 1, 1) := by decide +kernel
theorem d_MD_isKind_39 : decode b_MD_isKind 39 = .ok (.lcmp, 1) := by decide +kernel
theorem d_MD_isKind_40 : decode b_MD_isKind 40 = .ok (.ifCond .ne 37, 3) := by decide +kernel
theorem d_MD_isKind_43 : decode b_MD_isKind 43 = .ok (.aload_n 0, 1) := by decide +kernel
theorem d_MD_isKind_44 : decode b_MD_isKind 44 = .ok (.ldc2_w 95, 3) := by decide +kernel
theorem d_MD_isKind_47 : decode b_MD_isKind 47 = .ok (.iconst 2, 1) := by decide +kernel
theorem d_MD_isKind_48 : decode b_MD_isKind 48 = .ok (.invokevirtual 73, 3) := by decide +kernel
theorem d_MD_isKind_51 : decode b_MD_isKind 51 = .ok (.ldc2_w 97, 3) := by decide +kernel
theorem d_MD_isKind_54 : decode b_MD_isKind 54 = .ok (.lcmp, 1) := by decide +kernel
theorem d_MD_isKind_55 : decode b_MD_isKind 55 = .ok (.ifCond .ne 22, 3) := by decide +kernel
theorem d_MD_isKind_58 : decode b_MD_isKind 58 = .ok (.aload_n 0, 1) := by decide +kernel
theorem d_MD_isKind_59 : decode b_MD_isKind 59 = .ok (.ldc2_w 99, 3) := by decide +kernel
theorem d_MD_isKind_62 : decode b_MD_isKind 62 = .ok (.iconst 2, 1) := by decide +kernel
theorem d_MD_isKind_63 : decode b_MD_isKind 63 = .ok (.invokevirtual 73, 3) := by decide +kernel
theorem d_MD_isKind_66 : decode b_MD_isKind 66 = .ok (.ldc2_w 101, 3) := by decide +kernel
theorem d_MD_isKind_69 : decode b_MD_isKind 69 = .ok (.lcmp, 1) := by decide +kernel
theorem d_MD_isKind_70 : decode b_MD_isKind 70 = .ok (.ifCond .ge 7, 3) := by decide +kernel
theorem d_MD_isKind_73 : decode b_MD_isKind 73 = .ok (.iconst 1, 1) := by decide +kernel
theorem d_MD_isKind_74 : decode b_MD_isKind 74 = .ok (.goto 4, 3) := by decide +kernel
theorem d_MD_isKind_77 : decode b_MD_isKind 77 = .ok (.iconst 0, 1) := by decide +kernel
theorem d_MD_isKind_78 : decode b_MD_isKind 78 = .ok (.ireturn, 1) := by decide +kernel
theorem d_MD_up_0 : decode b_MD_up 0 = .ok (.lload_n 0, 1) := by decide +kernel
theorem d_MD_up_1 : decode b_MD_up 1 = .ok (.ldc2_w 103, 3) := by decide +kernel
theorem d_MD_up_4 : decode b_MD_up 4 = .ok (.ladd, 1) := by decide +kernel
theorem d_MD_up_5 : decode b_MD_up 5 = .ok (.ldc2_w 105, 3) := by decide +kernel
theorem d_MD_up_8 : decode b_MD_up 8 = .ok (.ldiv, 1) := by decide +kernel
theorem d_MD_up_9 : decode b_MD_up 9 = .ok (.ldc2_w 105, 3) := by decide +kernel
theorem d_MD_up_12 : decode b_MD_up 12 = .ok (.lmul, 1) := by decide +kernel
theorem d_MD_up_13 : decode b_MD_up 13 = .ok (.lreturn, 1) := by decide +kernel
