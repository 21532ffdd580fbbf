theorem d_GT_feed_0 : decode b_GT_feed 0 = .ok (.aload_n 0, 1) := by decide +kernel
theorem d_GT_feed_1 : decode b_GT_feed 1 = .ok (.getfield 10, 3) := by decide +kernel
theorem d_GT_feed_4 : decode b_GT_feed 4 = .ok (.bipush 20, 2) := by decide +kernel
theorem d_GT_feed_6 : decode b_GT_feed 6 = .ok (.invokevirtual 41, 3) := by decide +kernel
theorem d_GT_feed_9 : decode b_GT_feed 9 = .ok (.ifCond .ne 5, 3) := by decide +kernel
theorem d_GT_feed_12 : decode b_GT_feed 12 = .ok (.iconst 0, 1) := by decide +kernel
theorem d_GT_feed_13 : decode b_GT_feed 13 = .ok (.ireturn, 1) := by decide +kernel
theorem d_GT_feed_14 : decode b_GT_feed 14 = .ok (.aload_n 0, 1) := by decide +kernel
theorem d_GT_feed_15 : decode b_GT_feed 15 = .ok (.getfield 10, 3) := by decide +kernel
theorem d_GT_feed_18 : decode b_GT_feed 18 = .ok (.iload_n 1, 1) := by decide +kernel
theorem d_GT_feed_19 : decode b_GT_feed 19 = .ok (.invokevirtual 45, 3) := by decide +kernel
theorem d_GT_feed_22 : decode b_GT_feed 22 = .ok (.aload_n 0, 1) := by decide +kernel
theorem d_GT_feed_23 : decode b_GT_feed 23 = .ok (.getfield 10, 3) := by decide +kernel
theorem d_GT_feed_26 : decode b_GT_feed 26 = .ok (.iload_n 2, 1) := by decide +kernel
theorem d_GT_feed_27 : decode b_GT_feed 27 = .ok (.invokevirtual 45, 3) := by decide +kernel
theorem d_GT_feed_30 : decode b_GT_feed 30 = .ok (.aload_n 0, 1) := by decide +kernel
theorem d_GT_feed_31 : decode b_GT_feed 31 = .ok (.getfield 10, 3) := by decide +kernel
theorem d_GT_feed_34 : decode b_GT_feed 34 = .ok (.iload_n 3, 1) := by decide +kernel
theorem d_GT_feed_35 : decode b_GT_feed 35 = .ok (.invokevirtual 45, 3) := by decide +kernel
theorem d_GT_feed_38 : decode b_GT_feed 38 = .ok (.aload_n 0, 1) := by decide +kernel
theorem d_GT_feed_39 : decode b_GT_feed 39 = .ok (.getfield 10, 3) := by decide +kernel
theorem d_GT_feed_42 : decode b_GT_feed 42 = .ok (.iload 4, 2) := by decide +kernel
theorem d_GT_feed_44 : decode b_GT_feed 44 = .ok (.invokevirtual 45, 3) := by decide +kernel
theorem d_GT_feed_47 : decode b_GT_feed 47 = .ok (.aload_n 0, 1) := by decide +kernel
theorem d_GT_feed_48 : decode b_GT_feed 48 = .ok (.getfield 10, 3) := by decide +kernel
theorem d_GT_feed_51 : decode b_GT_feed 51 = .ok (.iload 5, 2) := by decide +kernel
theorem d_GT_feed_53 : decode b_GT_feed 53 = .ok (.invokevirtual 45, 3) := by decide +kernel
theorem d_GT_feed_56 : decode b_GT_feed 56 = .ok (.iconst 1, 1) := by decide +kernel
theorem d_GT_feed_57 : decode b_GT_feed 57 = .ok (.ireturn, 1) := by decide +kernel
theorem d_GT_end_0 : decode b_GT_end 0 = .ok (.aload_n 0, 1) := by decide +kernel
theorem d_GT_end_1 : decode b_GT_end 1 = .ok (.getfield 10, 3) := by decide +kernel
theorem d_GT_end_4 : decode b_GT_end 4 = .ok (.iload_n 1, 1) := by decide +kernel
theorem d_GT_end_5 : decode b_GT_end 5 = .ok (.invokevirtual 49, 3) := by decide +kernel
theorem d_GT_end_8 : decode b_GT_end 8 = .ok (.ireturn, 1) := by decide +kernel
theorem d_GT_set_0 : decode b_GT_set 0 = .ok (.iload_n 2, 1) := by decide +kernel
theorem d_GT_set_1 : decode b_GT_set 1 = .ok (.ifCond .lt 10, 3) := by decide +kernel
theorem d_GT_set_4 : decode b_GT_set 4 = .ok (.iload_n 2, 1) := by decide +kernel
theorem d_GT_set_5 : decode b_GT_set 5 = .ok (.sipush 255, 3) := by decide +kernel
theorem d_GT_set_8 : decode b_GT_set 8 = .ok (.if_icmp .le 5, 3) := by decide +kernel
theorem d_GT_set_11 : decode b_GT_set 11 = .ok (.iconst 0, 1) := by decide +kernel
theorem d_GT_set_12 : decode b_GT_set 12 = .ok (.ireturn, 1) := by decide +kernel
theorem d_GT_set_13 : decode b_GT_set 13 = .ok (.aload_n 0, 1) := by decide +kernel
theorem d_GT_set_14 : decode b_GT_set 14 = .ok (.getfield 10, 3) := by decide +kernel
theorem d_GT_set_17 : decode b_GT_set 17 = .ok (.iload_n 1, 1) := by decide +kernel
theorem d_GT_set_18 : decode b_GT_set 18 = .ok (.iconst 1, 1) := by decide +kernel
theorem d_GT_set_19 : decode b_GT_set 19 = .ok (.iload_n 2, 1) := by decide +kernel
theorem d_GT_set_20 : decode b_GT_set 20 = .ok (.invokevirtual 52, 3) := by decide +kernel
theorem d_GT_set_23 : decode b_GT_set 23 = .ok (.ireturn, 1) := by decide +kernel
theorem d_GT_put_0 : decode b_GT_put 0 = .ok (.iload_n 2, 1) := by decide +kernel
theorem d_GT_put_1 : decode b_GT_put 1 = .ok (.iconst 1, 1) := by decide +kernel
theorem d_GT_put_2 : decode b_GT_put 2 = .ok (.if_icmp .eq 15, 3) := by decide +kernel
theorem d_GT_put_5 : decode b_GT_put 5 = .ok (.iload_n 2, 1) := by decide +kernel
theorem d_GT_put_6 : decode b_GT_put 6 = .ok (.iconst 2, 1) := by decide +kernel
theorem d_GT_put_7 : decode b_GT_put 7 = .ok (.if_icmp .eq 10, 3) := by decide +kernel
theorem d_GT_put_10 : decode b_GT_put 10 = .ok (.iload_n 2, 1) := by decide +kernel
theorem d_GT_put_11 : decode b_GT_put 11 = .ok (.iconst 4, 1) := by decide +kernel
theorem d_GT_put_12 : decode b_GT_put 12 = .ok (.if_icmp .eq 5, 3) := by decide +kernel
theorem d_GT_put_15 : decode b_GT_put 15 = .ok (.iconst 0, 1) := by decide +kernel
theorem d_GT_put_16 : decode b_GT_put 16 = .ok (.ireturn, 1) := by decide +kernel
theorem d_GT_put_17 : decode b_GT_put 17 = .ok (.aload_n 0, 1) := by decide +kernel
theorem d_GT_put_18 : decode b_GT_put 18 = .ok (.getfield 10, 3) := by decide +kernel
theorem d_GT_put_21 : decode b_GT_put 21 = .ok (.iload_n 1, 1) := by decide +kernel
theorem d_GT_put_22 : decode b_GT_put 22 = .ok (.iload_n 2, 1) := by decide +kernel
theorem d_GT_put_23 : decode b_GT_put 23 = .ok (.iload_n 3, 1) := by decide +kernel
theorem d_GT_put_24 : decode b_GT_put 24 = .ok (.invokevirtual 52, 3) := by decide +kernel
theorem d_GT_put_27 : decode b_GT_put 27 = .ok (.ireturn, 1) := by decide +kernel
theorem d_GT_length_0 : decode b_GT_length 0 = .ok (.aload_n 0, 1) := by decide +kernel
theorem d_GT_length_1 : decode b_GT_length 1 = .ok (.getfield 10, 3) := by decide +kernel
theorem d_GT_length_4 : decode b_GT_length 4 = .ok (.getfield 56, 3) := by decide +kernel
theorem d_GT_length_7 : decode b_GT_length 7 = .ok (.ireturn, 1) := by decide +kernel
theorem d_GT_argument_0 : decode b_GT_argument 0 = .ok (.aload_n 0, 1) := by decide +kernel
theorem d_GT_argument_1 : decode b_GT_argument 1 = .ok (.getfield 19, 3) := by decide +kernel
theorem d_GT_argument_4 : decode b_GT_argument 4 = .ok (.invokevirtual 59, 3) := by decide +kernel
theorem d_GT_argument_7 : decode b_GT_argument 7 = .ok (.ireturn, 1) := by decide +kernel
theorem d_GT_letters_0 : decode b_GT_letters 0 = .ok (.aload_n 0, 1) := by decide +kernel
theorem d_GT_letters_1 : decode b_GT_letters 1 = .ok (.getfield 19, 3) := by decide +kernel
theorem d_GT_letters_4 : decode b_GT_letters 4 = .ok (.lload_n 1, 1) := by decide +kernel
theorem d_GT_letters_5 : decode b_GT_letters 5 = .ok (.invokevirtual 63, 3) := by decide +kernel
theorem d_GT_letters_8 : decode b_GT_letters 8 = .ok (.ireturn, 1) := by decide +kernel
theorem d_GT_forget_0 : decode b_GT_forget 0 = .ok (.aload_n 0, 1) := by decide +kernel
theorem d_GT_forget_1 : decode b_GT_forget 1 = .ok (.getfield 19, 3) := by decide +kernel
theorem d_GT_forget_4 : decode b_GT_forget 4 = .ok (.iconst 0, 1) := by decide +kernel
theorem d_GT_forget_5 : decode b_GT_forget 5 = .ok (.putfield 67, 3) := by decide +kernel
theorem d_GT_forget_8 : decode b_GT_forget 8 = .ok (.return_, 1) := by decide +kernel
theorem d_GT_why_0 : decode b_GT_why 0 = .ok (.aload_n 0, 1) := by decide +kernel
theorem d_GT_why_1 : decode b_GT_why 1 = .ok (.getfield 37, 3) := by decide +kernel
theorem d_GT_why_4 : decode b_GT_why 4 = .ok (.ireturn, 1) := by decide +kernel
theorem d_GT_about_0 : decode b_GT_about 0 = .ok (.iload_n 1, 1) := by decide +kernel
theorem d_GT_about_1 : decode b_GT_about 1 = .ok (.tableswitch 75 0 4 #[35, 43, 51, 59, 67], 35) := by decide +kernel
theorem d_GT_about_36 : decode b_GT_about 36 = .ok (.aload_n 0, 1) := by decide +kernel
theorem d_GT_about_37 : decode b_GT_about 37 = .ok (.getfield 33, 3) := by decide +kernel
theorem d_GT_about_40 : decode b_GT_about 40 = .ok (.getfield 86, 3) := by decide +kernel
theorem d_GT_about_43 : decode b_GT_about 43 = .ok (.ireturn, 1) := by decide +kernel
theorem d_GT_about_44 : decode b_GT_about 44 = .ok (.aload_n 0, 1) := by decide +kernel
theorem d_GT_about_45 : decode b_GT_about 45 = .ok (.getfield 33, 3) := by decide +kernel
theorem d_GT_about_48 : decode b_GT_about 48 = .ok (.getfield 89, 3) := by decide +kernel
theorem d_GT_about_51 : decode b_GT_about 51 = .ok (.ireturn, 1) := by decide +kernel
theorem d_GT_about_52 : decode b_GT_about 52 = .ok (.aload_n 0, 1) := by decide +kernel
theorem d_GT_about_53 : decode b_GT_about 53 = .ok (.getfield 33, 3) := by decide +kernel
theorem d_GT_about_56 : decode b_GT_about 56 = .ok (.getfield 92, 3) := by decide +kernel
theorem d_GT_about_59 : decode b_GT_about 59 = .ok (.ireturn, 1) := by decide +kernel
theorem d_GT_about_60 : decode b_GT_about 60 = .ok (.aload_n 0, 1) := by decide +kernel
theorem d_GT_about_61 : decode b_GT_about 61 = .ok (.getfield 33, 3) := by decide +kernel
theorem d_GT_about_64 : decode b_GT_about 64 = .ok (.getfield 95, 3) := by decide +kernel
theorem d_GT_about_67 : decode b_GT_about 67 = .ok (.ireturn, 1) := by decide +kernel
theorem d_GT_about_68 : decode b_GT_about 68 = .ok (.aload_n 0, 1) := by decide +kernel
theorem d_GT_about_69 : decode b_GT_about 69 = .ok (.getfield 33, 3) := by decide +kernel
theorem d_GT_about_72 : decode b_GT_about 72 = .ok (.getfield 85, 3) := by decide +kernel
theorem d_GT_about_75 : decode b_GT_about 75 = .ok (.ireturn, 1) := by decide +kernel
theorem d_GT_about_76 : decode b_GT_about 76 = .ok (.iconst (-1), 1) := by decide +kernel
theorem d_GT_about_77 : decode b_GT_about 77 = .ok (.ireturn, 1) := by decide +kernel
theorem d_GT_at_0 : decode b_GT_at 0 = .ok (.aload_n 0, 1) := by decide +kernel
theorem d_GT_at_1 : decode b_GT_at 1 = .ok (.getfield 33, 3) := by decide +kernel
theorem d_GT_at_4 : decode b_GT_at 4 = .ok (.iload_n 1, 1) := by decide +kernel
theorem d_GT_at_5 : decode b_GT_at 5 = .ok (.invokevirtual 98, 3) := by decide +kernel
theorem d_GT_at_8 : decode b_GT_at 8 = .ok (.astore_n 2, 1) := by decide +kernel
theorem d_GT_at_9 : decode b_GT_at 9 = .ok (.aload_n 2, 1) := by decide +kernel
theorem d_GT_at_10 : decode b_GT_at 10 = .ok (.ifnonnull 7, 3) := by decide +kernel
theorem d_GT_at_13 : decode b_GT_at 13 = .ok (.iconst (-1), 1) := by decide +kernel
theorem d_GT_at_14 : decode b_GT_at 14 = .ok (.goto 13, 3) := by decide +kernel
theorem d_GT_at_17 : decode b_GT_at 17 = .ok (.aload_n 2, 1) := by decide +kernel
theorem d_GT_at_18 : decode b_GT_at 18 = .ok (.iload_n 1, 1) := by decide +kernel
theorem d_GT_at_19 : decode b_GT_at 19 = .ok (.aload_n 2, 1) := by decide +kernel
theorem d_GT_at_20 : decode b_GT_at 20 = .ok (.getfield 102, 3) := by decide +kernel
theorem d_GT_at_23 : decode b_GT_at 23 = .ok (.isub, 1) := by decide +kernel
theorem d_GT_at_24 : decode b_GT_at 24 = .ok (.invokevirtual 107, 3) := by decide +kernel
theorem d_GT_at_27 : decode b_GT_at 27 = .ok (.ireturn, 1) := by decide +kernel
theorem d_GT_flags_0 : decode b_GT_flags 0 = .ok (.aload_n 0, 1) := by decide +kernel
theorem d_GT_flags_1 : decode b_GT_flags 1 = .ok (.getfield 33, 3) := by decide +kernel
theorem d_GT_flags_4 : decode b_GT_flags 4 = .ok (.iload_n 1, 1) := by decide +kernel
theorem d_GT_flags_5 : decode b_GT_flags 5 = .ok (.invokevirtual 98, 3) := by decide +kernel
theorem d_GT_flags_8 : decode b_GT_flags 8 = .ok (.astore_n 2, 1) := by decide +kernel
theorem d_GT_flags_9 : decode b_GT_flags 9 = .ok (.aload_n 2, 1) := by decide +kernel
theorem d_GT_flags_10 : decode b_GT_flags 10 = .ok (.ifnonnull 7, 3) := by decide +kernel
theorem d_GT_flags_13 : decode b_GT_flags 13 = .ok (.iconst (-1), 1) := by decide +kernel
theorem d_GT_flags_14 : decode b_GT_flags 14 = .ok (.goto 7, 3) := by decide +kernel
theorem d_GT_flags_17 : decode b_GT_flags 17 = .ok (.aload_n 2, 1) := by decide +kernel
theorem d_GT_flags_18 : decode b_GT_flags 18 = .ok (.getfield 110, 3) := by decide +kernel
theorem d_GT_flags_21 : decode b_GT_flags 21 = .ok (.ireturn, 1) := by decide +kernel
theorem d_GT_judge_0 : decode b_GT_judge 0 = .ok (.aload_n 0, 1) := by decide +kernel
theorem d_GT_judge_1 : decode b_GT_judge 1 = .ok (.getfield 26, 3) := by decide +kernel
theorem d_GT_judge_4 : decode b_GT_judge 4 = .ok (.aload_n 0, 1) := by decide +kernel
theorem d_GT_judge_5 : decode b_GT_judge 5 = .ok (.getfield 10, 3) := by decide +kernel
theorem d_GT_judge_8 : decode b_GT_judge 8 = .ok (.invokevirtual 113, 3) := by decide +kernel
theorem d_GT_judge_11 : decode b_GT_judge 11 = .ok (.ifCond .ne 5, 3) := by decide +kernel
theorem d_GT_judge_14 : decode b_GT_judge 14 = .ok (.iconst 1, 1) := by decide +kernel
theorem d_GT_judge_15 : decode b_GT_judge 15 = .ok (.ireturn, 1) := by decide +kernel
theorem d_GT_judge_16 : decode b_GT_judge 16 = .ok (.aload_n 0, 1) := by decide +kernel
theorem d_GT_judge_17 : decode b_GT_judge 17 = .ok (.getfield 26, 3) := by decide +kernel
theorem d_GT_judge_20 : decode b_GT_judge 20 = .ok (.aload_n 0, 1) := by decide +kernel
theorem d_GT_judge_21 : decode b_GT_judge 21 = .ok (.getfield 10, 3) := by decide +kernel
theorem d_GT_judge_24 : decode b_GT_judge 24 = .ok (.invokevirtual 117, 3) := by decide +kernel
theorem d_GT_judge_27 : decode b_GT_judge 27 = .ok (.ifCond .ne 5, 3) := by decide +kernel
theorem d_GT_judge_30 : decode b_GT_judge 30 = .ok (.iconst 2, 1) := by decide +kernel
theorem d_GT_judge_31 : decode b_GT_judge 31 = .ok (.ireturn, 1) := by decide +kernel
theorem d_GT_judge_32 : decode b_GT_judge 32 = .ok (.aload_n 0, 1) := by decide +kernel
theorem d_GT_judge_33 : decode b_GT_judge 33 = .ok (.getfield 26, 3) := by decide +kernel
theorem d_GT_judge_36 : decode b_GT_judge 36 = .ok (.aload_n 0, 1) := by decide +kernel
theorem d_GT_judge_37 : decode b_GT_judge 37 = .ok (.getfield 10, 3) := by decide +kernel
theorem d_GT_judge_40 : decode b_GT_judge 40 = .ok (.invokevirtual 120, 3) := by decide +kernel
theorem d_GT_judge_43 : decode b_GT_judge 43 = .ok (.ifCond .ne 5, 3) := by decide +kernel
theorem d_GT_judge_46 : decode b_GT_judge 46 = .ok (.iconst 3, 1) := by decide +kernel
theorem d_GT_judge_47 : decode b_GT_judge 47 = .ok (.ireturn, 1) := by decide +kernel
theorem d_GT_judge_48 : decode b_GT_judge 48 = .ok (.aload_n 0, 1) := by decide +kernel
theorem d_GT_judge_49 : decode b_GT_judge 49 = .ok (.getfield 26, 3) := by decide +kernel
theorem d_GT_judge_52 : decode b_GT_judge 52 = .ok (.aload_n 0, 1) := by decide +kernel
theorem d_GT_judge_53 : decode b_GT_judge 53 = .ok (.getfield 10, 3) := by decide +kernel
theorem d_GT_judge_56 : decode b_GT_judge 56 = .ok (.invokevirtual 123, 3) := by decide +kernel
theorem d_GT_judge_59 : decode b_GT_judge 59 = .ok (.ifCond .ne 5, 3) := by decide +kernel
theorem d_GT_judge_62 : decode b_GT_judge 62 = .ok (.iconst 4, 1) := by decide +kernel
theorem d_GT_judge_63 : decode b_GT_judge 63 = .ok (.ireturn, 1) := by decide +kernel
theorem d_GT_judge_64 : decode b_GT_judge 64 = .ok (.aload_n 0, 1) := by decide +kernel
theorem d_GT_judge_65 : decode b_GT_judge 65 = .ok (.getfield 26, 3) := by decide +kernel
theorem d_GT_judge_68 : decode b_GT_judge 68 = .ok (.getfield 126, 3) := by decide +kernel
theorem d_GT_judge_71 : decode b_GT_judge 71 = .ok (.iload_n 1, 1) := by decide +kernel
theorem d_GT_judge_72 : decode b_GT_judge 72 = .ok (.if_icmp .le 5, 3) := by decide +kernel
theorem d_GT_judge_75 : decode b_GT_judge 75 = .ok (.iconst 5, 1) := by decide +kernel
theorem d_GT_judge_76 : decode b_GT_judge 76 = .ok (.ireturn, 1) := by decide +kernel
theorem d_GT_judge_77 : decode b_GT_judge 77 = .ok (.aload_n 0, 1) := by decide +kernel
theorem d_GT_judge_78 : decode b_GT_judge 78 = .ok (.getfield 19, 3) := by decide +kernel
theorem d_GT_judge_81 : decode b_GT_judge 81 = .ok (.invokevirtual 129, 3) := by decide +kernel
theorem d_GT_judge_84 : decode b_GT_judge 84 = .ok (.ifCond .ge 8, 3) := by decide +kernel
theorem d_GT_judge_87 : decode b_GT_judge 87 = .ok (.bipush 6, 2) := by decide +kernel
theorem d_GT_judge_89 : decode b_GT_judge 89 = .ok (.goto 4, 3) := by decide +kernel
theorem d_GT_judge_92 : decode b_GT_judge 92 = .ok (.iconst 0, 1) := by decide +kernel
theorem d_GT_judge_93 : decode b_GT_judge 93 = .ok (.ireturn, 1) := by decide +kernel
