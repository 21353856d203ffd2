theorem d_Mt_feed_0 : decode b_Mt_feed 0 = .ok (.iload_n 3, 1) := by decide +kernel
theorem d_Mt_feed_1 : decode b_Mt_feed 1 = .ok (.iconst 1, 1) := by decide +kernel
theorem d_Mt_feed_2 : decode b_Mt_feed 2 = .ok (.if_icmp .lt 9, 3) := by decide +kernel
theorem d_Mt_feed_5 : decode b_Mt_feed 5 = .ok (.iload_n 3, 1) := by decide +kernel
theorem d_Mt_feed_6 : decode b_Mt_feed 6 = .ok (.bipush 8, 2) := by decide +kernel
theorem d_Mt_feed_8 : decode b_Mt_feed 8 = .ok (.if_icmp .le 5, 3) := by decide +kernel
theorem d_Mt_feed_11 : decode b_Mt_feed 11 = .ok (.iconst (-1), 1) := by decide +kernel
theorem d_Mt_feed_12 : decode b_Mt_feed 12 = .ok (.ireturn, 1) := by decide +kernel
theorem d_Mt_feed_13 : decode b_Mt_feed 13 = .ok (.aload_n 0, 1) := by decide +kernel
theorem d_Mt_feed_14 : decode b_Mt_feed 14 = .ok (.getfield 13, 3) := by decide +kernel
theorem d_Mt_feed_17 : decode b_Mt_feed 17 = .ok (.iload_n 3, 1) := by decide +kernel
theorem d_Mt_feed_18 : decode b_Mt_feed 18 = .ok (.iadd, 1) := by decide +kernel
theorem d_Mt_feed_19 : decode b_Mt_feed 19 = .ok (.sipush 400, 3) := by decide +kernel
theorem d_Mt_feed_22 : decode b_Mt_feed 22 = .ok (.if_icmp .le 6, 3) := by decide +kernel
theorem d_Mt_feed_25 : decode b_Mt_feed 25 = .ok (.bipush (-2), 2) := by decide +kernel
theorem d_Mt_feed_27 : decode b_Mt_feed 27 = .ok (.ireturn, 1) := by decide +kernel
theorem d_Mt_feed_28 : decode b_Mt_feed 28 = .ok (.iconst 0, 1) := by decide +kernel
theorem d_Mt_feed_29 : decode b_Mt_feed 29 = .ok (.istore 4, 2) := by decide +kernel
theorem d_Mt_feed_31 : decode b_Mt_feed 31 = .ok (.iload 4, 2) := by decide +kernel
theorem d_Mt_feed_33 : decode b_Mt_feed 33 = .ok (.iload_n 3, 1) := by decide +kernel
theorem d_Mt_feed_34 : decode b_Mt_feed 34 = .ok (.if_icmp .ge 30, 3) := by decide +kernel
theorem d_Mt_feed_37 : decode b_Mt_feed 37 = .ok (.aload_n 0, 1) := by decide +kernel
theorem d_Mt_feed_38 : decode b_Mt_feed 38 = .ok (.getfield 9, 3) := by decide +kernel
theorem d_Mt_feed_41 : decode b_Mt_feed 41 = .ok (.aload_n 0, 1) := by decide +kernel
theorem d_Mt_feed_42 : decode b_Mt_feed 42 = .ok (.getfield 13, 3) := by decide +kernel
theorem d_Mt_feed_45 : decode b_Mt_feed 45 = .ok (.iload 4, 2) := by decide +kernel
theorem d_Mt_feed_47 : decode b_Mt_feed 47 = .ok (.iadd, 1) := by decide +kernel
theorem d_Mt_feed_48 : decode b_Mt_feed 48 = .ok (.lload_n 1, 1) := by decide +kernel
theorem d_Mt_feed_49 : decode b_Mt_feed 49 = .ok (.bipush 8, 2) := by decide +kernel
theorem d_Mt_feed_51 : decode b_Mt_feed 51 = .ok (.iload 4, 2) := by decide +kernel
theorem d_Mt_feed_53 : decode b_Mt_feed 53 = .ok (.imul, 1) := by decide +kernel
theorem d_Mt_feed_54 : decode b_Mt_feed 54 = .ok (.lshr, 1) := by decide +kernel
theorem d_Mt_feed_55 : decode b_Mt_feed 55 = .ok (.l2i, 1) := by decide +kernel
theorem d_Mt_feed_56 : decode b_Mt_feed 56 = .ok (.i2b, 1) := by decide +kernel
theorem d_Mt_feed_57 : decode b_Mt_feed 57 = .ok (.bastore, 1) := by decide +kernel
theorem d_Mt_feed_58 : decode b_Mt_feed 58 = .ok (.iinc 4 1, 3) := by decide +kernel
theorem d_Mt_feed_61 : decode b_Mt_feed 61 = .ok (.goto (-30), 3) := by decide +kernel
theorem d_Mt_feed_64 : decode b_Mt_feed 64 = .ok (.aload_n 0, 1) := by decide +kernel
theorem d_Mt_feed_65 : decode b_Mt_feed 65 = .ok (.dup, 1) := by decide +kernel
theorem d_Mt_feed_66 : decode b_Mt_feed 66 = .ok (.getfield 13, 3) := by decide +kernel
theorem d_Mt_feed_69 : decode b_Mt_feed 69 = .ok (.iload_n 3, 1) := by decide +kernel
theorem d_Mt_feed_70 : decode b_Mt_feed 70 = .ok (.iadd, 1) := by decide +kernel
theorem d_Mt_feed_71 : decode b_Mt_feed 71 = .ok (.putfield 13, 3) := by decide +kernel
theorem d_Mt_feed_74 : decode b_Mt_feed 74 = .ok (.aload_n 0, 1) := by decide +kernel
theorem d_Mt_feed_75 : decode b_Mt_feed 75 = .ok (.getfield 13, 3) := by decide +kernel
theorem d_Mt_feed_78 : decode b_Mt_feed 78 = .ok (.ireturn, 1) := by decide +kernel
theorem d_Mt_clear_0 : decode b_Mt_clear 0 = .ok (.aload_n 0, 1) := by decide +kernel
theorem d_Mt_clear_1 : decode b_Mt_clear 1 = .ok (.getfield 13, 3) := by decide +kernel
theorem d_Mt_clear_4 : decode b_Mt_clear 4 = .ok (.istore_n 1, 1) := by decide +kernel
theorem d_Mt_clear_5 : decode b_Mt_clear 5 = .ok (.aload_n 0, 1) := by decide +kernel
theorem d_Mt_clear_6 : decode b_Mt_clear 6 = .ok (.iconst 0, 1) := by decide +kernel
theorem d_Mt_clear_7 : decode b_Mt_clear 7 = .ok (.putfield 13, 3) := by decide +kernel
theorem d_Mt_clear_10 : decode b_Mt_clear 10 = .ok (.iload_n 1, 1) := by decide +kernel
theorem d_Mt_clear_11 : decode b_Mt_clear 11 = .ok (.ireturn, 1) := by decide +kernel
theorem d_Mt_again_0 : decode b_Mt_again 0 = .ok (.aload_n 0, 1) := by decide +kernel
theorem d_Mt_again_1 : decode b_Mt_again 1 = .ok (.getfield 45, 3) := by decide +kernel
theorem d_Mt_again_4 : decode b_Mt_again 4 = .ok (.invokevirtual 49, 3) := by decide +kernel
theorem d_Mt_again_7 : decode b_Mt_again 7 = .ok (.istore_n 1, 1) := by decide +kernel
theorem d_Mt_again_8 : decode b_Mt_again 8 = .ok (.iload_n 1, 1) := by decide +kernel
theorem d_Mt_again_9 : decode b_Mt_again 9 = .ok (.sipush 400, 3) := by decide +kernel
theorem d_Mt_again_12 : decode b_Mt_again 12 = .ok (.if_icmp .le 6, 3) := by decide +kernel
theorem d_Mt_again_15 : decode b_Mt_again 15 = .ok (.bipush (-2), 2) := by decide +kernel
theorem d_Mt_again_17 : decode b_Mt_again 17 = .ok (.ireturn, 1) := by decide +kernel
theorem d_Mt_again_18 : decode b_Mt_again 18 = .ok (.aload_n 0, 1) := by decide +kernel
theorem d_Mt_again_19 : decode b_Mt_again 19 = .ok (.getfield 45, 3) := by decide +kernel
theorem d_Mt_again_22 : decode b_Mt_again 22 = .ok (.aload_n 0, 1) := by decide +kernel
theorem d_Mt_again_23 : decode b_Mt_again 23 = .ok (.getfield 9, 3) := by decide +kernel
theorem d_Mt_again_26 : decode b_Mt_again 26 = .ok (.invokevirtual 53, 3) := by decide +kernel
theorem d_Mt_again_29 : decode b_Mt_again 29 = .ok (.aload_n 0, 1) := by decide +kernel
theorem d_Mt_again_30 : decode b_Mt_again 30 = .ok (.iload_n 1, 1) := by decide +kernel
theorem d_Mt_again_31 : decode b_Mt_again 31 = .ok (.putfield 13, 3) := by decide +kernel
theorem d_Mt_again_34 : decode b_Mt_again 34 = .ok (.iload_n 1, 1) := by decide +kernel
theorem d_Mt_again_35 : decode b_Mt_again 35 = .ok (.ireturn, 1) := by decide +kernel
theorem d_Mt_isLetter_0 : decode b_Mt_isLetter 0 = .ok (.iload_n 0, 1) := by decide +kernel
theorem d_Mt_isLetter_1 : decode b_Mt_isLetter 1 = .ok (.bipush 65, 2) := by decide +kernel
theorem d_Mt_isLetter_3 : decode b_Mt_isLetter 3 = .ok (.if_icmp .lt 9, 3) := by decide +kernel
theorem d_Mt_isLetter_6 : decode b_Mt_isLetter 6 = .ok (.iload_n 0, 1) := by decide +kernel
theorem d_Mt_isLetter_7 : decode b_Mt_isLetter 7 = .ok (.bipush 90, 2) := by decide +kernel
theorem d_Mt_isLetter_9 : decode b_Mt_isLetter 9 = .ok (.if_icmp .le 15, 3) := by decide +kernel
theorem d_Mt_isLetter_12 : decode b_Mt_isLetter 12 = .ok (.iload_n 0, 1) := by decide +kernel
theorem d_Mt_isLetter_13 : decode b_Mt_isLetter 13 = .ok (.bipush 97, 2) := by decide +kernel
theorem d_Mt_isLetter_15 : decode b_Mt_isLetter 15 = .ok (.if_icmp .lt 13, 3) := by decide +kernel
theorem d_Mt_isLetter_18 : decode b_Mt_isLetter 18 = .ok (.iload_n 0, 1) := by decide +kernel
theorem d_Mt_isLetter_19 : decode b_Mt_isLetter 19 = .ok (.bipush 122, 2) := by decide +kernel
theorem d_Mt_isLetter_21 : decode b_Mt_isLetter 21 = .ok (.if_icmp .gt 7, 3) := by decide +kernel
theorem d_Mt_isLetter_24 : decode b_Mt_isLetter 24 = .ok (.iconst 1, 1) := by decide +kernel
theorem d_Mt_isLetter_25 : decode b_Mt_isLetter 25 = .ok (.goto 4, 3) := by decide +kernel
theorem d_Mt_isLetter_28 : decode b_Mt_isLetter 28 = .ok (.iconst 0, 1) := by decide +kernel
theorem d_Mt_isLetter_29 : decode b_Mt_isLetter 29 = .ok (.ireturn, 1) := by decide +kernel
theorem d_Mt_isLetterOrDigit_0 : decode b_Mt_isLetterOrDigit 0 = .ok (.iload_n 0, 1) := by decide +kernel
theorem d_Mt_isLetterOrDigit_1 : decode b_Mt_isLetterOrDigit 1 = .ok (.invokestatic 128, 3) := by decide +kernel
theorem d_Mt_isLetterOrDigit_4 : decode b_Mt_isLetterOrDigit 4 = .ok (.ifCond .ne 15, 3) := by decide +kernel
theorem d_Mt_isLetterOrDigit_7 : decode b_Mt_isLetterOrDigit 7 = .ok (.iload_n 0, 1) := by decide +kernel
theorem d_Mt_isLetterOrDigit_8 : decode b_Mt_isLetterOrDigit 8 = .ok (.bipush 48, 2) := by decide +kernel
theorem d_Mt_isLetterOrDigit_10 : decode b_Mt_isLetterOrDigit 10 = .ok (.if_icmp .lt 13, 3) := by decide +kernel
theorem d_Mt_isLetterOrDigit_13 : decode b_Mt_isLetterOrDigit 13 = .ok (.iload_n 0, 1) := by decide +kernel
theorem d_Mt_isLetterOrDigit_14 : decode b_Mt_isLetterOrDigit 14 = .ok (.bipush 57, 2) := by decide +kernel
theorem d_Mt_isLetterOrDigit_16 : decode b_Mt_isLetterOrDigit 16 = .ok (.if_icmp .gt 7, 3) := by decide +kernel
theorem d_Mt_isLetterOrDigit_19 : decode b_Mt_isLetterOrDigit 19 = .ok (.iconst 1, 1) := by decide +kernel
theorem d_Mt_isLetterOrDigit_20 : decode b_Mt_isLetterOrDigit 20 = .ok (.goto 4, 3) := by decide +kernel
theorem d_Mt_isLetterOrDigit_23 : decode b_Mt_isLetterOrDigit 23 = .ok (.iconst 0, 1) := by decide +kernel
theorem d_Mt_isLetterOrDigit_24 : decode b_Mt_isLetterOrDigit 24 = .ok (.ireturn, 1) := by decide +kernel
theorem d_Mt_lowered_0 : decode b_Mt_lowered 0 = .ok (.iload_n 0, 1) := by decide +kernel
theorem d_Mt_lowered_1 : decode b_Mt_lowered 1 = .ok (.bipush 65, 2) := by decide +kernel
theorem d_Mt_lowered_3 : decode b_Mt_lowered 3 = .ok (.if_icmp .lt 16, 3) := by decide +kernel
theorem d_Mt_lowered_6 : decode b_Mt_lowered 6 = .ok (.iload_n 0, 1) := by decide +kernel
theorem d_Mt_lowered_7 : decode b_Mt_lowered 7 = .ok (.bipush 90, 2) := by decide +kernel
theorem d_Mt_lowered_9 : decode b_Mt_lowered 9 = .ok (.if_icmp .gt 10, 3) := by decide +kernel
theorem d_Mt_lowered_12 : decode b_Mt_lowered 12 = .ok (.iload_n 0, 1) := by decide +kernel
theorem d_Mt_lowered_13 : decode b_Mt_lowered 13 = .ok (.bipush 32, 2) := by decide +kernel
theorem d_Mt_lowered_15 : decode b_Mt_lowered 15 = .ok (.iadd, 1) := by decide +kernel
theorem d_Mt_lowered_16 : decode b_Mt_lowered 16 = .ok (.goto 4, 3) := by decide +kernel
theorem d_Mt_lowered_19 : decode b_Mt_lowered 19 = .ok (.iload_n 0, 1) := by decide +kernel
theorem d_Mt_lowered_20 : decode b_Mt_lowered 20 = .ok (.ireturn, 1) := by decide +kernel
theorem d_Mt_isBlank_0 : decode b_Mt_isBlank 0 = .ok (.iload_n 0, 1) := by decide +kernel
theorem d_Mt_isBlank_1 : decode b_Mt_isBlank 1 = .ok (.bipush 10, 2) := by decide +kernel
theorem d_Mt_isBlank_3 : decode b_Mt_isBlank 3 = .ok (.if_icmp .eq 21, 3) := by decide +kernel
theorem d_Mt_isBlank_6 : decode b_Mt_isBlank 6 = .ok (.iload_n 0, 1) := by decide +kernel
theorem d_Mt_isBlank_7 : decode b_Mt_isBlank 7 = .ok (.bipush 9, 2) := by decide +kernel
theorem d_Mt_isBlank_9 : decode b_Mt_isBlank 9 = .ok (.if_icmp .eq 15, 3) := by decide +kernel
theorem d_Mt_isBlank_12 : decode b_Mt_isBlank 12 = .ok (.iload_n 0, 1) := by decide +kernel
theorem d_Mt_isBlank_13 : decode b_Mt_isBlank 13 = .ok (.bipush 12, 2) := by decide +kernel
theorem d_Mt_isBlank_15 : decode b_Mt_isBlank 15 = .ok (.if_icmp .eq 9, 3) := by decide +kernel
theorem d_Mt_isBlank_18 : decode b_Mt_isBlank 18 = .ok (.iload_n 0, 1) := by decide +kernel
theorem d_Mt_isBlank_19 : decode b_Mt_isBlank 19 = .ok (.bipush 32, 2) := by decide +kernel
theorem d_Mt_isBlank_21 : decode b_Mt_isBlank 21 = .ok (.if_icmp .ne 7, 3) := by decide +kernel
theorem d_Mt_isBlank_24 : decode b_Mt_isBlank 24 = .ok (.iconst 1, 1) := by decide +kernel
theorem d_Mt_isBlank_25 : decode b_Mt_isBlank 25 = .ok (.goto 4, 3) := by decide +kernel
theorem d_Mt_isBlank_28 : decode b_Mt_isBlank 28 = .ok (.iconst 0, 1) := by decide +kernel
theorem d_Mt_isBlank_29 : decode b_Mt_isBlank 29 = .ok (.ireturn, 1) := by decide +kernel
theorem d_Mt_run_0 : decode b_Mt_run 0 = .ok (.aload_n 0, 1) := by decide +kernel
theorem d_Mt_run_1 : decode b_Mt_run 1 = .ok (.getfield 20, 3) := by decide +kernel
theorem d_Mt_run_4 : decode b_Mt_run 4 = .ok (.aload_n 0, 1) := by decide +kernel
theorem d_Mt_run_5 : decode b_Mt_run 5 = .ok (.getfield 9, 3) := by decide +kernel
theorem d_Mt_run_8 : decode b_Mt_run 8 = .ok (.aload_n 0, 1) := by decide +kernel
theorem d_Mt_run_9 : decode b_Mt_run 9 = .ok (.getfield 13, 3) := by decide +kernel
theorem d_Mt_run_12 : decode b_Mt_run 12 = .ok (.invokevirtual 57, 3) := by decide +kernel
theorem d_Mt_run_15 : decode b_Mt_run 15 = .ok (.aload_n 0, 1) := by decide +kernel
theorem d_Mt_run_16 : decode b_Mt_run 16 = .ok (.getfield 27, 3) := by decide +kernel
theorem d_Mt_run_19 : decode b_Mt_run 19 = .ok (.invokevirtual 61, 3) := by decide +kernel
theorem d_Mt_run_22 : decode b_Mt_run 22 = .ok (.aload_n 0, 1) := by decide +kernel
theorem d_Mt_run_23 : decode b_Mt_run 23 = .ok (.getfield 36, 3) := by decide +kernel
theorem d_Mt_run_26 : decode b_Mt_run 26 = .ok (.invokevirtual 64, 3) := by decide +kernel
theorem d_Mt_run_29 : decode b_Mt_run 29 = .ok (.aload_n 0, 1) := by decide +kernel
theorem d_Mt_run_30 : decode b_Mt_run 30 = .ok (.getfield 27, 3) := by decide +kernel
theorem d_Mt_run_33 : decode b_Mt_run 33 = .ok (.invokevirtual 67, 3) := by decide +kernel
theorem d_Mt_run_36 : decode b_Mt_run 36 = .ok (.ireturn, 1) := by decide +kernel
theorem d_Mt_token_0 : decode b_Mt_token 0 = .ok (.aload_n 0, 1) := by decide +kernel
theorem d_Mt_token_1 : decode b_Mt_token 1 = .ok (.getfield 27, 3) := by decide +kernel
theorem d_Mt_token_4 : decode b_Mt_token 4 = .ok (.iload_n 1, 1) := by decide +kernel
theorem d_Mt_token_5 : decode b_Mt_token 5 = .ok (.invokevirtual 70, 3) := by decide +kernel
theorem d_Mt_token_8 : decode b_Mt_token 8 = .ok (.ifCond .ne 5, 3) := by decide +kernel
theorem d_Mt_token_11 : decode b_Mt_token 11 = .ok (.iconst (-1), 1) := by decide +kernel
theorem d_Mt_token_12 : decode b_Mt_token 12 = .ok (.ireturn, 1) := by decide +kernel
theorem d_Mt_token_13 : decode b_Mt_token 13 = .ok (.iload_n 2, 1) := by decide +kernel
theorem d_Mt_token_14 : decode b_Mt_token 14 = .ok (.tableswitch 66 0 3 #[30, 39, 48, 57], 30) := by decide +kernel
theorem d_Mt_token_44 : decode b_Mt_token 44 = .ok (.aload_n 0, 1) := by decide +kernel
theorem d_Mt_token_45 : decode b_Mt_token 45 = .ok (.getfield 27, 3) := by decide +kernel
theorem d_Mt_token_48 : decode b_Mt_token 48 = .ok (.iload_n 1, 1) := by decide +kernel
theorem d_Mt_token_49 : decode b_Mt_token 49 = .ok (.invokevirtual 74, 3) := by decide +kernel
theorem d_Mt_token_52 : decode b_Mt_token 52 = .ok (.ireturn, 1) := by decide +kernel
theorem d_Mt_token_53 : decode b_Mt_token 53 = .ok (.aload_n 0, 1) := by decide +kernel
theorem d_Mt_token_54 : decode b_Mt_token 54 = .ok (.getfield 27, 3) := by decide +kernel
theorem d_Mt_token_57 : decode b_Mt_token 57 = .ok (.iload_n 1, 1) := by decide +kernel
theorem d_Mt_token_58 : decode b_Mt_token 58 = .ok (.invokevirtual 78, 3) := by decide +kernel
theorem d_Mt_token_61 : decode b_Mt_token 61 = .ok (.ireturn, 1) := by decide +kernel
theorem d_Mt_token_62 : decode b_Mt_token 62 = .ok (.aload_n 0, 1) := by decide +kernel
theorem d_Mt_token_63 : decode b_Mt_token 63 = .ok (.getfield 27, 3) := by decide +kernel
theorem d_Mt_token_66 : decode b_Mt_token 66 = .ok (.iload_n 1, 1) := by decide +kernel
theorem d_Mt_token_67 : decode b_Mt_token 67 = .ok (.invokevirtual 80, 3) := by decide +kernel
theorem d_Mt_token_70 : decode b_Mt_token 70 = .ok (.ireturn, 1) := by decide +kernel
theorem d_Mt_token_71 : decode b_Mt_token 71 = .ok (.aload_n 0, 1) := by decide +kernel
theorem d_Mt_token_72 : decode b_Mt_token 72 = .ok (.getfield 27, 3) := by decide +kernel
theorem d_Mt_token_75 : decode b_Mt_token 75 = .ok (.iload_n 1, 1) := by decide +kernel
theorem d_Mt_token_76 : decode b_Mt_token 76 = .ok (.invokevirtual 83, 3) := by decide +kernel
theorem d_Mt_token_79 : decode b_Mt_token 79 = .ok (.ireturn, 1) := by decide +kernel
theorem d_Mt_token_80 : decode b_Mt_token 80 = .ok (.iconst (-1), 1) := by decide +kernel
theorem d_Mt_token_81 : decode b_Mt_token 81 = .ok (.ireturn, 1) := by decide +kernel
theorem d_Mt_at_0 : decode b_Mt_at 0 = .ok (.aload_n 0, 1) := by decide +kernel
theorem d_Mt_at_1 : decode b_Mt_at 1 = .ok (.getfield 27, 3) := by decide +kernel
theorem d_Mt_at_4 : decode b_Mt_at 4 = .ok (.iload_n 1, 1) := by decide +kernel
theorem d_Mt_at_5 : decode b_Mt_at 5 = .ok (.invokevirtual 70, 3) := by decide +kernel
theorem d_Mt_at_8 : decode b_Mt_at 8 = .ok (.ifCond .eq 19, 3) := by decide +kernel
theorem d_Mt_at_11 : decode b_Mt_at 11 = .ok (.iload_n 2, 1) := by decide +kernel
theorem d_Mt_at_12 : decode b_Mt_at 12 = .ok (.ifCond .lt 15, 3) := by decide +kernel
theorem d_Mt_at_15 : decode b_Mt_at 15 = .ok (.iload_n 2, 1) := by decide +kernel
theorem d_Mt_at_16 : decode b_Mt_at 16 = .ok (.aload_n 0, 1) := by decide +kernel
theorem d_Mt_at_17 : decode b_Mt_at 17 = .ok (.getfield 27, 3) := by decide +kernel
theorem d_Mt_at_20 : decode b_Mt_at 20 = .ok (.iload_n 1, 1) := by decide +kernel
theorem d_Mt_at_21 : decode b_Mt_at 21 = .ok (.invokevirtual 78, 3) := by decide +kernel
theorem d_Mt_at_24 : decode b_Mt_at 24 = .ok (.if_icmp .lt 5, 3) := by decide +kernel
theorem d_Mt_at_27 : decode b_Mt_at 27 = .ok (.iconst (-1), 1) := by decide +kernel
theorem d_Mt_at_28 : decode b_Mt_at 28 = .ok (.ireturn, 1) := by decide +kernel
theorem d_Mt_at_29 : decode b_Mt_at 29 = .ok (.aload_n 0, 1) := by decide +kernel
theorem d_Mt_at_30 : decode b_Mt_at 30 = .ok (.getfield 27, 3) := by decide +kernel
theorem d_Mt_at_33 : decode b_Mt_at 33 = .ok (.iload_n 1, 1) := by decide +kernel
theorem d_Mt_at_34 : decode b_Mt_at 34 = .ok (.iload_n 2, 1) := by decide +kernel
theorem d_Mt_at_35 : decode b_Mt_at 35 = .ok (.invokevirtual 86, 3) := by decide +kernel
theorem d_Mt_at_38 : decode b_Mt_at 38 = .ok (.ireturn, 1) := by decide +kernel
theorem d_Mt_size_0 : decode b_Mt_size 0 = .ok (.aload_n 0, 1) := by decide +kernel
theorem d_Mt_size_1 : decode b_Mt_size 1 = .ok (.getfield 27, 3) := by decide +kernel
theorem d_Mt_size_4 : decode b_Mt_size 4 = .ok (.iload_n 1, 1) := by decide +kernel
theorem d_Mt_size_5 : decode b_Mt_size 5 = .ok (.iload_n 2, 1) := by decide +kernel
theorem d_Mt_size_6 : decode b_Mt_size 6 = .ok (.invokevirtual 90, 3) := by decide +kernel
theorem d_Mt_size_9 : decode b_Mt_size 9 = .ok (.ifCond .ne 5, 3) := by decide +kernel
theorem d_Mt_size_12 : decode b_Mt_size 12 = .ok (.iconst (-1), 1) := by decide +kernel
theorem d_Mt_size_13 : decode b_Mt_size 13 = .ok (.ireturn, 1) := by decide +kernel
theorem d_Mt_size_14 : decode b_Mt_size 14 = .ok (.iload_n 3, 1) := by decide +kernel
theorem d_Mt_size_15 : decode b_Mt_size 15 = .ok (.lookupswitch 45 #[(0, 25), (1, 35)], 25) := by decide +kernel
theorem d_Mt_size_40 : decode b_Mt_size 40 = .ok (.aload_n 0, 1) := by decide +kernel
theorem d_Mt_size_41 : decode b_Mt_size 41 = .ok (.getfield 27, 3) := by decide +kernel
theorem d_Mt_size_44 : decode b_Mt_size 44 = .ok (.iload_n 1, 1) := by decide +kernel
theorem d_Mt_size_45 : decode b_Mt_size 45 = .ok (.iload_n 2, 1) := by decide +kernel
theorem d_Mt_size_46 : decode b_Mt_size 46 = .ok (.invokevirtual 94, 3) := by decide +kernel
theorem d_Mt_size_49 : decode b_Mt_size 49 = .ok (.ireturn, 1) := by decide +kernel
theorem d_Mt_size_50 : decode b_Mt_size 50 = .ok (.aload_n 0, 1) := by decide +kernel
theorem d_Mt_size_51 : decode b_Mt_size 51 = .ok (.getfield 27, 3) := by decide +kernel
theorem d_Mt_size_54 : decode b_Mt_size 54 = .ok (.iload_n 1, 1) := by decide +kernel
theorem d_Mt_size_55 : decode b_Mt_size 55 = .ok (.iload_n 2, 1) := by decide +kernel
theorem d_Mt_size_56 : decode b_Mt_size 56 = .ok (.invokevirtual 97, 3) := by decide +kernel
theorem d_Mt_size_59 : decode b_Mt_size 59 = .ok (.ireturn, 1) := by decide +kernel
theorem d_Mt_size_60 : decode b_Mt_size 60 = .ok (.iconst (-1), 1) := by decide +kernel
theorem d_Mt_size_61 : decode b_Mt_size 61 = .ok (.ireturn, 1) := by decide +kernel
theorem d_Mt_part_0 : decode b_Mt_part 0 = .ok (.aload_n 0, 1) := by decide +kernel
theorem d_Mt_part_1 : decode b_Mt_part 1 = .ok (.iload_n 1, 1) := by decide +kernel
theorem d_Mt_part_2 : decode b_Mt_part 2 = .ok (.iload_n 2, 1) := by decide +kernel
theorem d_Mt_part_3 : decode b_Mt_part 3 = .ok (.iload_n 3, 1) := by decide +kernel
theorem d_Mt_part_4 : decode b_Mt_part 4 = .ok (.invokevirtual 100, 3) := by decide +kernel
theorem d_Mt_part_7 : decode b_Mt_part 7 = .ok (.istore 5, 2) := by decide +kernel
theorem d_Mt_part_9 : decode b_Mt_part 9 = .ok (.iload 4, 2) := by decide +kernel
theorem d_Mt_part_11 : decode b_Mt_part 11 = .ok (.ifCond .lt 10, 3) := by decide +kernel
theorem d_Mt_part_14 : decode b_Mt_part 14 = .ok (.iload 4, 2) := by decide +kernel
theorem d_Mt_part_16 : decode b_Mt_part 16 = .ok (.iload 5, 2) := by decide +kernel
theorem d_Mt_part_18 : decode b_Mt_part 18 = .ok (.if_icmp .lt 5, 3) := by decide +kernel
theorem d_Mt_part_21 : decode b_Mt_part 21 = .ok (.iconst (-1), 1) := by decide +kernel
theorem d_Mt_part_22 : decode b_Mt_part 22 = .ok (.ireturn, 1) := by decide +kernel
theorem d_Mt_part_23 : decode b_Mt_part 23 = .ok (.iload_n 3, 1) := by decide +kernel
theorem d_Mt_part_24 : decode b_Mt_part 24 = .ok (.ifCond .ne 17, 3) := by decide +kernel
theorem d_Mt_part_27 : decode b_Mt_part 27 = .ok (.aload_n 0, 1) := by decide +kernel
theorem d_Mt_part_28 : decode b_Mt_part 28 = .ok (.getfield 27, 3) := by decide +kernel
theorem d_Mt_part_31 : decode b_Mt_part 31 = .ok (.iload_n 1, 1) := by decide +kernel
theorem d_Mt_part_32 : decode b_Mt_part 32 = .ok (.iload_n 2, 1) := by decide +kernel
theorem d_Mt_part_33 : decode b_Mt_part 33 = .ok (.iload 4, 2) := by decide +kernel
theorem d_Mt_part_35 : decode b_Mt_part 35 = .ok (.invokevirtual 104, 3) := by decide +kernel
theorem d_Mt_part_38 : decode b_Mt_part 38 = .ok (.goto 14, 3) := by decide +kernel
theorem d_Mt_part_41 : decode b_Mt_part 41 = .ok (.aload_n 0, 1) := by decide +kernel
theorem d_Mt_part_42 : decode b_Mt_part 42 = .ok (.getfield 27, 3) := by decide +kernel
theorem d_Mt_part_45 : decode b_Mt_part 45 = .ok (.iload_n 1, 1) := by decide +kernel
theorem d_Mt_part_46 : decode b_Mt_part 46 = .ok (.iload_n 2, 1) := by decide +kernel
theorem d_Mt_part_47 : decode b_Mt_part 47 = .ok (.iload 4, 2) := by decide +kernel
theorem d_Mt_part_49 : decode b_Mt_part 49 = .ok (.invokevirtual 107, 3) := by decide +kernel
theorem d_Mt_part_52 : decode b_Mt_part 52 = .ok (.ireturn, 1) := by decide +kernel
theorem d_Mt_faults_0 : decode b_Mt_faults 0 = .ok (.aload_n 0, 1) := by decide +kernel
theorem d_Mt_faults_1 : decode b_Mt_faults 1 = .ok (.getfield 20, 3) := by decide +kernel
theorem d_Mt_faults_4 : decode b_Mt_faults 4 = .ok (.invokevirtual 110, 3) := by decide +kernel
theorem d_Mt_faults_7 : decode b_Mt_faults 7 = .ok (.ireturn, 1) := by decide +kernel
theorem d_Mt_fault_0 : decode b_Mt_fault 0 = .ok (.iload_n 1, 1) := by decide +kernel
theorem d_Mt_fault_1 : decode b_Mt_fault 1 = .ok (.ifCond .lt 14, 3) := by decide +kernel
theorem d_Mt_fault_4 : decode b_Mt_fault 4 = .ok (.iload_n 1, 1) := by decide +kernel
theorem d_Mt_fault_5 : decode b_Mt_fault 5 = .ok (.aload_n 0, 1) := by decide +kernel
theorem d_Mt_fault_6 : decode b_Mt_fault 6 = .ok (.getfield 20, 3) := by decide +kernel
theorem d_Mt_fault_9 : decode b_Mt_fault 9 = .ok (.invokevirtual 110, 3) := by decide +kernel
theorem d_Mt_fault_12 : decode b_Mt_fault 12 = .ok (.if_icmp .lt 5, 3) := by decide +kernel
theorem d_Mt_fault_15 : decode b_Mt_fault 15 = .ok (.iconst (-1), 1) := by decide +kernel
theorem d_Mt_fault_16 : decode b_Mt_fault 16 = .ok (.ireturn, 1) := by decide +kernel
theorem d_Mt_fault_17 : decode b_Mt_fault 17 = .ok (.iload_n 2, 1) := by decide +kernel
theorem d_Mt_fault_18 : decode b_Mt_fault 18 = .ok (.lookupswitch 44 #[(0, 26), (1, 35)], 26) := by decide +kernel
theorem d_Mt_fault_44 : decode b_Mt_fault 44 = .ok (.aload_n 0, 1) := by decide +kernel
theorem d_Mt_fault_45 : decode b_Mt_fault 45 = .ok (.getfield 20, 3) := by decide +kernel
theorem d_Mt_fault_48 : decode b_Mt_fault 48 = .ok (.iload_n 1, 1) := by decide +kernel
theorem d_Mt_fault_49 : decode b_Mt_fault 49 = .ok (.invokevirtual 113, 3) := by decide +kernel
theorem d_Mt_fault_52 : decode b_Mt_fault 52 = .ok (.ireturn, 1) := by decide +kernel
theorem d_Mt_fault_53 : decode b_Mt_fault 53 = .ok (.aload_n 0, 1) := by decide +kernel
theorem d_Mt_fault_54 : decode b_Mt_fault 54 = .ok (.getfield 20, 3) := by decide +kernel
theorem d_Mt_fault_57 : decode b_Mt_fault 57 = .ok (.iload_n 1, 1) := by decide +kernel
theorem d_Mt_fault_58 : decode b_Mt_fault 58 = .ok (.invokevirtual 116, 3) := by decide +kernel
theorem d_Mt_fault_61 : decode b_Mt_fault 61 = .ok (.ireturn, 1) := by decide +kernel
theorem d_Mt_fault_62 : decode b_Mt_fault 62 = .ok (.iconst (-1), 1) := by decide +kernel
theorem d_Mt_fault_63 : decode b_Mt_fault 63 = .ok (.ireturn, 1) := by decide +kernel
theorem d_Mt_write_0 : decode b_Mt_write 0 = .ok (.aload_n 0, 1) := by decide +kernel
theorem d_Mt_write_1 : decode b_Mt_write 1 = .ok (.getfield 45, 3) := by decide +kernel
theorem d_Mt_write_4 : decode b_Mt_write 4 = .ok (.invokevirtual 119, 3) := by decide +kernel
theorem d_Mt_write_7 : decode b_Mt_write 7 = .ok (.aload_n 0, 1) := by decide +kernel
theorem d_Mt_write_8 : decode b_Mt_write 8 = .ok (.getfield 45, 3) := by decide +kernel
theorem d_Mt_write_11 : decode b_Mt_write 11 = .ok (.invokevirtual 49, 3) := by decide +kernel
theorem d_Mt_write_14 : decode b_Mt_write 14 = .ok (.ireturn, 1) := by decide +kernel
theorem d_Mt_word_0 : decode b_Mt_word 0 = .ok (.ldc2_w 122, 3) := by decide +kernel
theorem d_Mt_word_3 : decode b_Mt_word 3 = .ok (.iload_n 1, 1) := by decide +kernel
theorem d_Mt_word_4 : decode b_Mt_word 4 = .ok (.i2l, 1) := by decide +kernel
theorem d_Mt_word_5 : decode b_Mt_word 5 = .ok (.lmul, 1) := by decide +kernel
theorem d_Mt_word_6 : decode b_Mt_word 6 = .ok (.lstore_n 2, 1) := by decide +kernel
theorem d_Mt_word_7 : decode b_Mt_word 7 = .ok (.lconst 0, 1) := by decide +kernel
theorem d_Mt_word_8 : decode b_Mt_word 8 = .ok (.lstore 4, 2) := by decide +kernel
theorem d_Mt_word_10 : decode b_Mt_word 10 = .ok (.iconst 0, 1) := by decide +kernel
theorem d_Mt_word_11 : decode b_Mt_word 11 = .ok (.istore 6, 2) := by decide +kernel
theorem d_Mt_word_13 : decode b_Mt_word 13 = .ok (.iload 6, 2) := by decide +kernel
theorem d_Mt_word_15 : decode b_Mt_word 15 = .ok (.bipush 8, 2) := by decide +kernel
theorem d_Mt_word_17 : decode b_Mt_word 17 = .ok (.if_icmp .ge 32, 3) := by decide +kernel
theorem d_Mt_word_20 : decode b_Mt_word 20 = .ok (.lload 4, 2) := by decide +kernel
theorem d_Mt_word_22 : decode b_Mt_word 22 = .ok (.aload_n 0, 1) := by decide +kernel
theorem d_Mt_word_23 : decode b_Mt_word 23 = .ok (.getfield 45, 3) := by decide +kernel
theorem d_Mt_word_26 : decode b_Mt_word 26 = .ok (.lload_n 2, 1) := by decide +kernel
theorem d_Mt_word_27 : decode b_Mt_word 27 = .ok (.iload 6, 2) := by decide +kernel
theorem d_Mt_word_29 : decode b_Mt_word 29 = .ok (.i2l, 1) := by decide +kernel
theorem d_Mt_word_30 : decode b_Mt_word 30 = .ok (.ladd, 1) := by decide +kernel
theorem d_Mt_word_31 : decode b_Mt_word 31 = .ok (.invokevirtual 124, 3) := by decide +kernel
theorem d_Mt_word_34 : decode b_Mt_word 34 = .ok (.bipush 8, 2) := by decide +kernel
theorem d_Mt_word_36 : decode b_Mt_word 36 = .ok (.iload 6, 2) := by decide +kernel
theorem d_Mt_word_38 : decode b_Mt_word 38 = .ok (.imul, 1) := by decide +kernel
theorem d_Mt_word_39 : decode b_Mt_word 39 = .ok (.lshl, 1) := by decide +kernel
theorem d_Mt_word_40 : decode b_Mt_word 40 = .ok (.lor, 1) := by decide +kernel
theorem d_Mt_word_41 : decode b_Mt_word 41 = .ok (.lstore 4, 2) := by decide +kernel
theorem d_Mt_word_43 : decode b_Mt_word 43 = .ok (.iinc 6 1, 3) := by decide +kernel
theorem d_Mt_word_46 : decode b_Mt_word 46 = .ok (.goto (-33), 3) := by decide +kernel
theorem d_Mt_word_49 : decode b_Mt_word 49 = .ok (.lload 4, 2) := by decide +kernel
theorem d_Mt_word_51 : decode b_Mt_word 51 = .ok (.lreturn, 1) := by decide +kernel
