theorem d_Mo_feed_0 : decode b_Mo_feed 0 = .ok (.iload_n 3, 1) := by decide +kernel
theorem d_Mo_feed_1 : decode b_Mo_feed 1 = .ok (.iconst 1, 1) := by decide +kernel
theorem d_Mo_feed_2 : decode b_Mo_feed 2 = .ok (.if_icmp .lt 9, 3) := by decide +kernel
theorem d_Mo_feed_5 : decode b_Mo_feed 5 = .ok (.iload_n 3, 1) := by decide +kernel
theorem d_Mo_feed_6 : decode b_Mo_feed 6 = .ok (.bipush 8, 2) := by decide +kernel
theorem d_Mo_feed_8 : decode b_Mo_feed 8 = .ok (.if_icmp .le 5, 3) := by decide +kernel
theorem d_Mo_feed_11 : decode b_Mo_feed 11 = .ok (.iconst (-1), 1) := by decide +kernel
theorem d_Mo_feed_12 : decode b_Mo_feed 12 = .ok (.ireturn, 1) := by decide +kernel
theorem d_Mo_feed_13 : decode b_Mo_feed 13 = .ok (.aload_n 0, 1) := by decide +kernel
theorem d_Mo_feed_14 : decode b_Mo_feed 14 = .ok (.getfield 179, 3) := by decide +kernel
theorem d_Mo_feed_17 : decode b_Mo_feed 17 = .ok (.iload_n 3, 1) := by decide +kernel
theorem d_Mo_feed_18 : decode b_Mo_feed 18 = .ok (.iadd, 1) := by decide +kernel
theorem d_Mo_feed_19 : decode b_Mo_feed 19 = .ok (.sipush 400, 3) := by decide +kernel
theorem d_Mo_feed_22 : decode b_Mo_feed 22 = .ok (.if_icmp .le 6, 3) := by decide +kernel
theorem d_Mo_feed_25 : decode b_Mo_feed 25 = .ok (.bipush (-2), 2) := by decide +kernel
theorem d_Mo_feed_27 : decode b_Mo_feed 27 = .ok (.ireturn, 1) := by decide +kernel
theorem d_Mo_feed_28 : decode b_Mo_feed 28 = .ok (.iconst 0, 1) := by decide +kernel
theorem d_Mo_feed_29 : decode b_Mo_feed 29 = .ok (.istore 4, 2) := by decide +kernel
theorem d_Mo_feed_31 : decode b_Mo_feed 31 = .ok (.iload 4, 2) := by decide +kernel
theorem d_Mo_feed_33 : decode b_Mo_feed 33 = .ok (.iload_n 3, 1) := by decide +kernel
theorem d_Mo_feed_34 : decode b_Mo_feed 34 = .ok (.if_icmp .ge 37, 3) := by decide +kernel
theorem d_Mo_feed_37 : decode b_Mo_feed 37 = .ok (.aload_n 0, 1) := by decide +kernel
theorem d_Mo_feed_38 : decode b_Mo_feed 38 = .ok (.getfield 126, 3) := by decide +kernel
theorem d_Mo_feed_41 : decode b_Mo_feed 41 = .ok (.aload_n 0, 1) := by decide +kernel
theorem d_Mo_feed_42 : decode b_Mo_feed 42 = .ok (.getfield 179, 3) := by decide +kernel
theorem d_Mo_feed_45 : decode b_Mo_feed 45 = .ok (.lload_n 1, 1) := by decide +kernel
theorem d_Mo_feed_46 : decode b_Mo_feed 46 = .ok (.bipush 8, 2) := by decide +kernel
theorem d_Mo_feed_48 : decode b_Mo_feed 48 = .ok (.iload 4, 2) := by decide +kernel
theorem d_Mo_feed_50 : decode b_Mo_feed 50 = .ok (.imul, 1) := by decide +kernel
theorem d_Mo_feed_51 : decode b_Mo_feed 51 = .ok (.lshr, 1) := by decide +kernel
theorem d_Mo_feed_52 : decode b_Mo_feed 52 = .ok (.l2i, 1) := by decide +kernel
theorem d_Mo_feed_53 : decode b_Mo_feed 53 = .ok (.i2b, 1) := by decide +kernel
theorem d_Mo_feed_54 : decode b_Mo_feed 54 = .ok (.bastore, 1) := by decide +kernel
theorem d_Mo_feed_55 : decode b_Mo_feed 55 = .ok (.aload_n 0, 1) := by decide +kernel
theorem d_Mo_feed_56 : decode b_Mo_feed 56 = .ok (.dup, 1) := by decide +kernel
theorem d_Mo_feed_57 : decode b_Mo_feed 57 = .ok (.getfield 179, 3) := by decide +kernel
theorem d_Mo_feed_60 : decode b_Mo_feed 60 = .ok (.iconst 1, 1) := by decide +kernel
theorem d_Mo_feed_61 : decode b_Mo_feed 61 = .ok (.iadd, 1) := by decide +kernel
theorem d_Mo_feed_62 : decode b_Mo_feed 62 = .ok (.putfield 179, 3) := by decide +kernel
theorem d_Mo_feed_65 : decode b_Mo_feed 65 = .ok (.iinc 4 1, 3) := by decide +kernel
theorem d_Mo_feed_68 : decode b_Mo_feed 68 = .ok (.goto (-37), 3) := by decide +kernel
theorem d_Mo_feed_71 : decode b_Mo_feed 71 = .ok (.aload_n 0, 1) := by decide +kernel
theorem d_Mo_feed_72 : decode b_Mo_feed 72 = .ok (.getfield 179, 3) := by decide +kernel
theorem d_Mo_feed_75 : decode b_Mo_feed 75 = .ok (.ireturn, 1) := by decide +kernel
theorem d_Mo_clear_0 : decode b_Mo_clear 0 = .ok (.aload_n 0, 1) := by decide +kernel
theorem d_Mo_clear_1 : decode b_Mo_clear 1 = .ok (.getfield 179, 3) := by decide +kernel
theorem d_Mo_clear_4 : decode b_Mo_clear 4 = .ok (.istore_n 1, 1) := by decide +kernel
theorem d_Mo_clear_5 : decode b_Mo_clear 5 = .ok (.aload_n 0, 1) := by decide +kernel
theorem d_Mo_clear_6 : decode b_Mo_clear 6 = .ok (.iconst 0, 1) := by decide +kernel
theorem d_Mo_clear_7 : decode b_Mo_clear 7 = .ok (.putfield 179, 3) := by decide +kernel
theorem d_Mo_clear_10 : decode b_Mo_clear 10 = .ok (.iload_n 1, 1) := by decide +kernel
theorem d_Mo_clear_11 : decode b_Mo_clear 11 = .ok (.ireturn, 1) := by decide +kernel
theorem d_Mo_again_0 : decode b_Mo_again 0 = .ok (.aload_n 0, 1) := by decide +kernel
theorem d_Mo_again_1 : decode b_Mo_again 1 = .ok (.getfield 183, 3) := by decide +kernel
theorem d_Mo_again_4 : decode b_Mo_again 4 = .ok (.sipush 400, 3) := by decide +kernel
theorem d_Mo_again_7 : decode b_Mo_again 7 = .ok (.if_icmp .le 6, 3) := by decide +kernel
theorem d_Mo_again_10 : decode b_Mo_again 10 = .ok (.bipush (-2), 2) := by decide +kernel
theorem d_Mo_again_12 : decode b_Mo_again 12 = .ok (.ireturn, 1) := by decide +kernel
theorem d_Mo_again_13 : decode b_Mo_again 13 = .ok (.iconst 0, 1) := by decide +kernel
theorem d_Mo_again_14 : decode b_Mo_again 14 = .ok (.istore_n 1, 1) := by decide +kernel
theorem d_Mo_again_15 : decode b_Mo_again 15 = .ok (.iload_n 1, 1) := by decide +kernel
theorem d_Mo_again_16 : decode b_Mo_again 16 = .ok (.aload_n 0, 1) := by decide +kernel
theorem d_Mo_again_17 : decode b_Mo_again 17 = .ok (.getfield 183, 3) := by decide +kernel
theorem d_Mo_again_20 : decode b_Mo_again 20 = .ok (.if_icmp .ge 21, 3) := by decide +kernel
theorem d_Mo_again_23 : decode b_Mo_again 23 = .ok (.aload_n 0, 1) := by decide +kernel
theorem d_Mo_again_24 : decode b_Mo_again 24 = .ok (.getfield 126, 3) := by decide +kernel
theorem d_Mo_again_27 : decode b_Mo_again 27 = .ok (.iload_n 1, 1) := by decide +kernel
theorem d_Mo_again_28 : decode b_Mo_again 28 = .ok (.aload_n 0, 1) := by decide +kernel
theorem d_Mo_again_29 : decode b_Mo_again 29 = .ok (.getfield 176, 3) := by decide +kernel
theorem d_Mo_again_32 : decode b_Mo_again 32 = .ok (.iload_n 1, 1) := by decide +kernel
theorem d_Mo_again_33 : decode b_Mo_again 33 = .ok (.baload, 1) := by decide +kernel
theorem d_Mo_again_34 : decode b_Mo_again 34 = .ok (.bastore, 1) := by decide +kernel
theorem d_Mo_again_35 : decode b_Mo_again 35 = .ok (.iinc 1 1, 3) := by decide +kernel
theorem d_Mo_again_38 : decode b_Mo_again 38 = .ok (.goto (-23), 3) := by decide +kernel
theorem d_Mo_again_41 : decode b_Mo_again 41 = .ok (.aload_n 0, 1) := by decide +kernel
theorem d_Mo_again_42 : decode b_Mo_again 42 = .ok (.aload_n 0, 1) := by decide +kernel
theorem d_Mo_again_43 : decode b_Mo_again 43 = .ok (.getfield 183, 3) := by decide +kernel
theorem d_Mo_again_46 : decode b_Mo_again 46 = .ok (.putfield 179, 3) := by decide +kernel
theorem d_Mo_again_49 : decode b_Mo_again 49 = .ok (.aload_n 0, 1) := by decide +kernel
theorem d_Mo_again_50 : decode b_Mo_again 50 = .ok (.getfield 179, 3) := by decide +kernel
theorem d_Mo_again_53 : decode b_Mo_again 53 = .ok (.ireturn, 1) := by decide +kernel
theorem d_Mo_layDown_0 : decode b_Mo_layDown 0 = .ok (.aload_n 0, 1) := by decide +kernel
theorem d_Mo_layDown_1 : decode b_Mo_layDown 1 = .ok (.iconst 0, 1) := by decide +kernel
theorem d_Mo_layDown_2 : decode b_Mo_layDown 2 = .ok (.putfield 186, 3) := by decide +kernel
theorem d_Mo_layDown_5 : decode b_Mo_layDown 5 = .ok (.iconst 0, 1) := by decide +kernel
theorem d_Mo_layDown_6 : decode b_Mo_layDown 6 = .ok (.istore_n 1, 1) := by decide +kernel
theorem d_Mo_layDown_7 : decode b_Mo_layDown 7 = .ok (.iload_n 1, 1) := by decide +kernel
theorem d_Mo_layDown_8 : decode b_Mo_layDown 8 = .ok (.aload_n 0, 1) := by decide +kernel
theorem d_Mo_layDown_9 : decode b_Mo_layDown 9 = .ok (.getfield 179, 3) := by decide +kernel
theorem d_Mo_layDown_12 : decode b_Mo_layDown 12 = .ok (.if_icmp .ge 90, 3) := by decide +kernel
theorem d_Mo_layDown_15 : decode b_Mo_layDown 15 = .ok (.aload_n 0, 1) := by decide +kernel
theorem d_Mo_layDown_16 : decode b_Mo_layDown 16 = .ok (.getfield 126, 3) := by decide +kernel
theorem d_Mo_layDown_19 : decode b_Mo_layDown 19 = .ok (.iload_n 1, 1) := by decide +kernel
theorem d_Mo_layDown_20 : decode b_Mo_layDown 20 = .ok (.baload, 1) := by decide +kernel
theorem d_Mo_layDown_21 : decode b_Mo_layDown 21 = .ok (.sipush 255, 3) := by decide +kernel
theorem d_Mo_layDown_24 : decode b_Mo_layDown 24 = .ok (.iand, 1) := by decide +kernel
theorem d_Mo_layDown_25 : decode b_Mo_layDown 25 = .ok (.istore_n 2, 1) := by decide +kernel
theorem d_Mo_layDown_26 : decode b_Mo_layDown 26 = .ok (.iload_n 2, 1) := by decide +kernel
theorem d_Mo_layDown_27 : decode b_Mo_layDown 27 = .ok (.bipush 13, 2) := by decide +kernel
theorem d_Mo_layDown_29 : decode b_Mo_layDown 29 = .ok (.if_icmp .ne 30, 3) := by decide +kernel
theorem d_Mo_layDown_32 : decode b_Mo_layDown 32 = .ok (.iload_n 1, 1) := by decide +kernel
theorem d_Mo_layDown_33 : decode b_Mo_layDown 33 = .ok (.iconst 1, 1) := by decide +kernel
theorem d_Mo_layDown_34 : decode b_Mo_layDown 34 = .ok (.iadd, 1) := by decide +kernel
theorem d_Mo_layDown_35 : decode b_Mo_layDown 35 = .ok (.aload_n 0, 1) := by decide +kernel
theorem d_Mo_layDown_36 : decode b_Mo_layDown 36 = .ok (.getfield 179, 3) := by decide +kernel
theorem d_Mo_layDown_39 : decode b_Mo_layDown 39 = .ok (.if_icmp .ge 20, 3) := by decide +kernel
theorem d_Mo_layDown_42 : decode b_Mo_layDown 42 = .ok (.aload_n 0, 1) := by decide +kernel
theorem d_Mo_layDown_43 : decode b_Mo_layDown 43 = .ok (.getfield 126, 3) := by decide +kernel
theorem d_Mo_layDown_46 : decode b_Mo_layDown 46 = .ok (.iload_n 1, 1) := by decide +kernel
theorem d_Mo_layDown_47 : decode b_Mo_layDown 47 = .ok (.iconst 1, 1) := by decide +kernel
theorem d_Mo_layDown_48 : decode b_Mo_layDown 48 = .ok (.iadd, 1) := by decide +kernel
theorem d_Mo_layDown_49 : decode b_Mo_layDown 49 = .ok (.baload, 1) := by decide +kernel
theorem d_Mo_layDown_50 : decode b_Mo_layDown 50 = .ok (.bipush 10, 2) := by decide +kernel
theorem d_Mo_layDown_52 : decode b_Mo_layDown 52 = .ok (.if_icmp .ne 7, 3) := by decide +kernel
theorem d_Mo_layDown_55 : decode b_Mo_layDown 55 = .ok (.iconst 1, 1) := by decide +kernel
theorem d_Mo_layDown_56 : decode b_Mo_layDown 56 = .ok (.goto 4, 3) := by decide +kernel
theorem d_Mo_layDown_59 : decode b_Mo_layDown 59 = .ok (.iconst 0, 1) := by decide +kernel
theorem d_Mo_layDown_60 : decode b_Mo_layDown 60 = .ok (.istore_n 3, 1) := by decide +kernel
theorem d_Mo_layDown_61 : decode b_Mo_layDown 61 = .ok (.iload_n 3, 1) := by decide +kernel
theorem d_Mo_layDown_62 : decode b_Mo_layDown 62 = .ok (.ifCond .ne 34, 3) := by decide +kernel
theorem d_Mo_layDown_65 : decode b_Mo_layDown 65 = .ok (.aload_n 0, 1) := by decide +kernel
theorem d_Mo_layDown_66 : decode b_Mo_layDown 66 = .ok (.getfield 130, 3) := by decide +kernel
theorem d_Mo_layDown_69 : decode b_Mo_layDown 69 = .ok (.aload_n 0, 1) := by decide +kernel
theorem d_Mo_layDown_70 : decode b_Mo_layDown 70 = .ok (.getfield 186, 3) := by decide +kernel
theorem d_Mo_layDown_73 : decode b_Mo_layDown 73 = .ok (.iload_n 2, 1) := by decide +kernel
theorem d_Mo_layDown_74 : decode b_Mo_layDown 74 = .ok (.bipush 13, 2) := by decide +kernel
theorem d_Mo_layDown_76 : decode b_Mo_layDown 76 = .ok (.if_icmp .ne 8, 3) := by decide +kernel
theorem d_Mo_layDown_79 : decode b_Mo_layDown 79 = .ok (.bipush 10, 2) := by decide +kernel
theorem d_Mo_layDown_81 : decode b_Mo_layDown 81 = .ok (.goto 4, 3) := by decide +kernel
theorem d_Mo_layDown_84 : decode b_Mo_layDown 84 = .ok (.iload_n 2, 1) := by decide +kernel
theorem d_Mo_layDown_85 : decode b_Mo_layDown 85 = .ok (.iastore, 1) := by decide +kernel
theorem d_Mo_layDown_86 : decode b_Mo_layDown 86 = .ok (.aload_n 0, 1) := by decide +kernel
theorem d_Mo_layDown_87 : decode b_Mo_layDown 87 = .ok (.dup, 1) := by decide +kernel
theorem d_Mo_layDown_88 : decode b_Mo_layDown 88 = .ok (.getfield 186, 3) := by decide +kernel
theorem d_Mo_layDown_91 : decode b_Mo_layDown 91 = .ok (.iconst 1, 1) := by decide +kernel
theorem d_Mo_layDown_92 : decode b_Mo_layDown 92 = .ok (.iadd, 1) := by decide +kernel
theorem d_Mo_layDown_93 : decode b_Mo_layDown 93 = .ok (.putfield 186, 3) := by decide +kernel
theorem d_Mo_layDown_96 : decode b_Mo_layDown 96 = .ok (.iinc 1 1, 3) := by decide +kernel
theorem d_Mo_layDown_99 : decode b_Mo_layDown 99 = .ok (.goto (-92), 3) := by decide +kernel
theorem d_Mo_layDown_102 : decode b_Mo_layDown 102 = .ok (.return_, 1) := by decide +kernel
theorem d_Mo_charAt_0 : decode b_Mo_charAt 0 = .ok (.iload_n 1, 1) := by decide +kernel
theorem d_Mo_charAt_1 : decode b_Mo_charAt 1 = .ok (.aload_n 0, 1) := by decide +kernel
theorem d_Mo_charAt_2 : decode b_Mo_charAt 2 = .ok (.getfield 186, 3) := by decide +kernel
theorem d_Mo_charAt_5 : decode b_Mo_charAt 5 = .ok (.if_icmp .ge 12, 3) := by decide +kernel
theorem d_Mo_charAt_8 : decode b_Mo_charAt 8 = .ok (.aload_n 0, 1) := by decide +kernel
theorem d_Mo_charAt_9 : decode b_Mo_charAt 9 = .ok (.getfield 130, 3) := by decide +kernel
theorem d_Mo_charAt_12 : decode b_Mo_charAt 12 = .ok (.iload_n 1, 1) := by decide +kernel
theorem d_Mo_charAt_13 : decode b_Mo_charAt 13 = .ok (.iaload, 1) := by decide +kernel
theorem d_Mo_charAt_14 : decode b_Mo_charAt 14 = .ok (.goto 4, 3) := by decide +kernel
theorem d_Mo_charAt_17 : decode b_Mo_charAt 17 = .ok (.iconst (-1), 1) := by decide +kernel
theorem d_Mo_charAt_18 : decode b_Mo_charAt 18 = .ok (.ireturn, 1) := by decide +kernel
theorem d_Mo_isBlank_0 : decode b_Mo_isBlank 0 = .ok (.iload_n 0, 1) := by decide +kernel
theorem d_Mo_isBlank_1 : decode b_Mo_isBlank 1 = .ok (.bipush 10, 2) := by decide +kernel
theorem d_Mo_isBlank_3 : decode b_Mo_isBlank 3 = .ok (.if_icmp .eq 21, 3) := by decide +kernel
theorem d_Mo_isBlank_6 : decode b_Mo_isBlank 6 = .ok (.iload_n 0, 1) := by decide +kernel
theorem d_Mo_isBlank_7 : decode b_Mo_isBlank 7 = .ok (.bipush 9, 2) := by decide +kernel
theorem d_Mo_isBlank_9 : decode b_Mo_isBlank 9 = .ok (.if_icmp .eq 15, 3) := by decide +kernel
theorem d_Mo_isBlank_12 : decode b_Mo_isBlank 12 = .ok (.iload_n 0, 1) := by decide +kernel
theorem d_Mo_isBlank_13 : decode b_Mo_isBlank 13 = .ok (.bipush 12, 2) := by decide +kernel
theorem d_Mo_isBlank_15 : decode b_Mo_isBlank 15 = .ok (.if_icmp .eq 9, 3) := by decide +kernel
theorem d_Mo_isBlank_18 : decode b_Mo_isBlank 18 = .ok (.iload_n 0, 1) := by decide +kernel
theorem d_Mo_isBlank_19 : decode b_Mo_isBlank 19 = .ok (.bipush 32, 2) := by decide +kernel
theorem d_Mo_isBlank_21 : decode b_Mo_isBlank 21 = .ok (.if_icmp .ne 7, 3) := by decide +kernel
theorem d_Mo_isBlank_24 : decode b_Mo_isBlank 24 = .ok (.iconst 1, 1) := by decide +kernel
theorem d_Mo_isBlank_25 : decode b_Mo_isBlank 25 = .ok (.goto 4, 3) := by decide +kernel
theorem d_Mo_isBlank_28 : decode b_Mo_isBlank 28 = .ok (.iconst 0, 1) := by decide +kernel
theorem d_Mo_isBlank_29 : decode b_Mo_isBlank 29 = .ok (.ireturn, 1) := by decide +kernel
theorem d_Mo_isGreat_0 : decode b_Mo_isGreat 0 = .ok (.iload_n 0, 1) := by decide +kernel
theorem d_Mo_isGreat_1 : decode b_Mo_isGreat 1 = .ok (.bipush 65, 2) := by decide +kernel
theorem d_Mo_isGreat_3 : decode b_Mo_isGreat 3 = .ok (.if_icmp .lt 13, 3) := by decide +kernel
theorem d_Mo_isGreat_6 : decode b_Mo_isGreat 6 = .ok (.iload_n 0, 1) := by decide +kernel
theorem d_Mo_isGreat_7 : decode b_Mo_isGreat 7 = .ok (.bipush 90, 2) := by decide +kernel
theorem d_Mo_isGreat_9 : decode b_Mo_isGreat 9 = .ok (.if_icmp .gt 7, 3) := by decide +kernel
theorem d_Mo_isGreat_12 : decode b_Mo_isGreat 12 = .ok (.iconst 1, 1) := by decide +kernel
theorem d_Mo_isGreat_13 : decode b_Mo_isGreat 13 = .ok (.goto 4, 3) := by decide +kernel
theorem d_Mo_isGreat_16 : decode b_Mo_isGreat 16 = .ok (.iconst 0, 1) := by decide +kernel
theorem d_Mo_isGreat_17 : decode b_Mo_isGreat 17 = .ok (.ireturn, 1) := by decide +kernel
theorem d_Mo_isLetter_0 : decode b_Mo_isLetter 0 = .ok (.iload_n 0, 1) := by decide +kernel
theorem d_Mo_isLetter_1 : decode b_Mo_isLetter 1 = .ok (.invokestatic 189, 3) := by decide +kernel
theorem d_Mo_isLetter_4 : decode b_Mo_isLetter 4 = .ok (.ifCond .ne 15, 3) := by decide +kernel
theorem d_Mo_isLetter_7 : decode b_Mo_isLetter 7 = .ok (.iload_n 0, 1) := by decide +kernel
theorem d_Mo_isLetter_8 : decode b_Mo_isLetter 8 = .ok (.bipush 97, 2) := by decide +kernel
theorem d_Mo_isLetter_10 : decode b_Mo_isLetter 10 = .ok (.if_icmp .lt 13, 3) := by decide +kernel
theorem d_Mo_isLetter_13 : decode b_Mo_isLetter 13 = .ok (.iload_n 0, 1) := by decide +kernel
theorem d_Mo_isLetter_14 : decode b_Mo_isLetter 14 = .ok (.bipush 122, 2) := by decide +kernel
theorem d_Mo_isLetter_16 : decode b_Mo_isLetter 16 = .ok (.if_icmp .gt 7, 3) := by decide +kernel
theorem d_Mo_isLetter_19 : decode b_Mo_isLetter 19 = .ok (.iconst 1, 1) := by decide +kernel
theorem d_Mo_isLetter_20 : decode b_Mo_isLetter 20 = .ok (.goto 4, 3) := by decide +kernel
theorem d_Mo_isLetter_23 : decode b_Mo_isLetter 23 = .ok (.iconst 0, 1) := by decide +kernel
theorem d_Mo_isLetter_24 : decode b_Mo_isLetter 24 = .ok (.ireturn, 1) := by decide +kernel
theorem d_Mo_isDigit_0 : decode b_Mo_isDigit 0 = .ok (.iload_n 0, 1) := by decide +kernel
theorem d_Mo_isDigit_1 : decode b_Mo_isDigit 1 = .ok (.bipush 48, 2) := by decide +kernel
theorem d_Mo_isDigit_3 : decode b_Mo_isDigit 3 = .ok (.if_icmp .lt 13, 3) := by decide +kernel
theorem d_Mo_isDigit_6 : decode b_Mo_isDigit 6 = .ok (.iload_n 0, 1) := by decide +kernel
theorem d_Mo_isDigit_7 : decode b_Mo_isDigit 7 = .ok (.bipush 57, 2) := by decide +kernel
theorem d_Mo_isDigit_9 : decode b_Mo_isDigit 9 = .ok (.if_icmp .gt 7, 3) := by decide +kernel
theorem d_Mo_isDigit_12 : decode b_Mo_isDigit 12 = .ok (.iconst 1, 1) := by decide +kernel
theorem d_Mo_isDigit_13 : decode b_Mo_isDigit 13 = .ok (.goto 4, 3) := by decide +kernel
theorem d_Mo_isDigit_16 : decode b_Mo_isDigit 16 = .ok (.iconst 0, 1) := by decide +kernel
theorem d_Mo_isDigit_17 : decode b_Mo_isDigit 17 = .ok (.ireturn, 1) := by decide +kernel
theorem d_Mo_lowered_0 : decode b_Mo_lowered 0 = .ok (.iload_n 0, 1) := by decide +kernel
theorem d_Mo_lowered_1 : decode b_Mo_lowered 1 = .ok (.invokestatic 189, 3) := by decide +kernel
theorem d_Mo_lowered_4 : decode b_Mo_lowered 4 = .ok (.ifCond .eq 10, 3) := by decide +kernel
theorem d_Mo_lowered_7 : decode b_Mo_lowered 7 = .ok (.iload_n 0, 1) := by decide +kernel
theorem d_Mo_lowered_8 : decode b_Mo_lowered 8 = .ok (.bipush 32, 2) := by decide +kernel
theorem d_Mo_lowered_10 : decode b_Mo_lowered 10 = .ok (.iadd, 1) := by decide +kernel
theorem d_Mo_lowered_11 : decode b_Mo_lowered 11 = .ok (.goto 4, 3) := by decide +kernel
theorem d_Mo_lowered_14 : decode b_Mo_lowered 14 = .ok (.iload_n 0, 1) := by decide +kernel
theorem d_Mo_lowered_15 : decode b_Mo_lowered 15 = .ok (.ireturn, 1) := by decide +kernel
theorem d_Mo_skipBlanks_0 : decode b_Mo_skipBlanks 0 = .ok (.aload_n 0, 1) := by decide +kernel
theorem d_Mo_skipBlanks_1 : decode b_Mo_skipBlanks 1 = .ok (.aload_n 0, 1) := by decide +kernel
theorem d_Mo_skipBlanks_2 : decode b_Mo_skipBlanks 2 = .ok (.getfield 193, 3) := by decide +kernel
theorem d_Mo_skipBlanks_5 : decode b_Mo_skipBlanks 5 = .ok (.invokevirtual 196, 3) := by decide +kernel
theorem d_Mo_skipBlanks_8 : decode b_Mo_skipBlanks 8 = .ok (.invokestatic 200, 3) := by decide +kernel
theorem d_Mo_skipBlanks_11 : decode b_Mo_skipBlanks 11 = .ok (.ifCond .eq 16, 3) := by decide +kernel
theorem d_Mo_skipBlanks_14 : decode b_Mo_skipBlanks 14 = .ok (.aload_n 0, 1) := by decide +kernel
theorem d_Mo_skipBlanks_15 : decode b_Mo_skipBlanks 15 = .ok (.dup, 1) := by decide +kernel
theorem d_Mo_skipBlanks_16 : decode b_Mo_skipBlanks 16 = .ok (.getfield 193, 3) := by decide +kernel
theorem d_Mo_skipBlanks_19 : decode b_Mo_skipBlanks 19 = .ok (.iconst 1, 1) := by decide +kernel
theorem d_Mo_skipBlanks_20 : decode b_Mo_skipBlanks 20 = .ok (.iadd, 1) := by decide +kernel
theorem d_Mo_skipBlanks_21 : decode b_Mo_skipBlanks 21 = .ok (.putfield 193, 3) := by decide +kernel
theorem d_Mo_skipBlanks_24 : decode b_Mo_skipBlanks 24 = .ok (.goto (-24), 3) := by decide +kernel
theorem d_Mo_skipBlanks_27 : decode b_Mo_skipBlanks 27 = .ok (.return_, 1) := by decide +kernel
theorem d_Mo_wrong_0 : decode b_Mo_wrong 0 = .ok (.aload_n 0, 1) := by decide +kernel
theorem d_Mo_wrong_1 : decode b_Mo_wrong 1 = .ok (.getfield 170, 3) := by decide +kernel
theorem d_Mo_wrong_4 : decode b_Mo_wrong 4 = .ok (.aload_n 0, 1) := by decide +kernel
theorem d_Mo_wrong_5 : decode b_Mo_wrong 5 = .ok (.getfield 203, 3) := by decide +kernel
theorem d_Mo_wrong_8 : decode b_Mo_wrong 8 = .ok (.iload_n 1, 1) := by decide +kernel
theorem d_Mo_wrong_9 : decode b_Mo_wrong 9 = .ok (.iastore, 1) := by decide +kernel
theorem d_Mo_wrong_10 : decode b_Mo_wrong 10 = .ok (.aload_n 0, 1) := by decide +kernel
theorem d_Mo_wrong_11 : decode b_Mo_wrong 11 = .ok (.getfield 173, 3) := by decide +kernel
theorem d_Mo_wrong_14 : decode b_Mo_wrong 14 = .ok (.aload_n 0, 1) := by decide +kernel
theorem d_Mo_wrong_15 : decode b_Mo_wrong 15 = .ok (.getfield 203, 3) := by decide +kernel
theorem d_Mo_wrong_18 : decode b_Mo_wrong 18 = .ok (.iload_n 2, 1) := by decide +kernel
theorem d_Mo_wrong_19 : decode b_Mo_wrong 19 = .ok (.iastore, 1) := by decide +kernel
theorem d_Mo_wrong_20 : decode b_Mo_wrong 20 = .ok (.aload_n 0, 1) := by decide +kernel
theorem d_Mo_wrong_21 : decode b_Mo_wrong 21 = .ok (.dup, 1) := by decide +kernel
theorem d_Mo_wrong_22 : decode b_Mo_wrong 22 = .ok (.getfield 203, 3) := by decide +kernel
theorem d_Mo_wrong_25 : decode b_Mo_wrong 25 = .ok (.iconst 1, 1) := by decide +kernel
theorem d_Mo_wrong_26 : decode b_Mo_wrong 26 = .ok (.iadd, 1) := by decide +kernel
theorem d_Mo_wrong_27 : decode b_Mo_wrong 27 = .ok (.putfield 203, 3) := by decide +kernel
theorem d_Mo_wrong_30 : decode b_Mo_wrong 30 = .ok (.return_, 1) := by decide +kernel
theorem d_Mo_keep_0 : decode b_Mo_keep 0 = .ok (.aload_n 0, 1) := by decide +kernel
theorem d_Mo_keep_1 : decode b_Mo_keep 1 = .ok (.getfield 167, 3) := by decide +kernel
theorem d_Mo_keep_4 : decode b_Mo_keep 4 = .ok (.aload_n 0, 1) := by decide +kernel
theorem d_Mo_keep_5 : decode b_Mo_keep 5 = .ok (.getfield 206, 3) := by decide +kernel
theorem d_Mo_keep_8 : decode b_Mo_keep 8 = .ok (.iload_n 1, 1) := by decide +kernel
theorem d_Mo_keep_9 : decode b_Mo_keep 9 = .ok (.iastore, 1) := by decide +kernel
theorem d_Mo_keep_10 : decode b_Mo_keep 10 = .ok (.aload_n 0, 1) := by decide +kernel
theorem d_Mo_keep_11 : decode b_Mo_keep 11 = .ok (.dup, 1) := by decide +kernel
theorem d_Mo_keep_12 : decode b_Mo_keep 12 = .ok (.getfield 206, 3) := by decide +kernel
theorem d_Mo_keep_15 : decode b_Mo_keep 15 = .ok (.iconst 1, 1) := by decide +kernel
theorem d_Mo_keep_16 : decode b_Mo_keep 16 = .ok (.iadd, 1) := by decide +kernel
theorem d_Mo_keep_17 : decode b_Mo_keep 17 = .ok (.putfield 206, 3) := by decide +kernel
theorem d_Mo_keep_20 : decode b_Mo_keep 20 = .ok (.return_, 1) := by decide +kernel
theorem d_Mo_known_0 : decode b_Mo_known 0 = .ok (.aload_n 0, 1) := by decide +kernel
theorem d_Mo_known_1 : decode b_Mo_known 1 = .ok (.aload_n 0, 1) := by decide +kernel
theorem d_Mo_known_2 : decode b_Mo_known 2 = .ok (.getfield 193, 3) := by decide +kernel
theorem d_Mo_known_5 : decode b_Mo_known 5 = .ok (.invokevirtual 196, 3) := by decide +kernel
theorem d_Mo_known_8 : decode b_Mo_known 8 = .ok (.istore_n 1, 1) := by decide +kernel
theorem d_Mo_known_9 : decode b_Mo_known 9 = .ok (.iload_n 1, 1) := by decide +kernel
theorem d_Mo_known_10 : decode b_Mo_known 10 = .ok (.ifCond .ne 15, 3) := by decide +kernel
theorem d_Mo_known_13 : decode b_Mo_known 13 = .ok (.aload_n 0, 1) := by decide +kernel
theorem d_Mo_known_14 : decode b_Mo_known 14 = .ok (.iconst 1, 1) := by decide +kernel
theorem d_Mo_known_15 : decode b_Mo_known 15 = .ok (.aload_n 0, 1) := by decide +kernel
theorem d_Mo_known_16 : decode b_Mo_known 16 = .ok (.getfield 193, 3) := by decide +kernel
theorem d_Mo_known_19 : decode b_Mo_known 19 = .ok (.invokevirtual 209, 3) := by decide +kernel
theorem d_Mo_known_22 : decode b_Mo_known 22 = .ok (.ldc 213, 2) := by decide +kernel
theorem d_Mo_known_24 : decode b_Mo_known 24 = .ok (.istore_n 1, 1) := by decide +kernel
theorem d_Mo_known_25 : decode b_Mo_known 25 = .ok (.aload_n 0, 1) := by decide +kernel
theorem d_Mo_known_26 : decode b_Mo_known 26 = .ok (.dup, 1) := by decide +kernel
theorem d_Mo_known_27 : decode b_Mo_known 27 = .ok (.getfield 193, 3) := by decide +kernel
theorem d_Mo_known_30 : decode b_Mo_known 30 = .ok (.iconst 1, 1) := by decide +kernel
theorem d_Mo_known_31 : decode b_Mo_known 31 = .ok (.iadd, 1) := by decide +kernel
theorem d_Mo_known_32 : decode b_Mo_known 32 = .ok (.putfield 193, 3) := by decide +kernel
theorem d_Mo_known_35 : decode b_Mo_known 35 = .ok (.iload_n 1, 1) := by decide +kernel
theorem d_Mo_known_36 : decode b_Mo_known 36 = .ok (.ireturn, 1) := by decide +kernel
theorem d_Mo_toText_0 : decode b_Mo_toText 0 = .ok (.aload_n 0, 1) := by decide +kernel
theorem d_Mo_toText_1 : decode b_Mo_toText 1 = .ok (.getfield 214, 3) := by decide +kernel
theorem d_Mo_toText_4 : decode b_Mo_toText 4 = .ok (.ifCond .ne 11, 3) := by decide +kernel
theorem d_Mo_toText_7 : decode b_Mo_toText 7 = .ok (.aload_n 0, 1) := by decide +kernel
theorem d_Mo_toText_8 : decode b_Mo_toText 8 = .ok (.aload_n 0, 1) := by decide +kernel
theorem d_Mo_toText_9 : decode b_Mo_toText 9 = .ok (.getfield 206, 3) := by decide +kernel
theorem d_Mo_toText_12 : decode b_Mo_toText 12 = .ok (.putfield 217, 3) := by decide +kernel
theorem d_Mo_toText_15 : decode b_Mo_toText 15 = .ok (.aload_n 0, 1) := by decide +kernel
theorem d_Mo_toText_16 : decode b_Mo_toText 16 = .ok (.iload_n 1, 1) := by decide +kernel
theorem d_Mo_toText_17 : decode b_Mo_toText 17 = .ok (.invokevirtual 220, 3) := by decide +kernel
theorem d_Mo_toText_20 : decode b_Mo_toText 20 = .ok (.aload_n 0, 1) := by decide +kernel
theorem d_Mo_toText_21 : decode b_Mo_toText 21 = .ok (.dup, 1) := by decide +kernel
theorem d_Mo_toText_22 : decode b_Mo_toText 22 = .ok (.getfield 214, 3) := by decide +kernel
theorem d_Mo_toText_25 : decode b_Mo_toText 25 = .ok (.iconst 1, 1) := by decide +kernel
theorem d_Mo_toText_26 : decode b_Mo_toText 26 = .ok (.iadd, 1) := by decide +kernel
theorem d_Mo_toText_27 : decode b_Mo_toText 27 = .ok (.putfield 214, 3) := by decide +kernel
theorem d_Mo_toText_30 : decode b_Mo_toText 30 = .ok (.return_, 1) := by decide +kernel
theorem d_Mo_begin0_0 : decode b_Mo_begin0 0 = .ok (.aload_n 0, 1) := by decide +kernel
theorem d_Mo_begin0_1 : decode b_Mo_begin0 1 = .ok (.getfield 133, 3) := by decide +kernel
theorem d_Mo_begin0_4 : decode b_Mo_begin0 4 = .ok (.aload_n 0, 1) := by decide +kernel
theorem d_Mo_begin0_5 : decode b_Mo_begin0 5 = .ok (.getfield 227, 3) := by decide +kernel
theorem d_Mo_begin0_8 : decode b_Mo_begin0 8 = .ok (.iload_n 1, 1) := by decide +kernel
theorem d_Mo_begin0_9 : decode b_Mo_begin0 9 = .ok (.iastore, 1) := by decide +kernel
theorem d_Mo_begin0_10 : decode b_Mo_begin0 10 = .ok (.aload_n 0, 1) := by decide +kernel
theorem d_Mo_begin0_11 : decode b_Mo_begin0 11 = .ok (.getfield 136, 3) := by decide +kernel
theorem d_Mo_begin0_14 : decode b_Mo_begin0 14 = .ok (.aload_n 0, 1) := by decide +kernel
theorem d_Mo_begin0_15 : decode b_Mo_begin0 15 = .ok (.getfield 227, 3) := by decide +kernel
theorem d_Mo_begin0_18 : decode b_Mo_begin0 18 = .ok (.iload_n 2, 1) := by decide +kernel
theorem d_Mo_begin0_19 : decode b_Mo_begin0 19 = .ok (.iastore, 1) := by decide +kernel
theorem d_Mo_begin0_20 : decode b_Mo_begin0 20 = .ok (.aload_n 0, 1) := by decide +kernel
theorem d_Mo_begin0_21 : decode b_Mo_begin0 21 = .ok (.getfield 139, 3) := by decide +kernel
theorem d_Mo_begin0_24 : decode b_Mo_begin0 24 = .ok (.aload_n 0, 1) := by decide +kernel
theorem d_Mo_begin0_25 : decode b_Mo_begin0 25 = .ok (.getfield 227, 3) := by decide +kernel
theorem d_Mo_begin0_28 : decode b_Mo_begin0 28 = .ok (.iconst 0, 1) := by decide +kernel
theorem d_Mo_begin0_29 : decode b_Mo_begin0 29 = .ok (.iastore, 1) := by decide +kernel
theorem d_Mo_begin0_30 : decode b_Mo_begin0 30 = .ok (.aload_n 0, 1) := by decide +kernel
theorem d_Mo_begin0_31 : decode b_Mo_begin0 31 = .ok (.getfield 142, 3) := by decide +kernel
theorem d_Mo_begin0_34 : decode b_Mo_begin0 34 = .ok (.aload_n 0, 1) := by decide +kernel
theorem d_Mo_begin0_35 : decode b_Mo_begin0 35 = .ok (.getfield 227, 3) := by decide +kernel
theorem d_Mo_begin0_38 : decode b_Mo_begin0 38 = .ok (.iconst 0, 1) := by decide +kernel
theorem d_Mo_begin0_39 : decode b_Mo_begin0 39 = .ok (.bastore, 1) := by decide +kernel
theorem d_Mo_begin0_40 : decode b_Mo_begin0 40 = .ok (.aload_n 0, 1) := by decide +kernel
theorem d_Mo_begin0_41 : decode b_Mo_begin0 41 = .ok (.getfield 146, 3) := by decide +kernel
theorem d_Mo_begin0_44 : decode b_Mo_begin0 44 = .ok (.aload_n 0, 1) := by decide +kernel
theorem d_Mo_begin0_45 : decode b_Mo_begin0 45 = .ok (.getfield 227, 3) := by decide +kernel
theorem d_Mo_begin0_48 : decode b_Mo_begin0 48 = .ok (.aload_n 0, 1) := by decide +kernel
theorem d_Mo_begin0_49 : decode b_Mo_begin0 49 = .ok (.getfield 230, 3) := by decide +kernel
theorem d_Mo_begin0_52 : decode b_Mo_begin0 52 = .ok (.iastore, 1) := by decide +kernel
theorem d_Mo_begin0_53 : decode b_Mo_begin0 53 = .ok (.aload_n 0, 1) := by decide +kernel
theorem d_Mo_begin0_54 : decode b_Mo_begin0 54 = .ok (.getfield 149, 3) := by decide +kernel
theorem d_Mo_begin0_57 : decode b_Mo_begin0 57 = .ok (.aload_n 0, 1) := by decide +kernel
theorem d_Mo_begin0_58 : decode b_Mo_begin0 58 = .ok (.getfield 227, 3) := by decide +kernel
theorem d_Mo_begin0_61 : decode b_Mo_begin0 61 = .ok (.iconst 0, 1) := by decide +kernel
theorem d_Mo_begin0_62 : decode b_Mo_begin0 62 = .ok (.iastore, 1) := by decide +kernel
theorem d_Mo_begin0_63 : decode b_Mo_begin0 63 = .ok (.return_, 1) := by decide +kernel
theorem d_Mo_begin_0 : decode b_Mo_begin 0 = .ok (.aload_n 0, 1) := by decide +kernel
theorem d_Mo_begin_1 : decode b_Mo_begin 1 = .ok (.getfield 214, 3) := by decide +kernel
theorem d_Mo_begin_4 : decode b_Mo_begin 4 = .ok (.ifCond .le 42, 3) := by decide +kernel
theorem d_Mo_begin_7 : decode b_Mo_begin 7 = .ok (.aload_n 0, 1) := by decide +kernel
theorem d_Mo_begin_8 : decode b_Mo_begin 8 = .ok (.getfield 214, 3) := by decide +kernel
theorem d_Mo_begin_11 : decode b_Mo_begin 11 = .ok (.istore_n 2, 1) := by decide +kernel
theorem d_Mo_begin_12 : decode b_Mo_begin 12 = .ok (.aload_n 0, 1) := by decide +kernel
theorem d_Mo_begin_13 : decode b_Mo_begin 13 = .ok (.iconst 0, 1) := by decide +kernel
theorem d_Mo_begin_14 : decode b_Mo_begin 14 = .ok (.putfield 214, 3) := by decide +kernel
theorem d_Mo_begin_17 : decode b_Mo_begin 17 = .ok (.aload_n 0, 1) := by decide +kernel
theorem d_Mo_begin_18 : decode b_Mo_begin 18 = .ok (.iconst 0, 1) := by decide +kernel
theorem d_Mo_begin_19 : decode b_Mo_begin 19 = .ok (.aload_n 0, 1) := by decide +kernel
theorem d_Mo_begin_20 : decode b_Mo_begin 20 = .ok (.getfield 217, 3) := by decide +kernel
theorem d_Mo_begin_23 : decode b_Mo_begin 23 = .ok (.invokevirtual 224, 3) := by decide +kernel
theorem d_Mo_begin_26 : decode b_Mo_begin 26 = .ok (.aload_n 0, 1) := by decide +kernel
theorem d_Mo_begin_27 : decode b_Mo_begin 27 = .ok (.getfield 139, 3) := by decide +kernel
theorem d_Mo_begin_30 : decode b_Mo_begin 30 = .ok (.aload_n 0, 1) := by decide +kernel
theorem d_Mo_begin_31 : decode b_Mo_begin 31 = .ok (.getfield 227, 3) := by decide +kernel
theorem d_Mo_begin_34 : decode b_Mo_begin 34 = .ok (.iload_n 2, 1) := by decide +kernel
theorem d_Mo_begin_35 : decode b_Mo_begin 35 = .ok (.iastore, 1) := by decide +kernel
theorem d_Mo_begin_36 : decode b_Mo_begin 36 = .ok (.aload_n 0, 1) := by decide +kernel
theorem d_Mo_begin_37 : decode b_Mo_begin 37 = .ok (.dup, 1) := by decide +kernel
theorem d_Mo_begin_38 : decode b_Mo_begin 38 = .ok (.getfield 227, 3) := by decide +kernel
theorem d_Mo_begin_41 : decode b_Mo_begin 41 = .ok (.iconst 1, 1) := by decide +kernel
theorem d_Mo_begin_42 : decode b_Mo_begin 42 = .ok (.iadd, 1) := by decide +kernel
theorem d_Mo_begin_43 : decode b_Mo_begin 43 = .ok (.putfield 227, 3) := by decide +kernel
theorem d_Mo_begin_46 : decode b_Mo_begin 46 = .ok (.aload_n 0, 1) := by decide +kernel
theorem d_Mo_begin_47 : decode b_Mo_begin 47 = .ok (.iload_n 1, 1) := by decide +kernel
theorem d_Mo_begin_48 : decode b_Mo_begin 48 = .ok (.aload_n 0, 1) := by decide +kernel
theorem d_Mo_begin_49 : decode b_Mo_begin 49 = .ok (.getfield 206, 3) := by decide +kernel
theorem d_Mo_begin_52 : decode b_Mo_begin 52 = .ok (.invokevirtual 224, 3) := by decide +kernel
theorem d_Mo_begin_55 : decode b_Mo_begin 55 = .ok (.return_, 1) := by decide +kernel
theorem d_Mo_digitOf_0 : decode b_Mo_digitOf 0 = .ok (.iload_n 0, 1) := by decide +kernel
theorem d_Mo_digitOf_1 : decode b_Mo_digitOf 1 = .ok (.invokestatic 326, 3) := by decide +kernel
theorem d_Mo_digitOf_4 : decode b_Mo_digitOf 4 = .ok (.ifCond .eq 10, 3) := by decide +kernel
theorem d_Mo_digitOf_7 : decode b_Mo_digitOf 7 = .ok (.iload_n 0, 1) := by decide +kernel
theorem d_Mo_digitOf_8 : decode b_Mo_digitOf 8 = .ok (.bipush 48, 2) := by decide +kernel
theorem d_Mo_digitOf_10 : decode b_Mo_digitOf 10 = .ok (.isub, 1) := by decide +kernel
theorem d_Mo_digitOf_11 : decode b_Mo_digitOf 11 = .ok (.goto 43, 3) := by decide +kernel
theorem d_Mo_digitOf_14 : decode b_Mo_digitOf 14 = .ok (.iload_n 0, 1) := by decide +kernel
theorem d_Mo_digitOf_15 : decode b_Mo_digitOf 15 = .ok (.bipush 65, 2) := by decide +kernel
theorem d_Mo_digitOf_17 : decode b_Mo_digitOf 17 = .ok (.if_icmp .lt 16, 3) := by decide +kernel
theorem d_Mo_digitOf_20 : decode b_Mo_digitOf 20 = .ok (.iload_n 0, 1) := by decide +kernel
theorem d_Mo_digitOf_21 : decode b_Mo_digitOf 21 = .ok (.bipush 70, 2) := by decide +kernel
theorem d_Mo_digitOf_23 : decode b_Mo_digitOf 23 = .ok (.if_icmp .gt 10, 3) := by decide +kernel
theorem d_Mo_digitOf_26 : decode b_Mo_digitOf 26 = .ok (.iload_n 0, 1) := by decide +kernel
theorem d_Mo_digitOf_27 : decode b_Mo_digitOf 27 = .ok (.bipush 55, 2) := by decide +kernel
theorem d_Mo_digitOf_29 : decode b_Mo_digitOf 29 = .ok (.isub, 1) := by decide +kernel
theorem d_Mo_digitOf_30 : decode b_Mo_digitOf 30 = .ok (.goto 24, 3) := by decide +kernel
theorem d_Mo_digitOf_33 : decode b_Mo_digitOf 33 = .ok (.iload_n 0, 1) := by decide +kernel
theorem d_Mo_digitOf_34 : decode b_Mo_digitOf 34 = .ok (.bipush 97, 2) := by decide +kernel
theorem d_Mo_digitOf_36 : decode b_Mo_digitOf 36 = .ok (.if_icmp .lt 16, 3) := by decide +kernel
theorem d_Mo_digitOf_39 : decode b_Mo_digitOf 39 = .ok (.iload_n 0, 1) := by decide +kernel
theorem d_Mo_digitOf_40 : decode b_Mo_digitOf 40 = .ok (.bipush 102, 2) := by decide +kernel
theorem d_Mo_digitOf_42 : decode b_Mo_digitOf 42 = .ok (.if_icmp .gt 10, 3) := by decide +kernel
theorem d_Mo_digitOf_45 : decode b_Mo_digitOf 45 = .ok (.iload_n 0, 1) := by decide +kernel
theorem d_Mo_digitOf_46 : decode b_Mo_digitOf 46 = .ok (.bipush 87, 2) := by decide +kernel
theorem d_Mo_digitOf_48 : decode b_Mo_digitOf 48 = .ok (.isub, 1) := by decide +kernel
theorem d_Mo_digitOf_49 : decode b_Mo_digitOf 49 = .ok (.goto 5, 3) := by decide +kernel
theorem d_Mo_digitOf_52 : decode b_Mo_digitOf 52 = .ok (.bipush 99, 2) := by decide +kernel
theorem d_Mo_digitOf_54 : decode b_Mo_digitOf 54 = .ok (.ireturn, 1) := by decide +kernel
theorem d_Mo_give_0 : decode b_Mo_give 0 = .ok (.iload_n 2, 1) := by decide +kernel
theorem d_Mo_give_1 : decode b_Mo_give 1 = .ok (.ifCond .eq 11, 3) := by decide +kernel
theorem d_Mo_give_4 : decode b_Mo_give 4 = .ok (.aload_n 0, 1) := by decide +kernel
theorem d_Mo_give_5 : decode b_Mo_give 5 = .ok (.iload_n 1, 1) := by decide +kernel
theorem d_Mo_give_6 : decode b_Mo_give 6 = .ok (.invokevirtual 220, 3) := by decide +kernel
theorem d_Mo_give_9 : decode b_Mo_give 9 = .ok (.goto 8, 3) := by decide +kernel
theorem d_Mo_give_12 : decode b_Mo_give 12 = .ok (.aload_n 0, 1) := by decide +kernel
theorem d_Mo_give_13 : decode b_Mo_give 13 = .ok (.iload_n 1, 1) := by decide +kernel
theorem d_Mo_give_14 : decode b_Mo_give 14 = .ok (.invokevirtual 247, 3) := by decide +kernel
theorem d_Mo_give_17 : decode b_Mo_give 17 = .ok (.return_, 1) := by decide +kernel
theorem d_Mo_giveAll_0 : decode b_Mo_giveAll 0 = .ok (.iload_n 1, 1) := by decide +kernel
theorem d_Mo_giveAll_1 : decode b_Mo_giveAll 1 = .ok (.istore_n 3, 1) := by decide +kernel
theorem d_Mo_giveAll_2 : decode b_Mo_giveAll 2 = .ok (.iload_n 3, 1) := by decide +kernel
theorem d_Mo_giveAll_3 : decode b_Mo_giveAll 3 = .ok (.aload_n 0, 1) := by decide +kernel
theorem d_Mo_giveAll_4 : decode b_Mo_giveAll 4 = .ok (.getfield 193, 3) := by decide +kernel
theorem d_Mo_giveAll_7 : decode b_Mo_giveAll 7 = .ok (.if_icmp .ge 19, 3) := by decide +kernel
theorem d_Mo_giveAll_10 : decode b_Mo_giveAll 10 = .ok (.aload_n 0, 1) := by decide +kernel
theorem d_Mo_giveAll_11 : decode b_Mo_giveAll 11 = .ok (.aload_n 0, 1) := by decide +kernel
theorem d_Mo_giveAll_12 : decode b_Mo_giveAll 12 = .ok (.iload_n 3, 1) := by decide +kernel
theorem d_Mo_giveAll_13 : decode b_Mo_giveAll 13 = .ok (.invokevirtual 196, 3) := by decide +kernel
theorem d_Mo_giveAll_16 : decode b_Mo_giveAll 16 = .ok (.iload_n 2, 1) := by decide +kernel
theorem d_Mo_giveAll_17 : decode b_Mo_giveAll 17 = .ok (.invokevirtual 316, 3) := by decide +kernel
theorem d_Mo_giveAll_20 : decode b_Mo_giveAll 20 = .ok (.iinc 3 1, 3) := by decide +kernel
theorem d_Mo_giveAll_23 : decode b_Mo_giveAll 23 = .ok (.goto (-21), 3) := by decide +kernel
theorem d_Mo_giveAll_26 : decode b_Mo_giveAll 26 = .ok (.return_, 1) := by decide +kernel
theorem d_Mo_told_0 : decode b_Mo_told 0 = .ok (.iload_n 1, 1) := by decide +kernel
theorem d_Mo_told_1 : decode b_Mo_told 1 = .ok (.ifCond .ne 16, 3) := by decide +kernel
theorem d_Mo_told_4 : decode b_Mo_told 4 = .ok (.aload_n 0, 1) := by decide +kernel
theorem d_Mo_told_5 : decode b_Mo_told 5 = .ok (.bipush 28, 2) := by decide +kernel
theorem d_Mo_told_7 : decode b_Mo_told 7 = .ok (.aload_n 0, 1) := by decide +kernel
theorem d_Mo_told_8 : decode b_Mo_told 8 = .ok (.getfield 193, 3) := by decide +kernel
theorem d_Mo_told_11 : decode b_Mo_told 11 = .ok (.invokevirtual 209, 3) := by decide +kernel
theorem d_Mo_told_14 : decode b_Mo_told 14 = .ok (.ldc 213, 2) := by decide +kernel
theorem d_Mo_told_16 : decode b_Mo_told 16 = .ok (.ireturn, 1) := by decide +kernel
theorem d_Mo_told_17 : decode b_Mo_told 17 = .ok (.iload_n 1, 1) := by decide +kernel
theorem d_Mo_told_18 : decode b_Mo_told 18 = .ok (.ldc_w 341, 3) := by decide +kernel
theorem d_Mo_told_21 : decode b_Mo_told 21 = .ok (.if_icmp .le 16, 3) := by decide +kernel
theorem d_Mo_told_24 : decode b_Mo_told 24 = .ok (.aload_n 0, 1) := by decide +kernel
theorem d_Mo_told_25 : decode b_Mo_told 25 = .ok (.bipush 29, 2) := by decide +kernel
theorem d_Mo_told_27 : decode b_Mo_told 27 = .ok (.aload_n 0, 1) := by decide +kernel
theorem d_Mo_told_28 : decode b_Mo_told 28 = .ok (.getfield 193, 3) := by decide +kernel
theorem d_Mo_told_31 : decode b_Mo_told 31 = .ok (.invokevirtual 209, 3) := by decide +kernel
theorem d_Mo_told_34 : decode b_Mo_told 34 = .ok (.ldc 213, 2) := by decide +kernel
theorem d_Mo_told_36 : decode b_Mo_told 36 = .ok (.ireturn, 1) := by decide +kernel
theorem d_Mo_told_37 : decode b_Mo_told 37 = .ok (.iload_n 1, 1) := by decide +kernel
theorem d_Mo_told_38 : decode b_Mo_told 38 = .ok (.ldc_w 345, 3) := by decide +kernel
theorem d_Mo_told_41 : decode b_Mo_told 41 = .ok (.if_icmp .lt 23, 3) := by decide +kernel
theorem d_Mo_told_44 : decode b_Mo_told 44 = .ok (.iload_n 1, 1) := by decide +kernel
theorem d_Mo_told_45 : decode b_Mo_told 45 = .ok (.ldc_w 346, 3) := by decide +kernel
theorem d_Mo_told_48 : decode b_Mo_told 48 = .ok (.if_icmp .gt 16, 3) := by decide +kernel
theorem d_Mo_told_51 : decode b_Mo_told 51 = .ok (.aload_n 0, 1) := by decide +kernel
theorem d_Mo_told_52 : decode b_Mo_told 52 = .ok (.bipush 30, 2) := by decide +kernel
theorem d_Mo_told_54 : decode b_Mo_told 54 = .ok (.aload_n 0, 1) := by decide +kernel
theorem d_Mo_told_55 : decode b_Mo_told 55 = .ok (.getfield 193, 3) := by decide +kernel
theorem d_Mo_told_58 : decode b_Mo_told 58 = .ok (.invokevirtual 209, 3) := by decide +kernel
theorem d_Mo_told_61 : decode b_Mo_told 61 = .ok (.ldc 213, 2) := by decide +kernel
theorem d_Mo_told_63 : decode b_Mo_told 63 = .ok (.ireturn, 1) := by decide +kernel
theorem d_Mo_told_64 : decode b_Mo_told 64 = .ok (.iload_n 1, 1) := by decide +kernel
theorem d_Mo_told_65 : decode b_Mo_told 65 = .ok (.ldc_w 347, 3) := by decide +kernel
theorem d_Mo_told_68 : decode b_Mo_told 68 = .ok (.if_icmp .lt 10, 3) := by decide +kernel
theorem d_Mo_told_71 : decode b_Mo_told 71 = .ok (.iload_n 1, 1) := by decide +kernel
theorem d_Mo_told_72 : decode b_Mo_told 72 = .ok (.ldc_w 348, 3) := by decide +kernel
theorem d_Mo_told_75 : decode b_Mo_told 75 = .ok (.if_icmp .le 14, 3) := by decide +kernel
theorem d_Mo_told_78 : decode b_Mo_told 78 = .ok (.iload_n 1, 1) := by decide +kernel
theorem d_Mo_told_79 : decode b_Mo_told 79 = .ok (.ldc_w 349, 3) := by decide +kernel
theorem d_Mo_told_82 : decode b_Mo_told 82 = .ok (.irem, 1) := by decide +kernel
theorem d_Mo_told_83 : decode b_Mo_told 83 = .ok (.ldc_w 350, 3) := by decide +kernel
theorem d_Mo_told_86 : decode b_Mo_told 86 = .ok (.if_icmp .lt 15, 3) := by decide +kernel
theorem d_Mo_told_89 : decode b_Mo_told 89 = .ok (.aload_n 0, 1) := by decide +kernel
theorem d_Mo_told_90 : decode b_Mo_told 90 = .ok (.bipush 31, 2) := by decide +kernel
theorem d_Mo_told_92 : decode b_Mo_told 92 = .ok (.aload_n 0, 1) := by decide +kernel
theorem d_Mo_told_93 : decode b_Mo_told 93 = .ok (.getfield 193, 3) := by decide +kernel
theorem d_Mo_told_96 : decode b_Mo_told 96 = .ok (.invokevirtual 209, 3) := by decide +kernel
theorem d_Mo_told_99 : decode b_Mo_told 99 = .ok (.iload_n 1, 1) := by decide +kernel
theorem d_Mo_told_100 : decode b_Mo_told 100 = .ok (.ireturn, 1) := by decide +kernel
theorem d_Mo_told_101 : decode b_Mo_told 101 = .ok (.iload_n 1, 1) := by decide +kernel
theorem d_Mo_told_102 : decode b_Mo_told 102 = .ok (.bipush 127, 2) := by decide +kernel
theorem d_Mo_told_104 : decode b_Mo_told 104 = .ok (.if_icmp .lt 10, 3) := by decide +kernel
theorem d_Mo_told_107 : decode b_Mo_told 107 = .ok (.iload_n 1, 1) := by decide +kernel
theorem d_Mo_told_108 : decode b_Mo_told 108 = .ok (.sipush 159, 3) := by decide +kernel
theorem d_Mo_told_111 : decode b_Mo_told 111 = .ok (.if_icmp .le 22, 3) := by decide +kernel
theorem d_Mo_told_114 : decode b_Mo_told 114 = .ok (.iload_n 1, 1) := by decide +kernel
theorem d_Mo_told_115 : decode b_Mo_told 115 = .ok (.bipush 13, 2) := by decide +kernel
theorem d_Mo_told_117 : decode b_Mo_told 117 = .ok (.if_icmp .eq 16, 3) := by decide +kernel
theorem d_Mo_told_120 : decode b_Mo_told 120 = .ok (.iload_n 1, 1) := by decide +kernel
theorem d_Mo_told_121 : decode b_Mo_told 121 = .ok (.bipush 32, 2) := by decide +kernel
theorem d_Mo_told_123 : decode b_Mo_told 123 = .ok (.if_icmp .ge 59, 3) := by decide +kernel
theorem d_Mo_told_126 : decode b_Mo_told 126 = .ok (.iload_n 1, 1) := by decide +kernel
theorem d_Mo_told_127 : decode b_Mo_told 127 = .ok (.invokestatic 200, 3) := by decide +kernel
theorem d_Mo_told_130 : decode b_Mo_told 130 = .ok (.ifCond .ne 52, 3) := by decide +kernel
theorem d_Mo_told_133 : decode b_Mo_told 133 = .ok (.aload_n 0, 1) := by decide +kernel
theorem d_Mo_told_134 : decode b_Mo_told 134 = .ok (.bipush 32, 2) := by decide +kernel
theorem d_Mo_told_136 : decode b_Mo_told 136 = .ok (.aload_n 0, 1) := by decide +kernel
theorem d_Mo_told_137 : decode b_Mo_told 137 = .ok (.getfield 193, 3) := by decide +kernel
theorem d_Mo_told_140 : decode b_Mo_told 140 = .ok (.invokevirtual 209, 3) := by decide +kernel
theorem d_Mo_told_143 : decode b_Mo_told 143 = .ok (.iload_n 1, 1) := by decide +kernel
theorem d_Mo_told_144 : decode b_Mo_told 144 = .ok (.sipush 128, 3) := by decide +kernel
theorem d_Mo_told_147 : decode b_Mo_told 147 = .ok (.if_icmp .lt 23, 3) := by decide +kernel
theorem d_Mo_told_150 : decode b_Mo_told 150 = .ok (.iload_n 1, 1) := by decide +kernel
theorem d_Mo_told_151 : decode b_Mo_told 151 = .ok (.sipush 159, 3) := by decide +kernel
theorem d_Mo_told_154 : decode b_Mo_told 154 = .ok (.if_icmp .gt 16, 3) := by decide +kernel
theorem d_Mo_told_157 : decode b_Mo_told 157 = .ok (.aload_n 0, 1) := by decide +kernel
theorem d_Mo_told_158 : decode b_Mo_told 158 = .ok (.getfield 123, 3) := by decide +kernel
theorem d_Mo_told_161 : decode b_Mo_told 161 = .ok (.iload_n 1, 1) := by decide +kernel
theorem d_Mo_told_162 : decode b_Mo_told 162 = .ok (.sipush 128, 3) := by decide +kernel
theorem d_Mo_told_165 : decode b_Mo_told 165 = .ok (.isub, 1) := by decide +kernel
theorem d_Mo_told_166 : decode b_Mo_told 166 = .ok (.iaload, 1) := by decide +kernel
theorem d_Mo_told_167 : decode b_Mo_told 167 = .ok (.goto 4, 3) := by decide +kernel
theorem d_Mo_told_170 : decode b_Mo_told 170 = .ok (.iconst 0, 1) := by decide +kernel
theorem d_Mo_told_171 : decode b_Mo_told 171 = .ok (.istore_n 2, 1) := by decide +kernel
theorem d_Mo_told_172 : decode b_Mo_told 172 = .ok (.iload_n 2, 1) := by decide +kernel
theorem d_Mo_told_173 : decode b_Mo_told 173 = .ok (.ifCond .le 7, 3) := by decide +kernel
theorem d_Mo_told_176 : decode b_Mo_told 176 = .ok (.iload_n 2, 1) := by decide +kernel
theorem d_Mo_told_177 : decode b_Mo_told 177 = .ok (.goto 4, 3) := by decide +kernel
theorem d_Mo_told_180 : decode b_Mo_told 180 = .ok (.iload_n 1, 1) := by decide +kernel
theorem d_Mo_told_181 : decode b_Mo_told 181 = .ok (.ireturn, 1) := by decide +kernel
theorem d_Mo_told_182 : decode b_Mo_told 182 = .ok (.iload_n 1, 1) := by decide +kernel
theorem d_Mo_told_183 : decode b_Mo_told 183 = .ok (.ireturn, 1) := by decide +kernel
theorem d_Mo_number_0 : decode b_Mo_number 0 = .ok (.aload_n 0, 1) := by decide +kernel
theorem d_Mo_number_1 : decode b_Mo_number 1 = .ok (.aload_n 0, 1) := by decide +kernel
theorem d_Mo_number_2 : decode b_Mo_number 2 = .ok (.getfield 193, 3) := by decide +kernel
theorem d_Mo_number_5 : decode b_Mo_number 5 = .ok (.invokevirtual 196, 3) := by decide +kernel
theorem d_Mo_number_8 : decode b_Mo_number 8 = .ok (.bipush 120, 2) := by decide +kernel
theorem d_Mo_number_10 : decode b_Mo_number 10 = .ok (.if_icmp .eq 16, 3) := by decide +kernel
theorem d_Mo_number_13 : decode b_Mo_number 13 = .ok (.aload_n 0, 1) := by decide +kernel
theorem d_Mo_number_14 : decode b_Mo_number 14 = .ok (.aload_n 0, 1) := by decide +kernel
theorem d_Mo_number_15 : decode b_Mo_number 15 = .ok (.getfield 193, 3) := by decide +kernel
theorem d_Mo_number_18 : decode b_Mo_number 18 = .ok (.invokevirtual 196, 3) := by decide +kernel
theorem d_Mo_number_21 : decode b_Mo_number 21 = .ok (.bipush 88, 2) := by decide +kernel
theorem d_Mo_number_23 : decode b_Mo_number 23 = .ok (.if_icmp .ne 8, 3) := by decide +kernel
theorem d_Mo_number_26 : decode b_Mo_number 26 = .ok (.bipush 16, 2) := by decide +kernel
theorem d_Mo_number_28 : decode b_Mo_number 28 = .ok (.goto 5, 3) := by decide +kernel
theorem d_Mo_number_31 : decode b_Mo_number 31 = .ok (.bipush 10, 2) := by decide +kernel
theorem d_Mo_number_33 : decode b_Mo_number 33 = .ok (.istore_n 3, 1) := by decide +kernel
theorem d_Mo_number_34 : decode b_Mo_number 34 = .ok (.aload_n 0, 1) := by decide +kernel
theorem d_Mo_number_35 : decode b_Mo_number 35 = .ok (.iload_n 3, 1) := by decide +kernel
theorem d_Mo_number_36 : decode b_Mo_number 36 = .ok (.bipush 16, 2) := by decide +kernel
theorem d_Mo_number_38 : decode b_Mo_number 38 = .ok (.if_icmp .ne 12, 3) := by decide +kernel
theorem d_Mo_number_41 : decode b_Mo_number 41 = .ok (.aload_n 0, 1) := by decide +kernel
theorem d_Mo_number_42 : decode b_Mo_number 42 = .ok (.getfield 193, 3) := by decide +kernel
theorem d_Mo_number_45 : decode b_Mo_number 45 = .ok (.iconst 1, 1) := by decide +kernel
theorem d_Mo_number_46 : decode b_Mo_number 46 = .ok (.iadd, 1) := by decide +kernel
theorem d_Mo_number_47 : decode b_Mo_number 47 = .ok (.goto 7, 3) := by decide +kernel
theorem d_Mo_number_50 : decode b_Mo_number 50 = .ok (.aload_n 0, 1) := by decide +kernel
theorem d_Mo_number_51 : decode b_Mo_number 51 = .ok (.getfield 193, 3) := by decide +kernel
theorem d_Mo_number_54 : decode b_Mo_number 54 = .ok (.putfield 193, 3) := by decide +kernel
theorem d_Mo_number_57 : decode b_Mo_number 57 = .ok (.iconst 0, 1) := by decide +kernel
theorem d_Mo_number_58 : decode b_Mo_number 58 = .ok (.istore 4, 2) := by decide +kernel
theorem d_Mo_number_60 : decode b_Mo_number 60 = .ok (.iconst 0, 1) := by decide +kernel
theorem d_Mo_number_61 : decode b_Mo_number 61 = .ok (.istore 5, 2) := by decide +kernel
theorem d_Mo_number_63 : decode b_Mo_number 63 = .ok (.aload_n 0, 1) := by decide +kernel
theorem d_Mo_number_64 : decode b_Mo_number 64 = .ok (.aload_n 0, 1) := by decide +kernel
theorem d_Mo_number_65 : decode b_Mo_number 65 = .ok (.getfield 193, 3) := by decide +kernel
theorem d_Mo_number_68 : decode b_Mo_number 68 = .ok (.invokevirtual 196, 3) := by decide +kernel
theorem d_Mo_number_71 : decode b_Mo_number 71 = .ok (.invokestatic 338, 3) := by decide +kernel
theorem d_Mo_number_74 : decode b_Mo_number 74 = .ok (.iload_n 3, 1) := by decide +kernel
theorem d_Mo_number_75 : decode b_Mo_number 75 = .ok (.if_icmp .ge 50, 3) := by decide +kernel
theorem d_Mo_number_78 : decode b_Mo_number 78 = .ok (.iload 4, 2) := by decide +kernel
theorem d_Mo_number_80 : decode b_Mo_number 80 = .ok (.ldc_w 341, 3) := by decide +kernel
theorem d_Mo_number_83 : decode b_Mo_number 83 = .ok (.if_icmp .le 8, 3) := by decide +kernel
theorem d_Mo_number_86 : decode b_Mo_number 86 = .ok (.iload 4, 2) := by decide +kernel
theorem d_Mo_number_88 : decode b_Mo_number 88 = .ok (.goto 19, 3) := by decide +kernel
theorem d_Mo_number_91 : decode b_Mo_number 91 = .ok (.iload_n 3, 1) := by decide +kernel
theorem d_Mo_number_92 : decode b_Mo_number 92 = .ok (.iload 4, 2) := by decide +kernel
theorem d_Mo_number_94 : decode b_Mo_number 94 = .ok (.imul, 1) := by decide +kernel
theorem d_Mo_number_95 : decode b_Mo_number 95 = .ok (.aload_n 0, 1) := by decide +kernel
theorem d_Mo_number_96 : decode b_Mo_number 96 = .ok (.aload_n 0, 1) := by decide +kernel
theorem d_Mo_number_97 : decode b_Mo_number 97 = .ok (.getfield 193, 3) := by decide +kernel
theorem d_Mo_number_100 : decode b_Mo_number 100 = .ok (.invokevirtual 196, 3) := by decide +kernel
theorem d_Mo_number_103 : decode b_Mo_number 103 = .ok (.invokestatic 338, 3) := by decide +kernel
theorem d_Mo_number_106 : decode b_Mo_number 106 = .ok (.iadd, 1) := by decide +kernel
theorem d_Mo_number_107 : decode b_Mo_number 107 = .ok (.istore 4, 2) := by decide +kernel
theorem d_Mo_number_109 : decode b_Mo_number 109 = .ok (.iinc 5 1, 3) := by decide +kernel
theorem d_Mo_number_112 : decode b_Mo_number 112 = .ok (.aload_n 0, 1) := by decide +kernel
theorem d_Mo_number_113 : decode b_Mo_number 113 = .ok (.dup, 1) := by decide +kernel
theorem d_Mo_number_114 : decode b_Mo_number 114 = .ok (.getfield 193, 3) := by decide +kernel
theorem d_Mo_number_117 : decode b_Mo_number 117 = .ok (.iconst 1, 1) := by decide +kernel
theorem d_Mo_number_118 : decode b_Mo_number 118 = .ok (.iadd, 1) := by decide +kernel
theorem d_Mo_number_119 : decode b_Mo_number 119 = .ok (.putfield 193, 3) := by decide +kernel
theorem d_Mo_number_122 : decode b_Mo_number 122 = .ok (.goto (-59), 3) := by decide +kernel
theorem d_Mo_number_125 : decode b_Mo_number 125 = .ok (.iload 5, 2) := by decide +kernel
theorem d_Mo_number_127 : decode b_Mo_number 127 = .ok (.ifCond .ne 20, 3) := by decide +kernel
theorem d_Mo_number_130 : decode b_Mo_number 130 = .ok (.aload_n 0, 1) := by decide +kernel
theorem d_Mo_number_131 : decode b_Mo_number 131 = .ok (.bipush 27, 2) := by decide +kernel
theorem d_Mo_number_133 : decode b_Mo_number 133 = .ok (.aload_n 0, 1) := by decide +kernel
theorem d_Mo_number_134 : decode b_Mo_number 134 = .ok (.getfield 193, 3) := by decide +kernel
theorem d_Mo_number_137 : decode b_Mo_number 137 = .ok (.invokevirtual 209, 3) := by decide +kernel
theorem d_Mo_number_140 : decode b_Mo_number 140 = .ok (.aload_n 0, 1) := by decide +kernel
theorem d_Mo_number_141 : decode b_Mo_number 141 = .ok (.iload_n 1, 1) := by decide +kernel
theorem d_Mo_number_142 : decode b_Mo_number 142 = .ok (.iload_n 2, 1) := by decide +kernel
theorem d_Mo_number_143 : decode b_Mo_number 143 = .ok (.invokevirtual 332, 3) := by decide +kernel
theorem d_Mo_number_146 : decode b_Mo_number 146 = .ok (.return_, 1) := by decide +kernel
theorem d_Mo_number_147 : decode b_Mo_number 147 = .ok (.aload_n 0, 1) := by decide +kernel
theorem d_Mo_number_148 : decode b_Mo_number 148 = .ok (.aload_n 0, 1) := by decide +kernel
theorem d_Mo_number_149 : decode b_Mo_number 149 = .ok (.getfield 193, 3) := by decide +kernel
theorem d_Mo_number_152 : decode b_Mo_number 152 = .ok (.invokevirtual 196, 3) := by decide +kernel
theorem d_Mo_number_155 : decode b_Mo_number 155 = .ok (.bipush 59, 2) := by decide +kernel
theorem d_Mo_number_157 : decode b_Mo_number 157 = .ok (.if_icmp .ne 16, 3) := by decide +kernel
theorem d_Mo_number_160 : decode b_Mo_number 160 = .ok (.aload_n 0, 1) := by decide +kernel
theorem d_Mo_number_161 : decode b_Mo_number 161 = .ok (.dup, 1) := by decide +kernel
theorem d_Mo_number_162 : decode b_Mo_number 162 = .ok (.getfield 193, 3) := by decide +kernel
theorem d_Mo_number_165 : decode b_Mo_number 165 = .ok (.iconst 1, 1) := by decide +kernel
theorem d_Mo_number_166 : decode b_Mo_number 166 = .ok (.iadd, 1) := by decide +kernel
theorem d_Mo_number_167 : decode b_Mo_number 167 = .ok (.putfield 193, 3) := by decide +kernel
theorem d_Mo_number_170 : decode b_Mo_number 170 = .ok (.goto 13, 3) := by decide +kernel
theorem d_Mo_number_173 : decode b_Mo_number 173 = .ok (.aload_n 0, 1) := by decide +kernel
theorem d_Mo_number_174 : decode b_Mo_number 174 = .ok (.bipush 25, 2) := by decide +kernel
theorem d_Mo_number_176 : decode b_Mo_number 176 = .ok (.aload_n 0, 1) := by decide +kernel
theorem d_Mo_number_177 : decode b_Mo_number 177 = .ok (.getfield 193, 3) := by decide +kernel
theorem d_Mo_number_180 : decode b_Mo_number 180 = .ok (.invokevirtual 209, 3) := by decide +kernel
theorem d_Mo_number_183 : decode b_Mo_number 183 = .ok (.aload_n 0, 1) := by decide +kernel
theorem d_Mo_number_184 : decode b_Mo_number 184 = .ok (.aload_n 0, 1) := by decide +kernel
theorem d_Mo_number_185 : decode b_Mo_number 185 = .ok (.iload 4, 2) := by decide +kernel
theorem d_Mo_number_187 : decode b_Mo_number 187 = .ok (.invokevirtual 342, 3) := by decide +kernel
theorem d_Mo_number_190 : decode b_Mo_number 190 = .ok (.iload_n 2, 1) := by decide +kernel
theorem d_Mo_number_191 : decode b_Mo_number 191 = .ok (.invokevirtual 316, 3) := by decide +kernel
theorem d_Mo_number_194 : decode b_Mo_number 194 = .ok (.return_, 1) := by decide +kernel
theorem d_Mo_longest_0 : decode b_Mo_longest 0 = .ok (.iconst 0, 1) := by decide +kernel
theorem d_Mo_longest_1 : decode b_Mo_longest 1 = .ok (.istore_n 2, 1) := by decide +kernel
theorem d_Mo_longest_2 : decode b_Mo_longest 2 = .ok (.iconst 0, 1) := by decide +kernel
theorem d_Mo_longest_3 : decode b_Mo_longest 3 = .ok (.istore_n 3, 1) := by decide +kernel
theorem d_Mo_longest_4 : decode b_Mo_longest 4 = .ok (.iload_n 3, 1) := by decide +kernel
theorem d_Mo_longest_5 : decode b_Mo_longest 5 = .ok (.aload_n 0, 1) := by decide +kernel
theorem d_Mo_longest_6 : decode b_Mo_longest 6 = .ok (.getfield 113, 3) := by decide +kernel
theorem d_Mo_longest_9 : decode b_Mo_longest 9 = .ok (.arraylength, 1) := by decide +kernel
theorem d_Mo_longest_10 : decode b_Mo_longest 10 = .ok (.if_icmp .ge 93, 3) := by decide +kernel
theorem d_Mo_longest_13 : decode b_Mo_longest 13 = .ok (.iconst 0, 1) := by decide +kernel
theorem d_Mo_longest_14 : decode b_Mo_longest 14 = .ok (.istore 4, 2) := by decide +kernel
theorem d_Mo_longest_16 : decode b_Mo_longest 16 = .ok (.iconst 1, 1) := by decide +kernel
theorem d_Mo_longest_17 : decode b_Mo_longest 17 = .ok (.istore 5, 2) := by decide +kernel
theorem d_Mo_longest_19 : decode b_Mo_longest 19 = .ok (.aload_n 0, 1) := by decide +kernel
theorem d_Mo_longest_20 : decode b_Mo_longest 20 = .ok (.getfield 113, 3) := by decide +kernel
theorem d_Mo_longest_23 : decode b_Mo_longest 23 = .ok (.iload_n 3, 1) := by decide +kernel
theorem d_Mo_longest_24 : decode b_Mo_longest 24 = .ok (.laload, 1) := by decide +kernel
theorem d_Mo_longest_25 : decode b_Mo_longest 25 = .ok (.lstore 6, 2) := by decide +kernel
theorem d_Mo_longest_27 : decode b_Mo_longest 27 = .ok (.lload 6, 2) := by decide +kernel
theorem d_Mo_longest_29 : decode b_Mo_longest 29 = .ok (.lconst 0, 1) := by decide +kernel
theorem d_Mo_longest_30 : decode b_Mo_longest 30 = .ok (.lcmp, 1) := by decide +kernel
theorem d_Mo_longest_31 : decode b_Mo_longest 31 = .ok (.ifCond .eq 47, 3) := by decide +kernel
theorem d_Mo_longest_34 : decode b_Mo_longest 34 = .ok (.iload 5, 2) := by decide +kernel
theorem d_Mo_longest_36 : decode b_Mo_longest 36 = .ok (.ifCond .eq 26, 3) := by decide +kernel
theorem d_Mo_longest_39 : decode b_Mo_longest 39 = .ok (.aload_n 0, 1) := by decide +kernel
theorem d_Mo_longest_40 : decode b_Mo_longest 40 = .ok (.iload_n 1, 1) := by decide +kernel
theorem d_Mo_longest_41 : decode b_Mo_longest 41 = .ok (.iload 4, 2) := by decide +kernel
theorem d_Mo_longest_43 : decode b_Mo_longest 43 = .ok (.iadd, 1) := by decide +kernel
theorem d_Mo_longest_44 : decode b_Mo_longest 44 = .ok (.invokevirtual 196, 3) := by decide +kernel
theorem d_Mo_longest_47 : decode b_Mo_longest 47 = .ok (.i2l, 1) := by decide +kernel
theorem d_Mo_longest_48 : decode b_Mo_longest 48 = .ok (.lload 6, 2) := by decide +kernel
theorem d_Mo_longest_50 : decode b_Mo_longest 50 = .ok (.ldc2_w 299, 3) := by decide +kernel
theorem d_Mo_longest_53 : decode b_Mo_longest 53 = .ok (.land, 1) := by decide +kernel
theorem d_Mo_longest_54 : decode b_Mo_longest 54 = .ok (.lcmp, 1) := by decide +kernel
theorem d_Mo_longest_55 : decode b_Mo_longest 55 = .ok (.ifCond .ne 7, 3) := by decide +kernel
theorem d_Mo_longest_58 : decode b_Mo_longest 58 = .ok (.iconst 1, 1) := by decide +kernel
theorem d_Mo_longest_59 : decode b_Mo_longest 59 = .ok (.goto 4, 3) := by decide +kernel
theorem d_Mo_longest_62 : decode b_Mo_longest 62 = .ok (.iconst 0, 1) := by decide +kernel
theorem d_Mo_longest_63 : decode b_Mo_longest 63 = .ok (.istore 5, 2) := by decide +kernel
theorem d_Mo_longest_65 : decode b_Mo_longest 65 = .ok (.iinc 4 1, 3) := by decide +kernel
theorem d_Mo_longest_68 : decode b_Mo_longest 68 = .ok (.lload 6, 2) := by decide +kernel
theorem d_Mo_longest_70 : decode b_Mo_longest 70 = .ok (.bipush 8, 2) := by decide +kernel
theorem d_Mo_longest_72 : decode b_Mo_longest 72 = .ok (.lushr, 1) := by decide +kernel
theorem d_Mo_longest_73 : decode b_Mo_longest 73 = .ok (.lstore 6, 2) := by decide +kernel
theorem d_Mo_longest_75 : decode b_Mo_longest 75 = .ok (.goto (-48), 3) := by decide +kernel
theorem d_Mo_longest_78 : decode b_Mo_longest 78 = .ok (.iload 5, 2) := by decide +kernel
theorem d_Mo_longest_80 : decode b_Mo_longest 80 = .ok (.ifCond .eq 17, 3) := by decide +kernel
theorem d_Mo_longest_83 : decode b_Mo_longest 83 = .ok (.iload 4, 2) := by decide +kernel
theorem d_Mo_longest_85 : decode b_Mo_longest 85 = .ok (.iload_n 2, 1) := by decide +kernel
theorem d_Mo_longest_86 : decode b_Mo_longest 86 = .ok (.if_icmp .le 11, 3) := by decide +kernel
theorem d_Mo_longest_89 : decode b_Mo_longest 89 = .ok (.iload 4, 2) := by decide +kernel
theorem d_Mo_longest_91 : decode b_Mo_longest 91 = .ok (.istore_n 2, 1) := by decide +kernel
theorem d_Mo_longest_92 : decode b_Mo_longest 92 = .ok (.aload_n 0, 1) := by decide +kernel
theorem d_Mo_longest_93 : decode b_Mo_longest 93 = .ok (.iload_n 3, 1) := by decide +kernel
theorem d_Mo_longest_94 : decode b_Mo_longest 94 = .ok (.putfield 320, 3) := by decide +kernel
theorem d_Mo_longest_97 : decode b_Mo_longest 97 = .ok (.iinc 3 1, 3) := by decide +kernel
theorem d_Mo_longest_100 : decode b_Mo_longest 100 = .ok (.goto (-96), 3) := by decide +kernel
theorem d_Mo_longest_103 : decode b_Mo_longest 103 = .ok (.iload_n 2, 1) := by decide +kernel
theorem d_Mo_longest_104 : decode b_Mo_longest 104 = .ok (.ireturn, 1) := by decide +kernel
theorem d_Mo_named_0 : decode b_Mo_named 0 = .ok (.aload_n 0, 1) := by decide +kernel
theorem d_Mo_named_1 : decode b_Mo_named 1 = .ok (.aload_n 0, 1) := by decide +kernel
theorem d_Mo_named_2 : decode b_Mo_named 2 = .ok (.getfield 193, 3) := by decide +kernel
theorem d_Mo_named_5 : decode b_Mo_named 5 = .ok (.invokevirtual 335, 3) := by decide +kernel
theorem d_Mo_named_8 : decode b_Mo_named 8 = .ok (.istore_n 3, 1) := by decide +kernel
theorem d_Mo_named_9 : decode b_Mo_named 9 = .ok (.iload_n 3, 1) := by decide +kernel
theorem d_Mo_named_10 : decode b_Mo_named 10 = .ok (.ifCond .ne 74, 3) := by decide +kernel
theorem d_Mo_named_13 : decode b_Mo_named 13 = .ok (.aload_n 0, 1) := by decide +kernel
theorem d_Mo_named_14 : decode b_Mo_named 14 = .ok (.aload_n 0, 1) := by decide +kernel
theorem d_Mo_named_15 : decode b_Mo_named 15 = .ok (.getfield 193, 3) := by decide +kernel
theorem d_Mo_named_18 : decode b_Mo_named 18 = .ok (.invokevirtual 196, 3) := by decide +kernel
theorem d_Mo_named_21 : decode b_Mo_named 21 = .ok (.invokestatic 259, 3) := by decide +kernel
theorem d_Mo_named_24 : decode b_Mo_named 24 = .ok (.ifCond .ne 17, 3) := by decide +kernel
theorem d_Mo_named_27 : decode b_Mo_named 27 = .ok (.aload_n 0, 1) := by decide +kernel
theorem d_Mo_named_28 : decode b_Mo_named 28 = .ok (.aload_n 0, 1) := by decide +kernel
theorem d_Mo_named_29 : decode b_Mo_named 29 = .ok (.getfield 193, 3) := by decide +kernel
theorem d_Mo_named_32 : decode b_Mo_named 32 = .ok (.invokevirtual 196, 3) := by decide +kernel
theorem d_Mo_named_35 : decode b_Mo_named 35 = .ok (.invokestatic 326, 3) := by decide +kernel
theorem d_Mo_named_38 : decode b_Mo_named 38 = .ok (.ifCond .eq 16, 3) := by decide +kernel
theorem d_Mo_named_41 : decode b_Mo_named 41 = .ok (.aload_n 0, 1) := by decide +kernel
theorem d_Mo_named_42 : decode b_Mo_named 42 = .ok (.dup, 1) := by decide +kernel
theorem d_Mo_named_43 : decode b_Mo_named 43 = .ok (.getfield 193, 3) := by decide +kernel
theorem d_Mo_named_46 : decode b_Mo_named 46 = .ok (.iconst 1, 1) := by decide +kernel
theorem d_Mo_named_47 : decode b_Mo_named 47 = .ok (.iadd, 1) := by decide +kernel
theorem d_Mo_named_48 : decode b_Mo_named 48 = .ok (.putfield 193, 3) := by decide +kernel
theorem d_Mo_named_51 : decode b_Mo_named 51 = .ok (.goto (-38), 3) := by decide +kernel
theorem d_Mo_named_54 : decode b_Mo_named 54 = .ok (.aload_n 0, 1) := by decide +kernel
theorem d_Mo_named_55 : decode b_Mo_named 55 = .ok (.iload_n 1, 1) := by decide +kernel
theorem d_Mo_named_56 : decode b_Mo_named 56 = .ok (.iload_n 2, 1) := by decide +kernel
theorem d_Mo_named_57 : decode b_Mo_named 57 = .ok (.invokevirtual 332, 3) := by decide +kernel
theorem d_Mo_named_60 : decode b_Mo_named 60 = .ok (.aload_n 0, 1) := by decide +kernel
theorem d_Mo_named_61 : decode b_Mo_named 61 = .ok (.aload_n 0, 1) := by decide +kernel
theorem d_Mo_named_62 : decode b_Mo_named 62 = .ok (.getfield 193, 3) := by decide +kernel
theorem d_Mo_named_65 : decode b_Mo_named 65 = .ok (.invokevirtual 196, 3) := by decide +kernel
theorem d_Mo_named_68 : decode b_Mo_named 68 = .ok (.bipush 59, 2) := by decide +kernel
theorem d_Mo_named_70 : decode b_Mo_named 70 = .ok (.if_icmp .ne 13, 3) := by decide +kernel
theorem d_Mo_named_73 : decode b_Mo_named 73 = .ok (.aload_n 0, 1) := by decide +kernel
theorem d_Mo_named_74 : decode b_Mo_named 74 = .ok (.bipush 26, 2) := by decide +kernel
theorem d_Mo_named_76 : decode b_Mo_named 76 = .ok (.aload_n 0, 1) := by decide +kernel
theorem d_Mo_named_77 : decode b_Mo_named 77 = .ok (.getfield 193, 3) := by decide +kernel
theorem d_Mo_named_80 : decode b_Mo_named 80 = .ok (.invokevirtual 209, 3) := by decide +kernel
theorem d_Mo_named_83 : decode b_Mo_named 83 = .ok (.return_, 1) := by decide +kernel
theorem d_Mo_named_84 : decode b_Mo_named 84 = .ok (.aload_n 0, 1) := by decide +kernel
theorem d_Mo_named_85 : decode b_Mo_named 85 = .ok (.aload_n 0, 1) := by decide +kernel
theorem d_Mo_named_86 : decode b_Mo_named 86 = .ok (.getfield 193, 3) := by decide +kernel
theorem d_Mo_named_89 : decode b_Mo_named 89 = .ok (.iload_n 3, 1) := by decide +kernel
theorem d_Mo_named_90 : decode b_Mo_named 90 = .ok (.iadd, 1) := by decide +kernel
theorem d_Mo_named_91 : decode b_Mo_named 91 = .ok (.putfield 193, 3) := by decide +kernel
theorem d_Mo_named_94 : decode b_Mo_named 94 = .ok (.aload_n 0, 1) := by decide +kernel
theorem d_Mo_named_95 : decode b_Mo_named 95 = .ok (.aload_n 0, 1) := by decide +kernel
theorem d_Mo_named_96 : decode b_Mo_named 96 = .ok (.getfield 193, 3) := by decide +kernel
theorem d_Mo_named_99 : decode b_Mo_named 99 = .ok (.invokevirtual 196, 3) := by decide +kernel
theorem d_Mo_named_102 : decode b_Mo_named 102 = .ok (.istore 4, 2) := by decide +kernel
theorem d_Mo_named_104 : decode b_Mo_named 104 = .ok (.aload_n 0, 1) := by decide +kernel
theorem d_Mo_named_105 : decode b_Mo_named 105 = .ok (.aload_n 0, 1) := by decide +kernel
theorem d_Mo_named_106 : decode b_Mo_named 106 = .ok (.getfield 193, 3) := by decide +kernel
theorem d_Mo_named_109 : decode b_Mo_named 109 = .ok (.iconst 1, 1) := by decide +kernel
theorem d_Mo_named_110 : decode b_Mo_named 110 = .ok (.isub, 1) := by decide +kernel
theorem d_Mo_named_111 : decode b_Mo_named 111 = .ok (.invokevirtual 196, 3) := by decide +kernel
theorem d_Mo_named_114 : decode b_Mo_named 114 = .ok (.bipush 59, 2) := by decide +kernel
theorem d_Mo_named_116 : decode b_Mo_named 116 = .ok (.if_icmp .eq 7, 3) := by decide +kernel
theorem d_Mo_named_119 : decode b_Mo_named 119 = .ok (.iconst 1, 1) := by decide +kernel
theorem d_Mo_named_120 : decode b_Mo_named 120 = .ok (.goto 4, 3) := by decide +kernel
theorem d_Mo_named_123 : decode b_Mo_named 123 = .ok (.iconst 0, 1) := by decide +kernel
theorem d_Mo_named_124 : decode b_Mo_named 124 = .ok (.istore 5, 2) := by decide +kernel
theorem d_Mo_named_126 : decode b_Mo_named 126 = .ok (.iload 5, 2) := by decide +kernel
theorem d_Mo_named_128 : decode b_Mo_named 128 = .ok (.ifCond .eq 37, 3) := by decide +kernel
theorem d_Mo_named_131 : decode b_Mo_named 131 = .ok (.iload_n 2, 1) := by decide +kernel
theorem d_Mo_named_132 : decode b_Mo_named 132 = .ok (.ifCond .eq 33, 3) := by decide +kernel
theorem d_Mo_named_135 : decode b_Mo_named 135 = .ok (.iload 4, 2) := by decide +kernel
theorem d_Mo_named_137 : decode b_Mo_named 137 = .ok (.invokestatic 259, 3) := by decide +kernel
theorem d_Mo_named_140 : decode b_Mo_named 140 = .ok (.ifCond .ne 18, 3) := by decide +kernel
theorem d_Mo_named_143 : decode b_Mo_named 143 = .ok (.iload 4, 2) := by decide +kernel
theorem d_Mo_named_145 : decode b_Mo_named 145 = .ok (.invokestatic 326, 3) := by decide +kernel
theorem d_Mo_named_148 : decode b_Mo_named 148 = .ok (.ifCond .ne 10, 3) := by decide +kernel
theorem d_Mo_named_151 : decode b_Mo_named 151 = .ok (.iload 4, 2) := by decide +kernel
theorem d_Mo_named_153 : decode b_Mo_named 153 = .ok (.bipush 61, 2) := by decide +kernel
theorem d_Mo_named_155 : decode b_Mo_named 155 = .ok (.if_icmp .ne 10, 3) := by decide +kernel
theorem d_Mo_named_158 : decode b_Mo_named 158 = .ok (.aload_n 0, 1) := by decide +kernel
theorem d_Mo_named_159 : decode b_Mo_named 159 = .ok (.iload_n 1, 1) := by decide +kernel
theorem d_Mo_named_160 : decode b_Mo_named 160 = .ok (.iconst 1, 1) := by decide +kernel
theorem d_Mo_named_161 : decode b_Mo_named 161 = .ok (.invokevirtual 332, 3) := by decide +kernel
theorem d_Mo_named_164 : decode b_Mo_named 164 = .ok (.return_, 1) := by decide +kernel
theorem d_Mo_named_165 : decode b_Mo_named 165 = .ok (.iload 5, 2) := by decide +kernel
theorem d_Mo_named_167 : decode b_Mo_named 167 = .ok (.ifCond .eq 13, 3) := by decide +kernel
theorem d_Mo_named_170 : decode b_Mo_named 170 = .ok (.aload_n 0, 1) := by decide +kernel
theorem d_Mo_named_171 : decode b_Mo_named 171 = .ok (.bipush 25, 2) := by decide +kernel
theorem d_Mo_named_173 : decode b_Mo_named 173 = .ok (.aload_n 0, 1) := by decide +kernel
theorem d_Mo_named_174 : decode b_Mo_named 174 = .ok (.getfield 193, 3) := by decide +kernel
theorem d_Mo_named_177 : decode b_Mo_named 177 = .ok (.invokevirtual 209, 3) := by decide +kernel
theorem d_Mo_named_180 : decode b_Mo_named 180 = .ok (.aload_n 0, 1) := by decide +kernel
theorem d_Mo_named_181 : decode b_Mo_named 181 = .ok (.aload_n 0, 1) := by decide +kernel
theorem d_Mo_named_182 : decode b_Mo_named 182 = .ok (.getfield 119, 3) := by decide +kernel
theorem d_Mo_named_185 : decode b_Mo_named 185 = .ok (.aload_n 0, 1) := by decide +kernel
theorem d_Mo_named_186 : decode b_Mo_named 186 = .ok (.getfield 320, 3) := by decide +kernel
theorem d_Mo_named_189 : decode b_Mo_named 189 = .ok (.iaload, 1) := by decide +kernel
theorem d_Mo_named_190 : decode b_Mo_named 190 = .ok (.iload_n 2, 1) := by decide +kernel
theorem d_Mo_named_191 : decode b_Mo_named 191 = .ok (.invokevirtual 316, 3) := by decide +kernel
theorem d_Mo_named_194 : decode b_Mo_named 194 = .ok (.return_, 1) := by decide +kernel
theorem d_Mo_reference_0 : decode b_Mo_reference 0 = .ok (.aload_n 0, 1) := by decide +kernel
theorem d_Mo_reference_1 : decode b_Mo_reference 1 = .ok (.getfield 193, 3) := by decide +kernel
theorem d_Mo_reference_4 : decode b_Mo_reference 4 = .ok (.istore_n 2, 1) := by decide +kernel
theorem d_Mo_reference_5 : decode b_Mo_reference 5 = .ok (.aload_n 0, 1) := by decide +kernel
theorem d_Mo_reference_6 : decode b_Mo_reference 6 = .ok (.dup, 1) := by decide +kernel
theorem d_Mo_reference_7 : decode b_Mo_reference 7 = .ok (.getfield 193, 3) := by decide +kernel
theorem d_Mo_reference_10 : decode b_Mo_reference 10 = .ok (.iconst 1, 1) := by decide +kernel
theorem d_Mo_reference_11 : decode b_Mo_reference 11 = .ok (.iadd, 1) := by decide +kernel
theorem d_Mo_reference_12 : decode b_Mo_reference 12 = .ok (.putfield 193, 3) := by decide +kernel
theorem d_Mo_reference_15 : decode b_Mo_reference 15 = .ok (.aload_n 0, 1) := by decide +kernel
theorem d_Mo_reference_16 : decode b_Mo_reference 16 = .ok (.aload_n 0, 1) := by decide +kernel
theorem d_Mo_reference_17 : decode b_Mo_reference 17 = .ok (.getfield 193, 3) := by decide +kernel
theorem d_Mo_reference_20 : decode b_Mo_reference 20 = .ok (.invokevirtual 196, 3) := by decide +kernel
theorem d_Mo_reference_23 : decode b_Mo_reference 23 = .ok (.istore_n 3, 1) := by decide +kernel
theorem d_Mo_reference_24 : decode b_Mo_reference 24 = .ok (.iload_n 3, 1) := by decide +kernel
theorem d_Mo_reference_25 : decode b_Mo_reference 25 = .ok (.bipush 35, 2) := by decide +kernel
theorem d_Mo_reference_27 : decode b_Mo_reference 27 = .ok (.if_icmp .ne 22, 3) := by decide +kernel
theorem d_Mo_reference_30 : decode b_Mo_reference 30 = .ok (.aload_n 0, 1) := by decide +kernel
theorem d_Mo_reference_31 : decode b_Mo_reference 31 = .ok (.dup, 1) := by decide +kernel
theorem d_Mo_reference_32 : decode b_Mo_reference 32 = .ok (.getfield 193, 3) := by decide +kernel
theorem d_Mo_reference_35 : decode b_Mo_reference 35 = .ok (.iconst 1, 1) := by decide +kernel
theorem d_Mo_reference_36 : decode b_Mo_reference 36 = .ok (.iadd, 1) := by decide +kernel
theorem d_Mo_reference_37 : decode b_Mo_reference 37 = .ok (.putfield 193, 3) := by decide +kernel
theorem d_Mo_reference_40 : decode b_Mo_reference 40 = .ok (.aload_n 0, 1) := by decide +kernel
theorem d_Mo_reference_41 : decode b_Mo_reference 41 = .ok (.iload_n 2, 1) := by decide +kernel
theorem d_Mo_reference_42 : decode b_Mo_reference 42 = .ok (.iload_n 1, 1) := by decide +kernel
theorem d_Mo_reference_43 : decode b_Mo_reference 43 = .ok (.invokevirtual 323, 3) := by decide +kernel
theorem d_Mo_reference_46 : decode b_Mo_reference 46 = .ok (.goto 32, 3) := by decide +kernel
theorem d_Mo_reference_49 : decode b_Mo_reference 49 = .ok (.iload_n 3, 1) := by decide +kernel
theorem d_Mo_reference_50 : decode b_Mo_reference 50 = .ok (.invokestatic 259, 3) := by decide +kernel
theorem d_Mo_reference_53 : decode b_Mo_reference 53 = .ok (.ifCond .ne 10, 3) := by decide +kernel
theorem d_Mo_reference_56 : decode b_Mo_reference 56 = .ok (.iload_n 3, 1) := by decide +kernel
theorem d_Mo_reference_57 : decode b_Mo_reference 57 = .ok (.invokestatic 326, 3) := by decide +kernel
theorem d_Mo_reference_60 : decode b_Mo_reference 60 = .ok (.ifCond .eq 12, 3) := by decide +kernel
theorem d_Mo_reference_63 : decode b_Mo_reference 63 = .ok (.aload_n 0, 1) := by decide +kernel
theorem d_Mo_reference_64 : decode b_Mo_reference 64 = .ok (.iload_n 2, 1) := by decide +kernel
theorem d_Mo_reference_65 : decode b_Mo_reference 65 = .ok (.iload_n 1, 1) := by decide +kernel
theorem d_Mo_reference_66 : decode b_Mo_reference 66 = .ok (.invokevirtual 329, 3) := by decide +kernel
theorem d_Mo_reference_69 : decode b_Mo_reference 69 = .ok (.goto 9, 3) := by decide +kernel
theorem d_Mo_reference_72 : decode b_Mo_reference 72 = .ok (.aload_n 0, 1) := by decide +kernel
theorem d_Mo_reference_73 : decode b_Mo_reference 73 = .ok (.iload_n 2, 1) := by decide +kernel
theorem d_Mo_reference_74 : decode b_Mo_reference 74 = .ok (.iload_n 1, 1) := by decide +kernel
theorem d_Mo_reference_75 : decode b_Mo_reference 75 = .ok (.invokevirtual 332, 3) := by decide +kernel
theorem d_Mo_reference_78 : decode b_Mo_reference 78 = .ok (.return_, 1) := by decide +kernel
theorem d_Mo_tell_0 : decode b_Mo_tell 0 = .ok (.aload_n 0, 1) := by decide +kernel
theorem d_Mo_tell_1 : decode b_Mo_tell 1 = .ok (.getfield 139, 3) := by decide +kernel
theorem d_Mo_tell_4 : decode b_Mo_tell 4 = .ok (.aload_n 0, 1) := by decide +kernel
theorem d_Mo_tell_5 : decode b_Mo_tell 5 = .ok (.getfield 227, 3) := by decide +kernel
theorem d_Mo_tell_8 : decode b_Mo_tell 8 = .ok (.aload_n 0, 1) := by decide +kernel
theorem d_Mo_tell_9 : decode b_Mo_tell 9 = .ok (.getfield 206, 3) := by decide +kernel
theorem d_Mo_tell_12 : decode b_Mo_tell 12 = .ok (.aload_n 0, 1) := by decide +kernel
theorem d_Mo_tell_13 : decode b_Mo_tell 13 = .ok (.getfield 136, 3) := by decide +kernel
theorem d_Mo_tell_16 : decode b_Mo_tell 16 = .ok (.aload_n 0, 1) := by decide +kernel
theorem d_Mo_tell_17 : decode b_Mo_tell 17 = .ok (.getfield 227, 3) := by decide +kernel
theorem d_Mo_tell_20 : decode b_Mo_tell 20 = .ok (.iaload, 1) := by decide +kernel
theorem d_Mo_tell_21 : decode b_Mo_tell 21 = .ok (.isub, 1) := by decide +kernel
theorem d_Mo_tell_22 : decode b_Mo_tell 22 = .ok (.iastore, 1) := by decide +kernel
theorem d_Mo_tell_23 : decode b_Mo_tell 23 = .ok (.aload_n 0, 1) := by decide +kernel
theorem d_Mo_tell_24 : decode b_Mo_tell 24 = .ok (.dup, 1) := by decide +kernel
theorem d_Mo_tell_25 : decode b_Mo_tell 25 = .ok (.getfield 227, 3) := by decide +kernel
theorem d_Mo_tell_28 : decode b_Mo_tell 28 = .ok (.iconst 1, 1) := by decide +kernel
theorem d_Mo_tell_29 : decode b_Mo_tell 29 = .ok (.iadd, 1) := by decide +kernel
theorem d_Mo_tell_30 : decode b_Mo_tell 30 = .ok (.putfield 227, 3) := by decide +kernel
theorem d_Mo_tell_33 : decode b_Mo_tell 33 = .ok (.return_, 1) := by decide +kernel
theorem d_Mo_commentEnd_0 : decode b_Mo_commentEnd 0 = .ok (.iload_n 1, 1) := by decide +kernel
theorem d_Mo_commentEnd_1 : decode b_Mo_commentEnd 1 = .ok (.istore_n 2, 1) := by decide +kernel
theorem d_Mo_commentEnd_2 : decode b_Mo_commentEnd 2 = .ok (.iconst 0, 1) := by decide +kernel
theorem d_Mo_commentEnd_3 : decode b_Mo_commentEnd 3 = .ok (.istore_n 3, 1) := by decide +kernel
theorem d_Mo_commentEnd_4 : decode b_Mo_commentEnd 4 = .ok (.iload_n 2, 1) := by decide +kernel
theorem d_Mo_commentEnd_5 : decode b_Mo_commentEnd 5 = .ok (.aload_n 0, 1) := by decide +kernel
theorem d_Mo_commentEnd_6 : decode b_Mo_commentEnd 6 = .ok (.getfield 186, 3) := by decide +kernel
theorem d_Mo_commentEnd_9 : decode b_Mo_commentEnd 9 = .ok (.if_icmp .ge 98, 3) := by decide +kernel
theorem d_Mo_commentEnd_12 : decode b_Mo_commentEnd 12 = .ok (.iload_n 3, 1) := by decide +kernel
theorem d_Mo_commentEnd_13 : decode b_Mo_commentEnd 13 = .ok (.ifCond .ne 94, 3) := by decide +kernel
theorem d_Mo_commentEnd_16 : decode b_Mo_commentEnd 16 = .ok (.aload_n 0, 1) := by decide +kernel
theorem d_Mo_commentEnd_17 : decode b_Mo_commentEnd 17 = .ok (.iload_n 2, 1) := by decide +kernel
theorem d_Mo_commentEnd_18 : decode b_Mo_commentEnd 18 = .ok (.invokevirtual 196, 3) := by decide +kernel
theorem d_Mo_commentEnd_21 : decode b_Mo_commentEnd 21 = .ok (.bipush 45, 2) := by decide +kernel
theorem d_Mo_commentEnd_23 : decode b_Mo_commentEnd 23 = .ok (.if_icmp .ne 19, 3) := by decide +kernel
theorem d_Mo_commentEnd_26 : decode b_Mo_commentEnd 26 = .ok (.aload_n 0, 1) := by decide +kernel
theorem d_Mo_commentEnd_27 : decode b_Mo_commentEnd 27 = .ok (.iload_n 2, 1) := by decide +kernel
theorem d_Mo_commentEnd_28 : decode b_Mo_commentEnd 28 = .ok (.iconst 1, 1) := by decide +kernel
theorem d_Mo_commentEnd_29 : decode b_Mo_commentEnd 29 = .ok (.iadd, 1) := by decide +kernel
theorem d_Mo_commentEnd_30 : decode b_Mo_commentEnd 30 = .ok (.invokevirtual 196, 3) := by decide +kernel
theorem d_Mo_commentEnd_33 : decode b_Mo_commentEnd 33 = .ok (.bipush 45, 2) := by decide +kernel
theorem d_Mo_commentEnd_35 : decode b_Mo_commentEnd 35 = .ok (.if_icmp .ne 7, 3) := by decide +kernel
theorem d_Mo_commentEnd_38 : decode b_Mo_commentEnd 38 = .ok (.iconst 1, 1) := by decide +kernel
theorem d_Mo_commentEnd_39 : decode b_Mo_commentEnd 39 = .ok (.goto 4, 3) := by decide +kernel
theorem d_Mo_commentEnd_42 : decode b_Mo_commentEnd 42 = .ok (.iconst 0, 1) := by decide +kernel
theorem d_Mo_commentEnd_43 : decode b_Mo_commentEnd 43 = .ok (.istore 4, 2) := by decide +kernel
theorem d_Mo_commentEnd_45 : decode b_Mo_commentEnd 45 = .ok (.iload 4, 2) := by decide +kernel
theorem d_Mo_commentEnd_47 : decode b_Mo_commentEnd 47 = .ok (.ifCond .eq 43, 3) := by decide +kernel
theorem d_Mo_commentEnd_50 : decode b_Mo_commentEnd 50 = .ok (.aload_n 0, 1) := by decide +kernel
theorem d_Mo_commentEnd_51 : decode b_Mo_commentEnd 51 = .ok (.iload_n 2, 1) := by decide +kernel
theorem d_Mo_commentEnd_52 : decode b_Mo_commentEnd 52 = .ok (.iconst 2, 1) := by decide +kernel
theorem d_Mo_commentEnd_53 : decode b_Mo_commentEnd 53 = .ok (.iadd, 1) := by decide +kernel
theorem d_Mo_commentEnd_54 : decode b_Mo_commentEnd 54 = .ok (.invokevirtual 196, 3) := by decide +kernel
theorem d_Mo_commentEnd_57 : decode b_Mo_commentEnd 57 = .ok (.bipush 62, 2) := by decide +kernel
theorem d_Mo_commentEnd_59 : decode b_Mo_commentEnd 59 = .ok (.if_icmp .eq 27, 3) := by decide +kernel
theorem d_Mo_commentEnd_62 : decode b_Mo_commentEnd 62 = .ok (.aload_n 0, 1) := by decide +kernel
theorem d_Mo_commentEnd_63 : decode b_Mo_commentEnd 63 = .ok (.iload_n 2, 1) := by decide +kernel
theorem d_Mo_commentEnd_64 : decode b_Mo_commentEnd 64 = .ok (.iconst 2, 1) := by decide +kernel
theorem d_Mo_commentEnd_65 : decode b_Mo_commentEnd 65 = .ok (.iadd, 1) := by decide +kernel
theorem d_Mo_commentEnd_66 : decode b_Mo_commentEnd 66 = .ok (.invokevirtual 196, 3) := by decide +kernel
theorem d_Mo_commentEnd_69 : decode b_Mo_commentEnd 69 = .ok (.bipush 33, 2) := by decide +kernel
theorem d_Mo_commentEnd_71 : decode b_Mo_commentEnd 71 = .ok (.if_icmp .ne 19, 3) := by decide +kernel
theorem d_Mo_commentEnd_74 : decode b_Mo_commentEnd 74 = .ok (.aload_n 0, 1) := by decide +kernel
theorem d_Mo_commentEnd_75 : decode b_Mo_commentEnd 75 = .ok (.iload_n 2, 1) := by decide +kernel
theorem d_Mo_commentEnd_76 : decode b_Mo_commentEnd 76 = .ok (.iconst 3, 1) := by decide +kernel
theorem d_Mo_commentEnd_77 : decode b_Mo_commentEnd 77 = .ok (.iadd, 1) := by decide +kernel
theorem d_Mo_commentEnd_78 : decode b_Mo_commentEnd 78 = .ok (.invokevirtual 196, 3) := by decide +kernel
theorem d_Mo_commentEnd_81 : decode b_Mo_commentEnd 81 = .ok (.bipush 62, 2) := by decide +kernel
theorem d_Mo_commentEnd_83 : decode b_Mo_commentEnd 83 = .ok (.if_icmp .ne 7, 3) := by decide +kernel
theorem d_Mo_commentEnd_86 : decode b_Mo_commentEnd 86 = .ok (.iconst 1, 1) := by decide +kernel
theorem d_Mo_commentEnd_87 : decode b_Mo_commentEnd 87 = .ok (.goto 4, 3) := by decide +kernel
theorem d_Mo_commentEnd_90 : decode b_Mo_commentEnd 90 = .ok (.iconst 0, 1) := by decide +kernel
theorem d_Mo_commentEnd_91 : decode b_Mo_commentEnd 91 = .ok (.istore_n 3, 1) := by decide +kernel
theorem d_Mo_commentEnd_92 : decode b_Mo_commentEnd 92 = .ok (.iload_n 3, 1) := by decide +kernel
theorem d_Mo_commentEnd_93 : decode b_Mo_commentEnd 93 = .ok (.ifCond .eq 7, 3) := by decide +kernel
theorem d_Mo_commentEnd_96 : decode b_Mo_commentEnd 96 = .ok (.iload_n 2, 1) := by decide +kernel
theorem d_Mo_commentEnd_97 : decode b_Mo_commentEnd 97 = .ok (.goto 6, 3) := by decide +kernel
theorem d_Mo_commentEnd_100 : decode b_Mo_commentEnd 100 = .ok (.iload_n 2, 1) := by decide +kernel
theorem d_Mo_commentEnd_101 : decode b_Mo_commentEnd 101 = .ok (.iconst 1, 1) := by decide +kernel
theorem d_Mo_commentEnd_102 : decode b_Mo_commentEnd 102 = .ok (.iadd, 1) := by decide +kernel
theorem d_Mo_commentEnd_103 : decode b_Mo_commentEnd 103 = .ok (.istore_n 2, 1) := by decide +kernel
theorem d_Mo_commentEnd_104 : decode b_Mo_commentEnd 104 = .ok (.goto (-100), 3) := by decide +kernel
theorem d_Mo_commentEnd_107 : decode b_Mo_commentEnd 107 = .ok (.iload_n 2, 1) := by decide +kernel
theorem d_Mo_commentEnd_108 : decode b_Mo_commentEnd 108 = .ok (.ireturn, 1) := by decide +kernel
theorem d_Mo_comment_0 : decode b_Mo_comment 0 = .ok (.aload_n 0, 1) := by decide +kernel
theorem d_Mo_comment_1 : decode b_Mo_comment 1 = .ok (.getfield 193, 3) := by decide +kernel
theorem d_Mo_comment_4 : decode b_Mo_comment 4 = .ok (.istore_n 1, 1) := by decide +kernel
theorem d_Mo_comment_5 : decode b_Mo_comment 5 = .ok (.aload_n 0, 1) := by decide +kernel
theorem d_Mo_comment_6 : decode b_Mo_comment 6 = .ok (.aload_n 0, 1) := by decide +kernel
theorem d_Mo_comment_7 : decode b_Mo_comment 7 = .ok (.getfield 193, 3) := by decide +kernel
theorem d_Mo_comment_10 : decode b_Mo_comment 10 = .ok (.invokevirtual 196, 3) := by decide +kernel
theorem d_Mo_comment_13 : decode b_Mo_comment 13 = .ok (.bipush 62, 2) := by decide +kernel
theorem d_Mo_comment_15 : decode b_Mo_comment 15 = .ok (.if_icmp .ne 7, 3) := by decide +kernel
theorem d_Mo_comment_18 : decode b_Mo_comment 18 = .ok (.iconst 1, 1) := by decide +kernel
theorem d_Mo_comment_19 : decode b_Mo_comment 19 = .ok (.goto 4, 3) := by decide +kernel
theorem d_Mo_comment_22 : decode b_Mo_comment 22 = .ok (.iconst 0, 1) := by decide +kernel
theorem d_Mo_comment_23 : decode b_Mo_comment 23 = .ok (.istore_n 2, 1) := by decide +kernel
theorem d_Mo_comment_24 : decode b_Mo_comment 24 = .ok (.iload_n 2, 1) := by decide +kernel
theorem d_Mo_comment_25 : decode b_Mo_comment 25 = .ok (.ifCond .ne 31, 3) := by decide +kernel
theorem d_Mo_comment_28 : decode b_Mo_comment 28 = .ok (.aload_n 0, 1) := by decide +kernel
theorem d_Mo_comment_29 : decode b_Mo_comment 29 = .ok (.aload_n 0, 1) := by decide +kernel
theorem d_Mo_comment_30 : decode b_Mo_comment 30 = .ok (.getfield 193, 3) := by decide +kernel
theorem d_Mo_comment_33 : decode b_Mo_comment 33 = .ok (.invokevirtual 196, 3) := by decide +kernel
theorem d_Mo_comment_36 : decode b_Mo_comment 36 = .ok (.bipush 45, 2) := by decide +kernel
theorem d_Mo_comment_38 : decode b_Mo_comment 38 = .ok (.if_icmp .ne 64, 3) := by decide +kernel
theorem d_Mo_comment_41 : decode b_Mo_comment 41 = .ok (.aload_n 0, 1) := by decide +kernel
theorem d_Mo_comment_42 : decode b_Mo_comment 42 = .ok (.aload_n 0, 1) := by decide +kernel
theorem d_Mo_comment_43 : decode b_Mo_comment 43 = .ok (.getfield 193, 3) := by decide +kernel
theorem d_Mo_comment_46 : decode b_Mo_comment 46 = .ok (.iconst 1, 1) := by decide +kernel
theorem d_Mo_comment_47 : decode b_Mo_comment 47 = .ok (.iadd, 1) := by decide +kernel
theorem d_Mo_comment_48 : decode b_Mo_comment 48 = .ok (.invokevirtual 196, 3) := by decide +kernel
theorem d_Mo_comment_51 : decode b_Mo_comment 51 = .ok (.bipush 62, 2) := by decide +kernel
theorem d_Mo_comment_53 : decode b_Mo_comment 53 = .ok (.if_icmp .ne 49, 3) := by decide +kernel
theorem d_Mo_comment_56 : decode b_Mo_comment 56 = .ok (.aload_n 0, 1) := by decide +kernel
theorem d_Mo_comment_57 : decode b_Mo_comment 57 = .ok (.iload_n 2, 1) := by decide +kernel
theorem d_Mo_comment_58 : decode b_Mo_comment 58 = .ok (.ifCond .eq 10, 3) := by decide +kernel
theorem d_Mo_comment_61 : decode b_Mo_comment 61 = .ok (.aload_n 0, 1) := by decide +kernel
theorem d_Mo_comment_62 : decode b_Mo_comment 62 = .ok (.getfield 193, 3) := by decide +kernel
theorem d_Mo_comment_65 : decode b_Mo_comment 65 = .ok (.goto 9, 3) := by decide +kernel
theorem d_Mo_comment_68 : decode b_Mo_comment 68 = .ok (.aload_n 0, 1) := by decide +kernel
theorem d_Mo_comment_69 : decode b_Mo_comment 69 = .ok (.getfield 193, 3) := by decide +kernel
theorem d_Mo_comment_72 : decode b_Mo_comment 72 = .ok (.iconst 1, 1) := by decide +kernel
theorem d_Mo_comment_73 : decode b_Mo_comment 73 = .ok (.iadd, 1) := by decide +kernel
theorem d_Mo_comment_74 : decode b_Mo_comment 74 = .ok (.putfield 193, 3) := by decide +kernel
theorem d_Mo_comment_77 : decode b_Mo_comment 77 = .ok (.aload_n 0, 1) := by decide +kernel
theorem d_Mo_comment_78 : decode b_Mo_comment 78 = .ok (.bipush 17, 2) := by decide +kernel
theorem d_Mo_comment_80 : decode b_Mo_comment 80 = .ok (.aload_n 0, 1) := by decide +kernel
theorem d_Mo_comment_81 : decode b_Mo_comment 81 = .ok (.getfield 193, 3) := by decide +kernel
theorem d_Mo_comment_84 : decode b_Mo_comment 84 = .ok (.invokevirtual 209, 3) := by decide +kernel
theorem d_Mo_comment_87 : decode b_Mo_comment 87 = .ok (.aload_n 0, 1) := by decide +kernel
theorem d_Mo_comment_88 : decode b_Mo_comment 88 = .ok (.dup, 1) := by decide +kernel
theorem d_Mo_comment_89 : decode b_Mo_comment 89 = .ok (.getfield 193, 3) := by decide +kernel
theorem d_Mo_comment_92 : decode b_Mo_comment 92 = .ok (.iconst 1, 1) := by decide +kernel
theorem d_Mo_comment_93 : decode b_Mo_comment 93 = .ok (.iadd, 1) := by decide +kernel
theorem d_Mo_comment_94 : decode b_Mo_comment 94 = .ok (.putfield 193, 3) := by decide +kernel
theorem d_Mo_comment_97 : decode b_Mo_comment 97 = .ok (.aload_n 0, 1) := by decide +kernel
theorem d_Mo_comment_98 : decode b_Mo_comment 98 = .ok (.invokevirtual 310, 3) := by decide +kernel
theorem d_Mo_comment_101 : decode b_Mo_comment 101 = .ok (.return_, 1) := by decide +kernel
theorem d_Mo_comment_102 : decode b_Mo_comment 102 = .ok (.aload_n 0, 1) := by decide +kernel
theorem d_Mo_comment_103 : decode b_Mo_comment 103 = .ok (.iload_n 1, 1) := by decide +kernel
theorem d_Mo_comment_104 : decode b_Mo_comment 104 = .ok (.invokevirtual 313, 3) := by decide +kernel
theorem d_Mo_comment_107 : decode b_Mo_comment 107 = .ok (.istore_n 3, 1) := by decide +kernel
theorem d_Mo_comment_108 : decode b_Mo_comment 108 = .ok (.iload_n 3, 1) := by decide +kernel
theorem d_Mo_comment_109 : decode b_Mo_comment 109 = .ok (.istore 4, 2) := by decide +kernel
theorem d_Mo_comment_111 : decode b_Mo_comment 111 = .ok (.iload_n 3, 1) := by decide +kernel
theorem d_Mo_comment_112 : decode b_Mo_comment 112 = .ok (.aload_n 0, 1) := by decide +kernel
theorem d_Mo_comment_113 : decode b_Mo_comment 113 = .ok (.getfield 186, 3) := by decide +kernel
theorem d_Mo_comment_116 : decode b_Mo_comment 116 = .ok (.if_icmp .ne 10, 3) := by decide +kernel
theorem d_Mo_comment_119 : decode b_Mo_comment 119 = .ok (.aload_n 0, 1) := by decide +kernel
theorem d_Mo_comment_120 : decode b_Mo_comment 120 = .ok (.getfield 186, 3) := by decide +kernel
theorem d_Mo_comment_123 : decode b_Mo_comment 123 = .ok (.goto 24, 3) := by decide +kernel
theorem d_Mo_comment_126 : decode b_Mo_comment 126 = .ok (.aload_n 0, 1) := by decide +kernel
theorem d_Mo_comment_127 : decode b_Mo_comment 127 = .ok (.iload_n 3, 1) := by decide +kernel
theorem d_Mo_comment_128 : decode b_Mo_comment 128 = .ok (.iconst 2, 1) := by decide +kernel
theorem d_Mo_comment_129 : decode b_Mo_comment 129 = .ok (.iadd, 1) := by decide +kernel
theorem d_Mo_comment_130 : decode b_Mo_comment 130 = .ok (.invokevirtual 196, 3) := by decide +kernel
theorem d_Mo_comment_133 : decode b_Mo_comment 133 = .ok (.bipush 62, 2) := by decide +kernel
theorem d_Mo_comment_135 : decode b_Mo_comment 135 = .ok (.if_icmp .ne 9, 3) := by decide +kernel
theorem d_Mo_comment_138 : decode b_Mo_comment 138 = .ok (.iload_n 3, 1) := by decide +kernel
theorem d_Mo_comment_139 : decode b_Mo_comment 139 = .ok (.iconst 2, 1) := by decide +kernel
theorem d_Mo_comment_140 : decode b_Mo_comment 140 = .ok (.iadd, 1) := by decide +kernel
theorem d_Mo_comment_141 : decode b_Mo_comment 141 = .ok (.goto 6, 3) := by decide +kernel
theorem d_Mo_comment_144 : decode b_Mo_comment 144 = .ok (.iload_n 3, 1) := by decide +kernel
theorem d_Mo_comment_145 : decode b_Mo_comment 145 = .ok (.iconst 3, 1) := by decide +kernel
theorem d_Mo_comment_146 : decode b_Mo_comment 146 = .ok (.iadd, 1) := by decide +kernel
theorem d_Mo_comment_147 : decode b_Mo_comment 147 = .ok (.istore 5, 2) := by decide +kernel
theorem d_Mo_comment_149 : decode b_Mo_comment 149 = .ok (.iload_n 3, 1) := by decide +kernel
theorem d_Mo_comment_150 : decode b_Mo_comment 150 = .ok (.aload_n 0, 1) := by decide +kernel
theorem d_Mo_comment_151 : decode b_Mo_comment 151 = .ok (.getfield 186, 3) := by decide +kernel
theorem d_Mo_comment_154 : decode b_Mo_comment 154 = .ok (.if_icmp .ne 191, 3) := by decide +kernel
theorem d_Mo_comment_157 : decode b_Mo_comment 157 = .ok (.aload_n 0, 1) := by decide +kernel
theorem d_Mo_comment_158 : decode b_Mo_comment 158 = .ok (.getfield 186, 3) := by decide +kernel
theorem d_Mo_comment_161 : decode b_Mo_comment 161 = .ok (.iload_n 1, 1) := by decide +kernel
theorem d_Mo_comment_162 : decode b_Mo_comment 162 = .ok (.isub, 1) := by decide +kernel
theorem d_Mo_comment_163 : decode b_Mo_comment 163 = .ok (.iconst 2, 1) := by decide +kernel
theorem d_Mo_comment_164 : decode b_Mo_comment 164 = .ok (.if_icmp .le 52, 3) := by decide +kernel
theorem d_Mo_comment_167 : decode b_Mo_comment 167 = .ok (.aload_n 0, 1) := by decide +kernel
theorem d_Mo_comment_168 : decode b_Mo_comment 168 = .ok (.aload_n 0, 1) := by decide +kernel
theorem d_Mo_comment_169 : decode b_Mo_comment 169 = .ok (.getfield 186, 3) := by decide +kernel
theorem d_Mo_comment_172 : decode b_Mo_comment 172 = .ok (.iconst 1, 1) := by decide +kernel
theorem d_Mo_comment_173 : decode b_Mo_comment 173 = .ok (.isub, 1) := by decide +kernel
theorem d_Mo_comment_174 : decode b_Mo_comment 174 = .ok (.invokevirtual 196, 3) := by decide +kernel
theorem d_Mo_comment_177 : decode b_Mo_comment 177 = .ok (.bipush 33, 2) := by decide +kernel
theorem d_Mo_comment_179 : decode b_Mo_comment 179 = .ok (.if_icmp .ne 37, 3) := by decide +kernel
theorem d_Mo_comment_182 : decode b_Mo_comment 182 = .ok (.aload_n 0, 1) := by decide +kernel
theorem d_Mo_comment_183 : decode b_Mo_comment 183 = .ok (.aload_n 0, 1) := by decide +kernel
theorem d_Mo_comment_184 : decode b_Mo_comment 184 = .ok (.getfield 186, 3) := by decide +kernel
theorem d_Mo_comment_187 : decode b_Mo_comment 187 = .ok (.iconst 2, 1) := by decide +kernel
theorem d_Mo_comment_188 : decode b_Mo_comment 188 = .ok (.isub, 1) := by decide +kernel
theorem d_Mo_comment_189 : decode b_Mo_comment 189 = .ok (.invokevirtual 196, 3) := by decide +kernel
theorem d_Mo_comment_192 : decode b_Mo_comment 192 = .ok (.bipush 45, 2) := by decide +kernel
theorem d_Mo_comment_194 : decode b_Mo_comment 194 = .ok (.if_icmp .ne 22, 3) := by decide +kernel
theorem d_Mo_comment_197 : decode b_Mo_comment 197 = .ok (.aload_n 0, 1) := by decide +kernel
theorem d_Mo_comment_198 : decode b_Mo_comment 198 = .ok (.aload_n 0, 1) := by decide +kernel
theorem d_Mo_comment_199 : decode b_Mo_comment 199 = .ok (.getfield 186, 3) := by decide +kernel
theorem d_Mo_comment_202 : decode b_Mo_comment 202 = .ok (.iconst 3, 1) := by decide +kernel
theorem d_Mo_comment_203 : decode b_Mo_comment 203 = .ok (.isub, 1) := by decide +kernel
theorem d_Mo_comment_204 : decode b_Mo_comment 204 = .ok (.invokevirtual 196, 3) := by decide +kernel
theorem d_Mo_comment_207 : decode b_Mo_comment 207 = .ok (.bipush 45, 2) := by decide +kernel
theorem d_Mo_comment_209 : decode b_Mo_comment 209 = .ok (.if_icmp .ne 7, 3) := by decide +kernel
theorem d_Mo_comment_212 : decode b_Mo_comment 212 = .ok (.iconst 1, 1) := by decide +kernel
theorem d_Mo_comment_213 : decode b_Mo_comment 213 = .ok (.goto 4, 3) := by decide +kernel
theorem d_Mo_comment_216 : decode b_Mo_comment 216 = .ok (.iconst 0, 1) := by decide +kernel
theorem d_Mo_comment_217 : decode b_Mo_comment 217 = .ok (.istore 6, 2) := by decide +kernel
theorem d_Mo_comment_219 : decode b_Mo_comment 219 = .ok (.aload_n 0, 1) := by decide +kernel
theorem d_Mo_comment_220 : decode b_Mo_comment 220 = .ok (.getfield 186, 3) := by decide +kernel
theorem d_Mo_comment_223 : decode b_Mo_comment 223 = .ok (.iload_n 1, 1) := by decide +kernel
theorem d_Mo_comment_224 : decode b_Mo_comment 224 = .ok (.isub, 1) := by decide +kernel
theorem d_Mo_comment_225 : decode b_Mo_comment 225 = .ok (.iconst 1, 1) := by decide +kernel
theorem d_Mo_comment_226 : decode b_Mo_comment 226 = .ok (.if_icmp .le 37, 3) := by decide +kernel
theorem d_Mo_comment_229 : decode b_Mo_comment 229 = .ok (.aload_n 0, 1) := by decide +kernel
theorem d_Mo_comment_230 : decode b_Mo_comment 230 = .ok (.aload_n 0, 1) := by decide +kernel
theorem d_Mo_comment_231 : decode b_Mo_comment 231 = .ok (.getfield 186, 3) := by decide +kernel
theorem d_Mo_comment_234 : decode b_Mo_comment 234 = .ok (.iconst 1, 1) := by decide +kernel
theorem d_Mo_comment_235 : decode b_Mo_comment 235 = .ok (.isub, 1) := by decide +kernel
theorem d_Mo_comment_236 : decode b_Mo_comment 236 = .ok (.invokevirtual 196, 3) := by decide +kernel
theorem d_Mo_comment_239 : decode b_Mo_comment 239 = .ok (.bipush 45, 2) := by decide +kernel
theorem d_Mo_comment_241 : decode b_Mo_comment 241 = .ok (.if_icmp .ne 22, 3) := by decide +kernel
theorem d_Mo_comment_244 : decode b_Mo_comment 244 = .ok (.aload_n 0, 1) := by decide +kernel
theorem d_Mo_comment_245 : decode b_Mo_comment 245 = .ok (.aload_n 0, 1) := by decide +kernel
theorem d_Mo_comment_246 : decode b_Mo_comment 246 = .ok (.getfield 186, 3) := by decide +kernel
theorem d_Mo_comment_249 : decode b_Mo_comment 249 = .ok (.iconst 2, 1) := by decide +kernel
theorem d_Mo_comment_250 : decode b_Mo_comment 250 = .ok (.isub, 1) := by decide +kernel
theorem d_Mo_comment_251 : decode b_Mo_comment 251 = .ok (.invokevirtual 196, 3) := by decide +kernel
theorem d_Mo_comment_254 : decode b_Mo_comment 254 = .ok (.bipush 45, 2) := by decide +kernel
theorem d_Mo_comment_256 : decode b_Mo_comment 256 = .ok (.if_icmp .ne 7, 3) := by decide +kernel
theorem d_Mo_comment_259 : decode b_Mo_comment 259 = .ok (.iconst 1, 1) := by decide +kernel
theorem d_Mo_comment_260 : decode b_Mo_comment 260 = .ok (.goto 4, 3) := by decide +kernel
theorem d_Mo_comment_263 : decode b_Mo_comment 263 = .ok (.iconst 0, 1) := by decide +kernel
theorem d_Mo_comment_264 : decode b_Mo_comment 264 = .ok (.istore 7, 2) := by decide +kernel
theorem d_Mo_comment_266 : decode b_Mo_comment 266 = .ok (.aload_n 0, 1) := by decide +kernel
theorem d_Mo_comment_267 : decode b_Mo_comment 267 = .ok (.getfield 186, 3) := by decide +kernel
theorem d_Mo_comment_270 : decode b_Mo_comment 270 = .ok (.iload_n 1, 1) := by decide +kernel
theorem d_Mo_comment_271 : decode b_Mo_comment 271 = .ok (.isub, 1) := by decide +kernel
theorem d_Mo_comment_272 : decode b_Mo_comment 272 = .ok (.ifCond .le 22, 3) := by decide +kernel
theorem d_Mo_comment_275 : decode b_Mo_comment 275 = .ok (.aload_n 0, 1) := by decide +kernel
theorem d_Mo_comment_276 : decode b_Mo_comment 276 = .ok (.aload_n 0, 1) := by decide +kernel
theorem d_Mo_comment_277 : decode b_Mo_comment 277 = .ok (.getfield 186, 3) := by decide +kernel
theorem d_Mo_comment_280 : decode b_Mo_comment 280 = .ok (.iconst 1, 1) := by decide +kernel
theorem d_Mo_comment_281 : decode b_Mo_comment 281 = .ok (.isub, 1) := by decide +kernel
theorem d_Mo_comment_282 : decode b_Mo_comment 282 = .ok (.invokevirtual 196, 3) := by decide +kernel
theorem d_Mo_comment_285 : decode b_Mo_comment 285 = .ok (.bipush 45, 2) := by decide +kernel
theorem d_Mo_comment_287 : decode b_Mo_comment 287 = .ok (.if_icmp .ne 7, 3) := by decide +kernel
theorem d_Mo_comment_290 : decode b_Mo_comment 290 = .ok (.iconst 1, 1) := by decide +kernel
theorem d_Mo_comment_291 : decode b_Mo_comment 291 = .ok (.goto 4, 3) := by decide +kernel
theorem d_Mo_comment_294 : decode b_Mo_comment 294 = .ok (.iconst 0, 1) := by decide +kernel
theorem d_Mo_comment_295 : decode b_Mo_comment 295 = .ok (.istore 8, 2) := by decide +kernel
theorem d_Mo_comment_297 : decode b_Mo_comment 297 = .ok (.iload 6, 2) := by decide +kernel
theorem d_Mo_comment_299 : decode b_Mo_comment 299 = .ok (.ifCond .eq 12, 3) := by decide +kernel
theorem d_Mo_comment_302 : decode b_Mo_comment 302 = .ok (.aload_n 0, 1) := by decide +kernel
theorem d_Mo_comment_303 : decode b_Mo_comment 303 = .ok (.getfield 186, 3) := by decide +kernel
theorem d_Mo_comment_306 : decode b_Mo_comment 306 = .ok (.iconst 3, 1) := by decide +kernel
theorem d_Mo_comment_307 : decode b_Mo_comment 307 = .ok (.isub, 1) := by decide +kernel
theorem d_Mo_comment_308 : decode b_Mo_comment 308 = .ok (.goto 35, 3) := by decide +kernel
theorem d_Mo_comment_311 : decode b_Mo_comment 311 = .ok (.iload 7, 2) := by decide +kernel
theorem d_Mo_comment_313 : decode b_Mo_comment 313 = .ok (.ifCond .eq 12, 3) := by decide +kernel
theorem d_Mo_comment_316 : decode b_Mo_comment 316 = .ok (.aload_n 0, 1) := by decide +kernel
theorem d_Mo_comment_317 : decode b_Mo_comment 317 = .ok (.getfield 186, 3) := by decide +kernel
theorem d_Mo_comment_320 : decode b_Mo_comment 320 = .ok (.iconst 2, 1) := by decide +kernel
theorem d_Mo_comment_321 : decode b_Mo_comment 321 = .ok (.isub, 1) := by decide +kernel
theorem d_Mo_comment_322 : decode b_Mo_comment 322 = .ok (.goto 21, 3) := by decide +kernel
theorem d_Mo_comment_325 : decode b_Mo_comment 325 = .ok (.iload 8, 2) := by decide +kernel
theorem d_Mo_comment_327 : decode b_Mo_comment 327 = .ok (.ifCond .eq 12, 3) := by decide +kernel
theorem d_Mo_comment_330 : decode b_Mo_comment 330 = .ok (.aload_n 0, 1) := by decide +kernel
theorem d_Mo_comment_331 : decode b_Mo_comment 331 = .ok (.getfield 186, 3) := by decide +kernel
theorem d_Mo_comment_334 : decode b_Mo_comment 334 = .ok (.iconst 1, 1) := by decide +kernel
theorem d_Mo_comment_335 : decode b_Mo_comment 335 = .ok (.isub, 1) := by decide +kernel
theorem d_Mo_comment_336 : decode b_Mo_comment 336 = .ok (.goto 7, 3) := by decide +kernel
theorem d_Mo_comment_339 : decode b_Mo_comment 339 = .ok (.aload_n 0, 1) := by decide +kernel
theorem d_Mo_comment_340 : decode b_Mo_comment 340 = .ok (.getfield 186, 3) := by decide +kernel
theorem d_Mo_comment_343 : decode b_Mo_comment 343 = .ok (.istore 4, 2) := by decide +kernel
theorem d_Mo_comment_345 : decode b_Mo_comment 345 = .ok (.iload_n 1, 1) := by decide +kernel
theorem d_Mo_comment_346 : decode b_Mo_comment 346 = .ok (.istore 6, 2) := by decide +kernel
theorem d_Mo_comment_348 : decode b_Mo_comment 348 = .ok (.iload 6, 2) := by decide +kernel
theorem d_Mo_comment_350 : decode b_Mo_comment 350 = .ok (.iload 5, 2) := by decide +kernel
theorem d_Mo_comment_352 : decode b_Mo_comment 352 = .ok (.if_icmp .ge 147, 3) := by decide +kernel
theorem d_Mo_comment_355 : decode b_Mo_comment 355 = .ok (.iload 6, 2) := by decide +kernel
theorem d_Mo_comment_357 : decode b_Mo_comment 357 = .ok (.iconst 4, 1) := by decide +kernel
theorem d_Mo_comment_358 : decode b_Mo_comment 358 = .ok (.isub, 1) := by decide +kernel
theorem d_Mo_comment_359 : decode b_Mo_comment 359 = .ok (.iload_n 1, 1) := by decide +kernel
theorem d_Mo_comment_360 : decode b_Mo_comment 360 = .ok (.if_icmp .lt 59, 3) := by decide +kernel
theorem d_Mo_comment_363 : decode b_Mo_comment 363 = .ok (.aload_n 0, 1) := by decide +kernel
theorem d_Mo_comment_364 : decode b_Mo_comment 364 = .ok (.iload 6, 2) := by decide +kernel
theorem d_Mo_comment_366 : decode b_Mo_comment 366 = .ok (.iconst 4, 1) := by decide +kernel
theorem d_Mo_comment_367 : decode b_Mo_comment 367 = .ok (.isub, 1) := by decide +kernel
theorem d_Mo_comment_368 : decode b_Mo_comment 368 = .ok (.invokevirtual 196, 3) := by decide +kernel
theorem d_Mo_comment_371 : decode b_Mo_comment 371 = .ok (.bipush 60, 2) := by decide +kernel
theorem d_Mo_comment_373 : decode b_Mo_comment 373 = .ok (.if_icmp .ne 46, 3) := by decide +kernel
theorem d_Mo_comment_376 : decode b_Mo_comment 376 = .ok (.aload_n 0, 1) := by decide +kernel
theorem d_Mo_comment_377 : decode b_Mo_comment 377 = .ok (.iload 6, 2) := by decide +kernel
theorem d_Mo_comment_379 : decode b_Mo_comment 379 = .ok (.iconst 3, 1) := by decide +kernel
theorem d_Mo_comment_380 : decode b_Mo_comment 380 = .ok (.isub, 1) := by decide +kernel
theorem d_Mo_comment_381 : decode b_Mo_comment 381 = .ok (.invokevirtual 196, 3) := by decide +kernel
theorem d_Mo_comment_384 : decode b_Mo_comment 384 = .ok (.bipush 33, 2) := by decide +kernel
theorem d_Mo_comment_386 : decode b_Mo_comment 386 = .ok (.if_icmp .ne 33, 3) := by decide +kernel
theorem d_Mo_comment_389 : decode b_Mo_comment 389 = .ok (.aload_n 0, 1) := by decide +kernel
theorem d_Mo_comment_390 : decode b_Mo_comment 390 = .ok (.iload 6, 2) := by decide +kernel
theorem d_Mo_comment_392 : decode b_Mo_comment 392 = .ok (.iconst 2, 1) := by decide +kernel
theorem d_Mo_comment_393 : decode b_Mo_comment 393 = .ok (.isub, 1) := by decide +kernel
theorem d_Mo_comment_394 : decode b_Mo_comment 394 = .ok (.invokevirtual 196, 3) := by decide +kernel
theorem d_Mo_comment_397 : decode b_Mo_comment 397 = .ok (.bipush 45, 2) := by decide +kernel
theorem d_Mo_comment_399 : decode b_Mo_comment 399 = .ok (.if_icmp .ne 20, 3) := by decide +kernel
theorem d_Mo_comment_402 : decode b_Mo_comment 402 = .ok (.aload_n 0, 1) := by decide +kernel
theorem d_Mo_comment_403 : decode b_Mo_comment 403 = .ok (.iload 6, 2) := by decide +kernel
theorem d_Mo_comment_405 : decode b_Mo_comment 405 = .ok (.iconst 1, 1) := by decide +kernel
theorem d_Mo_comment_406 : decode b_Mo_comment 406 = .ok (.isub, 1) := by decide +kernel
theorem d_Mo_comment_407 : decode b_Mo_comment 407 = .ok (.invokevirtual 196, 3) := by decide +kernel
theorem d_Mo_comment_410 : decode b_Mo_comment 410 = .ok (.bipush 45, 2) := by decide +kernel
theorem d_Mo_comment_412 : decode b_Mo_comment 412 = .ok (.if_icmp .ne 7, 3) := by decide +kernel
theorem d_Mo_comment_415 : decode b_Mo_comment 415 = .ok (.iconst 1, 1) := by decide +kernel
theorem d_Mo_comment_416 : decode b_Mo_comment 416 = .ok (.goto 4, 3) := by decide +kernel
theorem d_Mo_comment_419 : decode b_Mo_comment 419 = .ok (.iconst 0, 1) := by decide +kernel
theorem d_Mo_comment_420 : decode b_Mo_comment 420 = .ok (.istore 7, 2) := by decide +kernel
theorem d_Mo_comment_422 : decode b_Mo_comment 422 = .ok (.iload 7, 2) := by decide +kernel
theorem d_Mo_comment_424 : decode b_Mo_comment 424 = .ok (.ifCond .eq 22, 3) := by decide +kernel
theorem d_Mo_comment_427 : decode b_Mo_comment 427 = .ok (.aload_n 0, 1) := by decide +kernel
theorem d_Mo_comment_428 : decode b_Mo_comment 428 = .ok (.iload 6, 2) := by decide +kernel
theorem d_Mo_comment_430 : decode b_Mo_comment 430 = .ok (.invokevirtual 196, 3) := by decide +kernel
theorem d_Mo_comment_433 : decode b_Mo_comment 433 = .ok (.bipush 62, 2) := by decide +kernel
theorem d_Mo_comment_435 : decode b_Mo_comment 435 = .ok (.if_icmp .eq 11, 3) := by decide +kernel
theorem d_Mo_comment_438 : decode b_Mo_comment 438 = .ok (.aload_n 0, 1) := by decide +kernel
theorem d_Mo_comment_439 : decode b_Mo_comment 439 = .ok (.bipush 19, 2) := by decide +kernel
theorem d_Mo_comment_441 : decode b_Mo_comment 441 = .ok (.iload 6, 2) := by decide +kernel
theorem d_Mo_comment_443 : decode b_Mo_comment 443 = .ok (.invokevirtual 209, 3) := by decide +kernel
theorem d_Mo_comment_446 : decode b_Mo_comment 446 = .ok (.aload_n 0, 1) := by decide +kernel
theorem d_Mo_comment_447 : decode b_Mo_comment 447 = .ok (.iload 6, 2) := by decide +kernel
theorem d_Mo_comment_449 : decode b_Mo_comment 449 = .ok (.invokevirtual 196, 3) := by decide +kernel
theorem d_Mo_comment_452 : decode b_Mo_comment 452 = .ok (.ifCond .ne 10, 3) := by decide +kernel
theorem d_Mo_comment_455 : decode b_Mo_comment 455 = .ok (.aload_n 0, 1) := by decide +kernel
theorem d_Mo_comment_456 : decode b_Mo_comment 456 = .ok (.iconst 1, 1) := by decide +kernel
theorem d_Mo_comment_457 : decode b_Mo_comment 457 = .ok (.iload 6, 2) := by decide +kernel
theorem d_Mo_comment_459 : decode b_Mo_comment 459 = .ok (.invokevirtual 209, 3) := by decide +kernel
theorem d_Mo_comment_462 : decode b_Mo_comment 462 = .ok (.iload 6, 2) := by decide +kernel
theorem d_Mo_comment_464 : decode b_Mo_comment 464 = .ok (.iload 4, 2) := by decide +kernel
theorem d_Mo_comment_466 : decode b_Mo_comment 466 = .ok (.if_icmp .ge 27, 3) := by decide +kernel
theorem d_Mo_comment_469 : decode b_Mo_comment 469 = .ok (.aload_n 0, 1) := by decide +kernel
theorem d_Mo_comment_470 : decode b_Mo_comment 470 = .ok (.aload_n 0, 1) := by decide +kernel
theorem d_Mo_comment_471 : decode b_Mo_comment 471 = .ok (.iload 6, 2) := by decide +kernel
theorem d_Mo_comment_473 : decode b_Mo_comment 473 = .ok (.invokevirtual 196, 3) := by decide +kernel
theorem d_Mo_comment_476 : decode b_Mo_comment 476 = .ok (.ifCond .ne 8, 3) := by decide +kernel
theorem d_Mo_comment_479 : decode b_Mo_comment 479 = .ok (.ldc 213, 2) := by decide +kernel
theorem d_Mo_comment_481 : decode b_Mo_comment 481 = .ok (.goto 9, 3) := by decide +kernel
theorem d_Mo_comment_484 : decode b_Mo_comment 484 = .ok (.aload_n 0, 1) := by decide +kernel
theorem d_Mo_comment_485 : decode b_Mo_comment 485 = .ok (.iload 6, 2) := by decide +kernel
theorem d_Mo_comment_487 : decode b_Mo_comment 487 = .ok (.invokevirtual 196, 3) := by decide +kernel
theorem d_Mo_comment_490 : decode b_Mo_comment 490 = .ok (.invokevirtual 220, 3) := by decide +kernel
theorem d_Mo_comment_493 : decode b_Mo_comment 493 = .ok (.iinc 6 1, 3) := by decide +kernel
theorem d_Mo_comment_496 : decode b_Mo_comment 496 = .ok (.goto (-148), 3) := by decide +kernel
theorem d_Mo_comment_499 : decode b_Mo_comment 499 = .ok (.iload_n 3, 1) := by decide +kernel
theorem d_Mo_comment_500 : decode b_Mo_comment 500 = .ok (.aload_n 0, 1) := by decide +kernel
theorem d_Mo_comment_501 : decode b_Mo_comment 501 = .ok (.getfield 186, 3) := by decide +kernel
theorem d_Mo_comment_504 : decode b_Mo_comment 504 = .ok (.if_icmp .ne 21, 3) := by decide +kernel
theorem d_Mo_comment_507 : decode b_Mo_comment 507 = .ok (.aload_n 0, 1) := by decide +kernel
theorem d_Mo_comment_508 : decode b_Mo_comment 508 = .ok (.bipush 18, 2) := by decide +kernel
theorem d_Mo_comment_510 : decode b_Mo_comment 510 = .ok (.aload_n 0, 1) := by decide +kernel
theorem d_Mo_comment_511 : decode b_Mo_comment 511 = .ok (.getfield 186, 3) := by decide +kernel
theorem d_Mo_comment_514 : decode b_Mo_comment 514 = .ok (.invokevirtual 209, 3) := by decide +kernel
theorem d_Mo_comment_517 : decode b_Mo_comment 517 = .ok (.aload_n 0, 1) := by decide +kernel
theorem d_Mo_comment_518 : decode b_Mo_comment 518 = .ok (.iconst 1, 1) := by decide +kernel
theorem d_Mo_comment_519 : decode b_Mo_comment 519 = .ok (.putfield 236, 3) := by decide +kernel
theorem d_Mo_comment_522 : decode b_Mo_comment 522 = .ok (.goto 19, 3) := by decide +kernel
theorem d_Mo_comment_525 : decode b_Mo_comment 525 = .ok (.iload 5, 2) := by decide +kernel
theorem d_Mo_comment_527 : decode b_Mo_comment 527 = .ok (.iload_n 3, 1) := by decide +kernel
theorem d_Mo_comment_528 : decode b_Mo_comment 528 = .ok (.iconst 3, 1) := by decide +kernel
theorem d_Mo_comment_529 : decode b_Mo_comment 529 = .ok (.iadd, 1) := by decide +kernel
theorem d_Mo_comment_530 : decode b_Mo_comment 530 = .ok (.if_icmp .ne 11, 3) := by decide +kernel
theorem d_Mo_comment_533 : decode b_Mo_comment 533 = .ok (.aload_n 0, 1) := by decide +kernel
theorem d_Mo_comment_534 : decode b_Mo_comment 534 = .ok (.bipush 20, 2) := by decide +kernel
theorem d_Mo_comment_536 : decode b_Mo_comment 536 = .ok (.iload 5, 2) := by decide +kernel
theorem d_Mo_comment_538 : decode b_Mo_comment 538 = .ok (.invokevirtual 209, 3) := by decide +kernel
theorem d_Mo_comment_541 : decode b_Mo_comment 541 = .ok (.aload_n 0, 1) := by decide +kernel
theorem d_Mo_comment_542 : decode b_Mo_comment 542 = .ok (.iload 5, 2) := by decide +kernel
theorem d_Mo_comment_544 : decode b_Mo_comment 544 = .ok (.iconst 1, 1) := by decide +kernel
theorem d_Mo_comment_545 : decode b_Mo_comment 545 = .ok (.iadd, 1) := by decide +kernel
theorem d_Mo_comment_546 : decode b_Mo_comment 546 = .ok (.putfield 193, 3) := by decide +kernel
theorem d_Mo_comment_549 : decode b_Mo_comment 549 = .ok (.aload_n 0, 1) := by decide +kernel
theorem d_Mo_comment_550 : decode b_Mo_comment 550 = .ok (.invokevirtual 310, 3) := by decide +kernel
theorem d_Mo_comment_553 : decode b_Mo_comment 553 = .ok (.return_, 1) := by decide +kernel
theorem d_Mo_isDoctype_0 : decode b_Mo_isDoctype 0 = .ok (.iconst 1, 1) := by decide +kernel
theorem d_Mo_isDoctype_1 : decode b_Mo_isDoctype 1 = .ok (.istore_n 1, 1) := by decide +kernel
theorem d_Mo_isDoctype_2 : decode b_Mo_isDoctype 2 = .ok (.iconst 0, 1) := by decide +kernel
theorem d_Mo_isDoctype_3 : decode b_Mo_isDoctype 3 = .ok (.istore_n 2, 1) := by decide +kernel
theorem d_Mo_isDoctype_4 : decode b_Mo_isDoctype 4 = .ok (.iload_n 2, 1) := by decide +kernel
theorem d_Mo_isDoctype_5 : decode b_Mo_isDoctype 5 = .ok (.bipush 7, 2) := by decide +kernel
theorem d_Mo_isDoctype_7 : decode b_Mo_isDoctype 7 = .ok (.if_icmp .ge 48, 3) := by decide +kernel
theorem d_Mo_isDoctype_10 : decode b_Mo_isDoctype 10 = .ok (.iload_n 1, 1) := by decide +kernel
theorem d_Mo_isDoctype_11 : decode b_Mo_isDoctype 11 = .ok (.ifCond .eq 36, 3) := by decide +kernel
theorem d_Mo_isDoctype_14 : decode b_Mo_isDoctype 14 = .ok (.aload_n 0, 1) := by decide +kernel
theorem d_Mo_isDoctype_15 : decode b_Mo_isDoctype 15 = .ok (.aload_n 0, 1) := by decide +kernel
theorem d_Mo_isDoctype_16 : decode b_Mo_isDoctype 16 = .ok (.getfield 193, 3) := by decide +kernel
theorem d_Mo_isDoctype_19 : decode b_Mo_isDoctype 19 = .ok (.iload_n 2, 1) := by decide +kernel
theorem d_Mo_isDoctype_20 : decode b_Mo_isDoctype 20 = .ok (.iadd, 1) := by decide +kernel
theorem d_Mo_isDoctype_21 : decode b_Mo_isDoctype 21 = .ok (.invokevirtual 196, 3) := by decide +kernel
theorem d_Mo_isDoctype_24 : decode b_Mo_isDoctype 24 = .ok (.invokestatic 272, 3) := by decide +kernel
theorem d_Mo_isDoctype_27 : decode b_Mo_isDoctype 27 = .ok (.ldc2_w 297, 3) := by decide +kernel
theorem d_Mo_isDoctype_30 : decode b_Mo_isDoctype 30 = .ok (.bipush 8, 2) := by decide +kernel
theorem d_Mo_isDoctype_32 : decode b_Mo_isDoctype 32 = .ok (.iload_n 2, 1) := by decide +kernel
theorem d_Mo_isDoctype_33 : decode b_Mo_isDoctype 33 = .ok (.imul, 1) := by decide +kernel
theorem d_Mo_isDoctype_34 : decode b_Mo_isDoctype 34 = .ok (.lushr, 1) := by decide +kernel
theorem d_Mo_isDoctype_35 : decode b_Mo_isDoctype 35 = .ok (.ldc2_w 299, 3) := by decide +kernel
theorem d_Mo_isDoctype_38 : decode b_Mo_isDoctype 38 = .ok (.land, 1) := by decide +kernel
theorem d_Mo_isDoctype_39 : decode b_Mo_isDoctype 39 = .ok (.l2i, 1) := by decide +kernel
theorem d_Mo_isDoctype_40 : decode b_Mo_isDoctype 40 = .ok (.if_icmp .ne 7, 3) := by decide +kernel
theorem d_Mo_isDoctype_43 : decode b_Mo_isDoctype 43 = .ok (.iconst 1, 1) := by decide +kernel
theorem d_Mo_isDoctype_44 : decode b_Mo_isDoctype 44 = .ok (.goto 4, 3) := by decide +kernel
theorem d_Mo_isDoctype_47 : decode b_Mo_isDoctype 47 = .ok (.iconst 0, 1) := by decide +kernel
theorem d_Mo_isDoctype_48 : decode b_Mo_isDoctype 48 = .ok (.istore_n 1, 1) := by decide +kernel
theorem d_Mo_isDoctype_49 : decode b_Mo_isDoctype 49 = .ok (.iinc 2 1, 3) := by decide +kernel
theorem d_Mo_isDoctype_52 : decode b_Mo_isDoctype 52 = .ok (.goto (-48), 3) := by decide +kernel
theorem d_Mo_isDoctype_55 : decode b_Mo_isDoctype 55 = .ok (.iload_n 1, 1) := by decide +kernel
theorem d_Mo_isDoctype_56 : decode b_Mo_isDoctype 56 = .ok (.ireturn, 1) := by decide +kernel
theorem d_Mo_doctype_0 : decode b_Mo_doctype 0 = .ok (.aload_n 0, 1) := by decide +kernel
theorem d_Mo_doctype_1 : decode b_Mo_doctype 1 = .ok (.aload_n 0, 1) := by decide +kernel
theorem d_Mo_doctype_2 : decode b_Mo_doctype 2 = .ok (.getfield 193, 3) := by decide +kernel
theorem d_Mo_doctype_5 : decode b_Mo_doctype 5 = .ok (.invokevirtual 196, 3) := by decide +kernel
theorem d_Mo_doctype_8 : decode b_Mo_doctype 8 = .ok (.istore_n 1, 1) := by decide +kernel
theorem d_Mo_doctype_9 : decode b_Mo_doctype 9 = .ok (.iload_n 1, 1) := by decide +kernel
theorem d_Mo_doctype_10 : decode b_Mo_doctype 10 = .ok (.iconst (-1), 1) := by decide +kernel
theorem d_Mo_doctype_11 : decode b_Mo_doctype 11 = .ok (.if_icmp .eq 26, 3) := by decide +kernel
theorem d_Mo_doctype_14 : decode b_Mo_doctype 14 = .ok (.iload_n 1, 1) := by decide +kernel
theorem d_Mo_doctype_15 : decode b_Mo_doctype 15 = .ok (.bipush 62, 2) := by decide +kernel
theorem d_Mo_doctype_17 : decode b_Mo_doctype 17 = .ok (.if_icmp .eq 20, 3) := by decide +kernel
theorem d_Mo_doctype_20 : decode b_Mo_doctype 20 = .ok (.iload_n 1, 1) := by decide +kernel
theorem d_Mo_doctype_21 : decode b_Mo_doctype 21 = .ok (.invokestatic 200, 3) := by decide +kernel
theorem d_Mo_doctype_24 : decode b_Mo_doctype 24 = .ok (.ifCond .ne 13, 3) := by decide +kernel
theorem d_Mo_doctype_27 : decode b_Mo_doctype 27 = .ok (.aload_n 0, 1) := by decide +kernel
theorem d_Mo_doctype_28 : decode b_Mo_doctype 28 = .ok (.bipush 21, 2) := by decide +kernel
theorem d_Mo_doctype_30 : decode b_Mo_doctype 30 = .ok (.aload_n 0, 1) := by decide +kernel
theorem d_Mo_doctype_31 : decode b_Mo_doctype 31 = .ok (.getfield 193, 3) := by decide +kernel
theorem d_Mo_doctype_34 : decode b_Mo_doctype 34 = .ok (.invokevirtual 209, 3) := by decide +kernel
theorem d_Mo_doctype_37 : decode b_Mo_doctype 37 = .ok (.aload_n 0, 1) := by decide +kernel
theorem d_Mo_doctype_38 : decode b_Mo_doctype 38 = .ok (.invokevirtual 279, 3) := by decide +kernel
theorem d_Mo_doctype_41 : decode b_Mo_doctype 41 = .ok (.aload_n 0, 1) := by decide +kernel
theorem d_Mo_doctype_42 : decode b_Mo_doctype 42 = .ok (.aload_n 0, 1) := by decide +kernel
theorem d_Mo_doctype_43 : decode b_Mo_doctype 43 = .ok (.getfield 193, 3) := by decide +kernel
theorem d_Mo_doctype_46 : decode b_Mo_doctype 46 = .ok (.invokevirtual 196, 3) := by decide +kernel
theorem d_Mo_doctype_49 : decode b_Mo_doctype 49 = .ok (.istore_n 1, 1) := by decide +kernel
theorem d_Mo_doctype_50 : decode b_Mo_doctype 50 = .ok (.aload_n 0, 1) := by decide +kernel
theorem d_Mo_doctype_51 : decode b_Mo_doctype 51 = .ok (.iconst 4, 1) := by decide +kernel
theorem d_Mo_doctype_52 : decode b_Mo_doctype 52 = .ok (.invokevirtual 250, 3) := by decide +kernel
theorem d_Mo_doctype_55 : decode b_Mo_doctype 55 = .ok (.iload_n 1, 1) := by decide +kernel
theorem d_Mo_doctype_56 : decode b_Mo_doctype 56 = .ok (.iconst (-1), 1) := by decide +kernel
theorem d_Mo_doctype_57 : decode b_Mo_doctype 57 = .ok (.if_icmp .eq 9, 3) := by decide +kernel
theorem d_Mo_doctype_60 : decode b_Mo_doctype 60 = .ok (.iload_n 1, 1) := by decide +kernel
theorem d_Mo_doctype_61 : decode b_Mo_doctype 61 = .ok (.bipush 62, 2) := by decide +kernel
theorem d_Mo_doctype_63 : decode b_Mo_doctype 63 = .ok (.if_icmp .ne 62, 3) := by decide +kernel
theorem d_Mo_doctype_66 : decode b_Mo_doctype 66 = .ok (.aload_n 0, 1) := by decide +kernel
theorem d_Mo_doctype_67 : decode b_Mo_doctype 67 = .ok (.getfield 142, 3) := by decide +kernel
theorem d_Mo_doctype_70 : decode b_Mo_doctype 70 = .ok (.aload_n 0, 1) := by decide +kernel
theorem d_Mo_doctype_71 : decode b_Mo_doctype 71 = .ok (.getfield 227, 3) := by decide +kernel
theorem d_Mo_doctype_74 : decode b_Mo_doctype 74 = .ok (.iconst 1, 1) := by decide +kernel
theorem d_Mo_doctype_75 : decode b_Mo_doctype 75 = .ok (.bastore, 1) := by decide +kernel
theorem d_Mo_doctype_76 : decode b_Mo_doctype 76 = .ok (.aload_n 0, 1) := by decide +kernel
theorem d_Mo_doctype_77 : decode b_Mo_doctype 77 = .ok (.iload_n 1, 1) := by decide +kernel
theorem d_Mo_doctype_78 : decode b_Mo_doctype 78 = .ok (.iconst (-1), 1) := by decide +kernel
theorem d_Mo_doctype_79 : decode b_Mo_doctype 79 = .ok (.if_icmp .ne 8, 3) := by decide +kernel
theorem d_Mo_doctype_82 : decode b_Mo_doctype 82 = .ok (.bipush 23, 2) := by decide +kernel
theorem d_Mo_doctype_84 : decode b_Mo_doctype 84 = .ok (.goto 5, 3) := by decide +kernel
theorem d_Mo_doctype_87 : decode b_Mo_doctype 87 = .ok (.bipush 22, 2) := by decide +kernel
theorem d_Mo_doctype_89 : decode b_Mo_doctype 89 = .ok (.aload_n 0, 1) := by decide +kernel
theorem d_Mo_doctype_90 : decode b_Mo_doctype 90 = .ok (.getfield 193, 3) := by decide +kernel
theorem d_Mo_doctype_93 : decode b_Mo_doctype 93 = .ok (.invokevirtual 209, 3) := by decide +kernel
theorem d_Mo_doctype_96 : decode b_Mo_doctype 96 = .ok (.aload_n 0, 1) := by decide +kernel
theorem d_Mo_doctype_97 : decode b_Mo_doctype 97 = .ok (.iload_n 1, 1) := by decide +kernel
theorem d_Mo_doctype_98 : decode b_Mo_doctype 98 = .ok (.iconst (-1), 1) := by decide +kernel
theorem d_Mo_doctype_99 : decode b_Mo_doctype 99 = .ok (.if_icmp .ne 7, 3) := by decide +kernel
theorem d_Mo_doctype_102 : decode b_Mo_doctype 102 = .ok (.iconst 1, 1) := by decide +kernel
theorem d_Mo_doctype_103 : decode b_Mo_doctype 103 = .ok (.goto 4, 3) := by decide +kernel
theorem d_Mo_doctype_106 : decode b_Mo_doctype 106 = .ok (.iconst 0, 1) := by decide +kernel
theorem d_Mo_doctype_107 : decode b_Mo_doctype 107 = .ok (.putfield 236, 3) := by decide +kernel
theorem d_Mo_doctype_110 : decode b_Mo_doctype 110 = .ok (.aload_n 0, 1) := by decide +kernel
theorem d_Mo_doctype_111 : decode b_Mo_doctype 111 = .ok (.dup, 1) := by decide +kernel
theorem d_Mo_doctype_112 : decode b_Mo_doctype 112 = .ok (.getfield 193, 3) := by decide +kernel
theorem d_Mo_doctype_115 : decode b_Mo_doctype 115 = .ok (.iconst 1, 1) := by decide +kernel
theorem d_Mo_doctype_116 : decode b_Mo_doctype 116 = .ok (.iadd, 1) := by decide +kernel
theorem d_Mo_doctype_117 : decode b_Mo_doctype 117 = .ok (.putfield 193, 3) := by decide +kernel
theorem d_Mo_doctype_120 : decode b_Mo_doctype 120 = .ok (.aload_n 0, 1) := by decide +kernel
theorem d_Mo_doctype_121 : decode b_Mo_doctype 121 = .ok (.invokevirtual 310, 3) := by decide +kernel
theorem d_Mo_doctype_124 : decode b_Mo_doctype 124 = .ok (.return_, 1) := by decide +kernel
theorem d_Mo_doctype_125 : decode b_Mo_doctype 125 = .ok (.iload_n 1, 1) := by decide +kernel
theorem d_Mo_doctype_126 : decode b_Mo_doctype 126 = .ok (.iconst (-1), 1) := by decide +kernel
theorem d_Mo_doctype_127 : decode b_Mo_doctype 127 = .ok (.if_icmp .eq 39, 3) := by decide +kernel
theorem d_Mo_doctype_130 : decode b_Mo_doctype 130 = .ok (.iload_n 1, 1) := by decide +kernel
theorem d_Mo_doctype_131 : decode b_Mo_doctype 131 = .ok (.bipush 62, 2) := by decide +kernel
theorem d_Mo_doctype_133 : decode b_Mo_doctype 133 = .ok (.if_icmp .eq 33, 3) := by decide +kernel
theorem d_Mo_doctype_136 : decode b_Mo_doctype 136 = .ok (.iload_n 1, 1) := by decide +kernel
theorem d_Mo_doctype_137 : decode b_Mo_doctype 137 = .ok (.invokestatic 200, 3) := by decide +kernel
theorem d_Mo_doctype_140 : decode b_Mo_doctype 140 = .ok (.ifCond .ne 26, 3) := by decide +kernel
theorem d_Mo_doctype_143 : decode b_Mo_doctype 143 = .ok (.aload_n 0, 1) := by decide +kernel
theorem d_Mo_doctype_144 : decode b_Mo_doctype 144 = .ok (.aload_n 0, 1) := by decide +kernel
theorem d_Mo_doctype_145 : decode b_Mo_doctype 145 = .ok (.invokevirtual 268, 3) := by decide +kernel
theorem d_Mo_doctype_148 : decode b_Mo_doctype 148 = .ok (.invokestatic 272, 3) := by decide +kernel
theorem d_Mo_doctype_151 : decode b_Mo_doctype 151 = .ok (.invokevirtual 220, 3) := by decide +kernel
theorem d_Mo_doctype_154 : decode b_Mo_doctype 154 = .ok (.aload_n 0, 1) := by decide +kernel
theorem d_Mo_doctype_155 : decode b_Mo_doctype 155 = .ok (.aload_n 0, 1) := by decide +kernel
theorem d_Mo_doctype_156 : decode b_Mo_doctype 156 = .ok (.getfield 193, 3) := by decide +kernel
theorem d_Mo_doctype_159 : decode b_Mo_doctype 159 = .ok (.invokevirtual 196, 3) := by decide +kernel
theorem d_Mo_doctype_162 : decode b_Mo_doctype 162 = .ok (.istore_n 1, 1) := by decide +kernel
theorem d_Mo_doctype_163 : decode b_Mo_doctype 163 = .ok (.goto (-38), 3) := by decide +kernel
theorem d_Mo_doctype_166 : decode b_Mo_doctype 166 = .ok (.aload_n 0, 1) := by decide +kernel
theorem d_Mo_doctype_167 : decode b_Mo_doctype 167 = .ok (.invokevirtual 279, 3) := by decide +kernel
theorem d_Mo_doctype_170 : decode b_Mo_doctype 170 = .ok (.aload_n 0, 1) := by decide +kernel
theorem d_Mo_doctype_171 : decode b_Mo_doctype 171 = .ok (.aload_n 0, 1) := by decide +kernel
theorem d_Mo_doctype_172 : decode b_Mo_doctype 172 = .ok (.getfield 193, 3) := by decide +kernel
theorem d_Mo_doctype_175 : decode b_Mo_doctype 175 = .ok (.invokevirtual 196, 3) := by decide +kernel
theorem d_Mo_doctype_178 : decode b_Mo_doctype 178 = .ok (.istore_n 1, 1) := by decide +kernel
theorem d_Mo_doctype_179 : decode b_Mo_doctype 179 = .ok (.iload_n 1, 1) := by decide +kernel
theorem d_Mo_doctype_180 : decode b_Mo_doctype 180 = .ok (.iconst (-1), 1) := by decide +kernel
theorem d_Mo_doctype_181 : decode b_Mo_doctype 181 = .ok (.if_icmp .ne 26, 3) := by decide +kernel
theorem d_Mo_doctype_184 : decode b_Mo_doctype 184 = .ok (.aload_n 0, 1) := by decide +kernel
theorem d_Mo_doctype_185 : decode b_Mo_doctype 185 = .ok (.getfield 142, 3) := by decide +kernel
theorem d_Mo_doctype_188 : decode b_Mo_doctype 188 = .ok (.aload_n 0, 1) := by decide +kernel
theorem d_Mo_doctype_189 : decode b_Mo_doctype 189 = .ok (.getfield 227, 3) := by decide +kernel
theorem d_Mo_doctype_192 : decode b_Mo_doctype 192 = .ok (.iconst 1, 1) := by decide +kernel
theorem d_Mo_doctype_193 : decode b_Mo_doctype 193 = .ok (.bastore, 1) := by decide +kernel
theorem d_Mo_doctype_194 : decode b_Mo_doctype 194 = .ok (.aload_n 0, 1) := by decide +kernel
theorem d_Mo_doctype_195 : decode b_Mo_doctype 195 = .ok (.bipush 23, 2) := by decide +kernel
theorem d_Mo_doctype_197 : decode b_Mo_doctype 197 = .ok (.aload_n 0, 1) := by decide +kernel
theorem d_Mo_doctype_198 : decode b_Mo_doctype 198 = .ok (.getfield 193, 3) := by decide +kernel
theorem d_Mo_doctype_201 : decode b_Mo_doctype 201 = .ok (.invokevirtual 209, 3) := by decide +kernel
theorem d_Mo_doctype_204 : decode b_Mo_doctype 204 = .ok (.goto 62, 3) := by decide +kernel
theorem d_Mo_doctype_207 : decode b_Mo_doctype 207 = .ok (.iload_n 1, 1) := by decide +kernel
theorem d_Mo_doctype_208 : decode b_Mo_doctype 208 = .ok (.bipush 62, 2) := by decide +kernel
theorem d_Mo_doctype_210 : decode b_Mo_doctype 210 = .ok (.if_icmp .eq 56, 3) := by decide +kernel
theorem d_Mo_doctype_213 : decode b_Mo_doctype 213 = .ok (.aload_n 0, 1) := by decide +kernel
theorem d_Mo_doctype_214 : decode b_Mo_doctype 214 = .ok (.getfield 142, 3) := by decide +kernel
theorem d_Mo_doctype_217 : decode b_Mo_doctype 217 = .ok (.aload_n 0, 1) := by decide +kernel
theorem d_Mo_doctype_218 : decode b_Mo_doctype 218 = .ok (.getfield 227, 3) := by decide +kernel
theorem d_Mo_doctype_221 : decode b_Mo_doctype 221 = .ok (.iconst 1, 1) := by decide +kernel
theorem d_Mo_doctype_222 : decode b_Mo_doctype 222 = .ok (.bastore, 1) := by decide +kernel
theorem d_Mo_doctype_223 : decode b_Mo_doctype 223 = .ok (.aload_n 0, 1) := by decide +kernel
theorem d_Mo_doctype_224 : decode b_Mo_doctype 224 = .ok (.bipush 24, 2) := by decide +kernel
theorem d_Mo_doctype_226 : decode b_Mo_doctype 226 = .ok (.aload_n 0, 1) := by decide +kernel
theorem d_Mo_doctype_227 : decode b_Mo_doctype 227 = .ok (.getfield 193, 3) := by decide +kernel
theorem d_Mo_doctype_230 : decode b_Mo_doctype 230 = .ok (.invokevirtual 209, 3) := by decide +kernel
theorem d_Mo_doctype_233 : decode b_Mo_doctype 233 = .ok (.aload_n 0, 1) := by decide +kernel
theorem d_Mo_doctype_234 : decode b_Mo_doctype 234 = .ok (.aload_n 0, 1) := by decide +kernel
theorem d_Mo_doctype_235 : decode b_Mo_doctype 235 = .ok (.getfield 193, 3) := by decide +kernel
theorem d_Mo_doctype_238 : decode b_Mo_doctype 238 = .ok (.invokevirtual 196, 3) := by decide +kernel
theorem d_Mo_doctype_241 : decode b_Mo_doctype 241 = .ok (.iconst (-1), 1) := by decide +kernel
theorem d_Mo_doctype_242 : decode b_Mo_doctype 242 = .ok (.if_icmp .eq 24, 3) := by decide +kernel
theorem d_Mo_doctype_245 : decode b_Mo_doctype 245 = .ok (.aload_n 0, 1) := by decide +kernel
theorem d_Mo_doctype_246 : decode b_Mo_doctype 246 = .ok (.aload_n 0, 1) := by decide +kernel
theorem d_Mo_doctype_247 : decode b_Mo_doctype 247 = .ok (.getfield 193, 3) := by decide +kernel
theorem d_Mo_doctype_250 : decode b_Mo_doctype 250 = .ok (.invokevirtual 196, 3) := by decide +kernel
theorem d_Mo_doctype_253 : decode b_Mo_doctype 253 = .ok (.bipush 62, 2) := by decide +kernel
theorem d_Mo_doctype_255 : decode b_Mo_doctype 255 = .ok (.if_icmp .eq 11, 3) := by decide +kernel
theorem d_Mo_doctype_258 : decode b_Mo_doctype 258 = .ok (.aload_n 0, 1) := by decide +kernel
theorem d_Mo_doctype_259 : decode b_Mo_doctype 259 = .ok (.invokevirtual 268, 3) := by decide +kernel
theorem d_Mo_doctype_262 : decode b_Mo_doctype 262 = .ok (.pop, 1) := by decide +kernel
theorem d_Mo_doctype_263 : decode b_Mo_doctype 263 = .ok (.goto (-30), 3) := by decide +kernel
theorem d_Mo_doctype_266 : decode b_Mo_doctype 266 = .ok (.aload_n 0, 1) := by decide +kernel
theorem d_Mo_doctype_267 : decode b_Mo_doctype 267 = .ok (.aload_n 0, 1) := by decide +kernel
theorem d_Mo_doctype_268 : decode b_Mo_doctype 268 = .ok (.aload_n 0, 1) := by decide +kernel
theorem d_Mo_doctype_269 : decode b_Mo_doctype 269 = .ok (.getfield 193, 3) := by decide +kernel
theorem d_Mo_doctype_272 : decode b_Mo_doctype 272 = .ok (.invokevirtual 196, 3) := by decide +kernel
theorem d_Mo_doctype_275 : decode b_Mo_doctype 275 = .ok (.iconst (-1), 1) := by decide +kernel
theorem d_Mo_doctype_276 : decode b_Mo_doctype 276 = .ok (.if_icmp .ne 7, 3) := by decide +kernel
theorem d_Mo_doctype_279 : decode b_Mo_doctype 279 = .ok (.iconst 1, 1) := by decide +kernel
theorem d_Mo_doctype_280 : decode b_Mo_doctype 280 = .ok (.goto 4, 3) := by decide +kernel
theorem d_Mo_doctype_283 : decode b_Mo_doctype 283 = .ok (.iconst 0, 1) := by decide +kernel
theorem d_Mo_doctype_284 : decode b_Mo_doctype 284 = .ok (.putfield 236, 3) := by decide +kernel
theorem d_Mo_doctype_287 : decode b_Mo_doctype 287 = .ok (.aload_n 0, 1) := by decide +kernel
theorem d_Mo_doctype_288 : decode b_Mo_doctype 288 = .ok (.dup, 1) := by decide +kernel
theorem d_Mo_doctype_289 : decode b_Mo_doctype 289 = .ok (.getfield 193, 3) := by decide +kernel
theorem d_Mo_doctype_292 : decode b_Mo_doctype 292 = .ok (.iconst 1, 1) := by decide +kernel
theorem d_Mo_doctype_293 : decode b_Mo_doctype 293 = .ok (.iadd, 1) := by decide +kernel
theorem d_Mo_doctype_294 : decode b_Mo_doctype 294 = .ok (.putfield 193, 3) := by decide +kernel
theorem d_Mo_doctype_297 : decode b_Mo_doctype 297 = .ok (.aload_n 0, 1) := by decide +kernel
theorem d_Mo_doctype_298 : decode b_Mo_doctype 298 = .ok (.invokevirtual 310, 3) := by decide +kernel
theorem d_Mo_doctype_301 : decode b_Mo_doctype 301 = .ok (.return_, 1) := by decide +kernel
theorem d_Mo_bogus_0 : decode b_Mo_bogus 0 = .ok (.aload_n 0, 1) := by decide +kernel
theorem d_Mo_bogus_1 : decode b_Mo_bogus 1 = .ok (.aload_n 0, 1) := by decide +kernel
theorem d_Mo_bogus_2 : decode b_Mo_bogus 2 = .ok (.getfield 193, 3) := by decide +kernel
theorem d_Mo_bogus_5 : decode b_Mo_bogus 5 = .ok (.invokevirtual 196, 3) := by decide +kernel
theorem d_Mo_bogus_8 : decode b_Mo_bogus 8 = .ok (.iconst (-1), 1) := by decide +kernel
theorem d_Mo_bogus_9 : decode b_Mo_bogus 9 = .ok (.if_icmp .eq 27, 3) := by decide +kernel
theorem d_Mo_bogus_12 : decode b_Mo_bogus 12 = .ok (.aload_n 0, 1) := by decide +kernel
theorem d_Mo_bogus_13 : decode b_Mo_bogus 13 = .ok (.aload_n 0, 1) := by decide +kernel
theorem d_Mo_bogus_14 : decode b_Mo_bogus 14 = .ok (.getfield 193, 3) := by decide +kernel
theorem d_Mo_bogus_17 : decode b_Mo_bogus 17 = .ok (.invokevirtual 196, 3) := by decide +kernel
theorem d_Mo_bogus_20 : decode b_Mo_bogus 20 = .ok (.bipush 62, 2) := by decide +kernel
theorem d_Mo_bogus_22 : decode b_Mo_bogus 22 = .ok (.if_icmp .eq 14, 3) := by decide +kernel
theorem d_Mo_bogus_25 : decode b_Mo_bogus 25 = .ok (.aload_n 0, 1) := by decide +kernel
theorem d_Mo_bogus_26 : decode b_Mo_bogus 26 = .ok (.aload_n 0, 1) := by decide +kernel
theorem d_Mo_bogus_27 : decode b_Mo_bogus 27 = .ok (.invokevirtual 268, 3) := by decide +kernel
theorem d_Mo_bogus_30 : decode b_Mo_bogus 30 = .ok (.invokevirtual 220, 3) := by decide +kernel
theorem d_Mo_bogus_33 : decode b_Mo_bogus 33 = .ok (.goto (-33), 3) := by decide +kernel
theorem d_Mo_bogus_36 : decode b_Mo_bogus 36 = .ok (.aload_n 0, 1) := by decide +kernel
theorem d_Mo_bogus_37 : decode b_Mo_bogus 37 = .ok (.aload_n 0, 1) := by decide +kernel
theorem d_Mo_bogus_38 : decode b_Mo_bogus 38 = .ok (.aload_n 0, 1) := by decide +kernel
theorem d_Mo_bogus_39 : decode b_Mo_bogus 39 = .ok (.getfield 193, 3) := by decide +kernel
theorem d_Mo_bogus_42 : decode b_Mo_bogus 42 = .ok (.invokevirtual 196, 3) := by decide +kernel
theorem d_Mo_bogus_45 : decode b_Mo_bogus 45 = .ok (.iconst (-1), 1) := by decide +kernel
theorem d_Mo_bogus_46 : decode b_Mo_bogus 46 = .ok (.if_icmp .ne 7, 3) := by decide +kernel
theorem d_Mo_bogus_49 : decode b_Mo_bogus 49 = .ok (.iconst 1, 1) := by decide +kernel
theorem d_Mo_bogus_50 : decode b_Mo_bogus 50 = .ok (.goto 4, 3) := by decide +kernel
theorem d_Mo_bogus_53 : decode b_Mo_bogus 53 = .ok (.iconst 0, 1) := by decide +kernel
theorem d_Mo_bogus_54 : decode b_Mo_bogus 54 = .ok (.putfield 236, 3) := by decide +kernel
theorem d_Mo_bogus_57 : decode b_Mo_bogus 57 = .ok (.aload_n 0, 1) := by decide +kernel
theorem d_Mo_bogus_58 : decode b_Mo_bogus 58 = .ok (.dup, 1) := by decide +kernel
theorem d_Mo_bogus_59 : decode b_Mo_bogus 59 = .ok (.getfield 193, 3) := by decide +kernel
theorem d_Mo_bogus_62 : decode b_Mo_bogus 62 = .ok (.iconst 1, 1) := by decide +kernel
theorem d_Mo_bogus_63 : decode b_Mo_bogus 63 = .ok (.iadd, 1) := by decide +kernel
theorem d_Mo_bogus_64 : decode b_Mo_bogus 64 = .ok (.putfield 193, 3) := by decide +kernel
theorem d_Mo_bogus_67 : decode b_Mo_bogus 67 = .ok (.aload_n 0, 1) := by decide +kernel
theorem d_Mo_bogus_68 : decode b_Mo_bogus 68 = .ok (.invokevirtual 310, 3) := by decide +kernel
theorem d_Mo_bogus_71 : decode b_Mo_bogus 71 = .ok (.return_, 1) := by decide +kernel
theorem d_Mo_mark_0 : decode b_Mo_mark 0 = .ok (.aload_n 0, 1) := by decide +kernel
theorem d_Mo_mark_1 : decode b_Mo_mark 1 = .ok (.aload_n 0, 1) := by decide +kernel
theorem d_Mo_mark_2 : decode b_Mo_mark 2 = .ok (.getfield 193, 3) := by decide +kernel
theorem d_Mo_mark_5 : decode b_Mo_mark 5 = .ok (.invokevirtual 196, 3) := by decide +kernel
theorem d_Mo_mark_8 : decode b_Mo_mark 8 = .ok (.bipush 45, 2) := by decide +kernel
theorem d_Mo_mark_10 : decode b_Mo_mark 10 = .ok (.if_icmp .ne 40, 3) := by decide +kernel
theorem d_Mo_mark_13 : decode b_Mo_mark 13 = .ok (.aload_n 0, 1) := by decide +kernel
theorem d_Mo_mark_14 : decode b_Mo_mark 14 = .ok (.aload_n 0, 1) := by decide +kernel
theorem d_Mo_mark_15 : decode b_Mo_mark 15 = .ok (.getfield 193, 3) := by decide +kernel
theorem d_Mo_mark_18 : decode b_Mo_mark 18 = .ok (.iconst 1, 1) := by decide +kernel
theorem d_Mo_mark_19 : decode b_Mo_mark 19 = .ok (.iadd, 1) := by decide +kernel
theorem d_Mo_mark_20 : decode b_Mo_mark 20 = .ok (.invokevirtual 196, 3) := by decide +kernel
theorem d_Mo_mark_23 : decode b_Mo_mark 23 = .ok (.bipush 45, 2) := by decide +kernel
theorem d_Mo_mark_25 : decode b_Mo_mark 25 = .ok (.if_icmp .ne 25, 3) := by decide +kernel
theorem d_Mo_mark_28 : decode b_Mo_mark 28 = .ok (.aload_n 0, 1) := by decide +kernel
theorem d_Mo_mark_29 : decode b_Mo_mark 29 = .ok (.aload_n 0, 1) := by decide +kernel
theorem d_Mo_mark_30 : decode b_Mo_mark 30 = .ok (.getfield 193, 3) := by decide +kernel
theorem d_Mo_mark_33 : decode b_Mo_mark 33 = .ok (.iconst 2, 1) := by decide +kernel
theorem d_Mo_mark_34 : decode b_Mo_mark 34 = .ok (.iadd, 1) := by decide +kernel
theorem d_Mo_mark_35 : decode b_Mo_mark 35 = .ok (.putfield 193, 3) := by decide +kernel
theorem d_Mo_mark_38 : decode b_Mo_mark 38 = .ok (.aload_n 0, 1) := by decide +kernel
theorem d_Mo_mark_39 : decode b_Mo_mark 39 = .ok (.iconst 3, 1) := by decide +kernel
theorem d_Mo_mark_40 : decode b_Mo_mark 40 = .ok (.invokevirtual 250, 3) := by decide +kernel
theorem d_Mo_mark_43 : decode b_Mo_mark 43 = .ok (.aload_n 0, 1) := by decide +kernel
theorem d_Mo_mark_44 : decode b_Mo_mark 44 = .ok (.invokevirtual 301, 3) := by decide +kernel
theorem d_Mo_mark_47 : decode b_Mo_mark 47 = .ok (.goto 47, 3) := by decide +kernel
theorem d_Mo_mark_50 : decode b_Mo_mark 50 = .ok (.aload_n 0, 1) := by decide +kernel
theorem d_Mo_mark_51 : decode b_Mo_mark 51 = .ok (.invokevirtual 304, 3) := by decide +kernel
theorem d_Mo_mark_54 : decode b_Mo_mark 54 = .ok (.ifCond .eq 21, 3) := by decide +kernel
theorem d_Mo_mark_57 : decode b_Mo_mark 57 = .ok (.aload_n 0, 1) := by decide +kernel
theorem d_Mo_mark_58 : decode b_Mo_mark 58 = .ok (.aload_n 0, 1) := by decide +kernel
theorem d_Mo_mark_59 : decode b_Mo_mark 59 = .ok (.getfield 193, 3) := by decide +kernel
theorem d_Mo_mark_62 : decode b_Mo_mark 62 = .ok (.bipush 7, 2) := by decide +kernel
theorem d_Mo_mark_64 : decode b_Mo_mark 64 = .ok (.iadd, 1) := by decide +kernel
theorem d_Mo_mark_65 : decode b_Mo_mark 65 = .ok (.putfield 193, 3) := by decide +kernel
theorem d_Mo_mark_68 : decode b_Mo_mark 68 = .ok (.aload_n 0, 1) := by decide +kernel
theorem d_Mo_mark_69 : decode b_Mo_mark 69 = .ok (.invokevirtual 307, 3) := by decide +kernel
theorem d_Mo_mark_72 : decode b_Mo_mark 72 = .ok (.goto 22, 3) := by decide +kernel
theorem d_Mo_mark_75 : decode b_Mo_mark 75 = .ok (.aload_n 0, 1) := by decide +kernel
theorem d_Mo_mark_76 : decode b_Mo_mark 76 = .ok (.bipush 16, 2) := by decide +kernel
theorem d_Mo_mark_78 : decode b_Mo_mark 78 = .ok (.aload_n 0, 1) := by decide +kernel
theorem d_Mo_mark_79 : decode b_Mo_mark 79 = .ok (.getfield 193, 3) := by decide +kernel
theorem d_Mo_mark_82 : decode b_Mo_mark 82 = .ok (.invokevirtual 209, 3) := by decide +kernel
theorem d_Mo_mark_85 : decode b_Mo_mark 85 = .ok (.aload_n 0, 1) := by decide +kernel
theorem d_Mo_mark_86 : decode b_Mo_mark 86 = .ok (.iconst 3, 1) := by decide +kernel
theorem d_Mo_mark_87 : decode b_Mo_mark 87 = .ok (.invokevirtual 250, 3) := by decide +kernel
theorem d_Mo_mark_90 : decode b_Mo_mark 90 = .ok (.aload_n 0, 1) := by decide +kernel
theorem d_Mo_mark_91 : decode b_Mo_mark 91 = .ok (.invokevirtual 265, 3) := by decide +kernel
theorem d_Mo_mark_94 : decode b_Mo_mark 94 = .ok (.return_, 1) := by decide +kernel
theorem d_Mo_drop_0 : decode b_Mo_drop 0 = .ok (.aload_n 0, 1) := by decide +kernel
theorem d_Mo_drop_1 : decode b_Mo_drop 1 = .ok (.bipush 6, 2) := by decide +kernel
theorem d_Mo_drop_3 : decode b_Mo_drop 3 = .ok (.aload_n 0, 1) := by decide +kernel
theorem d_Mo_drop_4 : decode b_Mo_drop 4 = .ok (.getfield 193, 3) := by decide +kernel
theorem d_Mo_drop_7 : decode b_Mo_drop 7 = .ok (.invokevirtual 209, 3) := by decide +kernel
theorem d_Mo_drop_10 : decode b_Mo_drop 10 = .ok (.aload_n 0, 1) := by decide +kernel
theorem d_Mo_drop_11 : decode b_Mo_drop 11 = .ok (.iconst 1, 1) := by decide +kernel
theorem d_Mo_drop_12 : decode b_Mo_drop 12 = .ok (.putfield 236, 3) := by decide +kernel
theorem d_Mo_drop_15 : decode b_Mo_drop 15 = .ok (.return_, 1) := by decide +kernel
theorem d_Mo_finish_0 : decode b_Mo_finish 0 = .ok (.aload_n 0, 1) := by decide +kernel
theorem d_Mo_finish_1 : decode b_Mo_finish 1 = .ok (.getfield 146, 3) := by decide +kernel
theorem d_Mo_finish_4 : decode b_Mo_finish 4 = .ok (.aload_n 0, 1) := by decide +kernel
theorem d_Mo_finish_5 : decode b_Mo_finish 5 = .ok (.getfield 227, 3) := by decide +kernel
theorem d_Mo_finish_8 : decode b_Mo_finish 8 = .ok (.iaload, 1) := by decide +kernel
theorem d_Mo_finish_9 : decode b_Mo_finish 9 = .ok (.istore_n 1, 1) := by decide +kernel
theorem d_Mo_finish_10 : decode b_Mo_finish 10 = .ok (.iload_n 1, 1) := by decide +kernel
theorem d_Mo_finish_11 : decode b_Mo_finish 11 = .ok (.istore_n 2, 1) := by decide +kernel
theorem d_Mo_finish_12 : decode b_Mo_finish 12 = .ok (.iload_n 1, 1) := by decide +kernel
theorem d_Mo_finish_13 : decode b_Mo_finish 13 = .ok (.istore_n 3, 1) := by decide +kernel
theorem d_Mo_finish_14 : decode b_Mo_finish 14 = .ok (.iload_n 3, 1) := by decide +kernel
theorem d_Mo_finish_15 : decode b_Mo_finish 15 = .ok (.aload_n 0, 1) := by decide +kernel
theorem d_Mo_finish_16 : decode b_Mo_finish 16 = .ok (.getfield 230, 3) := by decide +kernel
theorem d_Mo_finish_19 : decode b_Mo_finish 19 = .ok (.if_icmp .ge 69, 3) := by decide +kernel
theorem d_Mo_finish_22 : decode b_Mo_finish 22 = .ok (.aload_n 0, 1) := by decide +kernel
theorem d_Mo_finish_23 : decode b_Mo_finish 23 = .ok (.getfield 164, 3) := by decide +kernel
theorem d_Mo_finish_26 : decode b_Mo_finish 26 = .ok (.iload_n 3, 1) := by decide +kernel
theorem d_Mo_finish_27 : decode b_Mo_finish 27 = .ok (.baload, 1) := by decide +kernel
theorem d_Mo_finish_28 : decode b_Mo_finish 28 = .ok (.ifCond .ne 54, 3) := by decide +kernel
theorem d_Mo_finish_31 : decode b_Mo_finish 31 = .ok (.aload_n 0, 1) := by decide +kernel
theorem d_Mo_finish_32 : decode b_Mo_finish 32 = .ok (.getfield 152, 3) := by decide +kernel
theorem d_Mo_finish_35 : decode b_Mo_finish 35 = .ok (.iload_n 2, 1) := by decide +kernel
theorem d_Mo_finish_36 : decode b_Mo_finish 36 = .ok (.aload_n 0, 1) := by decide +kernel
theorem d_Mo_finish_37 : decode b_Mo_finish 37 = .ok (.getfield 152, 3) := by decide +kernel
theorem d_Mo_finish_40 : decode b_Mo_finish 40 = .ok (.iload_n 3, 1) := by decide +kernel
theorem d_Mo_finish_41 : decode b_Mo_finish 41 = .ok (.iaload, 1) := by decide +kernel
theorem d_Mo_finish_42 : decode b_Mo_finish 42 = .ok (.iastore, 1) := by decide +kernel
theorem d_Mo_finish_43 : decode b_Mo_finish 43 = .ok (.aload_n 0, 1) := by decide +kernel
theorem d_Mo_finish_44 : decode b_Mo_finish 44 = .ok (.getfield 155, 3) := by decide +kernel
theorem d_Mo_finish_47 : decode b_Mo_finish 47 = .ok (.iload_n 2, 1) := by decide +kernel
theorem d_Mo_finish_48 : decode b_Mo_finish 48 = .ok (.aload_n 0, 1) := by decide +kernel
theorem d_Mo_finish_49 : decode b_Mo_finish 49 = .ok (.getfield 155, 3) := by decide +kernel
theorem d_Mo_finish_52 : decode b_Mo_finish 52 = .ok (.iload_n 3, 1) := by decide +kernel
theorem d_Mo_finish_53 : decode b_Mo_finish 53 = .ok (.iaload, 1) := by decide +kernel
theorem d_Mo_finish_54 : decode b_Mo_finish 54 = .ok (.iastore, 1) := by decide +kernel
theorem d_Mo_finish_55 : decode b_Mo_finish 55 = .ok (.aload_n 0, 1) := by decide +kernel
theorem d_Mo_finish_56 : decode b_Mo_finish 56 = .ok (.getfield 158, 3) := by decide +kernel
theorem d_Mo_finish_59 : decode b_Mo_finish 59 = .ok (.iload_n 2, 1) := by decide +kernel
theorem d_Mo_finish_60 : decode b_Mo_finish 60 = .ok (.aload_n 0, 1) := by decide +kernel
theorem d_Mo_finish_61 : decode b_Mo_finish 61 = .ok (.getfield 158, 3) := by decide +kernel
theorem d_Mo_finish_64 : decode b_Mo_finish 64 = .ok (.iload_n 3, 1) := by decide +kernel
theorem d_Mo_finish_65 : decode b_Mo_finish 65 = .ok (.iaload, 1) := by decide +kernel
theorem d_Mo_finish_66 : decode b_Mo_finish 66 = .ok (.iastore, 1) := by decide +kernel
theorem d_Mo_finish_67 : decode b_Mo_finish 67 = .ok (.aload_n 0, 1) := by decide +kernel
theorem d_Mo_finish_68 : decode b_Mo_finish 68 = .ok (.getfield 161, 3) := by decide +kernel
theorem d_Mo_finish_71 : decode b_Mo_finish 71 = .ok (.iload_n 2, 1) := by decide +kernel
theorem d_Mo_finish_72 : decode b_Mo_finish 72 = .ok (.aload_n 0, 1) := by decide +kernel
theorem d_Mo_finish_73 : decode b_Mo_finish 73 = .ok (.getfield 161, 3) := by decide +kernel
theorem d_Mo_finish_76 : decode b_Mo_finish 76 = .ok (.iload_n 3, 1) := by decide +kernel
theorem d_Mo_finish_77 : decode b_Mo_finish 77 = .ok (.iaload, 1) := by decide +kernel
theorem d_Mo_finish_78 : decode b_Mo_finish 78 = .ok (.iastore, 1) := by decide +kernel
theorem d_Mo_finish_79 : decode b_Mo_finish 79 = .ok (.iinc 2 1, 3) := by decide +kernel
theorem d_Mo_finish_82 : decode b_Mo_finish 82 = .ok (.iinc 3 1, 3) := by decide +kernel
theorem d_Mo_finish_85 : decode b_Mo_finish 85 = .ok (.goto (-71), 3) := by decide +kernel
theorem d_Mo_finish_88 : decode b_Mo_finish 88 = .ok (.aload_n 0, 1) := by decide +kernel
theorem d_Mo_finish_89 : decode b_Mo_finish 89 = .ok (.iload_n 2, 1) := by decide +kernel
theorem d_Mo_finish_90 : decode b_Mo_finish 90 = .ok (.putfield 230, 3) := by decide +kernel
theorem d_Mo_finish_93 : decode b_Mo_finish 93 = .ok (.aload_n 0, 1) := by decide +kernel
theorem d_Mo_finish_94 : decode b_Mo_finish 94 = .ok (.getfield 149, 3) := by decide +kernel
theorem d_Mo_finish_97 : decode b_Mo_finish 97 = .ok (.aload_n 0, 1) := by decide +kernel
theorem d_Mo_finish_98 : decode b_Mo_finish 98 = .ok (.getfield 227, 3) := by decide +kernel
theorem d_Mo_finish_101 : decode b_Mo_finish 101 = .ok (.iload_n 2, 1) := by decide +kernel
theorem d_Mo_finish_102 : decode b_Mo_finish 102 = .ok (.iload_n 1, 1) := by decide +kernel
theorem d_Mo_finish_103 : decode b_Mo_finish 103 = .ok (.isub, 1) := by decide +kernel
theorem d_Mo_finish_104 : decode b_Mo_finish 104 = .ok (.iastore, 1) := by decide +kernel
theorem d_Mo_finish_105 : decode b_Mo_finish 105 = .ok (.aload_n 0, 1) := by decide +kernel
theorem d_Mo_finish_106 : decode b_Mo_finish 106 = .ok (.getfield 133, 3) := by decide +kernel
theorem d_Mo_finish_109 : decode b_Mo_finish 109 = .ok (.aload_n 0, 1) := by decide +kernel
theorem d_Mo_finish_110 : decode b_Mo_finish 110 = .ok (.getfield 227, 3) := by decide +kernel
theorem d_Mo_finish_113 : decode b_Mo_finish 113 = .ok (.iaload, 1) := by decide +kernel
theorem d_Mo_finish_114 : decode b_Mo_finish 114 = .ok (.iconst 2, 1) := by decide +kernel
theorem d_Mo_finish_115 : decode b_Mo_finish 115 = .ok (.if_icmp .ne 65, 3) := by decide +kernel
theorem d_Mo_finish_118 : decode b_Mo_finish 118 = .ok (.iload_n 2, 1) := by decide +kernel
theorem d_Mo_finish_119 : decode b_Mo_finish 119 = .ok (.iload_n 1, 1) := by decide +kernel
theorem d_Mo_finish_120 : decode b_Mo_finish 120 = .ok (.if_icmp .le 13, 3) := by decide +kernel
theorem d_Mo_finish_123 : decode b_Mo_finish 123 = .ok (.aload_n 0, 1) := by decide +kernel
theorem d_Mo_finish_124 : decode b_Mo_finish 124 = .ok (.bipush 14, 2) := by decide +kernel
theorem d_Mo_finish_126 : decode b_Mo_finish 126 = .ok (.aload_n 0, 1) := by decide +kernel
theorem d_Mo_finish_127 : decode b_Mo_finish 127 = .ok (.getfield 193, 3) := by decide +kernel
theorem d_Mo_finish_130 : decode b_Mo_finish 130 = .ok (.invokevirtual 209, 3) := by decide +kernel
theorem d_Mo_finish_133 : decode b_Mo_finish 133 = .ok (.aload_n 0, 1) := by decide +kernel
theorem d_Mo_finish_134 : decode b_Mo_finish 134 = .ok (.getfield 142, 3) := by decide +kernel
theorem d_Mo_finish_137 : decode b_Mo_finish 137 = .ok (.aload_n 0, 1) := by decide +kernel
theorem d_Mo_finish_138 : decode b_Mo_finish 138 = .ok (.getfield 227, 3) := by decide +kernel
theorem d_Mo_finish_141 : decode b_Mo_finish 141 = .ok (.baload, 1) := by decide +kernel
theorem d_Mo_finish_142 : decode b_Mo_finish 142 = .ok (.ifCond .eq 13, 3) := by decide +kernel
theorem d_Mo_finish_145 : decode b_Mo_finish 145 = .ok (.aload_n 0, 1) := by decide +kernel
theorem d_Mo_finish_146 : decode b_Mo_finish 146 = .ok (.bipush 15, 2) := by decide +kernel
theorem d_Mo_finish_148 : decode b_Mo_finish 148 = .ok (.aload_n 0, 1) := by decide +kernel
theorem d_Mo_finish_149 : decode b_Mo_finish 149 = .ok (.getfield 193, 3) := by decide +kernel
theorem d_Mo_finish_152 : decode b_Mo_finish 152 = .ok (.invokevirtual 209, 3) := by decide +kernel
theorem d_Mo_finish_155 : decode b_Mo_finish 155 = .ok (.aload_n 0, 1) := by decide +kernel
theorem d_Mo_finish_156 : decode b_Mo_finish 156 = .ok (.iload_n 1, 1) := by decide +kernel
theorem d_Mo_finish_157 : decode b_Mo_finish 157 = .ok (.putfield 230, 3) := by decide +kernel
theorem d_Mo_finish_160 : decode b_Mo_finish 160 = .ok (.aload_n 0, 1) := by decide +kernel
theorem d_Mo_finish_161 : decode b_Mo_finish 161 = .ok (.getfield 149, 3) := by decide +kernel
theorem d_Mo_finish_164 : decode b_Mo_finish 164 = .ok (.aload_n 0, 1) := by decide +kernel
theorem d_Mo_finish_165 : decode b_Mo_finish 165 = .ok (.getfield 227, 3) := by decide +kernel
theorem d_Mo_finish_168 : decode b_Mo_finish 168 = .ok (.iconst 0, 1) := by decide +kernel
theorem d_Mo_finish_169 : decode b_Mo_finish 169 = .ok (.iastore, 1) := by decide +kernel
theorem d_Mo_finish_170 : decode b_Mo_finish 170 = .ok (.aload_n 0, 1) := by decide +kernel
theorem d_Mo_finish_171 : decode b_Mo_finish 171 = .ok (.getfield 142, 3) := by decide +kernel
theorem d_Mo_finish_174 : decode b_Mo_finish 174 = .ok (.aload_n 0, 1) := by decide +kernel
theorem d_Mo_finish_175 : decode b_Mo_finish 175 = .ok (.getfield 227, 3) := by decide +kernel
theorem d_Mo_finish_178 : decode b_Mo_finish 178 = .ok (.iconst 0, 1) := by decide +kernel
theorem d_Mo_finish_179 : decode b_Mo_finish 179 = .ok (.bastore, 1) := by decide +kernel
theorem d_Mo_finish_180 : decode b_Mo_finish 180 = .ok (.aload_n 0, 1) := by decide +kernel
theorem d_Mo_finish_181 : decode b_Mo_finish 181 = .ok (.dup, 1) := by decide +kernel
theorem d_Mo_finish_182 : decode b_Mo_finish 182 = .ok (.getfield 227, 3) := by decide +kernel
theorem d_Mo_finish_185 : decode b_Mo_finish 185 = .ok (.iconst 1, 1) := by decide +kernel
theorem d_Mo_finish_186 : decode b_Mo_finish 186 = .ok (.iadd, 1) := by decide +kernel
theorem d_Mo_finish_187 : decode b_Mo_finish 187 = .ok (.putfield 227, 3) := by decide +kernel
theorem d_Mo_finish_190 : decode b_Mo_finish 190 = .ok (.aload_n 0, 1) := by decide +kernel
theorem d_Mo_finish_191 : decode b_Mo_finish 191 = .ok (.dup, 1) := by decide +kernel
theorem d_Mo_finish_192 : decode b_Mo_finish 192 = .ok (.getfield 193, 3) := by decide +kernel
theorem d_Mo_finish_195 : decode b_Mo_finish 195 = .ok (.iconst 1, 1) := by decide +kernel
theorem d_Mo_finish_196 : decode b_Mo_finish 196 = .ok (.iadd, 1) := by decide +kernel
theorem d_Mo_finish_197 : decode b_Mo_finish 197 = .ok (.putfield 193, 3) := by decide +kernel
theorem d_Mo_finish_200 : decode b_Mo_finish 200 = .ok (.return_, 1) := by decide +kernel
theorem d_Mo_isThere_0 : decode b_Mo_isThere 0 = .ok (.iconst 0, 1) := by decide +kernel
theorem d_Mo_isThere_1 : decode b_Mo_isThere 1 = .ok (.istore_n 2, 1) := by decide +kernel
theorem d_Mo_isThere_2 : decode b_Mo_isThere 2 = .ok (.aload_n 0, 1) := by decide +kernel
theorem d_Mo_isThere_3 : decode b_Mo_isThere 3 = .ok (.getfield 146, 3) := by decide +kernel
theorem d_Mo_isThere_6 : decode b_Mo_isThere 6 = .ok (.aload_n 0, 1) := by decide +kernel
theorem d_Mo_isThere_7 : decode b_Mo_isThere 7 = .ok (.getfield 227, 3) := by decide +kernel
theorem d_Mo_isThere_10 : decode b_Mo_isThere 10 = .ok (.iaload, 1) := by decide +kernel
theorem d_Mo_isThere_11 : decode b_Mo_isThere 11 = .ok (.istore_n 3, 1) := by decide +kernel
theorem d_Mo_isThere_12 : decode b_Mo_isThere 12 = .ok (.iload_n 3, 1) := by decide +kernel
theorem d_Mo_isThere_13 : decode b_Mo_isThere 13 = .ok (.iload_n 1, 1) := by decide +kernel
theorem d_Mo_isThere_14 : decode b_Mo_isThere 14 = .ok (.if_icmp .ge 109, 3) := by decide +kernel
theorem d_Mo_isThere_17 : decode b_Mo_isThere 17 = .ok (.aload_n 0, 1) := by decide +kernel
theorem d_Mo_isThere_18 : decode b_Mo_isThere 18 = .ok (.getfield 155, 3) := by decide +kernel
theorem d_Mo_isThere_21 : decode b_Mo_isThere 21 = .ok (.iload_n 3, 1) := by decide +kernel
theorem d_Mo_isThere_22 : decode b_Mo_isThere 22 = .ok (.iaload, 1) := by decide +kernel
theorem d_Mo_isThere_23 : decode b_Mo_isThere 23 = .ok (.aload_n 0, 1) := by decide +kernel
theorem d_Mo_isThere_24 : decode b_Mo_isThere 24 = .ok (.getfield 155, 3) := by decide +kernel
theorem d_Mo_isThere_27 : decode b_Mo_isThere 27 = .ok (.iload_n 1, 1) := by decide +kernel
theorem d_Mo_isThere_28 : decode b_Mo_isThere 28 = .ok (.iaload, 1) := by decide +kernel
theorem d_Mo_isThere_29 : decode b_Mo_isThere 29 = .ok (.if_icmp .ne 7, 3) := by decide +kernel
theorem d_Mo_isThere_32 : decode b_Mo_isThere 32 = .ok (.iconst 1, 1) := by decide +kernel
theorem d_Mo_isThere_33 : decode b_Mo_isThere 33 = .ok (.goto 4, 3) := by decide +kernel
theorem d_Mo_isThere_36 : decode b_Mo_isThere 36 = .ok (.iconst 0, 1) := by decide +kernel
theorem d_Mo_isThere_37 : decode b_Mo_isThere 37 = .ok (.istore 4, 2) := by decide +kernel
theorem d_Mo_isThere_39 : decode b_Mo_isThere 39 = .ok (.iconst 0, 1) := by decide +kernel
theorem d_Mo_isThere_40 : decode b_Mo_isThere 40 = .ok (.istore 5, 2) := by decide +kernel
theorem d_Mo_isThere_42 : decode b_Mo_isThere 42 = .ok (.iload 5, 2) := by decide +kernel
theorem d_Mo_isThere_44 : decode b_Mo_isThere 44 = .ok (.aload_n 0, 1) := by decide +kernel
theorem d_Mo_isThere_45 : decode b_Mo_isThere 45 = .ok (.getfield 155, 3) := by decide +kernel
theorem d_Mo_isThere_48 : decode b_Mo_isThere 48 = .ok (.iload_n 1, 1) := by decide +kernel
theorem d_Mo_isThere_49 : decode b_Mo_isThere 49 = .ok (.iaload, 1) := by decide +kernel
theorem d_Mo_isThere_50 : decode b_Mo_isThere 50 = .ok (.if_icmp .ge 52, 3) := by decide +kernel
theorem d_Mo_isThere_53 : decode b_Mo_isThere 53 = .ok (.iload 4, 2) := by decide +kernel
theorem d_Mo_isThere_55 : decode b_Mo_isThere 55 = .ok (.ifCond .eq 47, 3) := by decide +kernel
theorem d_Mo_isThere_58 : decode b_Mo_isThere 58 = .ok (.aload_n 0, 1) := by decide +kernel
theorem d_Mo_isThere_59 : decode b_Mo_isThere 59 = .ok (.getfield 167, 3) := by decide +kernel
theorem d_Mo_isThere_62 : decode b_Mo_isThere 62 = .ok (.aload_n 0, 1) := by decide +kernel
theorem d_Mo_isThere_63 : decode b_Mo_isThere 63 = .ok (.getfield 152, 3) := by decide +kernel
theorem d_Mo_isThere_66 : decode b_Mo_isThere 66 = .ok (.iload_n 3, 1) := by decide +kernel
theorem d_Mo_isThere_67 : decode b_Mo_isThere 67 = .ok (.iaload, 1) := by decide +kernel
theorem d_Mo_isThere_68 : decode b_Mo_isThere 68 = .ok (.iload 5, 2) := by decide +kernel
theorem d_Mo_isThere_70 : decode b_Mo_isThere 70 = .ok (.iadd, 1) := by decide +kernel
theorem d_Mo_isThere_71 : decode b_Mo_isThere 71 = .ok (.iaload, 1) := by decide +kernel
theorem d_Mo_isThere_72 : decode b_Mo_isThere 72 = .ok (.aload_n 0, 1) := by decide +kernel
theorem d_Mo_isThere_73 : decode b_Mo_isThere 73 = .ok (.getfield 167, 3) := by decide +kernel
theorem d_Mo_isThere_76 : decode b_Mo_isThere 76 = .ok (.aload_n 0, 1) := by decide +kernel
theorem d_Mo_isThere_77 : decode b_Mo_isThere 77 = .ok (.getfield 152, 3) := by decide +kernel
theorem d_Mo_isThere_80 : decode b_Mo_isThere 80 = .ok (.iload_n 1, 1) := by decide +kernel
theorem d_Mo_isThere_81 : decode b_Mo_isThere 81 = .ok (.iaload, 1) := by decide +kernel
theorem d_Mo_isThere_82 : decode b_Mo_isThere 82 = .ok (.iload 5, 2) := by decide +kernel
theorem d_Mo_isThere_84 : decode b_Mo_isThere 84 = .ok (.iadd, 1) := by decide +kernel
theorem d_Mo_isThere_85 : decode b_Mo_isThere 85 = .ok (.iaload, 1) := by decide +kernel
theorem d_Mo_isThere_86 : decode b_Mo_isThere 86 = .ok (.if_icmp .ne 7, 3) := by decide +kernel
theorem d_Mo_isThere_89 : decode b_Mo_isThere 89 = .ok (.iconst 1, 1) := by decide +kernel
theorem d_Mo_isThere_90 : decode b_Mo_isThere 90 = .ok (.goto 4, 3) := by decide +kernel
theorem d_Mo_isThere_93 : decode b_Mo_isThere 93 = .ok (.iconst 0, 1) := by decide +kernel
theorem d_Mo_isThere_94 : decode b_Mo_isThere 94 = .ok (.istore 4, 2) := by decide +kernel
theorem d_Mo_isThere_96 : decode b_Mo_isThere 96 = .ok (.iinc 5 1, 3) := by decide +kernel
theorem d_Mo_isThere_99 : decode b_Mo_isThere 99 = .ok (.goto (-57), 3) := by decide +kernel
theorem d_Mo_isThere_102 : decode b_Mo_isThere 102 = .ok (.iload_n 2, 1) := by decide +kernel
theorem d_Mo_isThere_103 : decode b_Mo_isThere 103 = .ok (.ifCond .ne 8, 3) := by decide +kernel
theorem d_Mo_isThere_106 : decode b_Mo_isThere 106 = .ok (.iload 4, 2) := by decide +kernel
theorem d_Mo_isThere_108 : decode b_Mo_isThere 108 = .ok (.ifCond .eq 7, 3) := by decide +kernel
theorem d_Mo_isThere_111 : decode b_Mo_isThere 111 = .ok (.iconst 1, 1) := by decide +kernel
theorem d_Mo_isThere_112 : decode b_Mo_isThere 112 = .ok (.goto 4, 3) := by decide +kernel
theorem d_Mo_isThere_115 : decode b_Mo_isThere 115 = .ok (.iconst 0, 1) := by decide +kernel
theorem d_Mo_isThere_116 : decode b_Mo_isThere 116 = .ok (.istore_n 2, 1) := by decide +kernel
theorem d_Mo_isThere_117 : decode b_Mo_isThere 117 = .ok (.iinc 3 1, 3) := by decide +kernel
theorem d_Mo_isThere_120 : decode b_Mo_isThere 120 = .ok (.goto (-108), 3) := by decide +kernel
theorem d_Mo_isThere_123 : decode b_Mo_isThere 123 = .ok (.iload_n 2, 1) := by decide +kernel
theorem d_Mo_isThere_124 : decode b_Mo_isThere 124 = .ok (.ireturn, 1) := by decide +kernel
theorem d_Mo_value_0 : decode b_Mo_value 0 = .ok (.aload_n 0, 1) := by decide +kernel
theorem d_Mo_value_1 : decode b_Mo_value 1 = .ok (.invokevirtual 279, 3) := by decide +kernel
theorem d_Mo_value_4 : decode b_Mo_value 4 = .ok (.aload_n 0, 1) := by decide +kernel
theorem d_Mo_value_5 : decode b_Mo_value 5 = .ok (.aload_n 0, 1) := by decide +kernel
theorem d_Mo_value_6 : decode b_Mo_value 6 = .ok (.getfield 193, 3) := by decide +kernel
theorem d_Mo_value_9 : decode b_Mo_value 9 = .ok (.invokevirtual 196, 3) := by decide +kernel
theorem d_Mo_value_12 : decode b_Mo_value 12 = .ok (.istore_n 2, 1) := by decide +kernel
theorem d_Mo_value_13 : decode b_Mo_value 13 = .ok (.iload_n 2, 1) := by decide +kernel
theorem d_Mo_value_14 : decode b_Mo_value 14 = .ok (.bipush 62, 2) := by decide +kernel
theorem d_Mo_value_16 : decode b_Mo_value 16 = .ok (.if_icmp .ne 19, 3) := by decide +kernel
theorem d_Mo_value_19 : decode b_Mo_value 19 = .ok (.aload_n 0, 1) := by decide +kernel
theorem d_Mo_value_20 : decode b_Mo_value 20 = .ok (.bipush 10, 2) := by decide +kernel
theorem d_Mo_value_22 : decode b_Mo_value 22 = .ok (.aload_n 0, 1) := by decide +kernel
theorem d_Mo_value_23 : decode b_Mo_value 23 = .ok (.getfield 193, 3) := by decide +kernel
theorem d_Mo_value_26 : decode b_Mo_value 26 = .ok (.invokevirtual 209, 3) := by decide +kernel
theorem d_Mo_value_29 : decode b_Mo_value 29 = .ok (.aload_n 0, 1) := by decide +kernel
theorem d_Mo_value_30 : decode b_Mo_value 30 = .ok (.invokevirtual 285, 3) := by decide +kernel
theorem d_Mo_value_33 : decode b_Mo_value 33 = .ok (.iconst 0, 1) := by decide +kernel
theorem d_Mo_value_34 : decode b_Mo_value 34 = .ok (.ireturn, 1) := by decide +kernel
theorem d_Mo_value_35 : decode b_Mo_value 35 = .ok (.iload_n 2, 1) := by decide +kernel
theorem d_Mo_value_36 : decode b_Mo_value 36 = .ok (.bipush 34, 2) := by decide +kernel
theorem d_Mo_value_38 : decode b_Mo_value 38 = .ok (.if_icmp .eq 9, 3) := by decide +kernel
theorem d_Mo_value_41 : decode b_Mo_value 41 = .ok (.iload_n 2, 1) := by decide +kernel
theorem d_Mo_value_42 : decode b_Mo_value 42 = .ok (.bipush 39, 2) := by decide +kernel
theorem d_Mo_value_44 : decode b_Mo_value 44 = .ok (.if_icmp .ne 7, 3) := by decide +kernel
theorem d_Mo_value_47 : decode b_Mo_value 47 = .ok (.iconst 1, 1) := by decide +kernel
theorem d_Mo_value_48 : decode b_Mo_value 48 = .ok (.goto 4, 3) := by decide +kernel
theorem d_Mo_value_51 : decode b_Mo_value 51 = .ok (.iconst 0, 1) := by decide +kernel
theorem d_Mo_value_52 : decode b_Mo_value 52 = .ok (.istore_n 3, 1) := by decide +kernel
theorem d_Mo_value_53 : decode b_Mo_value 53 = .ok (.aload_n 0, 1) := by decide +kernel
theorem d_Mo_value_54 : decode b_Mo_value 54 = .ok (.iload_n 3, 1) := by decide +kernel
theorem d_Mo_value_55 : decode b_Mo_value 55 = .ok (.ifCond .eq 12, 3) := by decide +kernel
theorem d_Mo_value_58 : decode b_Mo_value 58 = .ok (.aload_n 0, 1) := by decide +kernel
theorem d_Mo_value_59 : decode b_Mo_value 59 = .ok (.getfield 193, 3) := by decide +kernel
theorem d_Mo_value_62 : decode b_Mo_value 62 = .ok (.iconst 1, 1) := by decide +kernel
theorem d_Mo_value_63 : decode b_Mo_value 63 = .ok (.iadd, 1) := by decide +kernel
theorem d_Mo_value_64 : decode b_Mo_value 64 = .ok (.goto 7, 3) := by decide +kernel
theorem d_Mo_value_67 : decode b_Mo_value 67 = .ok (.aload_n 0, 1) := by decide +kernel
theorem d_Mo_value_68 : decode b_Mo_value 68 = .ok (.getfield 193, 3) := by decide +kernel
theorem d_Mo_value_71 : decode b_Mo_value 71 = .ok (.putfield 193, 3) := by decide +kernel
theorem d_Mo_value_74 : decode b_Mo_value 74 = .ok (.aload_n 0, 1) := by decide +kernel
theorem d_Mo_value_75 : decode b_Mo_value 75 = .ok (.aload_n 0, 1) := by decide +kernel
theorem d_Mo_value_76 : decode b_Mo_value 76 = .ok (.getfield 193, 3) := by decide +kernel
theorem d_Mo_value_79 : decode b_Mo_value 79 = .ok (.invokevirtual 196, 3) := by decide +kernel
theorem d_Mo_value_82 : decode b_Mo_value 82 = .ok (.istore 4, 2) := by decide +kernel
theorem d_Mo_value_84 : decode b_Mo_value 84 = .ok (.iload 4, 2) := by decide +kernel
theorem d_Mo_value_86 : decode b_Mo_value 86 = .ok (.iconst (-1), 1) := by decide +kernel
theorem d_Mo_value_87 : decode b_Mo_value 87 = .ok (.if_icmp .eq 116, 3) := by decide +kernel
theorem d_Mo_value_90 : decode b_Mo_value 90 = .ok (.iload_n 3, 1) := by decide +kernel
theorem d_Mo_value_91 : decode b_Mo_value 91 = .ok (.ifCond .eq 12, 3) := by decide +kernel
theorem d_Mo_value_94 : decode b_Mo_value 94 = .ok (.iload 4, 2) := by decide +kernel
theorem d_Mo_value_96 : decode b_Mo_value 96 = .ok (.iload_n 2, 1) := by decide +kernel
theorem d_Mo_value_97 : decode b_Mo_value 97 = .ok (.if_icmp .eq 106, 3) := by decide +kernel
theorem d_Mo_value_100 : decode b_Mo_value 100 = .ok (.goto 18, 3) := by decide +kernel
theorem d_Mo_value_103 : decode b_Mo_value 103 = .ok (.iload 4, 2) := by decide +kernel
theorem d_Mo_value_105 : decode b_Mo_value 105 = .ok (.invokestatic 200, 3) := by decide +kernel
theorem d_Mo_value_108 : decode b_Mo_value 108 = .ok (.ifCond .ne 95, 3) := by decide +kernel
theorem d_Mo_value_111 : decode b_Mo_value 111 = .ok (.iload 4, 2) := by decide +kernel
theorem d_Mo_value_113 : decode b_Mo_value 113 = .ok (.bipush 62, 2) := by decide +kernel
theorem d_Mo_value_115 : decode b_Mo_value 115 = .ok (.if_icmp .eq 88, 3) := by decide +kernel
theorem d_Mo_value_118 : decode b_Mo_value 118 = .ok (.iload 4, 2) := by decide +kernel
theorem d_Mo_value_120 : decode b_Mo_value 120 = .ok (.bipush 38, 2) := by decide +kernel
theorem d_Mo_value_122 : decode b_Mo_value 122 = .ok (.if_icmp .ne 11, 3) := by decide +kernel
theorem d_Mo_value_125 : decode b_Mo_value 125 = .ok (.aload_n 0, 1) := by decide +kernel
theorem d_Mo_value_126 : decode b_Mo_value 126 = .ok (.iconst 1, 1) := by decide +kernel
theorem d_Mo_value_127 : decode b_Mo_value 127 = .ok (.invokevirtual 240, 3) := by decide +kernel
theorem d_Mo_value_130 : decode b_Mo_value 130 = .ok (.goto 60, 3) := by decide +kernel
theorem d_Mo_value_133 : decode b_Mo_value 133 = .ok (.iload_n 3, 1) := by decide +kernel
theorem d_Mo_value_134 : decode b_Mo_value 134 = .ok (.ifCond .ne 48, 3) := by decide +kernel
theorem d_Mo_value_137 : decode b_Mo_value 137 = .ok (.iload 4, 2) := by decide +kernel
theorem d_Mo_value_139 : decode b_Mo_value 139 = .ok (.bipush 34, 2) := by decide +kernel
theorem d_Mo_value_141 : decode b_Mo_value 141 = .ok (.if_icmp .eq 31, 3) := by decide +kernel
theorem d_Mo_value_144 : decode b_Mo_value 144 = .ok (.iload 4, 2) := by decide +kernel
theorem d_Mo_value_146 : decode b_Mo_value 146 = .ok (.bipush 39, 2) := by decide +kernel
theorem d_Mo_value_148 : decode b_Mo_value 148 = .ok (.if_icmp .eq 24, 3) := by decide +kernel
theorem d_Mo_value_151 : decode b_Mo_value 151 = .ok (.iload 4, 2) := by decide +kernel
theorem d_Mo_value_153 : decode b_Mo_value 153 = .ok (.bipush 60, 2) := by decide +kernel
theorem d_Mo_value_155 : decode b_Mo_value 155 = .ok (.if_icmp .eq 17, 3) := by decide +kernel
theorem d_Mo_value_158 : decode b_Mo_value 158 = .ok (.iload 4, 2) := by decide +kernel
theorem d_Mo_value_160 : decode b_Mo_value 160 = .ok (.bipush 61, 2) := by decide +kernel
theorem d_Mo_value_162 : decode b_Mo_value 162 = .ok (.if_icmp .eq 10, 3) := by decide +kernel
theorem d_Mo_value_165 : decode b_Mo_value 165 = .ok (.iload 4, 2) := by decide +kernel
theorem d_Mo_value_167 : decode b_Mo_value 167 = .ok (.bipush 96, 2) := by decide +kernel
theorem d_Mo_value_169 : decode b_Mo_value 169 = .ok (.if_icmp .ne 13, 3) := by decide +kernel
theorem d_Mo_value_172 : decode b_Mo_value 172 = .ok (.aload_n 0, 1) := by decide +kernel
theorem d_Mo_value_173 : decode b_Mo_value 173 = .ok (.bipush 11, 2) := by decide +kernel
theorem d_Mo_value_175 : decode b_Mo_value 175 = .ok (.aload_n 0, 1) := by decide +kernel
theorem d_Mo_value_176 : decode b_Mo_value 176 = .ok (.getfield 193, 3) := by decide +kernel
theorem d_Mo_value_179 : decode b_Mo_value 179 = .ok (.invokevirtual 209, 3) := by decide +kernel
theorem d_Mo_value_182 : decode b_Mo_value 182 = .ok (.aload_n 0, 1) := by decide +kernel
theorem d_Mo_value_183 : decode b_Mo_value 183 = .ok (.aload_n 0, 1) := by decide +kernel
theorem d_Mo_value_184 : decode b_Mo_value 184 = .ok (.invokevirtual 268, 3) := by decide +kernel
theorem d_Mo_value_187 : decode b_Mo_value 187 = .ok (.invokevirtual 220, 3) := by decide +kernel
theorem d_Mo_value_190 : decode b_Mo_value 190 = .ok (.aload_n 0, 1) := by decide +kernel
theorem d_Mo_value_191 : decode b_Mo_value 191 = .ok (.aload_n 0, 1) := by decide +kernel
theorem d_Mo_value_192 : decode b_Mo_value 192 = .ok (.getfield 193, 3) := by decide +kernel
theorem d_Mo_value_195 : decode b_Mo_value 195 = .ok (.invokevirtual 196, 3) := by decide +kernel
theorem d_Mo_value_198 : decode b_Mo_value 198 = .ok (.istore 4, 2) := by decide +kernel
theorem d_Mo_value_200 : decode b_Mo_value 200 = .ok (.goto (-116), 3) := by decide +kernel
theorem d_Mo_value_203 : decode b_Mo_value 203 = .ok (.aload_n 0, 1) := by decide +kernel
theorem d_Mo_value_204 : decode b_Mo_value 204 = .ok (.getfield 161, 3) := by decide +kernel
theorem d_Mo_value_207 : decode b_Mo_value 207 = .ok (.iload_n 1, 1) := by decide +kernel
theorem d_Mo_value_208 : decode b_Mo_value 208 = .ok (.aload_n 0, 1) := by decide +kernel
theorem d_Mo_value_209 : decode b_Mo_value 209 = .ok (.getfield 206, 3) := by decide +kernel
theorem d_Mo_value_212 : decode b_Mo_value 212 = .ok (.aload_n 0, 1) := by decide +kernel
theorem d_Mo_value_213 : decode b_Mo_value 213 = .ok (.getfield 158, 3) := by decide +kernel
theorem d_Mo_value_216 : decode b_Mo_value 216 = .ok (.iload_n 1, 1) := by decide +kernel
theorem d_Mo_value_217 : decode b_Mo_value 217 = .ok (.iaload, 1) := by decide +kernel
theorem d_Mo_value_218 : decode b_Mo_value 218 = .ok (.isub, 1) := by decide +kernel
theorem d_Mo_value_219 : decode b_Mo_value 219 = .ok (.iastore, 1) := by decide +kernel
theorem d_Mo_value_220 : decode b_Mo_value 220 = .ok (.iload 4, 2) := by decide +kernel
theorem d_Mo_value_222 : decode b_Mo_value 222 = .ok (.iconst (-1), 1) := by decide +kernel
theorem d_Mo_value_223 : decode b_Mo_value 223 = .ok (.if_icmp .ne 9, 3) := by decide +kernel
theorem d_Mo_value_226 : decode b_Mo_value 226 = .ok (.aload_n 0, 1) := by decide +kernel
theorem d_Mo_value_227 : decode b_Mo_value 227 = .ok (.invokevirtual 282, 3) := by decide +kernel
theorem d_Mo_value_230 : decode b_Mo_value 230 = .ok (.iconst 0, 1) := by decide +kernel
theorem d_Mo_value_231 : decode b_Mo_value 231 = .ok (.ireturn, 1) := by decide +kernel
theorem d_Mo_value_232 : decode b_Mo_value 232 = .ok (.iload_n 3, 1) := by decide +kernel
theorem d_Mo_value_233 : decode b_Mo_value 233 = .ok (.ifCond .eq 61, 3) := by decide +kernel
theorem d_Mo_value_236 : decode b_Mo_value 236 = .ok (.aload_n 0, 1) := by decide +kernel
theorem d_Mo_value_237 : decode b_Mo_value 237 = .ok (.dup, 1) := by decide +kernel
theorem d_Mo_value_238 : decode b_Mo_value 238 = .ok (.getfield 193, 3) := by decide +kernel
theorem d_Mo_value_241 : decode b_Mo_value 241 = .ok (.iconst 1, 1) := by decide +kernel
theorem d_Mo_value_242 : decode b_Mo_value 242 = .ok (.iadd, 1) := by decide +kernel
theorem d_Mo_value_243 : decode b_Mo_value 243 = .ok (.putfield 193, 3) := by decide +kernel
theorem d_Mo_value_246 : decode b_Mo_value 246 = .ok (.aload_n 0, 1) := by decide +kernel
theorem d_Mo_value_247 : decode b_Mo_value 247 = .ok (.aload_n 0, 1) := by decide +kernel
theorem d_Mo_value_248 : decode b_Mo_value 248 = .ok (.getfield 193, 3) := by decide +kernel
theorem d_Mo_value_251 : decode b_Mo_value 251 = .ok (.invokevirtual 196, 3) := by decide +kernel
theorem d_Mo_value_254 : decode b_Mo_value 254 = .ok (.istore 4, 2) := by decide +kernel
theorem d_Mo_value_256 : decode b_Mo_value 256 = .ok (.iload 4, 2) := by decide +kernel
theorem d_Mo_value_258 : decode b_Mo_value 258 = .ok (.iconst (-1), 1) := by decide +kernel
theorem d_Mo_value_259 : decode b_Mo_value 259 = .ok (.if_icmp .eq 35, 3) := by decide +kernel
theorem d_Mo_value_262 : decode b_Mo_value 262 = .ok (.iload 4, 2) := by decide +kernel
theorem d_Mo_value_264 : decode b_Mo_value 264 = .ok (.invokestatic 200, 3) := by decide +kernel
theorem d_Mo_value_267 : decode b_Mo_value 267 = .ok (.ifCond .ne 27, 3) := by decide +kernel
theorem d_Mo_value_270 : decode b_Mo_value 270 = .ok (.iload 4, 2) := by decide +kernel
theorem d_Mo_value_272 : decode b_Mo_value 272 = .ok (.bipush 47, 2) := by decide +kernel
theorem d_Mo_value_274 : decode b_Mo_value 274 = .ok (.if_icmp .eq 20, 3) := by decide +kernel
theorem d_Mo_value_277 : decode b_Mo_value 277 = .ok (.iload 4, 2) := by decide +kernel
theorem d_Mo_value_279 : decode b_Mo_value 279 = .ok (.bipush 62, 2) := by decide +kernel
theorem d_Mo_value_281 : decode b_Mo_value 281 = .ok (.if_icmp .eq 13, 3) := by decide +kernel
theorem d_Mo_value_284 : decode b_Mo_value 284 = .ok (.aload_n 0, 1) := by decide +kernel
theorem d_Mo_value_285 : decode b_Mo_value 285 = .ok (.bipush 12, 2) := by decide +kernel
theorem d_Mo_value_287 : decode b_Mo_value 287 = .ok (.aload_n 0, 1) := by decide +kernel
theorem d_Mo_value_288 : decode b_Mo_value 288 = .ok (.getfield 193, 3) := by decide +kernel
theorem d_Mo_value_291 : decode b_Mo_value 291 = .ok (.invokevirtual 209, 3) := by decide +kernel
theorem d_Mo_value_294 : decode b_Mo_value 294 = .ok (.iconst 1, 1) := by decide +kernel
theorem d_Mo_value_295 : decode b_Mo_value 295 = .ok (.ireturn, 1) := by decide +kernel
theorem d_Mo_attribute_0 : decode b_Mo_attribute 0 = .ok (.aload_n 0, 1) := by decide +kernel
theorem d_Mo_attribute_1 : decode b_Mo_attribute 1 = .ok (.getfield 230, 3) := by decide +kernel
theorem d_Mo_attribute_4 : decode b_Mo_attribute 4 = .ok (.istore_n 1, 1) := by decide +kernel
theorem d_Mo_attribute_5 : decode b_Mo_attribute 5 = .ok (.aload_n 0, 1) := by decide +kernel
theorem d_Mo_attribute_6 : decode b_Mo_attribute 6 = .ok (.dup, 1) := by decide +kernel
theorem d_Mo_attribute_7 : decode b_Mo_attribute 7 = .ok (.getfield 230, 3) := by decide +kernel
theorem d_Mo_attribute_10 : decode b_Mo_attribute 10 = .ok (.iconst 1, 1) := by decide +kernel
theorem d_Mo_attribute_11 : decode b_Mo_attribute 11 = .ok (.iadd, 1) := by decide +kernel
theorem d_Mo_attribute_12 : decode b_Mo_attribute 12 = .ok (.putfield 230, 3) := by decide +kernel
theorem d_Mo_attribute_15 : decode b_Mo_attribute 15 = .ok (.aload_n 0, 1) := by decide +kernel
theorem d_Mo_attribute_16 : decode b_Mo_attribute 16 = .ok (.getfield 152, 3) := by decide +kernel
theorem d_Mo_attribute_19 : decode b_Mo_attribute 19 = .ok (.iload_n 1, 1) := by decide +kernel
theorem d_Mo_attribute_20 : decode b_Mo_attribute 20 = .ok (.aload_n 0, 1) := by decide +kernel
theorem d_Mo_attribute_21 : decode b_Mo_attribute 21 = .ok (.getfield 206, 3) := by decide +kernel
theorem d_Mo_attribute_24 : decode b_Mo_attribute 24 = .ok (.iastore, 1) := by decide +kernel
theorem d_Mo_attribute_25 : decode b_Mo_attribute 25 = .ok (.aload_n 0, 1) := by decide +kernel
theorem d_Mo_attribute_26 : decode b_Mo_attribute 26 = .ok (.getfield 161, 3) := by decide +kernel
theorem d_Mo_attribute_29 : decode b_Mo_attribute 29 = .ok (.iload_n 1, 1) := by decide +kernel
theorem d_Mo_attribute_30 : decode b_Mo_attribute 30 = .ok (.iconst 0, 1) := by decide +kernel
theorem d_Mo_attribute_31 : decode b_Mo_attribute 31 = .ok (.iastore, 1) := by decide +kernel
theorem d_Mo_attribute_32 : decode b_Mo_attribute 32 = .ok (.aload_n 0, 1) := by decide +kernel
theorem d_Mo_attribute_33 : decode b_Mo_attribute 33 = .ok (.aload_n 0, 1) := by decide +kernel
theorem d_Mo_attribute_34 : decode b_Mo_attribute 34 = .ok (.getfield 193, 3) := by decide +kernel
theorem d_Mo_attribute_37 : decode b_Mo_attribute 37 = .ok (.invokevirtual 196, 3) := by decide +kernel
theorem d_Mo_attribute_40 : decode b_Mo_attribute 40 = .ok (.bipush 61, 2) := by decide +kernel
theorem d_Mo_attribute_42 : decode b_Mo_attribute 42 = .ok (.if_icmp .ne 29, 3) := by decide +kernel
theorem d_Mo_attribute_45 : decode b_Mo_attribute 45 = .ok (.aload_n 0, 1) := by decide +kernel
theorem d_Mo_attribute_46 : decode b_Mo_attribute 46 = .ok (.bipush 7, 2) := by decide +kernel
theorem d_Mo_attribute_48 : decode b_Mo_attribute 48 = .ok (.aload_n 0, 1) := by decide +kernel
theorem d_Mo_attribute_49 : decode b_Mo_attribute 49 = .ok (.getfield 193, 3) := by decide +kernel
theorem d_Mo_attribute_52 : decode b_Mo_attribute 52 = .ok (.invokevirtual 209, 3) := by decide +kernel
theorem d_Mo_attribute_55 : decode b_Mo_attribute 55 = .ok (.aload_n 0, 1) := by decide +kernel
theorem d_Mo_attribute_56 : decode b_Mo_attribute 56 = .ok (.bipush 61, 2) := by decide +kernel
theorem d_Mo_attribute_58 : decode b_Mo_attribute 58 = .ok (.invokevirtual 220, 3) := by decide +kernel
theorem d_Mo_attribute_61 : decode b_Mo_attribute 61 = .ok (.aload_n 0, 1) := by decide +kernel
theorem d_Mo_attribute_62 : decode b_Mo_attribute 62 = .ok (.dup, 1) := by decide +kernel
theorem d_Mo_attribute_63 : decode b_Mo_attribute 63 = .ok (.getfield 193, 3) := by decide +kernel
theorem d_Mo_attribute_66 : decode b_Mo_attribute 66 = .ok (.iconst 1, 1) := by decide +kernel
theorem d_Mo_attribute_67 : decode b_Mo_attribute 67 = .ok (.iadd, 1) := by decide +kernel
theorem d_Mo_attribute_68 : decode b_Mo_attribute 68 = .ok (.putfield 193, 3) := by decide +kernel
theorem d_Mo_attribute_71 : decode b_Mo_attribute 71 = .ok (.aload_n 0, 1) := by decide +kernel
theorem d_Mo_attribute_72 : decode b_Mo_attribute 72 = .ok (.aload_n 0, 1) := by decide +kernel
theorem d_Mo_attribute_73 : decode b_Mo_attribute 73 = .ok (.getfield 193, 3) := by decide +kernel
theorem d_Mo_attribute_76 : decode b_Mo_attribute 76 = .ok (.invokevirtual 196, 3) := by decide +kernel
theorem d_Mo_attribute_79 : decode b_Mo_attribute 79 = .ok (.istore_n 2, 1) := by decide +kernel
theorem d_Mo_attribute_80 : decode b_Mo_attribute 80 = .ok (.iload_n 2, 1) := by decide +kernel
theorem d_Mo_attribute_81 : decode b_Mo_attribute 81 = .ok (.iconst (-1), 1) := by decide +kernel
theorem d_Mo_attribute_82 : decode b_Mo_attribute 82 = .ok (.if_icmp .eq 79, 3) := by decide +kernel
theorem d_Mo_attribute_85 : decode b_Mo_attribute 85 = .ok (.iload_n 2, 1) := by decide +kernel
theorem d_Mo_attribute_86 : decode b_Mo_attribute 86 = .ok (.invokestatic 200, 3) := by decide +kernel
theorem d_Mo_attribute_89 : decode b_Mo_attribute 89 = .ok (.ifCond .ne 72, 3) := by decide +kernel
theorem d_Mo_attribute_92 : decode b_Mo_attribute 92 = .ok (.iload_n 2, 1) := by decide +kernel
theorem d_Mo_attribute_93 : decode b_Mo_attribute 93 = .ok (.bipush 47, 2) := by decide +kernel
theorem d_Mo_attribute_95 : decode b_Mo_attribute 95 = .ok (.if_icmp .eq 66, 3) := by decide +kernel
theorem d_Mo_attribute_98 : decode b_Mo_attribute 98 = .ok (.iload_n 2, 1) := by decide +kernel
theorem d_Mo_attribute_99 : decode b_Mo_attribute 99 = .ok (.bipush 62, 2) := by decide +kernel
theorem d_Mo_attribute_101 : decode b_Mo_attribute 101 = .ok (.if_icmp .eq 60, 3) := by decide +kernel
theorem d_Mo_attribute_104 : decode b_Mo_attribute 104 = .ok (.iload_n 2, 1) := by decide +kernel
theorem d_Mo_attribute_105 : decode b_Mo_attribute 105 = .ok (.bipush 61, 2) := by decide +kernel
theorem d_Mo_attribute_107 : decode b_Mo_attribute 107 = .ok (.if_icmp .eq 54, 3) := by decide +kernel
theorem d_Mo_attribute_110 : decode b_Mo_attribute 110 = .ok (.iload_n 2, 1) := by decide +kernel
theorem d_Mo_attribute_111 : decode b_Mo_attribute 111 = .ok (.bipush 34, 2) := by decide +kernel
theorem d_Mo_attribute_113 : decode b_Mo_attribute 113 = .ok (.if_icmp .eq 15, 3) := by decide +kernel
theorem d_Mo_attribute_116 : decode b_Mo_attribute 116 = .ok (.iload_n 2, 1) := by decide +kernel
theorem d_Mo_attribute_117 : decode b_Mo_attribute 117 = .ok (.bipush 39, 2) := by decide +kernel
theorem d_Mo_attribute_119 : decode b_Mo_attribute 119 = .ok (.if_icmp .eq 9, 3) := by decide +kernel
theorem d_Mo_attribute_122 : decode b_Mo_attribute 122 = .ok (.iload_n 2, 1) := by decide +kernel
theorem d_Mo_attribute_123 : decode b_Mo_attribute 123 = .ok (.bipush 60, 2) := by decide +kernel
theorem d_Mo_attribute_125 : decode b_Mo_attribute 125 = .ok (.if_icmp .ne 13, 3) := by decide +kernel
theorem d_Mo_attribute_128 : decode b_Mo_attribute 128 = .ok (.aload_n 0, 1) := by decide +kernel
theorem d_Mo_attribute_129 : decode b_Mo_attribute 129 = .ok (.bipush 8, 2) := by decide +kernel
theorem d_Mo_attribute_131 : decode b_Mo_attribute 131 = .ok (.aload_n 0, 1) := by decide +kernel
theorem d_Mo_attribute_132 : decode b_Mo_attribute 132 = .ok (.getfield 193, 3) := by decide +kernel
theorem d_Mo_attribute_135 : decode b_Mo_attribute 135 = .ok (.invokevirtual 209, 3) := by decide +kernel
theorem d_Mo_attribute_138 : decode b_Mo_attribute 138 = .ok (.aload_n 0, 1) := by decide +kernel
theorem d_Mo_attribute_139 : decode b_Mo_attribute 139 = .ok (.aload_n 0, 1) := by decide +kernel
theorem d_Mo_attribute_140 : decode b_Mo_attribute 140 = .ok (.invokevirtual 268, 3) := by decide +kernel
theorem d_Mo_attribute_143 : decode b_Mo_attribute 143 = .ok (.invokestatic 272, 3) := by decide +kernel
theorem d_Mo_attribute_146 : decode b_Mo_attribute 146 = .ok (.invokevirtual 220, 3) := by decide +kernel
theorem d_Mo_attribute_149 : decode b_Mo_attribute 149 = .ok (.aload_n 0, 1) := by decide +kernel
theorem d_Mo_attribute_150 : decode b_Mo_attribute 150 = .ok (.aload_n 0, 1) := by decide +kernel
theorem d_Mo_attribute_151 : decode b_Mo_attribute 151 = .ok (.getfield 193, 3) := by decide +kernel
theorem d_Mo_attribute_154 : decode b_Mo_attribute 154 = .ok (.invokevirtual 196, 3) := by decide +kernel
theorem d_Mo_attribute_157 : decode b_Mo_attribute 157 = .ok (.istore_n 2, 1) := by decide +kernel
theorem d_Mo_attribute_158 : decode b_Mo_attribute 158 = .ok (.goto (-78), 3) := by decide +kernel
theorem d_Mo_attribute_161 : decode b_Mo_attribute 161 = .ok (.aload_n 0, 1) := by decide +kernel
theorem d_Mo_attribute_162 : decode b_Mo_attribute 162 = .ok (.getfield 155, 3) := by decide +kernel
theorem d_Mo_attribute_165 : decode b_Mo_attribute 165 = .ok (.iload_n 1, 1) := by decide +kernel
theorem d_Mo_attribute_166 : decode b_Mo_attribute 166 = .ok (.aload_n 0, 1) := by decide +kernel
theorem d_Mo_attribute_167 : decode b_Mo_attribute 167 = .ok (.getfield 206, 3) := by decide +kernel
theorem d_Mo_attribute_170 : decode b_Mo_attribute 170 = .ok (.aload_n 0, 1) := by decide +kernel
theorem d_Mo_attribute_171 : decode b_Mo_attribute 171 = .ok (.getfield 152, 3) := by decide +kernel
theorem d_Mo_attribute_174 : decode b_Mo_attribute 174 = .ok (.iload_n 1, 1) := by decide +kernel
theorem d_Mo_attribute_175 : decode b_Mo_attribute 175 = .ok (.iaload, 1) := by decide +kernel
theorem d_Mo_attribute_176 : decode b_Mo_attribute 176 = .ok (.isub, 1) := by decide +kernel
theorem d_Mo_attribute_177 : decode b_Mo_attribute 177 = .ok (.iastore, 1) := by decide +kernel
theorem d_Mo_attribute_178 : decode b_Mo_attribute 178 = .ok (.aload_n 0, 1) := by decide +kernel
theorem d_Mo_attribute_179 : decode b_Mo_attribute 179 = .ok (.getfield 158, 3) := by decide +kernel
theorem d_Mo_attribute_182 : decode b_Mo_attribute 182 = .ok (.iload_n 1, 1) := by decide +kernel
theorem d_Mo_attribute_183 : decode b_Mo_attribute 183 = .ok (.aload_n 0, 1) := by decide +kernel
theorem d_Mo_attribute_184 : decode b_Mo_attribute 184 = .ok (.getfield 206, 3) := by decide +kernel
theorem d_Mo_attribute_187 : decode b_Mo_attribute 187 = .ok (.iastore, 1) := by decide +kernel
theorem d_Mo_attribute_188 : decode b_Mo_attribute 188 = .ok (.aload_n 0, 1) := by decide +kernel
theorem d_Mo_attribute_189 : decode b_Mo_attribute 189 = .ok (.getfield 164, 3) := by decide +kernel
theorem d_Mo_attribute_192 : decode b_Mo_attribute 192 = .ok (.iload_n 1, 1) := by decide +kernel
theorem d_Mo_attribute_193 : decode b_Mo_attribute 193 = .ok (.aload_n 0, 1) := by decide +kernel
theorem d_Mo_attribute_194 : decode b_Mo_attribute 194 = .ok (.iload_n 1, 1) := by decide +kernel
theorem d_Mo_attribute_195 : decode b_Mo_attribute 195 = .ok (.invokevirtual 291, 3) := by decide +kernel
theorem d_Mo_attribute_198 : decode b_Mo_attribute 198 = .ok (.bastore, 1) := by decide +kernel
theorem d_Mo_attribute_199 : decode b_Mo_attribute 199 = .ok (.aload_n 0, 1) := by decide +kernel
theorem d_Mo_attribute_200 : decode b_Mo_attribute 200 = .ok (.getfield 164, 3) := by decide +kernel
theorem d_Mo_attribute_203 : decode b_Mo_attribute 203 = .ok (.iload_n 1, 1) := by decide +kernel
theorem d_Mo_attribute_204 : decode b_Mo_attribute 204 = .ok (.baload, 1) := by decide +kernel
theorem d_Mo_attribute_205 : decode b_Mo_attribute 205 = .ok (.ifCond .eq 13, 3) := by decide +kernel
theorem d_Mo_attribute_208 : decode b_Mo_attribute 208 = .ok (.aload_n 0, 1) := by decide +kernel
theorem d_Mo_attribute_209 : decode b_Mo_attribute 209 = .ok (.bipush 9, 2) := by decide +kernel
theorem d_Mo_attribute_211 : decode b_Mo_attribute 211 = .ok (.aload_n 0, 1) := by decide +kernel
theorem d_Mo_attribute_212 : decode b_Mo_attribute 212 = .ok (.getfield 193, 3) := by decide +kernel
theorem d_Mo_attribute_215 : decode b_Mo_attribute 215 = .ok (.invokevirtual 209, 3) := by decide +kernel
theorem d_Mo_attribute_218 : decode b_Mo_attribute 218 = .ok (.aload_n 0, 1) := by decide +kernel
theorem d_Mo_attribute_219 : decode b_Mo_attribute 219 = .ok (.invokevirtual 279, 3) := by decide +kernel
theorem d_Mo_attribute_222 : decode b_Mo_attribute 222 = .ok (.aload_n 0, 1) := by decide +kernel
theorem d_Mo_attribute_223 : decode b_Mo_attribute 223 = .ok (.aload_n 0, 1) := by decide +kernel
theorem d_Mo_attribute_224 : decode b_Mo_attribute 224 = .ok (.getfield 193, 3) := by decide +kernel
theorem d_Mo_attribute_227 : decode b_Mo_attribute 227 = .ok (.invokevirtual 196, 3) := by decide +kernel
theorem d_Mo_attribute_230 : decode b_Mo_attribute 230 = .ok (.bipush 61, 2) := by decide +kernel
theorem d_Mo_attribute_232 : decode b_Mo_attribute 232 = .ok (.if_icmp .eq 5, 3) := by decide +kernel
theorem d_Mo_attribute_235 : decode b_Mo_attribute 235 = .ok (.iconst 1, 1) := by decide +kernel
theorem d_Mo_attribute_236 : decode b_Mo_attribute 236 = .ok (.ireturn, 1) := by decide +kernel
theorem d_Mo_attribute_237 : decode b_Mo_attribute 237 = .ok (.aload_n 0, 1) := by decide +kernel
theorem d_Mo_attribute_238 : decode b_Mo_attribute 238 = .ok (.dup, 1) := by decide +kernel
theorem d_Mo_attribute_239 : decode b_Mo_attribute 239 = .ok (.getfield 193, 3) := by decide +kernel
theorem d_Mo_attribute_242 : decode b_Mo_attribute 242 = .ok (.iconst 1, 1) := by decide +kernel
theorem d_Mo_attribute_243 : decode b_Mo_attribute 243 = .ok (.iadd, 1) := by decide +kernel
theorem d_Mo_attribute_244 : decode b_Mo_attribute 244 = .ok (.putfield 193, 3) := by decide +kernel
theorem d_Mo_attribute_247 : decode b_Mo_attribute 247 = .ok (.aload_n 0, 1) := by decide +kernel
theorem d_Mo_attribute_248 : decode b_Mo_attribute 248 = .ok (.iload_n 1, 1) := by decide +kernel
theorem d_Mo_attribute_249 : decode b_Mo_attribute 249 = .ok (.invokevirtual 294, 3) := by decide +kernel
theorem d_Mo_attribute_252 : decode b_Mo_attribute 252 = .ok (.ireturn, 1) := by decide +kernel
theorem d_Mo_behindName_0 : decode b_Mo_behindName 0 = .ok (.aload_n 0, 1) := by decide +kernel
theorem d_Mo_behindName_1 : decode b_Mo_behindName 1 = .ok (.invokevirtual 279, 3) := by decide +kernel
theorem d_Mo_behindName_4 : decode b_Mo_behindName 4 = .ok (.aload_n 0, 1) := by decide +kernel
theorem d_Mo_behindName_5 : decode b_Mo_behindName 5 = .ok (.aload_n 0, 1) := by decide +kernel
theorem d_Mo_behindName_6 : decode b_Mo_behindName 6 = .ok (.getfield 193, 3) := by decide +kernel
theorem d_Mo_behindName_9 : decode b_Mo_behindName 9 = .ok (.invokevirtual 196, 3) := by decide +kernel
theorem d_Mo_behindName_12 : decode b_Mo_behindName 12 = .ok (.istore_n 1, 1) := by decide +kernel
theorem d_Mo_behindName_13 : decode b_Mo_behindName 13 = .ok (.iload_n 1, 1) := by decide +kernel
theorem d_Mo_behindName_14 : decode b_Mo_behindName 14 = .ok (.iconst (-1), 1) := by decide +kernel
theorem d_Mo_behindName_15 : decode b_Mo_behindName 15 = .ok (.if_icmp .ne 9, 3) := by decide +kernel
theorem d_Mo_behindName_18 : decode b_Mo_behindName 18 = .ok (.aload_n 0, 1) := by decide +kernel
theorem d_Mo_behindName_19 : decode b_Mo_behindName 19 = .ok (.invokevirtual 282, 3) := by decide +kernel
theorem d_Mo_behindName_22 : decode b_Mo_behindName 22 = .ok (.iconst 0, 1) := by decide +kernel
theorem d_Mo_behindName_23 : decode b_Mo_behindName 23 = .ok (.ireturn, 1) := by decide +kernel
theorem d_Mo_behindName_24 : decode b_Mo_behindName 24 = .ok (.iload_n 1, 1) := by decide +kernel
theorem d_Mo_behindName_25 : decode b_Mo_behindName 25 = .ok (.bipush 62, 2) := by decide +kernel
theorem d_Mo_behindName_27 : decode b_Mo_behindName 27 = .ok (.if_icmp .ne 9, 3) := by decide +kernel
theorem d_Mo_behindName_30 : decode b_Mo_behindName 30 = .ok (.aload_n 0, 1) := by decide +kernel
theorem d_Mo_behindName_31 : decode b_Mo_behindName 31 = .ok (.invokevirtual 285, 3) := by decide +kernel
theorem d_Mo_behindName_34 : decode b_Mo_behindName 34 = .ok (.iconst 0, 1) := by decide +kernel
theorem d_Mo_behindName_35 : decode b_Mo_behindName 35 = .ok (.ireturn, 1) := by decide +kernel
theorem d_Mo_behindName_36 : decode b_Mo_behindName 36 = .ok (.iload_n 1, 1) := by decide +kernel
theorem d_Mo_behindName_37 : decode b_Mo_behindName 37 = .ok (.bipush 47, 2) := by decide +kernel
theorem d_Mo_behindName_39 : decode b_Mo_behindName 39 = .ok (.if_icmp .ne 72, 3) := by decide +kernel
theorem d_Mo_behindName_42 : decode b_Mo_behindName 42 = .ok (.aload_n 0, 1) := by decide +kernel
theorem d_Mo_behindName_43 : decode b_Mo_behindName 43 = .ok (.dup, 1) := by decide +kernel
theorem d_Mo_behindName_44 : decode b_Mo_behindName 44 = .ok (.getfield 193, 3) := by decide +kernel
theorem d_Mo_behindName_47 : decode b_Mo_behindName 47 = .ok (.iconst 1, 1) := by decide +kernel
theorem d_Mo_behindName_48 : decode b_Mo_behindName 48 = .ok (.iadd, 1) := by decide +kernel
theorem d_Mo_behindName_49 : decode b_Mo_behindName 49 = .ok (.putfield 193, 3) := by decide +kernel
theorem d_Mo_behindName_52 : decode b_Mo_behindName 52 = .ok (.aload_n 0, 1) := by decide +kernel
theorem d_Mo_behindName_53 : decode b_Mo_behindName 53 = .ok (.aload_n 0, 1) := by decide +kernel
theorem d_Mo_behindName_54 : decode b_Mo_behindName 54 = .ok (.getfield 193, 3) := by decide +kernel
theorem d_Mo_behindName_57 : decode b_Mo_behindName 57 = .ok (.invokevirtual 196, 3) := by decide +kernel
theorem d_Mo_behindName_60 : decode b_Mo_behindName 60 = .ok (.bipush 62, 2) := by decide +kernel
theorem d_Mo_behindName_62 : decode b_Mo_behindName 62 = .ok (.if_icmp .ne 19, 3) := by decide +kernel
theorem d_Mo_behindName_65 : decode b_Mo_behindName 65 = .ok (.aload_n 0, 1) := by decide +kernel
theorem d_Mo_behindName_66 : decode b_Mo_behindName 66 = .ok (.getfield 142, 3) := by decide +kernel
theorem d_Mo_behindName_69 : decode b_Mo_behindName 69 = .ok (.aload_n 0, 1) := by decide +kernel
theorem d_Mo_behindName_70 : decode b_Mo_behindName 70 = .ok (.getfield 227, 3) := by decide +kernel
theorem d_Mo_behindName_73 : decode b_Mo_behindName 73 = .ok (.iconst 1, 1) := by decide +kernel
theorem d_Mo_behindName_74 : decode b_Mo_behindName 74 = .ok (.bastore, 1) := by decide +kernel
theorem d_Mo_behindName_75 : decode b_Mo_behindName 75 = .ok (.aload_n 0, 1) := by decide +kernel
theorem d_Mo_behindName_76 : decode b_Mo_behindName 76 = .ok (.invokevirtual 285, 3) := by decide +kernel
theorem d_Mo_behindName_79 : decode b_Mo_behindName 79 = .ok (.iconst 0, 1) := by decide +kernel
theorem d_Mo_behindName_80 : decode b_Mo_behindName 80 = .ok (.ireturn, 1) := by decide +kernel
theorem d_Mo_behindName_81 : decode b_Mo_behindName 81 = .ok (.aload_n 0, 1) := by decide +kernel
theorem d_Mo_behindName_82 : decode b_Mo_behindName 82 = .ok (.aload_n 0, 1) := by decide +kernel
theorem d_Mo_behindName_83 : decode b_Mo_behindName 83 = .ok (.getfield 193, 3) := by decide +kernel
theorem d_Mo_behindName_86 : decode b_Mo_behindName 86 = .ok (.invokevirtual 196, 3) := by decide +kernel
theorem d_Mo_behindName_89 : decode b_Mo_behindName 89 = .ok (.iconst (-1), 1) := by decide +kernel
theorem d_Mo_behindName_90 : decode b_Mo_behindName 90 = .ok (.if_icmp .ne 9, 3) := by decide +kernel
theorem d_Mo_behindName_93 : decode b_Mo_behindName 93 = .ok (.aload_n 0, 1) := by decide +kernel
theorem d_Mo_behindName_94 : decode b_Mo_behindName 94 = .ok (.invokevirtual 282, 3) := by decide +kernel
theorem d_Mo_behindName_97 : decode b_Mo_behindName 97 = .ok (.iconst 0, 1) := by decide +kernel
theorem d_Mo_behindName_98 : decode b_Mo_behindName 98 = .ok (.ireturn, 1) := by decide +kernel
theorem d_Mo_behindName_99 : decode b_Mo_behindName 99 = .ok (.aload_n 0, 1) := by decide +kernel
theorem d_Mo_behindName_100 : decode b_Mo_behindName 100 = .ok (.bipush 13, 2) := by decide +kernel
theorem d_Mo_behindName_102 : decode b_Mo_behindName 102 = .ok (.aload_n 0, 1) := by decide +kernel
theorem d_Mo_behindName_103 : decode b_Mo_behindName 103 = .ok (.getfield 193, 3) := by decide +kernel
theorem d_Mo_behindName_106 : decode b_Mo_behindName 106 = .ok (.invokevirtual 209, 3) := by decide +kernel
theorem d_Mo_behindName_109 : decode b_Mo_behindName 109 = .ok (.iconst 1, 1) := by decide +kernel
theorem d_Mo_behindName_110 : decode b_Mo_behindName 110 = .ok (.ireturn, 1) := by decide +kernel
theorem d_Mo_behindName_111 : decode b_Mo_behindName 111 = .ok (.aload_n 0, 1) := by decide +kernel
theorem d_Mo_behindName_112 : decode b_Mo_behindName 112 = .ok (.invokevirtual 288, 3) := by decide +kernel
theorem d_Mo_behindName_115 : decode b_Mo_behindName 115 = .ok (.ireturn, 1) := by decide +kernel
theorem d_Mo_tagName_0 : decode b_Mo_tagName 0 = .ok (.aload_n 0, 1) := by decide +kernel
theorem d_Mo_tagName_1 : decode b_Mo_tagName 1 = .ok (.aload_n 0, 1) := by decide +kernel
theorem d_Mo_tagName_2 : decode b_Mo_tagName 2 = .ok (.getfield 193, 3) := by decide +kernel
theorem d_Mo_tagName_5 : decode b_Mo_tagName 5 = .ok (.invokevirtual 196, 3) := by decide +kernel
theorem d_Mo_tagName_8 : decode b_Mo_tagName 8 = .ok (.istore_n 1, 1) := by decide +kernel
theorem d_Mo_tagName_9 : decode b_Mo_tagName 9 = .ok (.iload_n 1, 1) := by decide +kernel
theorem d_Mo_tagName_10 : decode b_Mo_tagName 10 = .ok (.iconst (-1), 1) := by decide +kernel
theorem d_Mo_tagName_11 : decode b_Mo_tagName 11 = .ok (.if_icmp .eq 45, 3) := by decide +kernel
theorem d_Mo_tagName_14 : decode b_Mo_tagName 14 = .ok (.iload_n 1, 1) := by decide +kernel
theorem d_Mo_tagName_15 : decode b_Mo_tagName 15 = .ok (.invokestatic 200, 3) := by decide +kernel
theorem d_Mo_tagName_18 : decode b_Mo_tagName 18 = .ok (.ifCond .ne 38, 3) := by decide +kernel
theorem d_Mo_tagName_21 : decode b_Mo_tagName 21 = .ok (.iload_n 1, 1) := by decide +kernel
theorem d_Mo_tagName_22 : decode b_Mo_tagName 22 = .ok (.bipush 47, 2) := by decide +kernel
theorem d_Mo_tagName_24 : decode b_Mo_tagName 24 = .ok (.if_icmp .eq 32, 3) := by decide +kernel
theorem d_Mo_tagName_27 : decode b_Mo_tagName 27 = .ok (.iload_n 1, 1) := by decide +kernel
theorem d_Mo_tagName_28 : decode b_Mo_tagName 28 = .ok (.bipush 62, 2) := by decide +kernel
theorem d_Mo_tagName_30 : decode b_Mo_tagName 30 = .ok (.if_icmp .eq 26, 3) := by decide +kernel
theorem d_Mo_tagName_33 : decode b_Mo_tagName 33 = .ok (.aload_n 0, 1) := by decide +kernel
theorem d_Mo_tagName_34 : decode b_Mo_tagName 34 = .ok (.aload_n 0, 1) := by decide +kernel
theorem d_Mo_tagName_35 : decode b_Mo_tagName 35 = .ok (.invokevirtual 268, 3) := by decide +kernel
theorem d_Mo_tagName_38 : decode b_Mo_tagName 38 = .ok (.invokestatic 272, 3) := by decide +kernel
theorem d_Mo_tagName_41 : decode b_Mo_tagName 41 = .ok (.invokevirtual 220, 3) := by decide +kernel
theorem d_Mo_tagName_44 : decode b_Mo_tagName 44 = .ok (.aload_n 0, 1) := by decide +kernel
theorem d_Mo_tagName_45 : decode b_Mo_tagName 45 = .ok (.aload_n 0, 1) := by decide +kernel
theorem d_Mo_tagName_46 : decode b_Mo_tagName 46 = .ok (.getfield 193, 3) := by decide +kernel
theorem d_Mo_tagName_49 : decode b_Mo_tagName 49 = .ok (.invokevirtual 196, 3) := by decide +kernel
theorem d_Mo_tagName_52 : decode b_Mo_tagName 52 = .ok (.istore_n 1, 1) := by decide +kernel
theorem d_Mo_tagName_53 : decode b_Mo_tagName 53 = .ok (.goto (-44), 3) := by decide +kernel
theorem d_Mo_tagName_56 : decode b_Mo_tagName 56 = .ok (.aload_n 0, 1) := by decide +kernel
theorem d_Mo_tagName_57 : decode b_Mo_tagName 57 = .ok (.getfield 139, 3) := by decide +kernel
theorem d_Mo_tagName_60 : decode b_Mo_tagName 60 = .ok (.aload_n 0, 1) := by decide +kernel
theorem d_Mo_tagName_61 : decode b_Mo_tagName 61 = .ok (.getfield 227, 3) := by decide +kernel
theorem d_Mo_tagName_64 : decode b_Mo_tagName 64 = .ok (.aload_n 0, 1) := by decide +kernel
theorem d_Mo_tagName_65 : decode b_Mo_tagName 65 = .ok (.getfield 206, 3) := by decide +kernel
theorem d_Mo_tagName_68 : decode b_Mo_tagName 68 = .ok (.aload_n 0, 1) := by decide +kernel
theorem d_Mo_tagName_69 : decode b_Mo_tagName 69 = .ok (.getfield 136, 3) := by decide +kernel
theorem d_Mo_tagName_72 : decode b_Mo_tagName 72 = .ok (.aload_n 0, 1) := by decide +kernel
theorem d_Mo_tagName_73 : decode b_Mo_tagName 73 = .ok (.getfield 227, 3) := by decide +kernel
theorem d_Mo_tagName_76 : decode b_Mo_tagName 76 = .ok (.iaload, 1) := by decide +kernel
theorem d_Mo_tagName_77 : decode b_Mo_tagName 77 = .ok (.isub, 1) := by decide +kernel
theorem d_Mo_tagName_78 : decode b_Mo_tagName 78 = .ok (.iastore, 1) := by decide +kernel
theorem d_Mo_tagName_79 : decode b_Mo_tagName 79 = .ok (.iconst 1, 1) := by decide +kernel
theorem d_Mo_tagName_80 : decode b_Mo_tagName 80 = .ok (.istore_n 2, 1) := by decide +kernel
theorem d_Mo_tagName_81 : decode b_Mo_tagName 81 = .ok (.iload_n 2, 1) := by decide +kernel
theorem d_Mo_tagName_82 : decode b_Mo_tagName 82 = .ok (.ifCond .eq 11, 3) := by decide +kernel
theorem d_Mo_tagName_85 : decode b_Mo_tagName 85 = .ok (.aload_n 0, 1) := by decide +kernel
theorem d_Mo_tagName_86 : decode b_Mo_tagName 86 = .ok (.invokevirtual 275, 3) := by decide +kernel
theorem d_Mo_tagName_89 : decode b_Mo_tagName 89 = .ok (.istore_n 2, 1) := by decide +kernel
theorem d_Mo_tagName_90 : decode b_Mo_tagName 90 = .ok (.goto (-9), 3) := by decide +kernel
theorem d_Mo_tagName_93 : decode b_Mo_tagName 93 = .ok (.return_, 1) := by decide +kernel
theorem d_Mo_stop_0 : decode b_Mo_stop 0 = .ok (.aload_n 0, 1) := by decide +kernel
theorem d_Mo_stop_1 : decode b_Mo_stop 1 = .ok (.aload_n 0, 1) := by decide +kernel
theorem d_Mo_stop_2 : decode b_Mo_stop 2 = .ok (.getfield 193, 3) := by decide +kernel
theorem d_Mo_stop_5 : decode b_Mo_stop 5 = .ok (.invokevirtual 196, 3) := by decide +kernel
theorem d_Mo_stop_8 : decode b_Mo_stop 8 = .ok (.istore_n 1, 1) := by decide +kernel
theorem d_Mo_stop_9 : decode b_Mo_stop 9 = .ok (.iload_n 1, 1) := by decide +kernel
theorem d_Mo_stop_10 : decode b_Mo_stop 10 = .ok (.invokestatic 259, 3) := by decide +kernel
theorem d_Mo_stop_13 : decode b_Mo_stop 13 = .ok (.ifCond .eq 15, 3) := by decide +kernel
theorem d_Mo_stop_16 : decode b_Mo_stop 16 = .ok (.aload_n 0, 1) := by decide +kernel
theorem d_Mo_stop_17 : decode b_Mo_stop 17 = .ok (.iconst 2, 1) := by decide +kernel
theorem d_Mo_stop_18 : decode b_Mo_stop 18 = .ok (.invokevirtual 250, 3) := by decide +kernel
theorem d_Mo_stop_21 : decode b_Mo_stop 21 = .ok (.aload_n 0, 1) := by decide +kernel
theorem d_Mo_stop_22 : decode b_Mo_stop 22 = .ok (.invokevirtual 262, 3) := by decide +kernel
theorem d_Mo_stop_25 : decode b_Mo_stop 25 = .ok (.goto 83, 3) := by decide +kernel
theorem d_Mo_stop_28 : decode b_Mo_stop 28 = .ok (.iload_n 1, 1) := by decide +kernel
theorem d_Mo_stop_29 : decode b_Mo_stop 29 = .ok (.bipush 62, 2) := by decide +kernel
theorem d_Mo_stop_31 : decode b_Mo_stop 31 = .ok (.if_icmp .ne 25, 3) := by decide +kernel
theorem d_Mo_stop_34 : decode b_Mo_stop 34 = .ok (.aload_n 0, 1) := by decide +kernel
theorem d_Mo_stop_35 : decode b_Mo_stop 35 = .ok (.iconst 5, 1) := by decide +kernel
theorem d_Mo_stop_36 : decode b_Mo_stop 36 = .ok (.aload_n 0, 1) := by decide +kernel
theorem d_Mo_stop_37 : decode b_Mo_stop 37 = .ok (.getfield 193, 3) := by decide +kernel
theorem d_Mo_stop_40 : decode b_Mo_stop 40 = .ok (.invokevirtual 209, 3) := by decide +kernel
theorem d_Mo_stop_43 : decode b_Mo_stop 43 = .ok (.aload_n 0, 1) := by decide +kernel
theorem d_Mo_stop_44 : decode b_Mo_stop 44 = .ok (.dup, 1) := by decide +kernel
theorem d_Mo_stop_45 : decode b_Mo_stop 45 = .ok (.getfield 193, 3) := by decide +kernel
theorem d_Mo_stop_48 : decode b_Mo_stop 48 = .ok (.iconst 1, 1) := by decide +kernel
theorem d_Mo_stop_49 : decode b_Mo_stop 49 = .ok (.iadd, 1) := by decide +kernel
theorem d_Mo_stop_50 : decode b_Mo_stop 50 = .ok (.putfield 193, 3) := by decide +kernel
theorem d_Mo_stop_53 : decode b_Mo_stop 53 = .ok (.goto 55, 3) := by decide +kernel
theorem d_Mo_stop_56 : decode b_Mo_stop 56 = .ok (.iload_n 1, 1) := by decide +kernel
theorem d_Mo_stop_57 : decode b_Mo_stop 57 = .ok (.iconst (-1), 1) := by decide +kernel
theorem d_Mo_stop_58 : decode b_Mo_stop 58 = .ok (.if_icmp .ne 32, 3) := by decide +kernel
theorem d_Mo_stop_61 : decode b_Mo_stop 61 = .ok (.aload_n 0, 1) := by decide +kernel
theorem d_Mo_stop_62 : decode b_Mo_stop 62 = .ok (.iconst 3, 1) := by decide +kernel
theorem d_Mo_stop_63 : decode b_Mo_stop 63 = .ok (.aload_n 0, 1) := by decide +kernel
theorem d_Mo_stop_64 : decode b_Mo_stop 64 = .ok (.getfield 193, 3) := by decide +kernel
theorem d_Mo_stop_67 : decode b_Mo_stop 67 = .ok (.invokevirtual 209, 3) := by decide +kernel
theorem d_Mo_stop_70 : decode b_Mo_stop 70 = .ok (.aload_n 0, 1) := by decide +kernel
theorem d_Mo_stop_71 : decode b_Mo_stop 71 = .ok (.bipush 60, 2) := by decide +kernel
theorem d_Mo_stop_73 : decode b_Mo_stop 73 = .ok (.invokevirtual 247, 3) := by decide +kernel
theorem d_Mo_stop_76 : decode b_Mo_stop 76 = .ok (.aload_n 0, 1) := by decide +kernel
theorem d_Mo_stop_77 : decode b_Mo_stop 77 = .ok (.bipush 47, 2) := by decide +kernel
theorem d_Mo_stop_79 : decode b_Mo_stop 79 = .ok (.invokevirtual 247, 3) := by decide +kernel
theorem d_Mo_stop_82 : decode b_Mo_stop 82 = .ok (.aload_n 0, 1) := by decide +kernel
theorem d_Mo_stop_83 : decode b_Mo_stop 83 = .ok (.iconst 1, 1) := by decide +kernel
theorem d_Mo_stop_84 : decode b_Mo_stop 84 = .ok (.putfield 236, 3) := by decide +kernel
theorem d_Mo_stop_87 : decode b_Mo_stop 87 = .ok (.goto 21, 3) := by decide +kernel
theorem d_Mo_stop_90 : decode b_Mo_stop 90 = .ok (.aload_n 0, 1) := by decide +kernel
theorem d_Mo_stop_91 : decode b_Mo_stop 91 = .ok (.iconst 4, 1) := by decide +kernel
theorem d_Mo_stop_92 : decode b_Mo_stop 92 = .ok (.aload_n 0, 1) := by decide +kernel
theorem d_Mo_stop_93 : decode b_Mo_stop 93 = .ok (.getfield 193, 3) := by decide +kernel
theorem d_Mo_stop_96 : decode b_Mo_stop 96 = .ok (.invokevirtual 209, 3) := by decide +kernel
theorem d_Mo_stop_99 : decode b_Mo_stop 99 = .ok (.aload_n 0, 1) := by decide +kernel
theorem d_Mo_stop_100 : decode b_Mo_stop 100 = .ok (.iconst 3, 1) := by decide +kernel
theorem d_Mo_stop_101 : decode b_Mo_stop 101 = .ok (.invokevirtual 250, 3) := by decide +kernel
theorem d_Mo_stop_104 : decode b_Mo_stop 104 = .ok (.aload_n 0, 1) := by decide +kernel
theorem d_Mo_stop_105 : decode b_Mo_stop 105 = .ok (.invokevirtual 265, 3) := by decide +kernel
theorem d_Mo_stop_108 : decode b_Mo_stop 108 = .ok (.return_, 1) := by decide +kernel
theorem d_Mo_tag_0 : decode b_Mo_tag 0 = .ok (.aload_n 0, 1) := by decide +kernel
theorem d_Mo_tag_1 : decode b_Mo_tag 1 = .ok (.aload_n 0, 1) := by decide +kernel
theorem d_Mo_tag_2 : decode b_Mo_tag 2 = .ok (.getfield 193, 3) := by decide +kernel
theorem d_Mo_tag_5 : decode b_Mo_tag 5 = .ok (.invokevirtual 196, 3) := by decide +kernel
theorem d_Mo_tag_8 : decode b_Mo_tag 8 = .ok (.istore_n 1, 1) := by decide +kernel
theorem d_Mo_tag_9 : decode b_Mo_tag 9 = .ok (.iload_n 1, 1) := by decide +kernel
theorem d_Mo_tag_10 : decode b_Mo_tag 10 = .ok (.bipush 33, 2) := by decide +kernel
theorem d_Mo_tag_12 : decode b_Mo_tag 12 = .ok (.if_icmp .ne 20, 3) := by decide +kernel
theorem d_Mo_tag_15 : decode b_Mo_tag 15 = .ok (.aload_n 0, 1) := by decide +kernel
theorem d_Mo_tag_16 : decode b_Mo_tag 16 = .ok (.dup, 1) := by decide +kernel
theorem d_Mo_tag_17 : decode b_Mo_tag 17 = .ok (.getfield 193, 3) := by decide +kernel
theorem d_Mo_tag_20 : decode b_Mo_tag 20 = .ok (.iconst 1, 1) := by decide +kernel
theorem d_Mo_tag_21 : decode b_Mo_tag 21 = .ok (.iadd, 1) := by decide +kernel
theorem d_Mo_tag_22 : decode b_Mo_tag 22 = .ok (.putfield 193, 3) := by decide +kernel
theorem d_Mo_tag_25 : decode b_Mo_tag 25 = .ok (.aload_n 0, 1) := by decide +kernel
theorem d_Mo_tag_26 : decode b_Mo_tag 26 = .ok (.invokevirtual 253, 3) := by decide +kernel
theorem d_Mo_tag_29 : decode b_Mo_tag 29 = .ok (.goto 115, 3) := by decide +kernel
theorem d_Mo_tag_32 : decode b_Mo_tag 32 = .ok (.iload_n 1, 1) := by decide +kernel
theorem d_Mo_tag_33 : decode b_Mo_tag 33 = .ok (.bipush 47, 2) := by decide +kernel
theorem d_Mo_tag_35 : decode b_Mo_tag 35 = .ok (.if_icmp .ne 20, 3) := by decide +kernel
theorem d_Mo_tag_38 : decode b_Mo_tag 38 = .ok (.aload_n 0, 1) := by decide +kernel
theorem d_Mo_tag_39 : decode b_Mo_tag 39 = .ok (.dup, 1) := by decide +kernel
theorem d_Mo_tag_40 : decode b_Mo_tag 40 = .ok (.getfield 193, 3) := by decide +kernel
theorem d_Mo_tag_43 : decode b_Mo_tag 43 = .ok (.iconst 1, 1) := by decide +kernel
theorem d_Mo_tag_44 : decode b_Mo_tag 44 = .ok (.iadd, 1) := by decide +kernel
theorem d_Mo_tag_45 : decode b_Mo_tag 45 = .ok (.putfield 193, 3) := by decide +kernel
theorem d_Mo_tag_48 : decode b_Mo_tag 48 = .ok (.aload_n 0, 1) := by decide +kernel
theorem d_Mo_tag_49 : decode b_Mo_tag 49 = .ok (.invokevirtual 256, 3) := by decide +kernel
theorem d_Mo_tag_52 : decode b_Mo_tag 52 = .ok (.goto 92, 3) := by decide +kernel
theorem d_Mo_tag_55 : decode b_Mo_tag 55 = .ok (.iload_n 1, 1) := by decide +kernel
theorem d_Mo_tag_56 : decode b_Mo_tag 56 = .ok (.invokestatic 259, 3) := by decide +kernel
theorem d_Mo_tag_59 : decode b_Mo_tag 59 = .ok (.ifCond .eq 15, 3) := by decide +kernel
theorem d_Mo_tag_62 : decode b_Mo_tag 62 = .ok (.aload_n 0, 1) := by decide +kernel
theorem d_Mo_tag_63 : decode b_Mo_tag 63 = .ok (.iconst 1, 1) := by decide +kernel
theorem d_Mo_tag_64 : decode b_Mo_tag 64 = .ok (.invokevirtual 250, 3) := by decide +kernel
theorem d_Mo_tag_67 : decode b_Mo_tag 67 = .ok (.aload_n 0, 1) := by decide +kernel
theorem d_Mo_tag_68 : decode b_Mo_tag 68 = .ok (.invokevirtual 262, 3) := by decide +kernel
theorem d_Mo_tag_71 : decode b_Mo_tag 71 = .ok (.goto 73, 3) := by decide +kernel
theorem d_Mo_tag_74 : decode b_Mo_tag 74 = .ok (.iload_n 1, 1) := by decide +kernel
theorem d_Mo_tag_75 : decode b_Mo_tag 75 = .ok (.bipush 63, 2) := by decide +kernel
theorem d_Mo_tag_77 : decode b_Mo_tag 77 = .ok (.if_icmp .ne 24, 3) := by decide +kernel
theorem d_Mo_tag_80 : decode b_Mo_tag 80 = .ok (.aload_n 0, 1) := by decide +kernel
theorem d_Mo_tag_81 : decode b_Mo_tag 81 = .ok (.iconst 2, 1) := by decide +kernel
theorem d_Mo_tag_82 : decode b_Mo_tag 82 = .ok (.aload_n 0, 1) := by decide +kernel
theorem d_Mo_tag_83 : decode b_Mo_tag 83 = .ok (.getfield 193, 3) := by decide +kernel
theorem d_Mo_tag_86 : decode b_Mo_tag 86 = .ok (.invokevirtual 209, 3) := by decide +kernel
theorem d_Mo_tag_89 : decode b_Mo_tag 89 = .ok (.aload_n 0, 1) := by decide +kernel
theorem d_Mo_tag_90 : decode b_Mo_tag 90 = .ok (.iconst 3, 1) := by decide +kernel
theorem d_Mo_tag_91 : decode b_Mo_tag 91 = .ok (.invokevirtual 250, 3) := by decide +kernel
theorem d_Mo_tag_94 : decode b_Mo_tag 94 = .ok (.aload_n 0, 1) := by decide +kernel
theorem d_Mo_tag_95 : decode b_Mo_tag 95 = .ok (.invokevirtual 265, 3) := by decide +kernel
theorem d_Mo_tag_98 : decode b_Mo_tag 98 = .ok (.goto 46, 3) := by decide +kernel
theorem d_Mo_tag_101 : decode b_Mo_tag 101 = .ok (.iload_n 1, 1) := by decide +kernel
theorem d_Mo_tag_102 : decode b_Mo_tag 102 = .ok (.iconst (-1), 1) := by decide +kernel
theorem d_Mo_tag_103 : decode b_Mo_tag 103 = .ok (.if_icmp .ne 26, 3) := by decide +kernel
theorem d_Mo_tag_106 : decode b_Mo_tag 106 = .ok (.aload_n 0, 1) := by decide +kernel
theorem d_Mo_tag_107 : decode b_Mo_tag 107 = .ok (.iconst 3, 1) := by decide +kernel
theorem d_Mo_tag_108 : decode b_Mo_tag 108 = .ok (.aload_n 0, 1) := by decide +kernel
theorem d_Mo_tag_109 : decode b_Mo_tag 109 = .ok (.getfield 193, 3) := by decide +kernel
theorem d_Mo_tag_112 : decode b_Mo_tag 112 = .ok (.invokevirtual 209, 3) := by decide +kernel
theorem d_Mo_tag_115 : decode b_Mo_tag 115 = .ok (.aload_n 0, 1) := by decide +kernel
theorem d_Mo_tag_116 : decode b_Mo_tag 116 = .ok (.bipush 60, 2) := by decide +kernel
theorem d_Mo_tag_118 : decode b_Mo_tag 118 = .ok (.invokevirtual 247, 3) := by decide +kernel
theorem d_Mo_tag_121 : decode b_Mo_tag 121 = .ok (.aload_n 0, 1) := by decide +kernel
theorem d_Mo_tag_122 : decode b_Mo_tag 122 = .ok (.iconst 1, 1) := by decide +kernel
theorem d_Mo_tag_123 : decode b_Mo_tag 123 = .ok (.putfield 236, 3) := by decide +kernel
theorem d_Mo_tag_126 : decode b_Mo_tag 126 = .ok (.goto 18, 3) := by decide +kernel
theorem d_Mo_tag_129 : decode b_Mo_tag 129 = .ok (.aload_n 0, 1) := by decide +kernel
theorem d_Mo_tag_130 : decode b_Mo_tag 130 = .ok (.iconst 4, 1) := by decide +kernel
theorem d_Mo_tag_131 : decode b_Mo_tag 131 = .ok (.aload_n 0, 1) := by decide +kernel
theorem d_Mo_tag_132 : decode b_Mo_tag 132 = .ok (.getfield 193, 3) := by decide +kernel
theorem d_Mo_tag_135 : decode b_Mo_tag 135 = .ok (.invokevirtual 209, 3) := by decide +kernel
theorem d_Mo_tag_138 : decode b_Mo_tag 138 = .ok (.aload_n 0, 1) := by decide +kernel
theorem d_Mo_tag_139 : decode b_Mo_tag 139 = .ok (.bipush 60, 2) := by decide +kernel
theorem d_Mo_tag_141 : decode b_Mo_tag 141 = .ok (.invokevirtual 247, 3) := by decide +kernel
theorem d_Mo_tag_144 : decode b_Mo_tag 144 = .ok (.return_, 1) := by decide +kernel
theorem d_Mo_run_0 : decode b_Mo_run 0 = .ok (.aload_n 0, 1) := by decide +kernel
theorem d_Mo_run_1 : decode b_Mo_run 1 = .ok (.invokevirtual 233, 3) := by decide +kernel
theorem d_Mo_run_4 : decode b_Mo_run 4 = .ok (.aload_n 0, 1) := by decide +kernel
theorem d_Mo_run_5 : decode b_Mo_run 5 = .ok (.iconst 0, 1) := by decide +kernel
theorem d_Mo_run_6 : decode b_Mo_run 6 = .ok (.putfield 193, 3) := by decide +kernel
theorem d_Mo_run_9 : decode b_Mo_run 9 = .ok (.aload_n 0, 1) := by decide +kernel
theorem d_Mo_run_10 : decode b_Mo_run 10 = .ok (.iconst 0, 1) := by decide +kernel
theorem d_Mo_run_11 : decode b_Mo_run 11 = .ok (.putfield 236, 3) := by decide +kernel
theorem d_Mo_run_14 : decode b_Mo_run 14 = .ok (.aload_n 0, 1) := by decide +kernel
theorem d_Mo_run_15 : decode b_Mo_run 15 = .ok (.iconst 0, 1) := by decide +kernel
theorem d_Mo_run_16 : decode b_Mo_run 16 = .ok (.putfield 227, 3) := by decide +kernel
theorem d_Mo_run_19 : decode b_Mo_run 19 = .ok (.aload_n 0, 1) := by decide +kernel
theorem d_Mo_run_20 : decode b_Mo_run 20 = .ok (.iconst 0, 1) := by decide +kernel
theorem d_Mo_run_21 : decode b_Mo_run 21 = .ok (.putfield 230, 3) := by decide +kernel
theorem d_Mo_run_24 : decode b_Mo_run 24 = .ok (.aload_n 0, 1) := by decide +kernel
theorem d_Mo_run_25 : decode b_Mo_run 25 = .ok (.iconst 0, 1) := by decide +kernel
theorem d_Mo_run_26 : decode b_Mo_run 26 = .ok (.putfield 206, 3) := by decide +kernel
theorem d_Mo_run_29 : decode b_Mo_run 29 = .ok (.aload_n 0, 1) := by decide +kernel
theorem d_Mo_run_30 : decode b_Mo_run 30 = .ok (.iconst 0, 1) := by decide +kernel
theorem d_Mo_run_31 : decode b_Mo_run 31 = .ok (.putfield 214, 3) := by decide +kernel
theorem d_Mo_run_34 : decode b_Mo_run 34 = .ok (.aload_n 0, 1) := by decide +kernel
theorem d_Mo_run_35 : decode b_Mo_run 35 = .ok (.iconst 0, 1) := by decide +kernel
theorem d_Mo_run_36 : decode b_Mo_run 36 = .ok (.putfield 203, 3) := by decide +kernel
theorem d_Mo_run_39 : decode b_Mo_run 39 = .ok (.aload_n 0, 1) := by decide +kernel
theorem d_Mo_run_40 : decode b_Mo_run 40 = .ok (.getfield 236, 3) := by decide +kernel
theorem d_Mo_run_43 : decode b_Mo_run 43 = .ok (.ifCond .ne 93, 3) := by decide +kernel
theorem d_Mo_run_46 : decode b_Mo_run 46 = .ok (.aload_n 0, 1) := by decide +kernel
theorem d_Mo_run_47 : decode b_Mo_run 47 = .ok (.aload_n 0, 1) := by decide +kernel
theorem d_Mo_run_48 : decode b_Mo_run 48 = .ok (.getfield 193, 3) := by decide +kernel
theorem d_Mo_run_51 : decode b_Mo_run 51 = .ok (.invokevirtual 196, 3) := by decide +kernel
theorem d_Mo_run_54 : decode b_Mo_run 54 = .ok (.istore_n 1, 1) := by decide +kernel
theorem d_Mo_run_55 : decode b_Mo_run 55 = .ok (.iload_n 1, 1) := by decide +kernel
theorem d_Mo_run_56 : decode b_Mo_run 56 = .ok (.iconst (-1), 1) := by decide +kernel
theorem d_Mo_run_57 : decode b_Mo_run 57 = .ok (.if_icmp .ne 11, 3) := by decide +kernel
theorem d_Mo_run_60 : decode b_Mo_run 60 = .ok (.aload_n 0, 1) := by decide +kernel
theorem d_Mo_run_61 : decode b_Mo_run 61 = .ok (.iconst 1, 1) := by decide +kernel
theorem d_Mo_run_62 : decode b_Mo_run 62 = .ok (.putfield 236, 3) := by decide +kernel
theorem d_Mo_run_65 : decode b_Mo_run 65 = .ok (.goto 68, 3) := by decide +kernel
theorem d_Mo_run_68 : decode b_Mo_run 68 = .ok (.iload_n 1, 1) := by decide +kernel
theorem d_Mo_run_69 : decode b_Mo_run 69 = .ok (.bipush 38, 2) := by decide +kernel
theorem d_Mo_run_71 : decode b_Mo_run 71 = .ok (.if_icmp .ne 11, 3) := by decide +kernel
theorem d_Mo_run_74 : decode b_Mo_run 74 = .ok (.aload_n 0, 1) := by decide +kernel
theorem d_Mo_run_75 : decode b_Mo_run 75 = .ok (.iconst 0, 1) := by decide +kernel
theorem d_Mo_run_76 : decode b_Mo_run 76 = .ok (.invokevirtual 240, 3) := by decide +kernel
theorem d_Mo_run_79 : decode b_Mo_run 79 = .ok (.goto 54, 3) := by decide +kernel
theorem d_Mo_run_82 : decode b_Mo_run 82 = .ok (.iload_n 1, 1) := by decide +kernel
theorem d_Mo_run_83 : decode b_Mo_run 83 = .ok (.bipush 60, 2) := by decide +kernel
theorem d_Mo_run_85 : decode b_Mo_run 85 = .ok (.if_icmp .ne 20, 3) := by decide +kernel
theorem d_Mo_run_88 : decode b_Mo_run 88 = .ok (.aload_n 0, 1) := by decide +kernel
theorem d_Mo_run_89 : decode b_Mo_run 89 = .ok (.dup, 1) := by decide +kernel
theorem d_Mo_run_90 : decode b_Mo_run 90 = .ok (.getfield 193, 3) := by decide +kernel
theorem d_Mo_run_93 : decode b_Mo_run 93 = .ok (.iconst 1, 1) := by decide +kernel
theorem d_Mo_run_94 : decode b_Mo_run 94 = .ok (.iadd, 1) := by decide +kernel
theorem d_Mo_run_95 : decode b_Mo_run 95 = .ok (.putfield 193, 3) := by decide +kernel
theorem d_Mo_run_98 : decode b_Mo_run 98 = .ok (.aload_n 0, 1) := by decide +kernel
theorem d_Mo_run_99 : decode b_Mo_run 99 = .ok (.invokevirtual 244, 3) := by decide +kernel
theorem d_Mo_run_102 : decode b_Mo_run 102 = .ok (.goto 31, 3) := by decide +kernel
theorem d_Mo_run_105 : decode b_Mo_run 105 = .ok (.iload_n 1, 1) := by decide +kernel
theorem d_Mo_run_106 : decode b_Mo_run 106 = .ok (.ifCond .ne 12, 3) := by decide +kernel
theorem d_Mo_run_109 : decode b_Mo_run 109 = .ok (.aload_n 0, 1) := by decide +kernel
theorem d_Mo_run_110 : decode b_Mo_run 110 = .ok (.iconst 1, 1) := by decide +kernel
theorem d_Mo_run_111 : decode b_Mo_run 111 = .ok (.aload_n 0, 1) := by decide +kernel
theorem d_Mo_run_112 : decode b_Mo_run 112 = .ok (.getfield 193, 3) := by decide +kernel
theorem d_Mo_run_115 : decode b_Mo_run 115 = .ok (.invokevirtual 209, 3) := by decide +kernel
theorem d_Mo_run_118 : decode b_Mo_run 118 = .ok (.aload_n 0, 1) := by decide +kernel
theorem d_Mo_run_119 : decode b_Mo_run 119 = .ok (.iload_n 1, 1) := by decide +kernel
theorem d_Mo_run_120 : decode b_Mo_run 120 = .ok (.invokevirtual 247, 3) := by decide +kernel
theorem d_Mo_run_123 : decode b_Mo_run 123 = .ok (.aload_n 0, 1) := by decide +kernel
theorem d_Mo_run_124 : decode b_Mo_run 124 = .ok (.dup, 1) := by decide +kernel
theorem d_Mo_run_125 : decode b_Mo_run 125 = .ok (.getfield 193, 3) := by decide +kernel
theorem d_Mo_run_128 : decode b_Mo_run 128 = .ok (.iconst 1, 1) := by decide +kernel
theorem d_Mo_run_129 : decode b_Mo_run 129 = .ok (.iadd, 1) := by decide +kernel
theorem d_Mo_run_130 : decode b_Mo_run 130 = .ok (.putfield 193, 3) := by decide +kernel
theorem d_Mo_run_133 : decode b_Mo_run 133 = .ok (.goto (-94), 3) := by decide +kernel
theorem d_Mo_run_136 : decode b_Mo_run 136 = .ok (.aload_n 0, 1) := by decide +kernel
theorem d_Mo_run_137 : decode b_Mo_run 137 = .ok (.iconst 0, 1) := by decide +kernel
theorem d_Mo_run_138 : decode b_Mo_run 138 = .ok (.invokevirtual 250, 3) := by decide +kernel
theorem d_Mo_run_141 : decode b_Mo_run 141 = .ok (.aload_n 0, 1) := by decide +kernel
theorem d_Mo_run_142 : decode b_Mo_run 142 = .ok (.getfield 227, 3) := by decide +kernel
theorem d_Mo_run_145 : decode b_Mo_run 145 = .ok (.ireturn, 1) := by decide +kernel
theorem d_Mo_token_0 : decode b_Mo_token 0 = .ok (.iload_n 1, 1) := by decide +kernel
theorem d_Mo_token_1 : decode b_Mo_token 1 = .ok (.ifCond .lt 20, 3) := by decide +kernel
theorem d_Mo_token_4 : decode b_Mo_token 4 = .ok (.iload_n 1, 1) := by decide +kernel
theorem d_Mo_token_5 : decode b_Mo_token 5 = .ok (.aload_n 0, 1) := by decide +kernel
theorem d_Mo_token_6 : decode b_Mo_token 6 = .ok (.getfield 227, 3) := by decide +kernel
theorem d_Mo_token_9 : decode b_Mo_token 9 = .ok (.if_icmp .ge 12, 3) := by decide +kernel
theorem d_Mo_token_12 : decode b_Mo_token 12 = .ok (.iload_n 2, 1) := by decide +kernel
theorem d_Mo_token_13 : decode b_Mo_token 13 = .ok (.ifCond .lt 8, 3) := by decide +kernel
theorem d_Mo_token_16 : decode b_Mo_token 16 = .ok (.iload_n 2, 1) := by decide +kernel
theorem d_Mo_token_17 : decode b_Mo_token 17 = .ok (.iconst 3, 1) := by decide +kernel
theorem d_Mo_token_18 : decode b_Mo_token 18 = .ok (.if_icmp .le 5, 3) := by decide +kernel
theorem d_Mo_token_21 : decode b_Mo_token 21 = .ok (.iconst (-1), 1) := by decide +kernel
theorem d_Mo_token_22 : decode b_Mo_token 22 = .ok (.ireturn, 1) := by decide +kernel
theorem d_Mo_token_23 : decode b_Mo_token 23 = .ok (.iload_n 2, 1) := by decide +kernel
theorem d_Mo_token_24 : decode b_Mo_token 24 = .ok (.ifCond .ne 12, 3) := by decide +kernel
theorem d_Mo_token_27 : decode b_Mo_token 27 = .ok (.aload_n 0, 1) := by decide +kernel
theorem d_Mo_token_28 : decode b_Mo_token 28 = .ok (.getfield 133, 3) := by decide +kernel
theorem d_Mo_token_31 : decode b_Mo_token 31 = .ok (.iload_n 1, 1) := by decide +kernel
theorem d_Mo_token_32 : decode b_Mo_token 32 = .ok (.iaload, 1) := by decide +kernel
theorem d_Mo_token_33 : decode b_Mo_token 33 = .ok (.goto 45, 3) := by decide +kernel
theorem d_Mo_token_36 : decode b_Mo_token 36 = .ok (.iload_n 2, 1) := by decide +kernel
theorem d_Mo_token_37 : decode b_Mo_token 37 = .ok (.iconst 1, 1) := by decide +kernel
theorem d_Mo_token_38 : decode b_Mo_token 38 = .ok (.if_icmp .ne 12, 3) := by decide +kernel
theorem d_Mo_token_41 : decode b_Mo_token 41 = .ok (.aload_n 0, 1) := by decide +kernel
theorem d_Mo_token_42 : decode b_Mo_token 42 = .ok (.getfield 139, 3) := by decide +kernel
theorem d_Mo_token_45 : decode b_Mo_token 45 = .ok (.iload_n 1, 1) := by decide +kernel
theorem d_Mo_token_46 : decode b_Mo_token 46 = .ok (.iaload, 1) := by decide +kernel
theorem d_Mo_token_47 : decode b_Mo_token 47 = .ok (.goto 31, 3) := by decide +kernel
theorem d_Mo_token_50 : decode b_Mo_token 50 = .ok (.iload_n 2, 1) := by decide +kernel
theorem d_Mo_token_51 : decode b_Mo_token 51 = .ok (.iconst 2, 1) := by decide +kernel
theorem d_Mo_token_52 : decode b_Mo_token 52 = .ok (.if_icmp .ne 20, 3) := by decide +kernel
theorem d_Mo_token_55 : decode b_Mo_token 55 = .ok (.aload_n 0, 1) := by decide +kernel
theorem d_Mo_token_56 : decode b_Mo_token 56 = .ok (.getfield 142, 3) := by decide +kernel
theorem d_Mo_token_59 : decode b_Mo_token 59 = .ok (.iload_n 1, 1) := by decide +kernel
theorem d_Mo_token_60 : decode b_Mo_token 60 = .ok (.baload, 1) := by decide +kernel
theorem d_Mo_token_61 : decode b_Mo_token 61 = .ok (.ifCond .eq 7, 3) := by decide +kernel
theorem d_Mo_token_64 : decode b_Mo_token 64 = .ok (.iconst 1, 1) := by decide +kernel
theorem d_Mo_token_65 : decode b_Mo_token 65 = .ok (.goto 13, 3) := by decide +kernel
theorem d_Mo_token_68 : decode b_Mo_token 68 = .ok (.iconst 0, 1) := by decide +kernel
theorem d_Mo_token_69 : decode b_Mo_token 69 = .ok (.goto 9, 3) := by decide +kernel
theorem d_Mo_token_72 : decode b_Mo_token 72 = .ok (.aload_n 0, 1) := by decide +kernel
theorem d_Mo_token_73 : decode b_Mo_token 73 = .ok (.getfield 149, 3) := by decide +kernel
theorem d_Mo_token_76 : decode b_Mo_token 76 = .ok (.iload_n 1, 1) := by decide +kernel
theorem d_Mo_token_77 : decode b_Mo_token 77 = .ok (.iaload, 1) := by decide +kernel
theorem d_Mo_token_78 : decode b_Mo_token 78 = .ok (.ireturn, 1) := by decide +kernel
theorem d_Mo_at_0 : decode b_Mo_at 0 = .ok (.iload_n 1, 1) := by decide +kernel
theorem d_Mo_at_1 : decode b_Mo_at 1 = .ok (.ifCond .lt 25, 3) := by decide +kernel
theorem d_Mo_at_4 : decode b_Mo_at 4 = .ok (.iload_n 1, 1) := by decide +kernel
theorem d_Mo_at_5 : decode b_Mo_at 5 = .ok (.aload_n 0, 1) := by decide +kernel
theorem d_Mo_at_6 : decode b_Mo_at 6 = .ok (.getfield 227, 3) := by decide +kernel
theorem d_Mo_at_9 : decode b_Mo_at 9 = .ok (.if_icmp .ge 17, 3) := by decide +kernel
theorem d_Mo_at_12 : decode b_Mo_at 12 = .ok (.iload_n 2, 1) := by decide +kernel
theorem d_Mo_at_13 : decode b_Mo_at 13 = .ok (.ifCond .lt 13, 3) := by decide +kernel
theorem d_Mo_at_16 : decode b_Mo_at 16 = .ok (.iload_n 2, 1) := by decide +kernel
theorem d_Mo_at_17 : decode b_Mo_at 17 = .ok (.aload_n 0, 1) := by decide +kernel
theorem d_Mo_at_18 : decode b_Mo_at 18 = .ok (.getfield 139, 3) := by decide +kernel
theorem d_Mo_at_21 : decode b_Mo_at 21 = .ok (.iload_n 1, 1) := by decide +kernel
theorem d_Mo_at_22 : decode b_Mo_at 22 = .ok (.iaload, 1) := by decide +kernel
theorem d_Mo_at_23 : decode b_Mo_at 23 = .ok (.if_icmp .lt 7, 3) := by decide +kernel
theorem d_Mo_at_26 : decode b_Mo_at 26 = .ok (.iconst (-1), 1) := by decide +kernel
theorem d_Mo_at_27 : decode b_Mo_at 27 = .ok (.goto 16, 3) := by decide +kernel
theorem d_Mo_at_30 : decode b_Mo_at 30 = .ok (.aload_n 0, 1) := by decide +kernel
theorem d_Mo_at_31 : decode b_Mo_at 31 = .ok (.getfield 167, 3) := by decide +kernel
theorem d_Mo_at_34 : decode b_Mo_at 34 = .ok (.aload_n 0, 1) := by decide +kernel
theorem d_Mo_at_35 : decode b_Mo_at 35 = .ok (.getfield 136, 3) := by decide +kernel
theorem d_Mo_at_38 : decode b_Mo_at 38 = .ok (.iload_n 1, 1) := by decide +kernel
theorem d_Mo_at_39 : decode b_Mo_at 39 = .ok (.iaload, 1) := by decide +kernel
theorem d_Mo_at_40 : decode b_Mo_at 40 = .ok (.iload_n 2, 1) := by decide +kernel
theorem d_Mo_at_41 : decode b_Mo_at 41 = .ok (.iadd, 1) := by decide +kernel
theorem d_Mo_at_42 : decode b_Mo_at 42 = .ok (.iaload, 1) := by decide +kernel
theorem d_Mo_at_43 : decode b_Mo_at 43 = .ok (.ireturn, 1) := by decide +kernel
theorem d_Mo_isPart_0 : decode b_Mo_isPart 0 = .ok (.iload_n 1, 1) := by decide +kernel
theorem d_Mo_isPart_1 : decode b_Mo_isPart 1 = .ok (.ifCond .lt 38, 3) := by decide +kernel
theorem d_Mo_isPart_4 : decode b_Mo_isPart 4 = .ok (.iload_n 1, 1) := by decide +kernel
theorem d_Mo_isPart_5 : decode b_Mo_isPart 5 = .ok (.aload_n 0, 1) := by decide +kernel
theorem d_Mo_isPart_6 : decode b_Mo_isPart 6 = .ok (.getfield 227, 3) := by decide +kernel
theorem d_Mo_isPart_9 : decode b_Mo_isPart 9 = .ok (.if_icmp .ge 30, 3) := by decide +kernel
theorem d_Mo_isPart_12 : decode b_Mo_isPart 12 = .ok (.iload_n 2, 1) := by decide +kernel
theorem d_Mo_isPart_13 : decode b_Mo_isPart 13 = .ok (.ifCond .lt 26, 3) := by decide +kernel
theorem d_Mo_isPart_16 : decode b_Mo_isPart 16 = .ok (.iload_n 2, 1) := by decide +kernel
theorem d_Mo_isPart_17 : decode b_Mo_isPart 17 = .ok (.aload_n 0, 1) := by decide +kernel
theorem d_Mo_isPart_18 : decode b_Mo_isPart 18 = .ok (.getfield 149, 3) := by decide +kernel
theorem d_Mo_isPart_21 : decode b_Mo_isPart 21 = .ok (.iload_n 1, 1) := by decide +kernel
theorem d_Mo_isPart_22 : decode b_Mo_isPart 22 = .ok (.iaload, 1) := by decide +kernel
theorem d_Mo_isPart_23 : decode b_Mo_isPart 23 = .ok (.if_icmp .ge 16, 3) := by decide +kernel
theorem d_Mo_isPart_26 : decode b_Mo_isPart 26 = .ok (.iload_n 3, 1) := by decide +kernel
theorem d_Mo_isPart_27 : decode b_Mo_isPart 27 = .ok (.ifCond .eq 8, 3) := by decide +kernel
theorem d_Mo_isPart_30 : decode b_Mo_isPart 30 = .ok (.iload_n 3, 1) := by decide +kernel
theorem d_Mo_isPart_31 : decode b_Mo_isPart 31 = .ok (.iconst 1, 1) := by decide +kernel
theorem d_Mo_isPart_32 : decode b_Mo_isPart 32 = .ok (.if_icmp .ne 7, 3) := by decide +kernel
theorem d_Mo_isPart_35 : decode b_Mo_isPart 35 = .ok (.iconst 1, 1) := by decide +kernel
theorem d_Mo_isPart_36 : decode b_Mo_isPart 36 = .ok (.goto 4, 3) := by decide +kernel
theorem d_Mo_isPart_39 : decode b_Mo_isPart 39 = .ok (.iconst 0, 1) := by decide +kernel
theorem d_Mo_isPart_40 : decode b_Mo_isPart 40 = .ok (.ireturn, 1) := by decide +kernel
theorem d_Mo_size_0 : decode b_Mo_size 0 = .ok (.aload_n 0, 1) := by decide +kernel
theorem d_Mo_size_1 : decode b_Mo_size 1 = .ok (.iload_n 1, 1) := by decide +kernel
theorem d_Mo_size_2 : decode b_Mo_size 2 = .ok (.iload_n 2, 1) := by decide +kernel
theorem d_Mo_size_3 : decode b_Mo_size 3 = .ok (.iload_n 3, 1) := by decide +kernel
theorem d_Mo_size_4 : decode b_Mo_size 4 = .ok (.invokevirtual 351, 3) := by decide +kernel
theorem d_Mo_size_7 : decode b_Mo_size 7 = .ok (.ifCond .ne 7, 3) := by decide +kernel
theorem d_Mo_size_10 : decode b_Mo_size 10 = .ok (.iconst (-1), 1) := by decide +kernel
theorem d_Mo_size_11 : decode b_Mo_size 11 = .ok (.goto 36, 3) := by decide +kernel
theorem d_Mo_size_14 : decode b_Mo_size 14 = .ok (.iload_n 3, 1) := by decide +kernel
theorem d_Mo_size_15 : decode b_Mo_size 15 = .ok (.ifCond .ne 19, 3) := by decide +kernel
theorem d_Mo_size_18 : decode b_Mo_size 18 = .ok (.aload_n 0, 1) := by decide +kernel
theorem d_Mo_size_19 : decode b_Mo_size 19 = .ok (.getfield 155, 3) := by decide +kernel
theorem d_Mo_size_22 : decode b_Mo_size 22 = .ok (.aload_n 0, 1) := by decide +kernel
theorem d_Mo_size_23 : decode b_Mo_size 23 = .ok (.getfield 146, 3) := by decide +kernel
theorem d_Mo_size_26 : decode b_Mo_size 26 = .ok (.iload_n 1, 1) := by decide +kernel
theorem d_Mo_size_27 : decode b_Mo_size 27 = .ok (.iaload, 1) := by decide +kernel
theorem d_Mo_size_28 : decode b_Mo_size 28 = .ok (.iload_n 2, 1) := by decide +kernel
theorem d_Mo_size_29 : decode b_Mo_size 29 = .ok (.iadd, 1) := by decide +kernel
theorem d_Mo_size_30 : decode b_Mo_size 30 = .ok (.iaload, 1) := by decide +kernel
theorem d_Mo_size_31 : decode b_Mo_size 31 = .ok (.goto 16, 3) := by decide +kernel
theorem d_Mo_size_34 : decode b_Mo_size 34 = .ok (.aload_n 0, 1) := by decide +kernel
theorem d_Mo_size_35 : decode b_Mo_size 35 = .ok (.getfield 161, 3) := by decide +kernel
theorem d_Mo_size_38 : decode b_Mo_size 38 = .ok (.aload_n 0, 1) := by decide +kernel
theorem d_Mo_size_39 : decode b_Mo_size 39 = .ok (.getfield 146, 3) := by decide +kernel
theorem d_Mo_size_42 : decode b_Mo_size 42 = .ok (.iload_n 1, 1) := by decide +kernel
theorem d_Mo_size_43 : decode b_Mo_size 43 = .ok (.iaload, 1) := by decide +kernel
theorem d_Mo_size_44 : decode b_Mo_size 44 = .ok (.iload_n 2, 1) := by decide +kernel
theorem d_Mo_size_45 : decode b_Mo_size 45 = .ok (.iadd, 1) := by decide +kernel
theorem d_Mo_size_46 : decode b_Mo_size 46 = .ok (.iaload, 1) := by decide +kernel
theorem d_Mo_size_47 : decode b_Mo_size 47 = .ok (.ireturn, 1) := by decide +kernel
theorem d_Mo_part_0 : decode b_Mo_part 0 = .ok (.aload_n 0, 1) := by decide +kernel
theorem d_Mo_part_1 : decode b_Mo_part 1 = .ok (.iload_n 1, 1) := by decide +kernel
theorem d_Mo_part_2 : decode b_Mo_part 2 = .ok (.iload_n 2, 1) := by decide +kernel
theorem d_Mo_part_3 : decode b_Mo_part 3 = .ok (.iload_n 3, 1) := by decide +kernel
theorem d_Mo_part_4 : decode b_Mo_part 4 = .ok (.invokevirtual 351, 3) := by decide +kernel
theorem d_Mo_part_7 : decode b_Mo_part 7 = .ok (.ifCond .eq 20, 3) := by decide +kernel
theorem d_Mo_part_10 : decode b_Mo_part 10 = .ok (.iload 4, 2) := by decide +kernel
theorem d_Mo_part_12 : decode b_Mo_part 12 = .ok (.ifCond .lt 15, 3) := by decide +kernel
theorem d_Mo_part_15 : decode b_Mo_part 15 = .ok (.iload 4, 2) := by decide +kernel
theorem d_Mo_part_17 : decode b_Mo_part 17 = .ok (.aload_n 0, 1) := by decide +kernel
theorem d_Mo_part_18 : decode b_Mo_part 18 = .ok (.iload_n 1, 1) := by decide +kernel
theorem d_Mo_part_19 : decode b_Mo_part 19 = .ok (.iload_n 2, 1) := by decide +kernel
theorem d_Mo_part_20 : decode b_Mo_part 20 = .ok (.iload_n 3, 1) := by decide +kernel
theorem d_Mo_part_21 : decode b_Mo_part 21 = .ok (.invokevirtual 355, 3) := by decide +kernel
theorem d_Mo_part_24 : decode b_Mo_part 24 = .ok (.if_icmp .lt 5, 3) := by decide +kernel
theorem d_Mo_part_27 : decode b_Mo_part 27 = .ok (.iconst (-1), 1) := by decide +kernel
theorem d_Mo_part_28 : decode b_Mo_part 28 = .ok (.ireturn, 1) := by decide +kernel
theorem d_Mo_part_29 : decode b_Mo_part 29 = .ok (.aload_n 0, 1) := by decide +kernel
theorem d_Mo_part_30 : decode b_Mo_part 30 = .ok (.getfield 167, 3) := by decide +kernel
theorem d_Mo_part_33 : decode b_Mo_part 33 = .ok (.iload_n 3, 1) := by decide +kernel
theorem d_Mo_part_34 : decode b_Mo_part 34 = .ok (.ifCond .ne 19, 3) := by decide +kernel
theorem d_Mo_part_37 : decode b_Mo_part 37 = .ok (.aload_n 0, 1) := by decide +kernel
theorem d_Mo_part_38 : decode b_Mo_part 38 = .ok (.getfield 152, 3) := by decide +kernel
theorem d_Mo_part_41 : decode b_Mo_part 41 = .ok (.aload_n 0, 1) := by decide +kernel
theorem d_Mo_part_42 : decode b_Mo_part 42 = .ok (.getfield 146, 3) := by decide +kernel
theorem d_Mo_part_45 : decode b_Mo_part 45 = .ok (.iload_n 1, 1) := by decide +kernel
theorem d_Mo_part_46 : decode b_Mo_part 46 = .ok (.iaload, 1) := by decide +kernel
theorem d_Mo_part_47 : decode b_Mo_part 47 = .ok (.iload_n 2, 1) := by decide +kernel
theorem d_Mo_part_48 : decode b_Mo_part 48 = .ok (.iadd, 1) := by decide +kernel
theorem d_Mo_part_49 : decode b_Mo_part 49 = .ok (.iaload, 1) := by decide +kernel
theorem d_Mo_part_50 : decode b_Mo_part 50 = .ok (.goto 16, 3) := by decide +kernel
theorem d_Mo_part_53 : decode b_Mo_part 53 = .ok (.aload_n 0, 1) := by decide +kernel
theorem d_Mo_part_54 : decode b_Mo_part 54 = .ok (.getfield 158, 3) := by decide +kernel
theorem d_Mo_part_57 : decode b_Mo_part 57 = .ok (.aload_n 0, 1) := by decide +kernel
theorem d_Mo_part_58 : decode b_Mo_part 58 = .ok (.getfield 146, 3) := by decide +kernel
theorem d_Mo_part_61 : decode b_Mo_part 61 = .ok (.iload_n 1, 1) := by decide +kernel
theorem d_Mo_part_62 : decode b_Mo_part 62 = .ok (.iaload, 1) := by decide +kernel
theorem d_Mo_part_63 : decode b_Mo_part 63 = .ok (.iload_n 2, 1) := by decide +kernel
theorem d_Mo_part_64 : decode b_Mo_part 64 = .ok (.iadd, 1) := by decide +kernel
theorem d_Mo_part_65 : decode b_Mo_part 65 = .ok (.iaload, 1) := by decide +kernel
theorem d_Mo_part_66 : decode b_Mo_part 66 = .ok (.iload 4, 2) := by decide +kernel
theorem d_Mo_part_68 : decode b_Mo_part 68 = .ok (.iadd, 1) := by decide +kernel
theorem d_Mo_part_69 : decode b_Mo_part 69 = .ok (.iaload, 1) := by decide +kernel
theorem d_Mo_part_70 : decode b_Mo_part 70 = .ok (.ireturn, 1) := by decide +kernel
theorem d_Mo_faults_0 : decode b_Mo_faults 0 = .ok (.aload_n 0, 1) := by decide +kernel
theorem d_Mo_faults_1 : decode b_Mo_faults 1 = .ok (.getfield 203, 3) := by decide +kernel
theorem d_Mo_faults_4 : decode b_Mo_faults 4 = .ok (.ireturn, 1) := by decide +kernel
theorem d_Mo_fault_0 : decode b_Mo_fault 0 = .ok (.iload_n 1, 1) := by decide +kernel
theorem d_Mo_fault_1 : decode b_Mo_fault 1 = .ok (.ifCond .lt 20, 3) := by decide +kernel
theorem d_Mo_fault_4 : decode b_Mo_fault 4 = .ok (.iload_n 1, 1) := by decide +kernel
theorem d_Mo_fault_5 : decode b_Mo_fault 5 = .ok (.aload_n 0, 1) := by decide +kernel
theorem d_Mo_fault_6 : decode b_Mo_fault 6 = .ok (.getfield 203, 3) := by decide +kernel
theorem d_Mo_fault_9 : decode b_Mo_fault 9 = .ok (.if_icmp .ge 12, 3) := by decide +kernel
theorem d_Mo_fault_12 : decode b_Mo_fault 12 = .ok (.iload_n 2, 1) := by decide +kernel
theorem d_Mo_fault_13 : decode b_Mo_fault 13 = .ok (.ifCond .lt 8, 3) := by decide +kernel
theorem d_Mo_fault_16 : decode b_Mo_fault 16 = .ok (.iload_n 2, 1) := by decide +kernel
theorem d_Mo_fault_17 : decode b_Mo_fault 17 = .ok (.iconst 1, 1) := by decide +kernel
theorem d_Mo_fault_18 : decode b_Mo_fault 18 = .ok (.if_icmp .le 7, 3) := by decide +kernel
theorem d_Mo_fault_21 : decode b_Mo_fault 21 = .ok (.iconst (-1), 1) := by decide +kernel
theorem d_Mo_fault_22 : decode b_Mo_fault 22 = .ok (.goto 22, 3) := by decide +kernel
theorem d_Mo_fault_25 : decode b_Mo_fault 25 = .ok (.iload_n 2, 1) := by decide +kernel
theorem d_Mo_fault_26 : decode b_Mo_fault 26 = .ok (.ifCond .ne 12, 3) := by decide +kernel
theorem d_Mo_fault_29 : decode b_Mo_fault 29 = .ok (.aload_n 0, 1) := by decide +kernel
theorem d_Mo_fault_30 : decode b_Mo_fault 30 = .ok (.getfield 170, 3) := by decide +kernel
theorem d_Mo_fault_33 : decode b_Mo_fault 33 = .ok (.iload_n 1, 1) := by decide +kernel
theorem d_Mo_fault_34 : decode b_Mo_fault 34 = .ok (.iaload, 1) := by decide +kernel
theorem d_Mo_fault_35 : decode b_Mo_fault 35 = .ok (.goto 9, 3) := by decide +kernel
theorem d_Mo_fault_38 : decode b_Mo_fault 38 = .ok (.aload_n 0, 1) := by decide +kernel
theorem d_Mo_fault_39 : decode b_Mo_fault 39 = .ok (.getfield 173, 3) := by decide +kernel
theorem d_Mo_fault_42 : decode b_Mo_fault 42 = .ok (.iload_n 1, 1) := by decide +kernel
theorem d_Mo_fault_43 : decode b_Mo_fault 43 = .ok (.iaload, 1) := by decide +kernel
theorem d_Mo_fault_44 : decode b_Mo_fault 44 = .ok (.ireturn, 1) := by decide +kernel
theorem d_Mo_put_0 : decode b_Mo_put 0 = .ok (.aload_n 0, 1) := by decide +kernel
theorem d_Mo_put_1 : decode b_Mo_put 1 = .ok (.getfield 176, 3) := by decide +kernel
theorem d_Mo_put_4 : decode b_Mo_put 4 = .ok (.aload_n 0, 1) := by decide +kernel
theorem d_Mo_put_5 : decode b_Mo_put 5 = .ok (.getfield 183, 3) := by decide +kernel
theorem d_Mo_put_8 : decode b_Mo_put 8 = .ok (.iload_n 1, 1) := by decide +kernel
theorem d_Mo_put_9 : decode b_Mo_put 9 = .ok (.i2b, 1) := by decide +kernel
theorem d_Mo_put_10 : decode b_Mo_put 10 = .ok (.bastore, 1) := by decide +kernel
theorem d_Mo_put_11 : decode b_Mo_put 11 = .ok (.aload_n 0, 1) := by decide +kernel
theorem d_Mo_put_12 : decode b_Mo_put 12 = .ok (.dup, 1) := by decide +kernel
theorem d_Mo_put_13 : decode b_Mo_put 13 = .ok (.getfield 183, 3) := by decide +kernel
theorem d_Mo_put_16 : decode b_Mo_put 16 = .ok (.iconst 1, 1) := by decide +kernel
theorem d_Mo_put_17 : decode b_Mo_put 17 = .ok (.iadd, 1) := by decide +kernel
theorem d_Mo_put_18 : decode b_Mo_put 18 = .ok (.putfield 183, 3) := by decide +kernel
theorem d_Mo_put_21 : decode b_Mo_put 21 = .ok (.return_, 1) := by decide +kernel
theorem d_Mo_putAll_0 : decode b_Mo_putAll 0 = .ok (.lload_n 1, 1) := by decide +kernel
theorem d_Mo_putAll_1 : decode b_Mo_putAll 1 = .ok (.lstore_n 3, 1) := by decide +kernel
theorem d_Mo_putAll_2 : decode b_Mo_putAll 2 = .ok (.lload_n 3, 1) := by decide +kernel
theorem d_Mo_putAll_3 : decode b_Mo_putAll 3 = .ok (.lconst 0, 1) := by decide +kernel
theorem d_Mo_putAll_4 : decode b_Mo_putAll 4 = .ok (.lcmp, 1) := by decide +kernel
theorem d_Mo_putAll_5 : decode b_Mo_putAll 5 = .ok (.ifCond .eq 21, 3) := by decide +kernel
theorem d_Mo_putAll_8 : decode b_Mo_putAll 8 = .ok (.aload_n 0, 1) := by decide +kernel
theorem d_Mo_putAll_9 : decode b_Mo_putAll 9 = .ok (.lload_n 3, 1) := by decide +kernel
theorem d_Mo_putAll_10 : decode b_Mo_putAll 10 = .ok (.ldc2_w 299, 3) := by decide +kernel
theorem d_Mo_putAll_13 : decode b_Mo_putAll 13 = .ok (.land, 1) := by decide +kernel
theorem d_Mo_putAll_14 : decode b_Mo_putAll 14 = .ok (.l2i, 1) := by decide +kernel
theorem d_Mo_putAll_15 : decode b_Mo_putAll 15 = .ok (.invokevirtual 358, 3) := by decide +kernel
theorem d_Mo_putAll_18 : decode b_Mo_putAll 18 = .ok (.lload_n 3, 1) := by decide +kernel
theorem d_Mo_putAll_19 : decode b_Mo_putAll 19 = .ok (.bipush 8, 2) := by decide +kernel
theorem d_Mo_putAll_21 : decode b_Mo_putAll 21 = .ok (.lushr, 1) := by decide +kernel
theorem d_Mo_putAll_22 : decode b_Mo_putAll 22 = .ok (.lstore_n 3, 1) := by decide +kernel
theorem d_Mo_putAll_23 : decode b_Mo_putAll 23 = .ok (.goto (-21), 3) := by decide +kernel
theorem d_Mo_putAll_26 : decode b_Mo_putAll 26 = .ok (.return_, 1) := by decide +kernel
theorem d_Mo_putNumber_0 : decode b_Mo_putNumber 0 = .ok (.iconst 1, 1) := by decide +kernel
theorem d_Mo_putNumber_1 : decode b_Mo_putNumber 1 = .ok (.istore_n 2, 1) := by decide +kernel
theorem d_Mo_putNumber_2 : decode b_Mo_putNumber 2 = .ok (.iload_n 1, 1) := by decide +kernel
theorem d_Mo_putNumber_3 : decode b_Mo_putNumber 3 = .ok (.iload_n 2, 1) := by decide +kernel
theorem d_Mo_putNumber_4 : decode b_Mo_putNumber 4 = .ok (.idiv, 1) := by decide +kernel
theorem d_Mo_putNumber_5 : decode b_Mo_putNumber 5 = .ok (.bipush 9, 2) := by decide +kernel
theorem d_Mo_putNumber_7 : decode b_Mo_putNumber 7 = .ok (.if_icmp .le 11, 3) := by decide +kernel
theorem d_Mo_putNumber_10 : decode b_Mo_putNumber 10 = .ok (.bipush 10, 2) := by decide +kernel
theorem d_Mo_putNumber_12 : decode b_Mo_putNumber 12 = .ok (.iload_n 2, 1) := by decide +kernel
theorem d_Mo_putNumber_13 : decode b_Mo_putNumber 13 = .ok (.imul, 1) := by decide +kernel
theorem d_Mo_putNumber_14 : decode b_Mo_putNumber 14 = .ok (.istore_n 2, 1) := by decide +kernel
theorem d_Mo_putNumber_15 : decode b_Mo_putNumber 15 = .ok (.goto (-13), 3) := by decide +kernel
theorem d_Mo_putNumber_18 : decode b_Mo_putNumber 18 = .ok (.iload_n 2, 1) := by decide +kernel
theorem d_Mo_putNumber_19 : decode b_Mo_putNumber 19 = .ok (.ifCond .le 24, 3) := by decide +kernel
theorem d_Mo_putNumber_22 : decode b_Mo_putNumber 22 = .ok (.aload_n 0, 1) := by decide +kernel
theorem d_Mo_putNumber_23 : decode b_Mo_putNumber 23 = .ok (.bipush 48, 2) := by decide +kernel
theorem d_Mo_putNumber_25 : decode b_Mo_putNumber 25 = .ok (.iload_n 1, 1) := by decide +kernel
theorem d_Mo_putNumber_26 : decode b_Mo_putNumber 26 = .ok (.iload_n 2, 1) := by decide +kernel
theorem d_Mo_putNumber_27 : decode b_Mo_putNumber 27 = .ok (.idiv, 1) := by decide +kernel
theorem d_Mo_putNumber_28 : decode b_Mo_putNumber 28 = .ok (.bipush 10, 2) := by decide +kernel
theorem d_Mo_putNumber_30 : decode b_Mo_putNumber 30 = .ok (.irem, 1) := by decide +kernel
theorem d_Mo_putNumber_31 : decode b_Mo_putNumber 31 = .ok (.iadd, 1) := by decide +kernel
theorem d_Mo_putNumber_32 : decode b_Mo_putNumber 32 = .ok (.invokevirtual 358, 3) := by decide +kernel
theorem d_Mo_putNumber_35 : decode b_Mo_putNumber 35 = .ok (.iload_n 2, 1) := by decide +kernel
theorem d_Mo_putNumber_36 : decode b_Mo_putNumber 36 = .ok (.bipush 10, 2) := by decide +kernel
theorem d_Mo_putNumber_38 : decode b_Mo_putNumber 38 = .ok (.idiv, 1) := by decide +kernel
theorem d_Mo_putNumber_39 : decode b_Mo_putNumber 39 = .ok (.istore_n 2, 1) := by decide +kernel
theorem d_Mo_putNumber_40 : decode b_Mo_putNumber 40 = .ok (.goto (-22), 3) := by decide +kernel
theorem d_Mo_putNumber_43 : decode b_Mo_putNumber 43 = .ok (.return_, 1) := by decide +kernel
theorem d_Mo_putCharacter_0 : decode b_Mo_putCharacter 0 = .ok (.iload_n 1, 1) := by decide +kernel
theorem d_Mo_putCharacter_1 : decode b_Mo_putCharacter 1 = .ok (.bipush 38, 2) := by decide +kernel
theorem d_Mo_putCharacter_3 : decode b_Mo_putCharacter 3 = .ok (.if_icmp .ne 13, 3) := by decide +kernel
theorem d_Mo_putCharacter_6 : decode b_Mo_putCharacter 6 = .ok (.aload_n 0, 1) := by decide +kernel
theorem d_Mo_putCharacter_7 : decode b_Mo_putCharacter 7 = .ok (.ldc2_w 361, 3) := by decide +kernel
theorem d_Mo_putCharacter_10 : decode b_Mo_putCharacter 10 = .ok (.invokevirtual 363, 3) := by decide +kernel
theorem d_Mo_putCharacter_13 : decode b_Mo_putCharacter 13 = .ok (.goto 82, 3) := by decide +kernel
theorem d_Mo_putCharacter_16 : decode b_Mo_putCharacter 16 = .ok (.iload_n 1, 1) := by decide +kernel
theorem d_Mo_putCharacter_17 : decode b_Mo_putCharacter 17 = .ok (.bipush 60, 2) := by decide +kernel
theorem d_Mo_putCharacter_19 : decode b_Mo_putCharacter 19 = .ok (.if_icmp .ne 17, 3) := by decide +kernel
theorem d_Mo_putCharacter_22 : decode b_Mo_putCharacter 22 = .ok (.iload_n 2, 1) := by decide +kernel
theorem d_Mo_putCharacter_23 : decode b_Mo_putCharacter 23 = .ok (.ifCond .ne 13, 3) := by decide +kernel
theorem d_Mo_putCharacter_26 : decode b_Mo_putCharacter 26 = .ok (.aload_n 0, 1) := by decide +kernel
theorem d_Mo_putCharacter_27 : decode b_Mo_putCharacter 27 = .ok (.ldc2_w 367, 3) := by decide +kernel
theorem d_Mo_putCharacter_30 : decode b_Mo_putCharacter 30 = .ok (.invokevirtual 363, 3) := by decide +kernel
theorem d_Mo_putCharacter_33 : decode b_Mo_putCharacter 33 = .ok (.goto 62, 3) := by decide +kernel
theorem d_Mo_putCharacter_36 : decode b_Mo_putCharacter 36 = .ok (.iload_n 1, 1) := by decide +kernel
theorem d_Mo_putCharacter_37 : decode b_Mo_putCharacter 37 = .ok (.bipush 34, 2) := by decide +kernel
theorem d_Mo_putCharacter_39 : decode b_Mo_putCharacter 39 = .ok (.if_icmp .ne 17, 3) := by decide +kernel
theorem d_Mo_putCharacter_42 : decode b_Mo_putCharacter 42 = .ok (.iload_n 2, 1) := by decide +kernel
theorem d_Mo_putCharacter_43 : decode b_Mo_putCharacter 43 = .ok (.ifCond .eq 13, 3) := by decide +kernel
theorem d_Mo_putCharacter_46 : decode b_Mo_putCharacter 46 = .ok (.aload_n 0, 1) := by decide +kernel
theorem d_Mo_putCharacter_47 : decode b_Mo_putCharacter 47 = .ok (.ldc2_w 369, 3) := by decide +kernel
theorem d_Mo_putCharacter_50 : decode b_Mo_putCharacter 50 = .ok (.invokevirtual 363, 3) := by decide +kernel
theorem d_Mo_putCharacter_53 : decode b_Mo_putCharacter 53 = .ok (.goto 42, 3) := by decide +kernel
theorem d_Mo_putCharacter_56 : decode b_Mo_putCharacter 56 = .ok (.iload_n 1, 1) := by decide +kernel
theorem d_Mo_putCharacter_57 : decode b_Mo_putCharacter 57 = .ok (.bipush 13, 2) := by decide +kernel
theorem d_Mo_putCharacter_59 : decode b_Mo_putCharacter 59 = .ok (.if_icmp .eq 10, 3) := by decide +kernel
theorem d_Mo_putCharacter_62 : decode b_Mo_putCharacter 62 = .ok (.iload_n 1, 1) := by decide +kernel
theorem d_Mo_putCharacter_63 : decode b_Mo_putCharacter 63 = .ok (.sipush 255, 3) := by decide +kernel
theorem d_Mo_putCharacter_66 : decode b_Mo_putCharacter 66 = .ok (.if_icmp .le 24, 3) := by decide +kernel
theorem d_Mo_putCharacter_69 : decode b_Mo_putCharacter 69 = .ok (.aload_n 0, 1) := by decide +kernel
theorem d_Mo_putCharacter_70 : decode b_Mo_putCharacter 70 = .ok (.ldc2_w 371, 3) := by decide +kernel
theorem d_Mo_putCharacter_73 : decode b_Mo_putCharacter 73 = .ok (.invokevirtual 363, 3) := by decide +kernel
theorem d_Mo_putCharacter_76 : decode b_Mo_putCharacter 76 = .ok (.aload_n 0, 1) := by decide +kernel
theorem d_Mo_putCharacter_77 : decode b_Mo_putCharacter 77 = .ok (.iload_n 1, 1) := by decide +kernel
theorem d_Mo_putCharacter_78 : decode b_Mo_putCharacter 78 = .ok (.invokevirtual 373, 3) := by decide +kernel
theorem d_Mo_putCharacter_81 : decode b_Mo_putCharacter 81 = .ok (.aload_n 0, 1) := by decide +kernel
theorem d_Mo_putCharacter_82 : decode b_Mo_putCharacter 82 = .ok (.bipush 59, 2) := by decide +kernel
theorem d_Mo_putCharacter_84 : decode b_Mo_putCharacter 84 = .ok (.invokevirtual 358, 3) := by decide +kernel
theorem d_Mo_putCharacter_87 : decode b_Mo_putCharacter 87 = .ok (.goto 8, 3) := by decide +kernel
theorem d_Mo_putCharacter_90 : decode b_Mo_putCharacter 90 = .ok (.aload_n 0, 1) := by decide +kernel
theorem d_Mo_putCharacter_91 : decode b_Mo_putCharacter 91 = .ok (.iload_n 1, 1) := by decide +kernel
theorem d_Mo_putCharacter_92 : decode b_Mo_putCharacter 92 = .ok (.invokevirtual 358, 3) := by decide +kernel
theorem d_Mo_putCharacter_95 : decode b_Mo_putCharacter 95 = .ok (.return_, 1) := by decide +kernel
theorem d_Mo_putRow_0 : decode b_Mo_putRow 0 = .ok (.iconst 0, 1) := by decide +kernel
theorem d_Mo_putRow_1 : decode b_Mo_putRow 1 = .ok (.istore_n 3, 1) := by decide +kernel
theorem d_Mo_putRow_2 : decode b_Mo_putRow 2 = .ok (.iload_n 3, 1) := by decide +kernel
theorem d_Mo_putRow_3 : decode b_Mo_putRow 3 = .ok (.iload_n 2, 1) := by decide +kernel
theorem d_Mo_putRow_4 : decode b_Mo_putRow 4 = .ok (.if_icmp .ge 38, 3) := by decide +kernel
theorem d_Mo_putRow_7 : decode b_Mo_putRow 7 = .ok (.aload_n 0, 1) := by decide +kernel
theorem d_Mo_putRow_8 : decode b_Mo_putRow 8 = .ok (.aload_n 0, 1) := by decide +kernel
theorem d_Mo_putRow_9 : decode b_Mo_putRow 9 = .ok (.getfield 167, 3) := by decide +kernel
theorem d_Mo_putRow_12 : decode b_Mo_putRow 12 = .ok (.iload_n 1, 1) := by decide +kernel
theorem d_Mo_putRow_13 : decode b_Mo_putRow 13 = .ok (.iload_n 3, 1) := by decide +kernel
theorem d_Mo_putRow_14 : decode b_Mo_putRow 14 = .ok (.iadd, 1) := by decide +kernel
theorem d_Mo_putRow_15 : decode b_Mo_putRow 15 = .ok (.iaload, 1) := by decide +kernel
theorem d_Mo_putRow_16 : decode b_Mo_putRow 16 = .ok (.ldc 213, 2) := by decide +kernel
theorem d_Mo_putRow_18 : decode b_Mo_putRow 18 = .ok (.if_icmp .ne 7, 3) := by decide +kernel
theorem d_Mo_putRow_21 : decode b_Mo_putRow 21 = .ok (.iconst 0, 1) := by decide +kernel
theorem d_Mo_putRow_22 : decode b_Mo_putRow 22 = .ok (.goto 11, 3) := by decide +kernel
theorem d_Mo_putRow_25 : decode b_Mo_putRow 25 = .ok (.aload_n 0, 1) := by decide +kernel
theorem d_Mo_putRow_26 : decode b_Mo_putRow 26 = .ok (.getfield 167, 3) := by decide +kernel
theorem d_Mo_putRow_29 : decode b_Mo_putRow 29 = .ok (.iload_n 1, 1) := by decide +kernel
theorem d_Mo_putRow_30 : decode b_Mo_putRow 30 = .ok (.iload_n 3, 1) := by decide +kernel
theorem d_Mo_putRow_31 : decode b_Mo_putRow 31 = .ok (.iadd, 1) := by decide +kernel
theorem d_Mo_putRow_32 : decode b_Mo_putRow 32 = .ok (.iaload, 1) := by decide +kernel
theorem d_Mo_putRow_33 : decode b_Mo_putRow 33 = .ok (.invokevirtual 358, 3) := by decide +kernel
theorem d_Mo_putRow_36 : decode b_Mo_putRow 36 = .ok (.iinc 3 1, 3) := by decide +kernel
theorem d_Mo_putRow_39 : decode b_Mo_putRow 39 = .ok (.goto (-37), 3) := by decide +kernel
theorem d_Mo_putRow_42 : decode b_Mo_putRow 42 = .ok (.return_, 1) := by decide +kernel
theorem d_Mo_putTag_0 : decode b_Mo_putTag 0 = .ok (.aload_n 0, 1) := by decide +kernel
theorem d_Mo_putTag_1 : decode b_Mo_putTag 1 = .ok (.aload_n 0, 1) := by decide +kernel
theorem d_Mo_putTag_2 : decode b_Mo_putTag 2 = .ok (.getfield 133, 3) := by decide +kernel
theorem d_Mo_putTag_5 : decode b_Mo_putTag 5 = .ok (.iload_n 1, 1) := by decide +kernel
theorem d_Mo_putTag_6 : decode b_Mo_putTag 6 = .ok (.iaload, 1) := by decide +kernel
theorem d_Mo_putTag_7 : decode b_Mo_putTag 7 = .ok (.iconst 2, 1) := by decide +kernel
theorem d_Mo_putTag_8 : decode b_Mo_putTag 8 = .ok (.if_icmp .ne 9, 3) := by decide +kernel
theorem d_Mo_putTag_11 : decode b_Mo_putTag 11 = .ok (.ldc2_w 376, 3) := by decide +kernel
theorem d_Mo_putTag_14 : decode b_Mo_putTag 14 = .ok (.goto 6, 3) := by decide +kernel
theorem d_Mo_putTag_17 : decode b_Mo_putTag 17 = .ok (.ldc2_w 378, 3) := by decide +kernel
theorem d_Mo_putTag_20 : decode b_Mo_putTag 20 = .ok (.invokevirtual 363, 3) := by decide +kernel
theorem d_Mo_putTag_23 : decode b_Mo_putTag 23 = .ok (.aload_n 0, 1) := by decide +kernel
theorem d_Mo_putTag_24 : decode b_Mo_putTag 24 = .ok (.aload_n 0, 1) := by decide +kernel
theorem d_Mo_putTag_25 : decode b_Mo_putTag 25 = .ok (.getfield 136, 3) := by decide +kernel
theorem d_Mo_putTag_28 : decode b_Mo_putTag 28 = .ok (.iload_n 1, 1) := by decide +kernel
theorem d_Mo_putTag_29 : decode b_Mo_putTag 29 = .ok (.iaload, 1) := by decide +kernel
theorem d_Mo_putTag_30 : decode b_Mo_putTag 30 = .ok (.aload_n 0, 1) := by decide +kernel
theorem d_Mo_putTag_31 : decode b_Mo_putTag 31 = .ok (.getfield 139, 3) := by decide +kernel
theorem d_Mo_putTag_34 : decode b_Mo_putTag 34 = .ok (.iload_n 1, 1) := by decide +kernel
theorem d_Mo_putTag_35 : decode b_Mo_putTag 35 = .ok (.iaload, 1) := by decide +kernel
theorem d_Mo_putTag_36 : decode b_Mo_putTag 36 = .ok (.invokevirtual 380, 3) := by decide +kernel
theorem d_Mo_putTag_39 : decode b_Mo_putTag 39 = .ok (.aload_n 0, 1) := by decide +kernel
theorem d_Mo_putTag_40 : decode b_Mo_putTag 40 = .ok (.getfield 146, 3) := by decide +kernel
theorem d_Mo_putTag_43 : decode b_Mo_putTag 43 = .ok (.iload_n 1, 1) := by decide +kernel
theorem d_Mo_putTag_44 : decode b_Mo_putTag 44 = .ok (.iaload, 1) := by decide +kernel
theorem d_Mo_putTag_45 : decode b_Mo_putTag 45 = .ok (.istore_n 2, 1) := by decide +kernel
theorem d_Mo_putTag_46 : decode b_Mo_putTag 46 = .ok (.iload_n 2, 1) := by decide +kernel
theorem d_Mo_putTag_47 : decode b_Mo_putTag 47 = .ok (.aload_n 0, 1) := by decide +kernel
theorem d_Mo_putTag_48 : decode b_Mo_putTag 48 = .ok (.getfield 146, 3) := by decide +kernel
theorem d_Mo_putTag_51 : decode b_Mo_putTag 51 = .ok (.iload_n 1, 1) := by decide +kernel
theorem d_Mo_putTag_52 : decode b_Mo_putTag 52 = .ok (.iaload, 1) := by decide +kernel
theorem d_Mo_putTag_53 : decode b_Mo_putTag 53 = .ok (.aload_n 0, 1) := by decide +kernel
theorem d_Mo_putTag_54 : decode b_Mo_putTag 54 = .ok (.getfield 149, 3) := by decide +kernel
theorem d_Mo_putTag_57 : decode b_Mo_putTag 57 = .ok (.iload_n 1, 1) := by decide +kernel
theorem d_Mo_putTag_58 : decode b_Mo_putTag 58 = .ok (.iaload, 1) := by decide +kernel
theorem d_Mo_putTag_59 : decode b_Mo_putTag 59 = .ok (.iadd, 1) := by decide +kernel
theorem d_Mo_putTag_60 : decode b_Mo_putTag 60 = .ok (.if_icmp .ge 85, 3) := by decide +kernel
theorem d_Mo_putTag_63 : decode b_Mo_putTag 63 = .ok (.aload_n 0, 1) := by decide +kernel
theorem d_Mo_putTag_64 : decode b_Mo_putTag 64 = .ok (.bipush 32, 2) := by decide +kernel
theorem d_Mo_putTag_66 : decode b_Mo_putTag 66 = .ok (.invokevirtual 358, 3) := by decide +kernel
theorem d_Mo_putTag_69 : decode b_Mo_putTag 69 = .ok (.aload_n 0, 1) := by decide +kernel
theorem d_Mo_putTag_70 : decode b_Mo_putTag 70 = .ok (.aload_n 0, 1) := by decide +kernel
theorem d_Mo_putTag_71 : decode b_Mo_putTag 71 = .ok (.getfield 152, 3) := by decide +kernel
theorem d_Mo_putTag_74 : decode b_Mo_putTag 74 = .ok (.iload_n 2, 1) := by decide +kernel
theorem d_Mo_putTag_75 : decode b_Mo_putTag 75 = .ok (.iaload, 1) := by decide +kernel
theorem d_Mo_putTag_76 : decode b_Mo_putTag 76 = .ok (.aload_n 0, 1) := by decide +kernel
theorem d_Mo_putTag_77 : decode b_Mo_putTag 77 = .ok (.getfield 155, 3) := by decide +kernel
theorem d_Mo_putTag_80 : decode b_Mo_putTag 80 = .ok (.iload_n 2, 1) := by decide +kernel
theorem d_Mo_putTag_81 : decode b_Mo_putTag 81 = .ok (.iaload, 1) := by decide +kernel
theorem d_Mo_putTag_82 : decode b_Mo_putTag 82 = .ok (.invokevirtual 380, 3) := by decide +kernel
theorem d_Mo_putTag_85 : decode b_Mo_putTag 85 = .ok (.aload_n 0, 1) := by decide +kernel
theorem d_Mo_putTag_86 : decode b_Mo_putTag 86 = .ok (.bipush 61, 2) := by decide +kernel
theorem d_Mo_putTag_88 : decode b_Mo_putTag 88 = .ok (.invokevirtual 358, 3) := by decide +kernel
theorem d_Mo_putTag_91 : decode b_Mo_putTag 91 = .ok (.aload_n 0, 1) := by decide +kernel
theorem d_Mo_putTag_92 : decode b_Mo_putTag 92 = .ok (.bipush 34, 2) := by decide +kernel
theorem d_Mo_putTag_94 : decode b_Mo_putTag 94 = .ok (.invokevirtual 358, 3) := by decide +kernel
theorem d_Mo_putTag_97 : decode b_Mo_putTag 97 = .ok (.iconst 0, 1) := by decide +kernel
theorem d_Mo_putTag_98 : decode b_Mo_putTag 98 = .ok (.istore_n 3, 1) := by decide +kernel
theorem d_Mo_putTag_99 : decode b_Mo_putTag 99 = .ok (.iload_n 3, 1) := by decide +kernel
theorem d_Mo_putTag_100 : decode b_Mo_putTag 100 = .ok (.aload_n 0, 1) := by decide +kernel
theorem d_Mo_putTag_101 : decode b_Mo_putTag 101 = .ok (.getfield 161, 3) := by decide +kernel
theorem d_Mo_putTag_104 : decode b_Mo_putTag 104 = .ok (.iload_n 2, 1) := by decide +kernel
theorem d_Mo_putTag_105 : decode b_Mo_putTag 105 = .ok (.iaload, 1) := by decide +kernel
theorem d_Mo_putTag_106 : decode b_Mo_putTag 106 = .ok (.if_icmp .ge 27, 3) := by decide +kernel
theorem d_Mo_putTag_109 : decode b_Mo_putTag 109 = .ok (.aload_n 0, 1) := by decide +kernel
theorem d_Mo_putTag_110 : decode b_Mo_putTag 110 = .ok (.aload_n 0, 1) := by decide +kernel
theorem d_Mo_putTag_111 : decode b_Mo_putTag 111 = .ok (.getfield 167, 3) := by decide +kernel
theorem d_Mo_putTag_114 : decode b_Mo_putTag 114 = .ok (.aload_n 0, 1) := by decide +kernel
theorem d_Mo_putTag_115 : decode b_Mo_putTag 115 = .ok (.getfield 158, 3) := by decide +kernel
theorem d_Mo_putTag_118 : decode b_Mo_putTag 118 = .ok (.iload_n 2, 1) := by decide +kernel
theorem d_Mo_putTag_119 : decode b_Mo_putTag 119 = .ok (.iaload, 1) := by decide +kernel
theorem d_Mo_putTag_120 : decode b_Mo_putTag 120 = .ok (.iload_n 3, 1) := by decide +kernel
theorem d_Mo_putTag_121 : decode b_Mo_putTag 121 = .ok (.iadd, 1) := by decide +kernel
theorem d_Mo_putTag_122 : decode b_Mo_putTag 122 = .ok (.iaload, 1) := by decide +kernel
theorem d_Mo_putTag_123 : decode b_Mo_putTag 123 = .ok (.iconst 1, 1) := by decide +kernel
theorem d_Mo_putTag_124 : decode b_Mo_putTag 124 = .ok (.invokevirtual 383, 3) := by decide +kernel
theorem d_Mo_putTag_127 : decode b_Mo_putTag 127 = .ok (.iinc 3 1, 3) := by decide +kernel
theorem d_Mo_putTag_130 : decode b_Mo_putTag 130 = .ok (.goto (-31), 3) := by decide +kernel
theorem d_Mo_putTag_133 : decode b_Mo_putTag 133 = .ok (.aload_n 0, 1) := by decide +kernel
theorem d_Mo_putTag_134 : decode b_Mo_putTag 134 = .ok (.bipush 34, 2) := by decide +kernel
theorem d_Mo_putTag_136 : decode b_Mo_putTag 136 = .ok (.invokevirtual 358, 3) := by decide +kernel
theorem d_Mo_putTag_139 : decode b_Mo_putTag 139 = .ok (.iinc 2 1, 3) := by decide +kernel
theorem d_Mo_putTag_142 : decode b_Mo_putTag 142 = .ok (.goto (-96), 3) := by decide +kernel
theorem d_Mo_putTag_145 : decode b_Mo_putTag 145 = .ok (.aload_n 0, 1) := by decide +kernel
theorem d_Mo_putTag_146 : decode b_Mo_putTag 146 = .ok (.getfield 142, 3) := by decide +kernel
theorem d_Mo_putTag_149 : decode b_Mo_putTag 149 = .ok (.iload_n 1, 1) := by decide +kernel
theorem d_Mo_putTag_150 : decode b_Mo_putTag 150 = .ok (.baload, 1) := by decide +kernel
theorem d_Mo_putTag_151 : decode b_Mo_putTag 151 = .ok (.ifCond .eq 9, 3) := by decide +kernel
theorem d_Mo_putTag_154 : decode b_Mo_putTag 154 = .ok (.aload_n 0, 1) := by decide +kernel
theorem d_Mo_putTag_155 : decode b_Mo_putTag 155 = .ok (.bipush 47, 2) := by decide +kernel
theorem d_Mo_putTag_157 : decode b_Mo_putTag 157 = .ok (.invokevirtual 358, 3) := by decide +kernel
theorem d_Mo_putTag_160 : decode b_Mo_putTag 160 = .ok (.aload_n 0, 1) := by decide +kernel
theorem d_Mo_putTag_161 : decode b_Mo_putTag 161 = .ok (.bipush 62, 2) := by decide +kernel
theorem d_Mo_putTag_163 : decode b_Mo_putTag 163 = .ok (.invokevirtual 358, 3) := by decide +kernel
theorem d_Mo_putTag_166 : decode b_Mo_putTag 166 = .ok (.return_, 1) := by decide +kernel
theorem d_Mo_write_0 : decode b_Mo_write 0 = .ok (.aload_n 0, 1) := by decide +kernel
theorem d_Mo_write_1 : decode b_Mo_write 1 = .ok (.iconst 0, 1) := by decide +kernel
theorem d_Mo_write_2 : decode b_Mo_write 2 = .ok (.putfield 183, 3) := by decide +kernel
theorem d_Mo_write_5 : decode b_Mo_write 5 = .ok (.iconst 0, 1) := by decide +kernel
theorem d_Mo_write_6 : decode b_Mo_write 6 = .ok (.istore_n 1, 1) := by decide +kernel
theorem d_Mo_write_7 : decode b_Mo_write 7 = .ok (.iload_n 1, 1) := by decide +kernel
theorem d_Mo_write_8 : decode b_Mo_write 8 = .ok (.aload_n 0, 1) := by decide +kernel
theorem d_Mo_write_9 : decode b_Mo_write 9 = .ok (.getfield 227, 3) := by decide +kernel
theorem d_Mo_write_12 : decode b_Mo_write 12 = .ok (.if_icmp .ge 198, 3) := by decide +kernel
theorem d_Mo_write_15 : decode b_Mo_write 15 = .ok (.aload_n 0, 1) := by decide +kernel
theorem d_Mo_write_16 : decode b_Mo_write 16 = .ok (.getfield 133, 3) := by decide +kernel
theorem d_Mo_write_19 : decode b_Mo_write 19 = .ok (.iload_n 1, 1) := by decide +kernel
theorem d_Mo_write_20 : decode b_Mo_write 20 = .ok (.iaload, 1) := by decide +kernel
theorem d_Mo_write_21 : decode b_Mo_write 21 = .ok (.ifCond .ne 42, 3) := by decide +kernel
theorem d_Mo_write_24 : decode b_Mo_write 24 = .ok (.iconst 0, 1) := by decide +kernel
theorem d_Mo_write_25 : decode b_Mo_write 25 = .ok (.istore_n 2, 1) := by decide +kernel
theorem d_Mo_write_26 : decode b_Mo_write 26 = .ok (.iload_n 2, 1) := by decide +kernel
theorem d_Mo_write_27 : decode b_Mo_write 27 = .ok (.aload_n 0, 1) := by decide +kernel
theorem d_Mo_write_28 : decode b_Mo_write 28 = .ok (.getfield 139, 3) := by decide +kernel
theorem d_Mo_write_31 : decode b_Mo_write 31 = .ok (.iload_n 1, 1) := by decide +kernel
theorem d_Mo_write_32 : decode b_Mo_write 32 = .ok (.iaload, 1) := by decide +kernel
theorem d_Mo_write_33 : decode b_Mo_write 33 = .ok (.if_icmp .ge 27, 3) := by decide +kernel
theorem d_Mo_write_36 : decode b_Mo_write 36 = .ok (.aload_n 0, 1) := by decide +kernel
theorem d_Mo_write_37 : decode b_Mo_write 37 = .ok (.aload_n 0, 1) := by decide +kernel
theorem d_Mo_write_38 : decode b_Mo_write 38 = .ok (.getfield 167, 3) := by decide +kernel
theorem d_Mo_write_41 : decode b_Mo_write 41 = .ok (.aload_n 0, 1) := by decide +kernel
theorem d_Mo_write_42 : decode b_Mo_write 42 = .ok (.getfield 136, 3) := by decide +kernel
theorem d_Mo_write_45 : decode b_Mo_write 45 = .ok (.iload_n 1, 1) := by decide +kernel
theorem d_Mo_write_46 : decode b_Mo_write 46 = .ok (.iaload, 1) := by decide +kernel
theorem d_Mo_write_47 : decode b_Mo_write 47 = .ok (.iload_n 2, 1) := by decide +kernel
theorem d_Mo_write_48 : decode b_Mo_write 48 = .ok (.iadd, 1) := by decide +kernel
theorem d_Mo_write_49 : decode b_Mo_write 49 = .ok (.iaload, 1) := by decide +kernel
theorem d_Mo_write_50 : decode b_Mo_write 50 = .ok (.iconst 0, 1) := by decide +kernel
theorem d_Mo_write_51 : decode b_Mo_write 51 = .ok (.invokevirtual 383, 3) := by decide +kernel
theorem d_Mo_write_54 : decode b_Mo_write 54 = .ok (.iinc 2 1, 3) := by decide +kernel
theorem d_Mo_write_57 : decode b_Mo_write 57 = .ok (.goto (-31), 3) := by decide +kernel
theorem d_Mo_write_60 : decode b_Mo_write 60 = .ok (.goto 144, 3) := by decide +kernel
theorem d_Mo_write_63 : decode b_Mo_write 63 = .ok (.aload_n 0, 1) := by decide +kernel
theorem d_Mo_write_64 : decode b_Mo_write 64 = .ok (.getfield 133, 3) := by decide +kernel
theorem d_Mo_write_67 : decode b_Mo_write 67 = .ok (.iload_n 1, 1) := by decide +kernel
theorem d_Mo_write_68 : decode b_Mo_write 68 = .ok (.iaload, 1) := by decide +kernel
theorem d_Mo_write_69 : decode b_Mo_write 69 = .ok (.iconst 3, 1) := by decide +kernel
theorem d_Mo_write_70 : decode b_Mo_write 70 = .ok (.if_icmp .ne 36, 3) := by decide +kernel
theorem d_Mo_write_73 : decode b_Mo_write 73 = .ok (.aload_n 0, 1) := by decide +kernel
theorem d_Mo_write_74 : decode b_Mo_write 74 = .ok (.ldc2_w 386, 3) := by decide +kernel
theorem d_Mo_write_77 : decode b_Mo_write 77 = .ok (.invokevirtual 363, 3) := by decide +kernel
theorem d_Mo_write_80 : decode b_Mo_write 80 = .ok (.aload_n 0, 1) := by decide +kernel
theorem d_Mo_write_81 : decode b_Mo_write 81 = .ok (.aload_n 0, 1) := by decide +kernel
theorem d_Mo_write_82 : decode b_Mo_write 82 = .ok (.getfield 136, 3) := by decide +kernel
theorem d_Mo_write_85 : decode b_Mo_write 85 = .ok (.iload_n 1, 1) := by decide +kernel
theorem d_Mo_write_86 : decode b_Mo_write 86 = .ok (.iaload, 1) := by decide +kernel
theorem d_Mo_write_87 : decode b_Mo_write 87 = .ok (.aload_n 0, 1) := by decide +kernel
theorem d_Mo_write_88 : decode b_Mo_write 88 = .ok (.getfield 139, 3) := by decide +kernel
theorem d_Mo_write_91 : decode b_Mo_write 91 = .ok (.iload_n 1, 1) := by decide +kernel
theorem d_Mo_write_92 : decode b_Mo_write 92 = .ok (.iaload, 1) := by decide +kernel
theorem d_Mo_write_93 : decode b_Mo_write 93 = .ok (.invokevirtual 380, 3) := by decide +kernel
theorem d_Mo_write_96 : decode b_Mo_write 96 = .ok (.aload_n 0, 1) := by decide +kernel
theorem d_Mo_write_97 : decode b_Mo_write 97 = .ok (.ldc2_w 388, 3) := by decide +kernel
theorem d_Mo_write_100 : decode b_Mo_write 100 = .ok (.invokevirtual 363, 3) := by decide +kernel
theorem d_Mo_write_103 : decode b_Mo_write 103 = .ok (.goto 101, 3) := by decide +kernel
theorem d_Mo_write_106 : decode b_Mo_write 106 = .ok (.aload_n 0, 1) := by decide +kernel
theorem d_Mo_write_107 : decode b_Mo_write 107 = .ok (.getfield 133, 3) := by decide +kernel
theorem d_Mo_write_110 : decode b_Mo_write 110 = .ok (.iload_n 1, 1) := by decide +kernel
theorem d_Mo_write_111 : decode b_Mo_write 111 = .ok (.iaload, 1) := by decide +kernel
theorem d_Mo_write_112 : decode b_Mo_write 112 = .ok (.iconst 4, 1) := by decide +kernel
theorem d_Mo_write_113 : decode b_Mo_write 113 = .ok (.if_icmp .ne 86, 3) := by decide +kernel
theorem d_Mo_write_116 : decode b_Mo_write 116 = .ok (.aload_n 0, 1) := by decide +kernel
theorem d_Mo_write_117 : decode b_Mo_write 117 = .ok (.ldc2_w 390, 3) := by decide +kernel
theorem d_Mo_write_120 : decode b_Mo_write 120 = .ok (.invokevirtual 363, 3) := by decide +kernel
theorem d_Mo_write_123 : decode b_Mo_write 123 = .ok (.aload_n 0, 1) := by decide +kernel
theorem d_Mo_write_124 : decode b_Mo_write 124 = .ok (.bipush 69, 2) := by decide +kernel
theorem d_Mo_write_126 : decode b_Mo_write 126 = .ok (.invokevirtual 358, 3) := by decide +kernel
theorem d_Mo_write_129 : decode b_Mo_write 129 = .ok (.aload_n 0, 1) := by decide +kernel
theorem d_Mo_write_130 : decode b_Mo_write 130 = .ok (.aload_n 0, 1) := by decide +kernel
theorem d_Mo_write_131 : decode b_Mo_write 131 = .ok (.getfield 139, 3) := by decide +kernel
theorem d_Mo_write_134 : decode b_Mo_write 134 = .ok (.iload_n 1, 1) := by decide +kernel
theorem d_Mo_write_135 : decode b_Mo_write 135 = .ok (.iaload, 1) := by decide +kernel
theorem d_Mo_write_136 : decode b_Mo_write 136 = .ok (.ifCond .le 9, 3) := by decide +kernel
theorem d_Mo_write_139 : decode b_Mo_write 139 = .ok (.ldc2_w 392, 3) := by decide +kernel
theorem d_Mo_write_142 : decode b_Mo_write 142 = .ok (.goto 4, 3) := by decide +kernel
theorem d_Mo_write_145 : decode b_Mo_write 145 = .ok (.lconst 0, 1) := by decide +kernel
theorem d_Mo_write_146 : decode b_Mo_write 146 = .ok (.invokevirtual 363, 3) := by decide +kernel
theorem d_Mo_write_149 : decode b_Mo_write 149 = .ok (.aload_n 0, 1) := by decide +kernel
theorem d_Mo_write_150 : decode b_Mo_write 150 = .ok (.aload_n 0, 1) := by decide +kernel
theorem d_Mo_write_151 : decode b_Mo_write 151 = .ok (.getfield 136, 3) := by decide +kernel
theorem d_Mo_write_154 : decode b_Mo_write 154 = .ok (.iload_n 1, 1) := by decide +kernel
theorem d_Mo_write_155 : decode b_Mo_write 155 = .ok (.iaload, 1) := by decide +kernel
theorem d_Mo_write_156 : decode b_Mo_write 156 = .ok (.aload_n 0, 1) := by decide +kernel
theorem d_Mo_write_157 : decode b_Mo_write 157 = .ok (.getfield 139, 3) := by decide +kernel
theorem d_Mo_write_160 : decode b_Mo_write 160 = .ok (.iload_n 1, 1) := by decide +kernel
theorem d_Mo_write_161 : decode b_Mo_write 161 = .ok (.iaload, 1) := by decide +kernel
theorem d_Mo_write_162 : decode b_Mo_write 162 = .ok (.invokevirtual 380, 3) := by decide +kernel
theorem d_Mo_write_165 : decode b_Mo_write 165 = .ok (.aload_n 0, 1) := by decide +kernel
theorem d_Mo_write_166 : decode b_Mo_write 166 = .ok (.aload_n 0, 1) := by decide +kernel
theorem d_Mo_write_167 : decode b_Mo_write 167 = .ok (.getfield 139, 3) := by decide +kernel
theorem d_Mo_write_170 : decode b_Mo_write 170 = .ok (.iload_n 1, 1) := by decide +kernel
theorem d_Mo_write_171 : decode b_Mo_write 171 = .ok (.iaload, 1) := by decide +kernel
theorem d_Mo_write_172 : decode b_Mo_write 172 = .ok (.ifCond .le 18, 3) := by decide +kernel
theorem d_Mo_write_175 : decode b_Mo_write 175 = .ok (.aload_n 0, 1) := by decide +kernel
theorem d_Mo_write_176 : decode b_Mo_write 176 = .ok (.getfield 142, 3) := by decide +kernel
theorem d_Mo_write_179 : decode b_Mo_write 179 = .ok (.iload_n 1, 1) := by decide +kernel
theorem d_Mo_write_180 : decode b_Mo_write 180 = .ok (.baload, 1) := by decide +kernel
theorem d_Mo_write_181 : decode b_Mo_write 181 = .ok (.ifCond .eq 9, 3) := by decide +kernel
theorem d_Mo_write_184 : decode b_Mo_write 184 = .ok (.ldc2_w 394, 3) := by decide +kernel
theorem d_Mo_write_187 : decode b_Mo_write 187 = .ok (.goto 6, 3) := by decide +kernel
theorem d_Mo_write_190 : decode b_Mo_write 190 = .ok (.ldc2_w 396, 3) := by decide +kernel
theorem d_Mo_write_193 : decode b_Mo_write 193 = .ok (.invokevirtual 363, 3) := by decide +kernel
theorem d_Mo_write_196 : decode b_Mo_write 196 = .ok (.goto 8, 3) := by decide +kernel
theorem d_Mo_write_199 : decode b_Mo_write 199 = .ok (.aload_n 0, 1) := by decide +kernel
theorem d_Mo_write_200 : decode b_Mo_write 200 = .ok (.iload_n 1, 1) := by decide +kernel
theorem d_Mo_write_201 : decode b_Mo_write 201 = .ok (.invokevirtual 398, 3) := by decide +kernel
theorem d_Mo_write_204 : decode b_Mo_write 204 = .ok (.iinc 1 1, 3) := by decide +kernel
theorem d_Mo_write_207 : decode b_Mo_write 207 = .ok (.goto (-200), 3) := by decide +kernel
theorem d_Mo_write_210 : decode b_Mo_write 210 = .ok (.aload_n 0, 1) := by decide +kernel
theorem d_Mo_write_211 : decode b_Mo_write 211 = .ok (.getfield 183, 3) := by decide +kernel
theorem d_Mo_write_214 : decode b_Mo_write 214 = .ok (.ireturn, 1) := by decide +kernel
theorem d_Mo_word_0 : decode b_Mo_word 0 = .ok (.lconst 0, 1) := by decide +kernel
theorem d_Mo_word_1 : decode b_Mo_word 1 = .ok (.lstore_n 2, 1) := by decide +kernel
theorem d_Mo_word_2 : decode b_Mo_word 2 = .ok (.bipush 7, 2) := by decide +kernel
theorem d_Mo_word_4 : decode b_Mo_word 4 = .ok (.istore 4, 2) := by decide +kernel
theorem d_Mo_word_6 : decode b_Mo_word 6 = .ok (.iload 4, 2) := by decide +kernel
theorem d_Mo_word_8 : decode b_Mo_word 8 = .ok (.ifCond .lt 61, 3) := by decide +kernel
theorem d_Mo_word_11 : decode b_Mo_word 11 = .ok (.iload_n 1, 1) := by decide +kernel
theorem d_Mo_word_12 : decode b_Mo_word 12 = .ok (.ifCond .lt 57, 3) := by decide +kernel
theorem d_Mo_word_15 : decode b_Mo_word 15 = .ok (.iload_n 1, 1) := by decide +kernel
theorem d_Mo_word_16 : decode b_Mo_word 16 = .ok (.sipush 500, 3) := by decide +kernel
theorem d_Mo_word_19 : decode b_Mo_word 19 = .ok (.if_icmp .ge 50, 3) := by decide +kernel
theorem d_Mo_word_22 : decode b_Mo_word 22 = .ok (.lload_n 2, 1) := by decide +kernel
theorem d_Mo_word_23 : decode b_Mo_word 23 = .ok (.bipush 8, 2) := by decide +kernel
theorem d_Mo_word_25 : decode b_Mo_word 25 = .ok (.lshl, 1) := by decide +kernel
theorem d_Mo_word_26 : decode b_Mo_word 26 = .ok (.bipush 8, 2) := by decide +kernel
theorem d_Mo_word_28 : decode b_Mo_word 28 = .ok (.iload_n 1, 1) := by decide +kernel
theorem d_Mo_word_29 : decode b_Mo_word 29 = .ok (.imul, 1) := by decide +kernel
theorem d_Mo_word_30 : decode b_Mo_word 30 = .ok (.iload 4, 2) := by decide +kernel
theorem d_Mo_word_32 : decode b_Mo_word 32 = .ok (.iadd, 1) := by decide +kernel
theorem d_Mo_word_33 : decode b_Mo_word 33 = .ok (.aload_n 0, 1) := by decide +kernel
theorem d_Mo_word_34 : decode b_Mo_word 34 = .ok (.getfield 183, 3) := by decide +kernel
theorem d_Mo_word_37 : decode b_Mo_word 37 = .ok (.if_icmp .ge 22, 3) := by decide +kernel
theorem d_Mo_word_40 : decode b_Mo_word 40 = .ok (.aload_n 0, 1) := by decide +kernel
theorem d_Mo_word_41 : decode b_Mo_word 41 = .ok (.getfield 176, 3) := by decide +kernel
theorem d_Mo_word_44 : decode b_Mo_word 44 = .ok (.bipush 8, 2) := by decide +kernel
theorem d_Mo_word_46 : decode b_Mo_word 46 = .ok (.iload_n 1, 1) := by decide +kernel
theorem d_Mo_word_47 : decode b_Mo_word 47 = .ok (.imul, 1) := by decide +kernel
theorem d_Mo_word_48 : decode b_Mo_word 48 = .ok (.iload 4, 2) := by decide +kernel
theorem d_Mo_word_50 : decode b_Mo_word 50 = .ok (.iadd, 1) := by decide +kernel
theorem d_Mo_word_51 : decode b_Mo_word 51 = .ok (.baload, 1) := by decide +kernel
theorem d_Mo_word_52 : decode b_Mo_word 52 = .ok (.sipush 255, 3) := by decide +kernel
theorem d_Mo_word_55 : decode b_Mo_word 55 = .ok (.iand, 1) := by decide +kernel
theorem d_Mo_word_56 : decode b_Mo_word 56 = .ok (.goto 4, 3) := by decide +kernel
theorem d_Mo_word_59 : decode b_Mo_word 59 = .ok (.iconst 0, 1) := by decide +kernel
theorem d_Mo_word_60 : decode b_Mo_word 60 = .ok (.i2l, 1) := by decide +kernel
theorem d_Mo_word_61 : decode b_Mo_word 61 = .ok (.lor, 1) := by decide +kernel
theorem d_Mo_word_62 : decode b_Mo_word 62 = .ok (.lstore_n 2, 1) := by decide +kernel
theorem d_Mo_word_63 : decode b_Mo_word 63 = .ok (.iinc 4 (-1), 3) := by decide +kernel
theorem d_Mo_word_66 : decode b_Mo_word 66 = .ok (.goto (-60), 3) := by decide +kernel
theorem d_Mo_word_69 : decode b_Mo_word 69 = .ok (.lload_n 2, 1) := by decide +kernel
theorem d_Mo_word_70 : decode b_Mo_word 70 = .ok (.lreturn, 1) := by decide +kernel
