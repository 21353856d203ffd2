theorem d_CommentWays_bogus_0 : decode b_CommentWays_bogus 0 = .ok (.iload_n 1, 1) := by decide +kernel
theorem d_CommentWays_bogus_1 : decode b_CommentWays_bogus 1 = .ok (.lookupswitch 37 #[((-1), 32), (62, 27)], 27) := by decide +kernel
theorem d_CommentWays_bogus_28 : decode b_CommentWays_bogus 28 = .ok (.aload_n 0, 1) := by decide +kernel
theorem d_CommentWays_bogus_29 : decode b_CommentWays_bogus 29 = .ok (.invokevirtual 25, 3) := by decide +kernel
theorem d_CommentWays_bogus_32 : decode b_CommentWays_bogus 32 = .ok (.areturn, 1) := by decide +kernel
theorem d_CommentWays_bogus_33 : decode b_CommentWays_bogus 33 = .ok (.aload_n 0, 1) := by decide +kernel
theorem d_CommentWays_bogus_34 : decode b_CommentWays_bogus 34 = .ok (.invokevirtual 29, 3) := by decide +kernel
theorem d_CommentWays_bogus_37 : decode b_CommentWays_bogus 37 = .ok (.areturn, 1) := by decide +kernel
theorem d_CommentWays_bogus_38 : decode b_CommentWays_bogus 38 = .ok (.aload_n 0, 1) := by decide +kernel
theorem d_CommentWays_bogus_39 : decode b_CommentWays_bogus 39 = .ok (.iload_n 1, 1) := by decide +kernel
theorem d_CommentWays_bogus_40 : decode b_CommentWays_bogus 40 = .ok (.invokevirtual 32, 3) := by decide +kernel
theorem d_CommentWays_bogus_43 : decode b_CommentWays_bogus 43 = .ok (.aload_n 0, 1) := by decide +kernel
theorem d_CommentWays_bogus_44 : decode b_CommentWays_bogus 44 = .ok (.getfield 15, 3) := by decide +kernel
theorem d_CommentWays_bogus_47 : decode b_CommentWays_bogus 47 = .ok (.getstatic 35, 3) := by decide +kernel
theorem d_CommentWays_bogus_50 : decode b_CommentWays_bogus 50 = .ok (.invokevirtual 41, 3) := by decide +kernel
theorem d_CommentWays_bogus_53 : decode b_CommentWays_bogus 53 = .ok (.areturn, 1) := by decide +kernel
theorem d_CommentWays_closedEarly_0 : decode b_CommentWays_closedEarly 0 = .ok (.aload_n 0, 1) := by decide +kernel
theorem d_CommentWays_closedEarly_1 : decode b_CommentWays_closedEarly 1 = .ok (.getfield 15, 3) := by decide +kernel
theorem d_CommentWays_closedEarly_4 : decode b_CommentWays_closedEarly 4 = .ok (.bipush 17, 2) := by decide +kernel
theorem d_CommentWays_closedEarly_6 : decode b_CommentWays_closedEarly 6 = .ok (.invokevirtual 19, 3) := by decide +kernel
theorem d_CommentWays_closedEarly_9 : decode b_CommentWays_closedEarly 9 = .ok (.aload_n 0, 1) := by decide +kernel
theorem d_CommentWays_closedEarly_10 : decode b_CommentWays_closedEarly 10 = .ok (.invokevirtual 25, 3) := by decide +kernel
theorem d_CommentWays_closedEarly_13 : decode b_CommentWays_closedEarly 13 = .ok (.areturn, 1) := by decide +kernel
theorem d_CommentWays_start_0 : decode b_CommentWays_start 0 = .ok (.aload_n 0, 1) := by decide +kernel
theorem d_CommentWays_start_1 : decode b_CommentWays_start 1 = .ok (.iconst (-1), 1) := by decide +kernel
theorem d_CommentWays_start_2 : decode b_CommentWays_start 2 = .ok (.putfield 11, 3) := by decide +kernel
theorem d_CommentWays_start_5 : decode b_CommentWays_start 5 = .ok (.iload_n 1, 1) := by decide +kernel
theorem d_CommentWays_start_6 : decode b_CommentWays_start 6 = .ok (.lookupswitch 42 #[(45, 26), (62, 37)], 26) := by decide +kernel
theorem d_CommentWays_start_32 : decode b_CommentWays_start 32 = .ok (.aload_n 0, 1) := by decide +kernel
theorem d_CommentWays_start_33 : decode b_CommentWays_start 33 = .ok (.getfield 15, 3) := by decide +kernel
theorem d_CommentWays_start_36 : decode b_CommentWays_start 36 = .ok (.getstatic 45, 3) := by decide +kernel
theorem d_CommentWays_start_39 : decode b_CommentWays_start 39 = .ok (.invokevirtual 41, 3) := by decide +kernel
theorem d_CommentWays_start_42 : decode b_CommentWays_start 42 = .ok (.areturn, 1) := by decide +kernel
theorem d_CommentWays_start_43 : decode b_CommentWays_start 43 = .ok (.aload_n 0, 1) := by decide +kernel
theorem d_CommentWays_start_44 : decode b_CommentWays_start 44 = .ok (.invokevirtual 48, 3) := by decide +kernel
theorem d_CommentWays_start_47 : decode b_CommentWays_start 47 = .ok (.areturn, 1) := by decide +kernel
theorem d_CommentWays_start_48 : decode b_CommentWays_start 48 = .ok (.getstatic 51, 3) := by decide +kernel
theorem d_CommentWays_start_51 : decode b_CommentWays_start 51 = .ok (.areturn, 1) := by decide +kernel
theorem d_CommentWays_startDash_0 : decode b_CommentWays_startDash 0 = .ok (.iload_n 1, 1) := by decide +kernel
theorem d_CommentWays_startDash_1 : decode b_CommentWays_startDash 1 = .ok (.bipush 62, 2) := by decide +kernel
theorem d_CommentWays_startDash_3 : decode b_CommentWays_startDash 3 = .ok (.if_icmp .ne 10, 3) := by decide +kernel
theorem d_CommentWays_startDash_6 : decode b_CommentWays_startDash 6 = .ok (.aload_n 0, 1) := by decide +kernel
theorem d_CommentWays_startDash_7 : decode b_CommentWays_startDash 7 = .ok (.invokevirtual 48, 3) := by decide +kernel
theorem d_CommentWays_startDash_10 : decode b_CommentWays_startDash 10 = .ok (.goto 6, 3) := by decide +kernel
theorem d_CommentWays_startDash_13 : decode b_CommentWays_startDash 13 = .ok (.getstatic 54, 3) := by decide +kernel
theorem d_CommentWays_startDash_16 : decode b_CommentWays_startDash 16 = .ok (.areturn, 1) := by decide +kernel
theorem d_CommentWays_unfinished_0 : decode b_CommentWays_unfinished 0 = .ok (.aload_n 0, 1) := by decide +kernel
theorem d_CommentWays_unfinished_1 : decode b_CommentWays_unfinished 1 = .ok (.getfield 15, 3) := by decide +kernel
theorem d_CommentWays_unfinished_4 : decode b_CommentWays_unfinished 4 = .ok (.bipush 18, 2) := by decide +kernel
theorem d_CommentWays_unfinished_6 : decode b_CommentWays_unfinished 6 = .ok (.invokevirtual 19, 3) := by decide +kernel
theorem d_CommentWays_unfinished_9 : decode b_CommentWays_unfinished 9 = .ok (.aload_n 0, 1) := by decide +kernel
theorem d_CommentWays_unfinished_10 : decode b_CommentWays_unfinished 10 = .ok (.invokevirtual 29, 3) := by decide +kernel
theorem d_CommentWays_unfinished_13 : decode b_CommentWays_unfinished 13 = .ok (.areturn, 1) := by decide +kernel
theorem d_CommentWays_lookForNested_0 : decode b_CommentWays_lookForNested 0 = .ok (.aload_n 0, 1) := by decide +kernel
theorem d_CommentWays_lookForNested_1 : decode b_CommentWays_lookForNested 1 = .ok (.getfield 15, 3) := by decide +kernel
theorem d_CommentWays_lookForNested_4 : decode b_CommentWays_lookForNested 4 = .ok (.iload_n 1, 1) := by decide +kernel
theorem d_CommentWays_lookForNested_5 : decode b_CommentWays_lookForNested 5 = .ok (.iconst 1, 1) := by decide +kernel
theorem d_CommentWays_lookForNested_6 : decode b_CommentWays_lookForNested 6 = .ok (.iadd, 1) := by decide +kernel
theorem d_CommentWays_lookForNested_7 : decode b_CommentWays_lookForNested 7 = .ok (.invokevirtual 67, 3) := by decide +kernel
theorem d_CommentWays_lookForNested_10 : decode b_CommentWays_lookForNested 10 = .ok (.bipush 33, 2) := by decide +kernel
theorem d_CommentWays_lookForNested_12 : decode b_CommentWays_lookForNested 12 = .ok (.if_icmp .ne 37, 3) := by decide +kernel
theorem d_CommentWays_lookForNested_15 : decode b_CommentWays_lookForNested 15 = .ok (.aload_n 0, 1) := by decide +kernel
theorem d_CommentWays_lookForNested_16 : decode b_CommentWays_lookForNested 16 = .ok (.getfield 15, 3) := by decide +kernel
theorem d_CommentWays_lookForNested_19 : decode b_CommentWays_lookForNested 19 = .ok (.iload_n 1, 1) := by decide +kernel
theorem d_CommentWays_lookForNested_20 : decode b_CommentWays_lookForNested 20 = .ok (.iconst 2, 1) := by decide +kernel
theorem d_CommentWays_lookForNested_21 : decode b_CommentWays_lookForNested 21 = .ok (.iadd, 1) := by decide +kernel
theorem d_CommentWays_lookForNested_22 : decode b_CommentWays_lookForNested 22 = .ok (.invokevirtual 67, 3) := by decide +kernel
theorem d_CommentWays_lookForNested_25 : decode b_CommentWays_lookForNested 25 = .ok (.bipush 45, 2) := by decide +kernel
theorem d_CommentWays_lookForNested_27 : decode b_CommentWays_lookForNested 27 = .ok (.if_icmp .ne 22, 3) := by decide +kernel
theorem d_CommentWays_lookForNested_30 : decode b_CommentWays_lookForNested 30 = .ok (.aload_n 0, 1) := by decide +kernel
theorem d_CommentWays_lookForNested_31 : decode b_CommentWays_lookForNested 31 = .ok (.getfield 15, 3) := by decide +kernel
theorem d_CommentWays_lookForNested_34 : decode b_CommentWays_lookForNested 34 = .ok (.iload_n 1, 1) := by decide +kernel
theorem d_CommentWays_lookForNested_35 : decode b_CommentWays_lookForNested 35 = .ok (.iconst 3, 1) := by decide +kernel
theorem d_CommentWays_lookForNested_36 : decode b_CommentWays_lookForNested 36 = .ok (.iadd, 1) := by decide +kernel
theorem d_CommentWays_lookForNested_37 : decode b_CommentWays_lookForNested 37 = .ok (.invokevirtual 67, 3) := by decide +kernel
theorem d_CommentWays_lookForNested_40 : decode b_CommentWays_lookForNested 40 = .ok (.bipush 45, 2) := by decide +kernel
theorem d_CommentWays_lookForNested_42 : decode b_CommentWays_lookForNested 42 = .ok (.if_icmp .ne 7, 3) := by decide +kernel
theorem d_CommentWays_lookForNested_45 : decode b_CommentWays_lookForNested 45 = .ok (.iconst 1, 1) := by decide +kernel
theorem d_CommentWays_lookForNested_46 : decode b_CommentWays_lookForNested 46 = .ok (.goto 4, 3) := by decide +kernel
theorem d_CommentWays_lookForNested_49 : decode b_CommentWays_lookForNested 49 = .ok (.iconst 0, 1) := by decide +kernel
theorem d_CommentWays_lookForNested_50 : decode b_CommentWays_lookForNested 50 = .ok (.istore_n 2, 1) := by decide +kernel
theorem d_CommentWays_lookForNested_51 : decode b_CommentWays_lookForNested 51 = .ok (.aload_n 0, 1) := by decide +kernel
theorem d_CommentWays_lookForNested_52 : decode b_CommentWays_lookForNested 52 = .ok (.getfield 15, 3) := by decide +kernel
theorem d_CommentWays_lookForNested_55 : decode b_CommentWays_lookForNested 55 = .ok (.iload_n 1, 1) := by decide +kernel
theorem d_CommentWays_lookForNested_56 : decode b_CommentWays_lookForNested 56 = .ok (.iconst 4, 1) := by decide +kernel
theorem d_CommentWays_lookForNested_57 : decode b_CommentWays_lookForNested 57 = .ok (.iadd, 1) := by decide +kernel
theorem d_CommentWays_lookForNested_58 : decode b_CommentWays_lookForNested 58 = .ok (.invokevirtual 67, 3) := by decide +kernel
theorem d_CommentWays_lookForNested_61 : decode b_CommentWays_lookForNested 61 = .ok (.istore_n 3, 1) := by decide +kernel
theorem d_CommentWays_lookForNested_62 : decode b_CommentWays_lookForNested 62 = .ok (.iload_n 2, 1) := by decide +kernel
theorem d_CommentWays_lookForNested_63 : decode b_CommentWays_lookForNested 63 = .ok (.ifCond .eq 21, 3) := by decide +kernel
theorem d_CommentWays_lookForNested_66 : decode b_CommentWays_lookForNested 66 = .ok (.iload_n 3, 1) := by decide +kernel
theorem d_CommentWays_lookForNested_67 : decode b_CommentWays_lookForNested 67 = .ok (.bipush 62, 2) := by decide +kernel
theorem d_CommentWays_lookForNested_69 : decode b_CommentWays_lookForNested 69 = .ok (.if_icmp .eq 15, 3) := by decide +kernel
theorem d_CommentWays_lookForNested_72 : decode b_CommentWays_lookForNested 72 = .ok (.iload_n 3, 1) := by decide +kernel
theorem d_CommentWays_lookForNested_73 : decode b_CommentWays_lookForNested 73 = .ok (.iconst (-1), 1) := by decide +kernel
theorem d_CommentWays_lookForNested_74 : decode b_CommentWays_lookForNested 74 = .ok (.if_icmp .eq 10, 3) := by decide +kernel
theorem d_CommentWays_lookForNested_77 : decode b_CommentWays_lookForNested 77 = .ok (.aload_n 0, 1) := by decide +kernel
theorem d_CommentWays_lookForNested_78 : decode b_CommentWays_lookForNested 78 = .ok (.iload_n 1, 1) := by decide +kernel
theorem d_CommentWays_lookForNested_79 : decode b_CommentWays_lookForNested 79 = .ok (.iconst 4, 1) := by decide +kernel
theorem d_CommentWays_lookForNested_80 : decode b_CommentWays_lookForNested 80 = .ok (.iadd, 1) := by decide +kernel
theorem d_CommentWays_lookForNested_81 : decode b_CommentWays_lookForNested 81 = .ok (.putfield 11, 3) := by decide +kernel
theorem d_CommentWays_lookForNested_84 : decode b_CommentWays_lookForNested 84 = .ok (.return_, 1) := by decide +kernel
theorem d_CommentWays_inside_0 : decode b_CommentWays_inside 0 = .ok (.iload_n 1, 1) := by decide +kernel
theorem d_CommentWays_inside_1 : decode b_CommentWays_inside 1 = .ok (.lookupswitch 65 #[((-1), 46), (45, 35), (60, 51)], 35) := by decide +kernel
theorem d_CommentWays_inside_36 : decode b_CommentWays_inside 36 = .ok (.aload_n 0, 1) := by decide +kernel
theorem d_CommentWays_inside_37 : decode b_CommentWays_inside 37 = .ok (.getfield 15, 3) := by decide +kernel
theorem d_CommentWays_inside_40 : decode b_CommentWays_inside 40 = .ok (.getstatic 54, 3) := by decide +kernel
theorem d_CommentWays_inside_43 : decode b_CommentWays_inside 43 = .ok (.invokevirtual 41, 3) := by decide +kernel
theorem d_CommentWays_inside_46 : decode b_CommentWays_inside 46 = .ok (.areturn, 1) := by decide +kernel
theorem d_CommentWays_inside_47 : decode b_CommentWays_inside 47 = .ok (.aload_n 0, 1) := by decide +kernel
theorem d_CommentWays_inside_48 : decode b_CommentWays_inside 48 = .ok (.invokevirtual 57, 3) := by decide +kernel
theorem d_CommentWays_inside_51 : decode b_CommentWays_inside 51 = .ok (.areturn, 1) := by decide +kernel
theorem d_CommentWays_inside_52 : decode b_CommentWays_inside 52 = .ok (.aload_n 0, 1) := by decide +kernel
theorem d_CommentWays_inside_53 : decode b_CommentWays_inside 53 = .ok (.aload_n 0, 1) := by decide +kernel
theorem d_CommentWays_inside_54 : decode b_CommentWays_inside 54 = .ok (.getfield 15, 3) := by decide +kernel
theorem d_CommentWays_inside_57 : decode b_CommentWays_inside 57 = .ok (.invokevirtual 60, 3) := by decide +kernel
theorem d_CommentWays_inside_60 : decode b_CommentWays_inside 60 = .ok (.invokevirtual 64, 3) := by decide +kernel
theorem d_CommentWays_inside_63 : decode b_CommentWays_inside 63 = .ok (.goto 3, 3) := by decide +kernel
theorem d_CommentWays_inside_66 : decode b_CommentWays_inside 66 = .ok (.aload_n 0, 1) := by decide +kernel
theorem d_CommentWays_inside_67 : decode b_CommentWays_inside 67 = .ok (.iload_n 1, 1) := by decide +kernel
theorem d_CommentWays_inside_68 : decode b_CommentWays_inside 68 = .ok (.invokevirtual 32, 3) := by decide +kernel
theorem d_CommentWays_inside_71 : decode b_CommentWays_inside 71 = .ok (.aload_n 0, 1) := by decide +kernel
theorem d_CommentWays_inside_72 : decode b_CommentWays_inside 72 = .ok (.getfield 15, 3) := by decide +kernel
theorem d_CommentWays_inside_75 : decode b_CommentWays_inside 75 = .ok (.getstatic 51, 3) := by decide +kernel
theorem d_CommentWays_inside_78 : decode b_CommentWays_inside 78 = .ok (.invokevirtual 41, 3) := by decide +kernel
theorem d_CommentWays_inside_81 : decode b_CommentWays_inside 81 = .ok (.areturn, 1) := by decide +kernel
theorem d_CommentWays_dash_0 : decode b_CommentWays_dash 0 = .ok (.iload_n 1, 1) := by decide +kernel
theorem d_CommentWays_dash_1 : decode b_CommentWays_dash 1 = .ok (.lookupswitch 43 #[((-1), 38), (45, 27)], 27) := by decide +kernel
theorem d_CommentWays_dash_28 : decode b_CommentWays_dash 28 = .ok (.aload_n 0, 1) := by decide +kernel
theorem d_CommentWays_dash_29 : decode b_CommentWays_dash 29 = .ok (.getfield 15, 3) := by decide +kernel
theorem d_CommentWays_dash_32 : decode b_CommentWays_dash 32 = .ok (.getstatic 71, 3) := by decide +kernel
theorem d_CommentWays_dash_35 : decode b_CommentWays_dash 35 = .ok (.invokevirtual 41, 3) := by decide +kernel
theorem d_CommentWays_dash_38 : decode b_CommentWays_dash 38 = .ok (.areturn, 1) := by decide +kernel
theorem d_CommentWays_dash_39 : decode b_CommentWays_dash 39 = .ok (.aload_n 0, 1) := by decide +kernel
theorem d_CommentWays_dash_40 : decode b_CommentWays_dash 40 = .ok (.invokevirtual 57, 3) := by decide +kernel
theorem d_CommentWays_dash_43 : decode b_CommentWays_dash 43 = .ok (.areturn, 1) := by decide +kernel
theorem d_CommentWays_dash_44 : decode b_CommentWays_dash 44 = .ok (.aload_n 0, 1) := by decide +kernel
theorem d_CommentWays_dash_45 : decode b_CommentWays_dash 45 = .ok (.getfield 74, 3) := by decide +kernel
theorem d_CommentWays_dash_48 : decode b_CommentWays_dash 48 = .ok (.bipush 45, 2) := by decide +kernel
theorem d_CommentWays_dash_50 : decode b_CommentWays_dash 50 = .ok (.invokevirtual 78, 3) := by decide +kernel
theorem d_CommentWays_dash_53 : decode b_CommentWays_dash 53 = .ok (.getstatic 51, 3) := by decide +kernel
theorem d_CommentWays_dash_56 : decode b_CommentWays_dash 56 = .ok (.areturn, 1) := by decide +kernel
theorem d_CommentWays_end_0 : decode b_CommentWays_end 0 = .ok (.aload_n 0, 1) := by decide +kernel
theorem d_CommentWays_end_1 : decode b_CommentWays_end 1 = .ok (.getfield 15, 3) := by decide +kernel
theorem d_CommentWays_end_4 : decode b_CommentWays_end 4 = .ok (.invokevirtual 60, 3) := by decide +kernel
theorem d_CommentWays_end_7 : decode b_CommentWays_end 7 = .ok (.aload_n 0, 1) := by decide +kernel
theorem d_CommentWays_end_8 : decode b_CommentWays_end 8 = .ok (.getfield 11, 3) := by decide +kernel
theorem d_CommentWays_end_11 : decode b_CommentWays_end 11 = .ok (.if_icmp .ne 12, 3) := by decide +kernel
theorem d_CommentWays_end_14 : decode b_CommentWays_end 14 = .ok (.aload_n 0, 1) := by decide +kernel
theorem d_CommentWays_end_15 : decode b_CommentWays_end 15 = .ok (.getfield 15, 3) := by decide +kernel
theorem d_CommentWays_end_18 : decode b_CommentWays_end 18 = .ok (.bipush 19, 2) := by decide +kernel
theorem d_CommentWays_end_20 : decode b_CommentWays_end 20 = .ok (.invokevirtual 19, 3) := by decide +kernel
theorem d_CommentWays_end_23 : decode b_CommentWays_end 23 = .ok (.iload_n 1, 1) := by decide +kernel
theorem d_CommentWays_end_24 : decode b_CommentWays_end 24 = .ok (.lookupswitch 85 #[((-1), 80), (33, 49), (45, 60), (62, 44)], 44) := by decide +kernel
theorem d_CommentWays_end_68 : decode b_CommentWays_end 68 = .ok (.aload_n 0, 1) := by decide +kernel
theorem d_CommentWays_end_69 : decode b_CommentWays_end 69 = .ok (.invokevirtual 25, 3) := by decide +kernel
theorem d_CommentWays_end_72 : decode b_CommentWays_end 72 = .ok (.areturn, 1) := by decide +kernel
theorem d_CommentWays_end_73 : decode b_CommentWays_end 73 = .ok (.aload_n 0, 1) := by decide +kernel
theorem d_CommentWays_end_74 : decode b_CommentWays_end 74 = .ok (.getfield 15, 3) := by decide +kernel
theorem d_CommentWays_end_77 : decode b_CommentWays_end 77 = .ok (.getstatic 83, 3) := by decide +kernel
theorem d_CommentWays_end_80 : decode b_CommentWays_end 80 = .ok (.invokevirtual 41, 3) := by decide +kernel
theorem d_CommentWays_end_83 : decode b_CommentWays_end 83 = .ok (.areturn, 1) := by decide +kernel
theorem d_CommentWays_end_84 : decode b_CommentWays_end 84 = .ok (.aload_n 0, 1) := by decide +kernel
theorem d_CommentWays_end_85 : decode b_CommentWays_end 85 = .ok (.getfield 74, 3) := by decide +kernel
theorem d_CommentWays_end_88 : decode b_CommentWays_end 88 = .ok (.bipush 45, 2) := by decide +kernel
theorem d_CommentWays_end_90 : decode b_CommentWays_end 90 = .ok (.invokevirtual 78, 3) := by decide +kernel
theorem d_CommentWays_end_93 : decode b_CommentWays_end 93 = .ok (.aload_n 0, 1) := by decide +kernel
theorem d_CommentWays_end_94 : decode b_CommentWays_end 94 = .ok (.getfield 15, 3) := by decide +kernel
theorem d_CommentWays_end_97 : decode b_CommentWays_end 97 = .ok (.getstatic 71, 3) := by decide +kernel
theorem d_CommentWays_end_100 : decode b_CommentWays_end 100 = .ok (.invokevirtual 41, 3) := by decide +kernel
theorem d_CommentWays_end_103 : decode b_CommentWays_end 103 = .ok (.areturn, 1) := by decide +kernel
theorem d_CommentWays_end_104 : decode b_CommentWays_end 104 = .ok (.aload_n 0, 1) := by decide +kernel
theorem d_CommentWays_end_105 : decode b_CommentWays_end 105 = .ok (.invokevirtual 57, 3) := by decide +kernel
theorem d_CommentWays_end_108 : decode b_CommentWays_end 108 = .ok (.areturn, 1) := by decide +kernel
theorem d_CommentWays_end_109 : decode b_CommentWays_end 109 = .ok (.aload_n 0, 1) := by decide +kernel
theorem d_CommentWays_end_110 : decode b_CommentWays_end 110 = .ok (.getfield 74, 3) := by decide +kernel
theorem d_CommentWays_end_113 : decode b_CommentWays_end 113 = .ok (.bipush 45, 2) := by decide +kernel
theorem d_CommentWays_end_115 : decode b_CommentWays_end 115 = .ok (.invokevirtual 78, 3) := by decide +kernel
theorem d_CommentWays_end_118 : decode b_CommentWays_end 118 = .ok (.aload_n 0, 1) := by decide +kernel
theorem d_CommentWays_end_119 : decode b_CommentWays_end 119 = .ok (.getfield 74, 3) := by decide +kernel
theorem d_CommentWays_end_122 : decode b_CommentWays_end 122 = .ok (.bipush 45, 2) := by decide +kernel
theorem d_CommentWays_end_124 : decode b_CommentWays_end 124 = .ok (.invokevirtual 78, 3) := by decide +kernel
theorem d_CommentWays_end_127 : decode b_CommentWays_end 127 = .ok (.getstatic 51, 3) := by decide +kernel
theorem d_CommentWays_end_130 : decode b_CommentWays_end 130 = .ok (.areturn, 1) := by decide +kernel
theorem d_CommentWays_bang_0 : decode b_CommentWays_bang 0 = .ok (.iload_n 1, 1) := by decide +kernel
theorem d_CommentWays_bang_1 : decode b_CommentWays_bang 1 = .ok (.lookupswitch 46 #[((-1), 41), (62, 27)], 27) := by decide +kernel
theorem d_CommentWays_bang_28 : decode b_CommentWays_bang 28 = .ok (.aload_n 0, 1) := by decide +kernel
theorem d_CommentWays_bang_29 : decode b_CommentWays_bang 29 = .ok (.getfield 15, 3) := by decide +kernel
theorem d_CommentWays_bang_32 : decode b_CommentWays_bang 32 = .ok (.bipush 20, 2) := by decide +kernel
theorem d_CommentWays_bang_34 : decode b_CommentWays_bang 34 = .ok (.invokevirtual 19, 3) := by decide +kernel
theorem d_CommentWays_bang_37 : decode b_CommentWays_bang 37 = .ok (.aload_n 0, 1) := by decide +kernel
theorem d_CommentWays_bang_38 : decode b_CommentWays_bang 38 = .ok (.invokevirtual 25, 3) := by decide +kernel
theorem d_CommentWays_bang_41 : decode b_CommentWays_bang 41 = .ok (.areturn, 1) := by decide +kernel
theorem d_CommentWays_bang_42 : decode b_CommentWays_bang 42 = .ok (.aload_n 0, 1) := by decide +kernel
theorem d_CommentWays_bang_43 : decode b_CommentWays_bang 43 = .ok (.invokevirtual 57, 3) := by decide +kernel
theorem d_CommentWays_bang_46 : decode b_CommentWays_bang 46 = .ok (.areturn, 1) := by decide +kernel
theorem d_CommentWays_bang_47 : decode b_CommentWays_bang 47 = .ok (.aload_n 0, 1) := by decide +kernel
theorem d_CommentWays_bang_48 : decode b_CommentWays_bang 48 = .ok (.getfield 74, 3) := by decide +kernel
theorem d_CommentWays_bang_51 : decode b_CommentWays_bang 51 = .ok (.bipush 45, 2) := by decide +kernel
theorem d_CommentWays_bang_53 : decode b_CommentWays_bang 53 = .ok (.invokevirtual 78, 3) := by decide +kernel
theorem d_CommentWays_bang_56 : decode b_CommentWays_bang 56 = .ok (.aload_n 0, 1) := by decide +kernel
theorem d_CommentWays_bang_57 : decode b_CommentWays_bang 57 = .ok (.getfield 74, 3) := by decide +kernel
theorem d_CommentWays_bang_60 : decode b_CommentWays_bang 60 = .ok (.bipush 45, 2) := by decide +kernel
theorem d_CommentWays_bang_62 : decode b_CommentWays_bang 62 = .ok (.invokevirtual 78, 3) := by decide +kernel
theorem d_CommentWays_bang_65 : decode b_CommentWays_bang 65 = .ok (.aload_n 0, 1) := by decide +kernel
theorem d_CommentWays_bang_66 : decode b_CommentWays_bang 66 = .ok (.getfield 74, 3) := by decide +kernel
theorem d_CommentWays_bang_69 : decode b_CommentWays_bang 69 = .ok (.bipush 33, 2) := by decide +kernel
theorem d_CommentWays_bang_71 : decode b_CommentWays_bang 71 = .ok (.invokevirtual 78, 3) := by decide +kernel
theorem d_CommentWays_bang_74 : decode b_CommentWays_bang 74 = .ok (.iload_n 1, 1) := by decide +kernel
theorem d_CommentWays_bang_75 : decode b_CommentWays_bang 75 = .ok (.bipush 45, 2) := by decide +kernel
theorem d_CommentWays_bang_77 : decode b_CommentWays_bang 77 = .ok (.if_icmp .ne 16, 3) := by decide +kernel
theorem d_CommentWays_bang_80 : decode b_CommentWays_bang 80 = .ok (.aload_n 0, 1) := by decide +kernel
theorem d_CommentWays_bang_81 : decode b_CommentWays_bang 81 = .ok (.getfield 15, 3) := by decide +kernel
theorem d_CommentWays_bang_84 : decode b_CommentWays_bang 84 = .ok (.getstatic 54, 3) := by decide +kernel
theorem d_CommentWays_bang_87 : decode b_CommentWays_bang 87 = .ok (.invokevirtual 41, 3) := by decide +kernel
theorem d_CommentWays_bang_90 : decode b_CommentWays_bang 90 = .ok (.goto 6, 3) := by decide +kernel
theorem d_CommentWays_bang_93 : decode b_CommentWays_bang 93 = .ok (.getstatic 51, 3) := by decide +kernel
theorem d_CommentWays_bang_96 : decode b_CommentWays_bang 96 = .ok (.areturn, 1) := by decide +kernel
