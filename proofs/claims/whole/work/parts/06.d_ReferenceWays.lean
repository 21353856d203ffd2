theorem d_ReferenceWays_open_0 : decode b_ReferenceWays_open 0 = .ok (.aload_n 0, 1) := by decide +kernel
theorem d_ReferenceWays_open_1 : decode b_ReferenceWays_open 1 = .ok (.aload_n 1, 1) := by decide +kernel
theorem d_ReferenceWays_open_2 : decode b_ReferenceWays_open 2 = .ok (.putfield 15, 3) := by decide +kernel
theorem d_ReferenceWays_open_5 : decode b_ReferenceWays_open 5 = .ok (.aload_n 0, 1) := by decide +kernel
theorem d_ReferenceWays_open_6 : decode b_ReferenceWays_open 6 = .ok (.getfield 20, 3) := by decide +kernel
theorem d_ReferenceWays_open_9 : decode b_ReferenceWays_open 9 = .ok (.getstatic 24, 3) := by decide +kernel
theorem d_ReferenceWays_open_12 : decode b_ReferenceWays_open 12 = .ok (.invokevirtual 27, 3) := by decide +kernel
theorem d_ReferenceWays_open_15 : decode b_ReferenceWays_open 15 = .ok (.areturn, 1) := by decide +kernel
theorem d_ReferenceWays_start_0 : decode b_ReferenceWays_start 0 = .ok (.iload_n 1, 1) := by decide +kernel
theorem d_ReferenceWays_start_1 : decode b_ReferenceWays_start 1 = .ok (.bipush 35, 2) := by decide +kernel
theorem d_ReferenceWays_start_3 : decode b_ReferenceWays_start 3 = .ok (.if_icmp .ne 7, 3) := by decide +kernel
theorem d_ReferenceWays_start_6 : decode b_ReferenceWays_start 6 = .ok (.getstatic 33, 3) := by decide +kernel
theorem d_ReferenceWays_start_9 : decode b_ReferenceWays_start 9 = .ok (.areturn, 1) := by decide +kernel
theorem d_ReferenceWays_start_10 : decode b_ReferenceWays_start 10 = .ok (.iload_n 1, 1) := by decide +kernel
theorem d_ReferenceWays_start_11 : decode b_ReferenceWays_start 11 = .ok (.invokestatic 36, 3) := by decide +kernel
theorem d_ReferenceWays_start_14 : decode b_ReferenceWays_start 14 = .ok (.ifCond .eq 7, 3) := by decide +kernel
theorem d_ReferenceWays_start_17 : decode b_ReferenceWays_start 17 = .ok (.getstatic 40, 3) := by decide +kernel
theorem d_ReferenceWays_start_20 : decode b_ReferenceWays_start 20 = .ok (.areturn, 1) := by decide +kernel
theorem d_ReferenceWays_start_21 : decode b_ReferenceWays_start 21 = .ok (.aload_n 0, 1) := by decide +kernel
theorem d_ReferenceWays_start_22 : decode b_ReferenceWays_start 22 = .ok (.getfield 43, 3) := by decide +kernel
theorem d_ReferenceWays_start_25 : decode b_ReferenceWays_start 25 = .ok (.bipush 38, 2) := by decide +kernel
theorem d_ReferenceWays_start_27 : decode b_ReferenceWays_start 27 = .ok (.invokevirtual 47, 3) := by decide +kernel
theorem d_ReferenceWays_start_30 : decode b_ReferenceWays_start 30 = .ok (.aload_n 0, 1) := by decide +kernel
theorem d_ReferenceWays_start_31 : decode b_ReferenceWays_start 31 = .ok (.getfield 15, 3) := by decide +kernel
theorem d_ReferenceWays_start_34 : decode b_ReferenceWays_start 34 = .ok (.areturn, 1) := by decide +kernel
theorem d_ReferenceWays_longestName_0 : decode b_ReferenceWays_longestName 0 = .ok (.aconst_null, 1) := by decide +kernel
theorem d_ReferenceWays_longestName_1 : decode b_ReferenceWays_longestName 1 = .ok (.astore_n 1, 1) := by decide +kernel
theorem d_ReferenceWays_longestName_2 : decode b_ReferenceWays_longestName 2 = .ok (.iconst 0, 1) := by decide +kernel
theorem d_ReferenceWays_longestName_3 : decode b_ReferenceWays_longestName 3 = .ok (.istore_n 2, 1) := by decide +kernel
theorem d_ReferenceWays_longestName_4 : decode b_ReferenceWays_longestName 4 = .ok (.getstatic 53, 3) := by decide +kernel
theorem d_ReferenceWays_longestName_7 : decode b_ReferenceWays_longestName 7 = .ok (.astore_n 3, 1) := by decide +kernel
theorem d_ReferenceWays_longestName_8 : decode b_ReferenceWays_longestName 8 = .ok (.aload_n 3, 1) := by decide +kernel
theorem d_ReferenceWays_longestName_9 : decode b_ReferenceWays_longestName 9 = .ok (.arraylength, 1) := by decide +kernel
theorem d_ReferenceWays_longestName_10 : decode b_ReferenceWays_longestName 10 = .ok (.istore 4, 2) := by decide +kernel
theorem d_ReferenceWays_longestName_12 : decode b_ReferenceWays_longestName 12 = .ok (.iconst 0, 1) := by decide +kernel
theorem d_ReferenceWays_longestName_13 : decode b_ReferenceWays_longestName 13 = .ok (.istore 5, 2) := by decide +kernel
theorem d_ReferenceWays_longestName_15 : decode b_ReferenceWays_longestName 15 = .ok (.iload 5, 2) := by decide +kernel
theorem d_ReferenceWays_longestName_17 : decode b_ReferenceWays_longestName 17 = .ok (.iload 4, 2) := by decide +kernel
theorem d_ReferenceWays_longestName_19 : decode b_ReferenceWays_longestName 19 = .ok (.if_icmp .ge 45, 3) := by decide +kernel
theorem d_ReferenceWays_longestName_22 : decode b_ReferenceWays_longestName 22 = .ok (.aload_n 3, 1) := by decide +kernel
theorem d_ReferenceWays_longestName_23 : decode b_ReferenceWays_longestName 23 = .ok (.iload 5, 2) := by decide +kernel
theorem d_ReferenceWays_longestName_25 : decode b_ReferenceWays_longestName 25 = .ok (.aaload, 1) := by decide +kernel
theorem d_ReferenceWays_longestName_26 : decode b_ReferenceWays_longestName 26 = .ok (.astore 6, 2) := by decide +kernel
theorem d_ReferenceWays_longestName_28 : decode b_ReferenceWays_longestName 28 = .ok (.aload 6, 2) := by decide +kernel
theorem d_ReferenceWays_longestName_30 : decode b_ReferenceWays_longestName 30 = .ok (.aload_n 0, 1) := by decide +kernel
theorem d_ReferenceWays_longestName_31 : decode b_ReferenceWays_longestName 31 = .ok (.getfield 20, 3) := by decide +kernel
theorem d_ReferenceWays_longestName_34 : decode b_ReferenceWays_longestName 34 = .ok (.aload_n 0, 1) := by decide +kernel
theorem d_ReferenceWays_longestName_35 : decode b_ReferenceWays_longestName 35 = .ok (.getfield 20, 3) := by decide +kernel
theorem d_ReferenceWays_longestName_38 : decode b_ReferenceWays_longestName 38 = .ok (.invokevirtual 59, 3) := by decide +kernel
theorem d_ReferenceWays_longestName_41 : decode b_ReferenceWays_longestName 41 = .ok (.invokevirtual 63, 3) := by decide +kernel
theorem d_ReferenceWays_longestName_44 : decode b_ReferenceWays_longestName 44 = .ok (.istore 7, 2) := by decide +kernel
theorem d_ReferenceWays_longestName_46 : decode b_ReferenceWays_longestName 46 = .ok (.iload 7, 2) := by decide +kernel
theorem d_ReferenceWays_longestName_48 : decode b_ReferenceWays_longestName 48 = .ok (.iload_n 2, 1) := by decide +kernel
theorem d_ReferenceWays_longestName_49 : decode b_ReferenceWays_longestName 49 = .ok (.if_icmp .le 9, 3) := by decide +kernel
theorem d_ReferenceWays_longestName_52 : decode b_ReferenceWays_longestName 52 = .ok (.aload 6, 2) := by decide +kernel
theorem d_ReferenceWays_longestName_54 : decode b_ReferenceWays_longestName 54 = .ok (.astore_n 1, 1) := by decide +kernel
theorem d_ReferenceWays_longestName_55 : decode b_ReferenceWays_longestName 55 = .ok (.iload 7, 2) := by decide +kernel
theorem d_ReferenceWays_longestName_57 : decode b_ReferenceWays_longestName 57 = .ok (.istore_n 2, 1) := by decide +kernel
theorem d_ReferenceWays_longestName_58 : decode b_ReferenceWays_longestName 58 = .ok (.iinc 5 1, 3) := by decide +kernel
theorem d_ReferenceWays_longestName_61 : decode b_ReferenceWays_longestName 61 = .ok (.goto (-46), 3) := by decide +kernel
theorem d_ReferenceWays_longestName_64 : decode b_ReferenceWays_longestName 64 = .ok (.aload_n 1, 1) := by decide +kernel
theorem d_ReferenceWays_longestName_65 : decode b_ReferenceWays_longestName 65 = .ok (.areturn, 1) := by decide +kernel
theorem d_ReferenceWays_goesOn_0 : decode b_ReferenceWays_goesOn 0 = .ok (.iload_n 0, 1) := by decide +kernel
theorem d_ReferenceWays_goesOn_1 : decode b_ReferenceWays_goesOn 1 = .ok (.invokestatic 36, 3) := by decide +kernel
theorem d_ReferenceWays_goesOn_4 : decode b_ReferenceWays_goesOn 4 = .ok (.ifCond .ne 9, 3) := by decide +kernel
theorem d_ReferenceWays_goesOn_7 : decode b_ReferenceWays_goesOn 7 = .ok (.iload_n 0, 1) := by decide +kernel
theorem d_ReferenceWays_goesOn_8 : decode b_ReferenceWays_goesOn 8 = .ok (.bipush 61, 2) := by decide +kernel
theorem d_ReferenceWays_goesOn_10 : decode b_ReferenceWays_goesOn 10 = .ok (.if_icmp .ne 7, 3) := by decide +kernel
theorem d_ReferenceWays_goesOn_13 : decode b_ReferenceWays_goesOn 13 = .ok (.iconst 1, 1) := by decide +kernel
theorem d_ReferenceWays_goesOn_14 : decode b_ReferenceWays_goesOn 14 = .ok (.goto 4, 3) := by decide +kernel
theorem d_ReferenceWays_goesOn_17 : decode b_ReferenceWays_goesOn 17 = .ok (.iconst 0, 1) := by decide +kernel
theorem d_ReferenceWays_goesOn_18 : decode b_ReferenceWays_goesOn 18 = .ok (.ireturn, 1) := by decide +kernel
theorem d_ReferenceWays_addAsItIs_0 : decode b_ReferenceWays_addAsItIs 0 = .ok (.aload_n 0, 1) := by decide +kernel
theorem d_ReferenceWays_addAsItIs_1 : decode b_ReferenceWays_addAsItIs 1 = .ok (.getfield 43, 3) := by decide +kernel
theorem d_ReferenceWays_addAsItIs_4 : decode b_ReferenceWays_addAsItIs 4 = .ok (.bipush 38, 2) := by decide +kernel
theorem d_ReferenceWays_addAsItIs_6 : decode b_ReferenceWays_addAsItIs 6 = .ok (.invokevirtual 47, 3) := by decide +kernel
theorem d_ReferenceWays_addAsItIs_9 : decode b_ReferenceWays_addAsItIs 9 = .ok (.aload_n 0, 1) := by decide +kernel
theorem d_ReferenceWays_addAsItIs_10 : decode b_ReferenceWays_addAsItIs 10 = .ok (.getfield 20, 3) := by decide +kernel
theorem d_ReferenceWays_addAsItIs_13 : decode b_ReferenceWays_addAsItIs 13 = .ok (.invokevirtual 59, 3) := by decide +kernel
theorem d_ReferenceWays_addAsItIs_16 : decode b_ReferenceWays_addAsItIs 16 = .ok (.istore_n 2, 1) := by decide +kernel
theorem d_ReferenceWays_addAsItIs_17 : decode b_ReferenceWays_addAsItIs 17 = .ok (.iload_n 1, 1) := by decide +kernel
theorem d_ReferenceWays_addAsItIs_18 : decode b_ReferenceWays_addAsItIs 18 = .ok (.istore_n 3, 1) := by decide +kernel
theorem d_ReferenceWays_addAsItIs_19 : decode b_ReferenceWays_addAsItIs 19 = .ok (.iload_n 3, 1) := by decide +kernel
theorem d_ReferenceWays_addAsItIs_20 : decode b_ReferenceWays_addAsItIs 20 = .ok (.iload_n 2, 1) := by decide +kernel
theorem d_ReferenceWays_addAsItIs_21 : decode b_ReferenceWays_addAsItIs 21 = .ok (.if_icmp .ge 24, 3) := by decide +kernel
theorem d_ReferenceWays_addAsItIs_24 : decode b_ReferenceWays_addAsItIs 24 = .ok (.aload_n 0, 1) := by decide +kernel
theorem d_ReferenceWays_addAsItIs_25 : decode b_ReferenceWays_addAsItIs 25 = .ok (.getfield 43, 3) := by decide +kernel
theorem d_ReferenceWays_addAsItIs_28 : decode b_ReferenceWays_addAsItIs 28 = .ok (.aload_n 0, 1) := by decide +kernel
theorem d_ReferenceWays_addAsItIs_29 : decode b_ReferenceWays_addAsItIs 29 = .ok (.getfield 20, 3) := by decide +kernel
theorem d_ReferenceWays_addAsItIs_32 : decode b_ReferenceWays_addAsItIs 32 = .ok (.iload_n 3, 1) := by decide +kernel
theorem d_ReferenceWays_addAsItIs_33 : decode b_ReferenceWays_addAsItIs 33 = .ok (.invokevirtual 77, 3) := by decide +kernel
theorem d_ReferenceWays_addAsItIs_36 : decode b_ReferenceWays_addAsItIs 36 = .ok (.invokevirtual 47, 3) := by decide +kernel
theorem d_ReferenceWays_addAsItIs_39 : decode b_ReferenceWays_addAsItIs 39 = .ok (.iinc 3 1, 3) := by decide +kernel
theorem d_ReferenceWays_addAsItIs_42 : decode b_ReferenceWays_addAsItIs 42 = .ok (.goto (-23), 3) := by decide +kernel
theorem d_ReferenceWays_addAsItIs_45 : decode b_ReferenceWays_addAsItIs 45 = .ok (.return_, 1) := by decide +kernel
theorem d_ReferenceWays_named_0 : decode b_ReferenceWays_named 0 = .ok (.aload_n 0, 1) := by decide +kernel
theorem d_ReferenceWays_named_1 : decode b_ReferenceWays_named 1 = .ok (.invokevirtual 67, 3) := by decide +kernel
theorem d_ReferenceWays_named_4 : decode b_ReferenceWays_named 4 = .ok (.astore_n 1, 1) := by decide +kernel
theorem d_ReferenceWays_named_5 : decode b_ReferenceWays_named 5 = .ok (.aload_n 1, 1) := by decide +kernel
theorem d_ReferenceWays_named_6 : decode b_ReferenceWays_named 6 = .ok (.ifnonnull 7, 3) := by decide +kernel
theorem d_ReferenceWays_named_9 : decode b_ReferenceWays_named 9 = .ok (.getstatic 71, 3) := by decide +kernel
theorem d_ReferenceWays_named_12 : decode b_ReferenceWays_named 12 = .ok (.areturn, 1) := by decide +kernel
theorem d_ReferenceWays_named_13 : decode b_ReferenceWays_named 13 = .ok (.aload_n 0, 1) := by decide +kernel
theorem d_ReferenceWays_named_14 : decode b_ReferenceWays_named 14 = .ok (.getfield 20, 3) := by decide +kernel
theorem d_ReferenceWays_named_17 : decode b_ReferenceWays_named 17 = .ok (.invokevirtual 59, 3) := by decide +kernel
theorem d_ReferenceWays_named_20 : decode b_ReferenceWays_named 20 = .ok (.istore_n 2, 1) := by decide +kernel
theorem d_ReferenceWays_named_21 : decode b_ReferenceWays_named 21 = .ok (.aload_n 0, 1) := by decide +kernel
theorem d_ReferenceWays_named_22 : decode b_ReferenceWays_named 22 = .ok (.getfield 20, 3) := by decide +kernel
theorem d_ReferenceWays_named_25 : decode b_ReferenceWays_named 25 = .ok (.aload_n 1, 1) := by decide +kernel
theorem d_ReferenceWays_named_26 : decode b_ReferenceWays_named 26 = .ok (.aload_n 0, 1) := by decide +kernel
theorem d_ReferenceWays_named_27 : decode b_ReferenceWays_named 27 = .ok (.getfield 20, 3) := by decide +kernel
theorem d_ReferenceWays_named_30 : decode b_ReferenceWays_named 30 = .ok (.iload_n 2, 1) := by decide +kernel
theorem d_ReferenceWays_named_31 : decode b_ReferenceWays_named 31 = .ok (.invokevirtual 63, 3) := by decide +kernel
theorem d_ReferenceWays_named_34 : decode b_ReferenceWays_named 34 = .ok (.invokevirtual 74, 3) := by decide +kernel
theorem d_ReferenceWays_named_37 : decode b_ReferenceWays_named 37 = .ok (.aload_n 0, 1) := by decide +kernel
theorem d_ReferenceWays_named_38 : decode b_ReferenceWays_named 38 = .ok (.getfield 20, 3) := by decide +kernel
theorem d_ReferenceWays_named_41 : decode b_ReferenceWays_named 41 = .ok (.aload_n 0, 1) := by decide +kernel
theorem d_ReferenceWays_named_42 : decode b_ReferenceWays_named 42 = .ok (.getfield 20, 3) := by decide +kernel
theorem d_ReferenceWays_named_45 : decode b_ReferenceWays_named 45 = .ok (.invokevirtual 59, 3) := by decide +kernel
theorem d_ReferenceWays_named_48 : decode b_ReferenceWays_named 48 = .ok (.iconst 1, 1) := by decide +kernel
theorem d_ReferenceWays_named_49 : decode b_ReferenceWays_named 49 = .ok (.isub, 1) := by decide +kernel
theorem d_ReferenceWays_named_50 : decode b_ReferenceWays_named 50 = .ok (.invokevirtual 77, 3) := by decide +kernel
theorem d_ReferenceWays_named_53 : decode b_ReferenceWays_named 53 = .ok (.bipush 59, 2) := by decide +kernel
theorem d_ReferenceWays_named_55 : decode b_ReferenceWays_named 55 = .ok (.if_icmp .ne 7, 3) := by decide +kernel
theorem d_ReferenceWays_named_58 : decode b_ReferenceWays_named 58 = .ok (.iconst 1, 1) := by decide +kernel
theorem d_ReferenceWays_named_59 : decode b_ReferenceWays_named 59 = .ok (.goto 4, 3) := by decide +kernel
theorem d_ReferenceWays_named_62 : decode b_ReferenceWays_named 62 = .ok (.iconst 0, 1) := by decide +kernel
theorem d_ReferenceWays_named_63 : decode b_ReferenceWays_named 63 = .ok (.istore_n 3, 1) := by decide +kernel
theorem d_ReferenceWays_named_64 : decode b_ReferenceWays_named 64 = .ok (.iload_n 3, 1) := by decide +kernel
theorem d_ReferenceWays_named_65 : decode b_ReferenceWays_named 65 = .ok (.ifCond .ne 36, 3) := by decide +kernel
theorem d_ReferenceWays_named_68 : decode b_ReferenceWays_named 68 = .ok (.aload_n 0, 1) := by decide +kernel
theorem d_ReferenceWays_named_69 : decode b_ReferenceWays_named 69 = .ok (.getfield 15, 3) := by decide +kernel
theorem d_ReferenceWays_named_72 : decode b_ReferenceWays_named 72 = .ok (.getstatic 9, 3) := by decide +kernel
theorem d_ReferenceWays_named_75 : decode b_ReferenceWays_named 75 = .ok (.if_acmp .eq 26, 3) := by decide +kernel
theorem d_ReferenceWays_named_78 : decode b_ReferenceWays_named 78 = .ok (.aload_n 0, 1) := by decide +kernel
theorem d_ReferenceWays_named_79 : decode b_ReferenceWays_named 79 = .ok (.getfield 20, 3) := by decide +kernel
theorem d_ReferenceWays_named_82 : decode b_ReferenceWays_named 82 = .ok (.invokevirtual 81, 3) := by decide +kernel
theorem d_ReferenceWays_named_85 : decode b_ReferenceWays_named 85 = .ok (.invokestatic 84, 3) := by decide +kernel
theorem d_ReferenceWays_named_88 : decode b_ReferenceWays_named 88 = .ok (.ifCond .eq 13, 3) := by decide +kernel
theorem d_ReferenceWays_named_91 : decode b_ReferenceWays_named 91 = .ok (.aload_n 0, 1) := by decide +kernel
theorem d_ReferenceWays_named_92 : decode b_ReferenceWays_named 92 = .ok (.iload_n 2, 1) := by decide +kernel
theorem d_ReferenceWays_named_93 : decode b_ReferenceWays_named 93 = .ok (.invokevirtual 87, 3) := by decide +kernel
theorem d_ReferenceWays_named_96 : decode b_ReferenceWays_named 96 = .ok (.aload_n 0, 1) := by decide +kernel
theorem d_ReferenceWays_named_97 : decode b_ReferenceWays_named 97 = .ok (.getfield 15, 3) := by decide +kernel
theorem d_ReferenceWays_named_100 : decode b_ReferenceWays_named 100 = .ok (.areturn, 1) := by decide +kernel
theorem d_ReferenceWays_named_101 : decode b_ReferenceWays_named 101 = .ok (.iload_n 3, 1) := by decide +kernel
theorem d_ReferenceWays_named_102 : decode b_ReferenceWays_named 102 = .ok (.ifCond .ne 12, 3) := by decide +kernel
theorem d_ReferenceWays_named_105 : decode b_ReferenceWays_named 105 = .ok (.aload_n 0, 1) := by decide +kernel
theorem d_ReferenceWays_named_106 : decode b_ReferenceWays_named 106 = .ok (.getfield 20, 3) := by decide +kernel
theorem d_ReferenceWays_named_109 : decode b_ReferenceWays_named 109 = .ok (.bipush 25, 2) := by decide +kernel
theorem d_ReferenceWays_named_111 : decode b_ReferenceWays_named 111 = .ok (.invokevirtual 90, 3) := by decide +kernel
theorem d_ReferenceWays_named_114 : decode b_ReferenceWays_named 114 = .ok (.aload_n 0, 1) := by decide +kernel
theorem d_ReferenceWays_named_115 : decode b_ReferenceWays_named 115 = .ok (.getfield 43, 3) := by decide +kernel
theorem d_ReferenceWays_named_118 : decode b_ReferenceWays_named 118 = .ok (.aload_n 1, 1) := by decide +kernel
theorem d_ReferenceWays_named_119 : decode b_ReferenceWays_named 119 = .ok (.getfield 93, 3) := by decide +kernel
theorem d_ReferenceWays_named_122 : decode b_ReferenceWays_named 122 = .ok (.invokevirtual 47, 3) := by decide +kernel
theorem d_ReferenceWays_named_125 : decode b_ReferenceWays_named 125 = .ok (.aload_n 0, 1) := by decide +kernel
theorem d_ReferenceWays_named_126 : decode b_ReferenceWays_named 126 = .ok (.getfield 15, 3) := by decide +kernel
theorem d_ReferenceWays_named_129 : decode b_ReferenceWays_named 129 = .ok (.areturn, 1) := by decide +kernel
theorem d_ReferenceWays_unnamed_0 : decode b_ReferenceWays_unnamed 0 = .ok (.aload_n 0, 1) := by decide +kernel
theorem d_ReferenceWays_unnamed_1 : decode b_ReferenceWays_unnamed 1 = .ok (.getfield 20, 3) := by decide +kernel
theorem d_ReferenceWays_unnamed_4 : decode b_ReferenceWays_unnamed 4 = .ok (.invokevirtual 59, 3) := by decide +kernel
theorem d_ReferenceWays_unnamed_7 : decode b_ReferenceWays_unnamed 7 = .ok (.istore_n 1, 1) := by decide +kernel
theorem d_ReferenceWays_unnamed_8 : decode b_ReferenceWays_unnamed 8 = .ok (.iconst 0, 1) := by decide +kernel
theorem d_ReferenceWays_unnamed_9 : decode b_ReferenceWays_unnamed 9 = .ok (.istore_n 2, 1) := by decide +kernel
theorem d_ReferenceWays_unnamed_10 : decode b_ReferenceWays_unnamed 10 = .ok (.iload_n 2, 1) := by decide +kernel
theorem d_ReferenceWays_unnamed_11 : decode b_ReferenceWays_unnamed 11 = .ok (.sipush 400, 3) := by decide +kernel
theorem d_ReferenceWays_unnamed_14 : decode b_ReferenceWays_unnamed 14 = .ok (.if_icmp .ge 30, 3) := by decide +kernel
theorem d_ReferenceWays_unnamed_17 : decode b_ReferenceWays_unnamed 17 = .ok (.aload_n 0, 1) := by decide +kernel
theorem d_ReferenceWays_unnamed_18 : decode b_ReferenceWays_unnamed 18 = .ok (.getfield 20, 3) := by decide +kernel
theorem d_ReferenceWays_unnamed_21 : decode b_ReferenceWays_unnamed 21 = .ok (.invokevirtual 81, 3) := by decide +kernel
theorem d_ReferenceWays_unnamed_24 : decode b_ReferenceWays_unnamed 24 = .ok (.invokestatic 36, 3) := by decide +kernel
theorem d_ReferenceWays_unnamed_27 : decode b_ReferenceWays_unnamed 27 = .ok (.ifCond .eq 17, 3) := by decide +kernel
theorem d_ReferenceWays_unnamed_30 : decode b_ReferenceWays_unnamed 30 = .ok (.aload_n 0, 1) := by decide +kernel
theorem d_ReferenceWays_unnamed_31 : decode b_ReferenceWays_unnamed 31 = .ok (.getfield 20, 3) := by decide +kernel
theorem d_ReferenceWays_unnamed_34 : decode b_ReferenceWays_unnamed 34 = .ok (.iconst 1, 1) := by decide +kernel
theorem d_ReferenceWays_unnamed_35 : decode b_ReferenceWays_unnamed 35 = .ok (.invokevirtual 74, 3) := by decide +kernel
theorem d_ReferenceWays_unnamed_38 : decode b_ReferenceWays_unnamed 38 = .ok (.iinc 2 1, 3) := by decide +kernel
theorem d_ReferenceWays_unnamed_41 : decode b_ReferenceWays_unnamed 41 = .ok (.goto (-31), 3) := by decide +kernel
theorem d_ReferenceWays_unnamed_44 : decode b_ReferenceWays_unnamed 44 = .ok (.aload_n 0, 1) := by decide +kernel
theorem d_ReferenceWays_unnamed_45 : decode b_ReferenceWays_unnamed 45 = .ok (.iload_n 1, 1) := by decide +kernel
theorem d_ReferenceWays_unnamed_46 : decode b_ReferenceWays_unnamed 46 = .ok (.invokevirtual 87, 3) := by decide +kernel
theorem d_ReferenceWays_unnamed_49 : decode b_ReferenceWays_unnamed 49 = .ok (.aload_n 0, 1) := by decide +kernel
theorem d_ReferenceWays_unnamed_50 : decode b_ReferenceWays_unnamed 50 = .ok (.getfield 20, 3) := by decide +kernel
theorem d_ReferenceWays_unnamed_53 : decode b_ReferenceWays_unnamed 53 = .ok (.invokevirtual 81, 3) := by decide +kernel
theorem d_ReferenceWays_unnamed_56 : decode b_ReferenceWays_unnamed 56 = .ok (.bipush 59, 2) := by decide +kernel
theorem d_ReferenceWays_unnamed_58 : decode b_ReferenceWays_unnamed 58 = .ok (.if_icmp .ne 12, 3) := by decide +kernel
theorem d_ReferenceWays_unnamed_61 : decode b_ReferenceWays_unnamed 61 = .ok (.aload_n 0, 1) := by decide +kernel
theorem d_ReferenceWays_unnamed_62 : decode b_ReferenceWays_unnamed 62 = .ok (.getfield 20, 3) := by decide +kernel
theorem d_ReferenceWays_unnamed_65 : decode b_ReferenceWays_unnamed 65 = .ok (.bipush 26, 2) := by decide +kernel
theorem d_ReferenceWays_unnamed_67 : decode b_ReferenceWays_unnamed 67 = .ok (.invokevirtual 90, 3) := by decide +kernel
theorem d_ReferenceWays_unnamed_70 : decode b_ReferenceWays_unnamed 70 = .ok (.aload_n 0, 1) := by decide +kernel
theorem d_ReferenceWays_unnamed_71 : decode b_ReferenceWays_unnamed 71 = .ok (.getfield 15, 3) := by decide +kernel
theorem d_ReferenceWays_unnamed_74 : decode b_ReferenceWays_unnamed 74 = .ok (.areturn, 1) := by decide +kernel
theorem d_ReferenceWays_digitOf_0 : decode b_ReferenceWays_digitOf 0 = .ok (.iload_n 0, 1) := by decide +kernel
theorem d_ReferenceWays_digitOf_1 : decode b_ReferenceWays_digitOf 1 = .ok (.bipush 48, 2) := by decide +kernel
theorem d_ReferenceWays_digitOf_3 : decode b_ReferenceWays_digitOf 3 = .ok (.if_icmp .lt 14, 3) := by decide +kernel
theorem d_ReferenceWays_digitOf_6 : decode b_ReferenceWays_digitOf 6 = .ok (.iload_n 0, 1) := by decide +kernel
theorem d_ReferenceWays_digitOf_7 : decode b_ReferenceWays_digitOf 7 = .ok (.bipush 57, 2) := by decide +kernel
theorem d_ReferenceWays_digitOf_9 : decode b_ReferenceWays_digitOf 9 = .ok (.if_icmp .gt 8, 3) := by decide +kernel
theorem d_ReferenceWays_digitOf_12 : decode b_ReferenceWays_digitOf 12 = .ok (.iload_n 0, 1) := by decide +kernel
theorem d_ReferenceWays_digitOf_13 : decode b_ReferenceWays_digitOf 13 = .ok (.bipush 48, 2) := by decide +kernel
theorem d_ReferenceWays_digitOf_15 : decode b_ReferenceWays_digitOf 15 = .ok (.isub, 1) := by decide +kernel
theorem d_ReferenceWays_digitOf_16 : decode b_ReferenceWays_digitOf 16 = .ok (.ireturn, 1) := by decide +kernel
theorem d_ReferenceWays_digitOf_17 : decode b_ReferenceWays_digitOf 17 = .ok (.iload_n 0, 1) := by decide +kernel
theorem d_ReferenceWays_digitOf_18 : decode b_ReferenceWays_digitOf 18 = .ok (.invokestatic 97, 3) := by decide +kernel
theorem d_ReferenceWays_digitOf_21 : decode b_ReferenceWays_digitOf 21 = .ok (.istore_n 1, 1) := by decide +kernel
theorem d_ReferenceWays_digitOf_22 : decode b_ReferenceWays_digitOf 22 = .ok (.iload_n 1, 1) := by decide +kernel
theorem d_ReferenceWays_digitOf_23 : decode b_ReferenceWays_digitOf 23 = .ok (.bipush 97, 2) := by decide +kernel
theorem d_ReferenceWays_digitOf_25 : decode b_ReferenceWays_digitOf 25 = .ok (.if_icmp .lt 19, 3) := by decide +kernel
theorem d_ReferenceWays_digitOf_28 : decode b_ReferenceWays_digitOf 28 = .ok (.iload_n 1, 1) := by decide +kernel
theorem d_ReferenceWays_digitOf_29 : decode b_ReferenceWays_digitOf 29 = .ok (.bipush 102, 2) := by decide +kernel
theorem d_ReferenceWays_digitOf_31 : decode b_ReferenceWays_digitOf 31 = .ok (.if_icmp .gt 13, 3) := by decide +kernel
theorem d_ReferenceWays_digitOf_34 : decode b_ReferenceWays_digitOf 34 = .ok (.iload_n 1, 1) := by decide +kernel
theorem d_ReferenceWays_digitOf_35 : decode b_ReferenceWays_digitOf 35 = .ok (.bipush 97, 2) := by decide +kernel
theorem d_ReferenceWays_digitOf_37 : decode b_ReferenceWays_digitOf 37 = .ok (.isub, 1) := by decide +kernel
theorem d_ReferenceWays_digitOf_38 : decode b_ReferenceWays_digitOf 38 = .ok (.bipush 10, 2) := by decide +kernel
theorem d_ReferenceWays_digitOf_40 : decode b_ReferenceWays_digitOf 40 = .ok (.iadd, 1) := by decide +kernel
theorem d_ReferenceWays_digitOf_41 : decode b_ReferenceWays_digitOf 41 = .ok (.goto 5, 3) := by decide +kernel
theorem d_ReferenceWays_digitOf_44 : decode b_ReferenceWays_digitOf 44 = .ok (.bipush 16, 2) := by decide +kernel
theorem d_ReferenceWays_digitOf_46 : decode b_ReferenceWays_digitOf 46 = .ok (.ireturn, 1) := by decide +kernel
theorem d_ReferenceWays_readDigits_0 : decode b_ReferenceWays_readDigits 0 = .ok (.iconst 0, 1) := by decide +kernel
theorem d_ReferenceWays_readDigits_1 : decode b_ReferenceWays_readDigits 1 = .ok (.istore_n 2, 1) := by decide +kernel
theorem d_ReferenceWays_readDigits_2 : decode b_ReferenceWays_readDigits 2 = .ok (.iconst 0, 1) := by decide +kernel
theorem d_ReferenceWays_readDigits_3 : decode b_ReferenceWays_readDigits 3 = .ok (.istore_n 3, 1) := by decide +kernel
theorem d_ReferenceWays_readDigits_4 : decode b_ReferenceWays_readDigits 4 = .ok (.iload_n 3, 1) := by decide +kernel
theorem d_ReferenceWays_readDigits_5 : decode b_ReferenceWays_readDigits 5 = .ok (.sipush 400, 3) := by decide +kernel
theorem d_ReferenceWays_readDigits_8 : decode b_ReferenceWays_readDigits 8 = .ok (.if_icmp .ge 50, 3) := by decide +kernel
theorem d_ReferenceWays_readDigits_11 : decode b_ReferenceWays_readDigits 11 = .ok (.aload_n 0, 1) := by decide +kernel
theorem d_ReferenceWays_readDigits_12 : decode b_ReferenceWays_readDigits 12 = .ok (.getfield 20, 3) := by decide +kernel
theorem d_ReferenceWays_readDigits_15 : decode b_ReferenceWays_readDigits 15 = .ok (.invokevirtual 81, 3) := by decide +kernel
theorem d_ReferenceWays_readDigits_18 : decode b_ReferenceWays_readDigits 18 = .ok (.invokestatic 106, 3) := by decide +kernel
theorem d_ReferenceWays_readDigits_21 : decode b_ReferenceWays_readDigits 21 = .ok (.istore 4, 2) := by decide +kernel
theorem d_ReferenceWays_readDigits_23 : decode b_ReferenceWays_readDigits 23 = .ok (.iload 4, 2) := by decide +kernel
theorem d_ReferenceWays_readDigits_25 : decode b_ReferenceWays_readDigits 25 = .ok (.iload_n 1, 1) := by decide +kernel
theorem d_ReferenceWays_readDigits_26 : decode b_ReferenceWays_readDigits 26 = .ok (.if_icmp .lt 6, 3) := by decide +kernel
theorem d_ReferenceWays_readDigits_29 : decode b_ReferenceWays_readDigits 29 = .ok (.goto 29, 3) := by decide +kernel
theorem d_ReferenceWays_readDigits_32 : decode b_ReferenceWays_readDigits 32 = .ok (.iload_n 2, 1) := by decide +kernel
theorem d_ReferenceWays_readDigits_33 : decode b_ReferenceWays_readDigits 33 = .ok (.iload_n 1, 1) := by decide +kernel
theorem d_ReferenceWays_readDigits_34 : decode b_ReferenceWays_readDigits 34 = .ok (.imul, 1) := by decide +kernel
theorem d_ReferenceWays_readDigits_35 : decode b_ReferenceWays_readDigits 35 = .ok (.iload 4, 2) := by decide +kernel
theorem d_ReferenceWays_readDigits_37 : decode b_ReferenceWays_readDigits 37 = .ok (.iadd, 1) := by decide +kernel
theorem d_ReferenceWays_readDigits_38 : decode b_ReferenceWays_readDigits 38 = .ok (.ldc 109, 2) := by decide +kernel
theorem d_ReferenceWays_readDigits_40 : decode b_ReferenceWays_readDigits 40 = .ok (.invokestatic 110, 3) := by decide +kernel
theorem d_ReferenceWays_readDigits_43 : decode b_ReferenceWays_readDigits 43 = .ok (.istore_n 2, 1) := by decide +kernel
theorem d_ReferenceWays_readDigits_44 : decode b_ReferenceWays_readDigits 44 = .ok (.aload_n 0, 1) := by decide +kernel
theorem d_ReferenceWays_readDigits_45 : decode b_ReferenceWays_readDigits 45 = .ok (.getfield 20, 3) := by decide +kernel
theorem d_ReferenceWays_readDigits_48 : decode b_ReferenceWays_readDigits 48 = .ok (.iconst 1, 1) := by decide +kernel
theorem d_ReferenceWays_readDigits_49 : decode b_ReferenceWays_readDigits 49 = .ok (.invokevirtual 74, 3) := by decide +kernel
theorem d_ReferenceWays_readDigits_52 : decode b_ReferenceWays_readDigits 52 = .ok (.iinc 3 1, 3) := by decide +kernel
theorem d_ReferenceWays_readDigits_55 : decode b_ReferenceWays_readDigits 55 = .ok (.goto (-51), 3) := by decide +kernel
theorem d_ReferenceWays_readDigits_58 : decode b_ReferenceWays_readDigits 58 = .ok (.iload_n 2, 1) := by decide +kernel
theorem d_ReferenceWays_readDigits_59 : decode b_ReferenceWays_readDigits 59 = .ok (.ireturn, 1) := by decide +kernel
theorem d_ReferenceWays_isNoCharacter_0 : decode b_ReferenceWays_isNoCharacter 0 = .ok (.iload_n 0, 1) := by decide +kernel
theorem d_ReferenceWays_isNoCharacter_1 : decode b_ReferenceWays_isNoCharacter 1 = .ok (.ldc 129, 2) := by decide +kernel
theorem d_ReferenceWays_isNoCharacter_3 : decode b_ReferenceWays_isNoCharacter 3 = .ok (.if_icmp .lt 9, 3) := by decide +kernel
theorem d_ReferenceWays_isNoCharacter_6 : decode b_ReferenceWays_isNoCharacter 6 = .ok (.iload_n 0, 1) := by decide +kernel
theorem d_ReferenceWays_isNoCharacter_7 : decode b_ReferenceWays_isNoCharacter 7 = .ok (.ldc 130, 2) := by decide +kernel
theorem d_ReferenceWays_isNoCharacter_9 : decode b_ReferenceWays_isNoCharacter 9 = .ok (.if_icmp .le 12, 3) := by decide +kernel
theorem d_ReferenceWays_isNoCharacter_12 : decode b_ReferenceWays_isNoCharacter 12 = .ok (.iload_n 0, 1) := by decide +kernel
theorem d_ReferenceWays_isNoCharacter_13 : decode b_ReferenceWays_isNoCharacter 13 = .ok (.ldc 131, 2) := by decide +kernel
theorem d_ReferenceWays_isNoCharacter_15 : decode b_ReferenceWays_isNoCharacter 15 = .ok (.iand, 1) := by decide +kernel
theorem d_ReferenceWays_isNoCharacter_16 : decode b_ReferenceWays_isNoCharacter 16 = .ok (.ldc 132, 2) := by decide +kernel
theorem d_ReferenceWays_isNoCharacter_18 : decode b_ReferenceWays_isNoCharacter 18 = .ok (.if_icmp .lt 7, 3) := by decide +kernel
theorem d_ReferenceWays_isNoCharacter_21 : decode b_ReferenceWays_isNoCharacter 21 = .ok (.iconst 1, 1) := by decide +kernel
theorem d_ReferenceWays_isNoCharacter_22 : decode b_ReferenceWays_isNoCharacter 22 = .ok (.goto 4, 3) := by decide +kernel
theorem d_ReferenceWays_isNoCharacter_25 : decode b_ReferenceWays_isNoCharacter 25 = .ok (.iconst 0, 1) := by decide +kernel
theorem d_ReferenceWays_isNoCharacter_26 : decode b_ReferenceWays_isNoCharacter 26 = .ok (.ireturn, 1) := by decide +kernel
theorem d_ReferenceWays_isControl_0 : decode b_ReferenceWays_isControl 0 = .ok (.iload_n 0, 1) := by decide +kernel
theorem d_ReferenceWays_isControl_1 : decode b_ReferenceWays_isControl 1 = .ok (.bipush 127, 2) := by decide +kernel
theorem d_ReferenceWays_isControl_3 : decode b_ReferenceWays_isControl 3 = .ok (.if_icmp .lt 10, 3) := by decide +kernel
theorem d_ReferenceWays_isControl_6 : decode b_ReferenceWays_isControl 6 = .ok (.iload_n 0, 1) := by decide +kernel
theorem d_ReferenceWays_isControl_7 : decode b_ReferenceWays_isControl 7 = .ok (.sipush 159, 3) := by decide +kernel
theorem d_ReferenceWays_isControl_10 : decode b_ReferenceWays_isControl 10 = .ok (.if_icmp .le 16, 3) := by decide +kernel
theorem d_ReferenceWays_isControl_13 : decode b_ReferenceWays_isControl 13 = .ok (.iload_n 0, 1) := by decide +kernel
theorem d_ReferenceWays_isControl_14 : decode b_ReferenceWays_isControl 14 = .ok (.bipush 32, 2) := by decide +kernel
theorem d_ReferenceWays_isControl_16 : decode b_ReferenceWays_isControl 16 = .ok (.if_icmp .ge 14, 3) := by decide +kernel
theorem d_ReferenceWays_isControl_19 : decode b_ReferenceWays_isControl 19 = .ok (.iload_n 0, 1) := by decide +kernel
theorem d_ReferenceWays_isControl_20 : decode b_ReferenceWays_isControl 20 = .ok (.invokestatic 133, 3) := by decide +kernel
theorem d_ReferenceWays_isControl_23 : decode b_ReferenceWays_isControl 23 = .ok (.ifCond .ne 7, 3) := by decide +kernel
theorem d_ReferenceWays_isControl_26 : decode b_ReferenceWays_isControl 26 = .ok (.iconst 1, 1) := by decide +kernel
theorem d_ReferenceWays_isControl_27 : decode b_ReferenceWays_isControl 27 = .ok (.goto 4, 3) := by decide +kernel
theorem d_ReferenceWays_isControl_30 : decode b_ReferenceWays_isControl 30 = .ok (.iconst 0, 1) := by decide +kernel
theorem d_ReferenceWays_isControl_31 : decode b_ReferenceWays_isControl 31 = .ok (.ireturn, 1) := by decide +kernel
theorem d_ReferenceWays_replaced_0 : decode b_ReferenceWays_replaced 0 = .ok (.iload_n 0, 1) := by decide +kernel
theorem d_ReferenceWays_replaced_1 : decode b_ReferenceWays_replaced 1 = .ok (.sipush 128, 3) := by decide +kernel
theorem d_ReferenceWays_replaced_4 : decode b_ReferenceWays_replaced 4 = .ok (.isub, 1) := by decide +kernel
theorem d_ReferenceWays_replaced_5 : decode b_ReferenceWays_replaced 5 = .ok (.istore_n 1, 1) := by decide +kernel
theorem d_ReferenceWays_replaced_6 : decode b_ReferenceWays_replaced 6 = .ok (.iload_n 1, 1) := by decide +kernel
theorem d_ReferenceWays_replaced_7 : decode b_ReferenceWays_replaced 7 = .ok (.ifCond .lt 19, 3) := by decide +kernel
theorem d_ReferenceWays_replaced_10 : decode b_ReferenceWays_replaced 10 = .ok (.iload_n 1, 1) := by decide +kernel
theorem d_ReferenceWays_replaced_11 : decode b_ReferenceWays_replaced 11 = .ok (.getstatic 136, 3) := by decide +kernel
theorem d_ReferenceWays_replaced_14 : decode b_ReferenceWays_replaced 14 = .ok (.arraylength, 1) := by decide +kernel
theorem d_ReferenceWays_replaced_15 : decode b_ReferenceWays_replaced 15 = .ok (.if_icmp .ge 11, 3) := by decide +kernel
theorem d_ReferenceWays_replaced_18 : decode b_ReferenceWays_replaced 18 = .ok (.getstatic 136, 3) := by decide +kernel
theorem d_ReferenceWays_replaced_21 : decode b_ReferenceWays_replaced 21 = .ok (.iload_n 1, 1) := by decide +kernel
theorem d_ReferenceWays_replaced_22 : decode b_ReferenceWays_replaced 22 = .ok (.iaload, 1) := by decide +kernel
theorem d_ReferenceWays_replaced_23 : decode b_ReferenceWays_replaced 23 = .ok (.goto 4, 3) := by decide +kernel
theorem d_ReferenceWays_replaced_26 : decode b_ReferenceWays_replaced 26 = .ok (.iload_n 0, 1) := by decide +kernel
theorem d_ReferenceWays_replaced_27 : decode b_ReferenceWays_replaced 27 = .ok (.ireturn, 1) := by decide +kernel
theorem d_ReferenceWays_characterOf_0 : decode b_ReferenceWays_characterOf 0 = .ok (.iload_n 1, 1) := by decide +kernel
theorem d_ReferenceWays_characterOf_1 : decode b_ReferenceWays_characterOf 1 = .ok (.ifCond .ne 15, 3) := by decide +kernel
theorem d_ReferenceWays_characterOf_4 : decode b_ReferenceWays_characterOf 4 = .ok (.aload_n 0, 1) := by decide +kernel
theorem d_ReferenceWays_characterOf_5 : decode b_ReferenceWays_characterOf 5 = .ok (.getfield 20, 3) := by decide +kernel
theorem d_ReferenceWays_characterOf_8 : decode b_ReferenceWays_characterOf 8 = .ok (.bipush 28, 2) := by decide +kernel
theorem d_ReferenceWays_characterOf_10 : decode b_ReferenceWays_characterOf 10 = .ok (.invokevirtual 90, 3) := by decide +kernel
theorem d_ReferenceWays_characterOf_13 : decode b_ReferenceWays_characterOf 13 = .ok (.ldc 116, 2) := by decide +kernel
theorem d_ReferenceWays_characterOf_15 : decode b_ReferenceWays_characterOf 15 = .ok (.ireturn, 1) := by decide +kernel
theorem d_ReferenceWays_characterOf_16 : decode b_ReferenceWays_characterOf 16 = .ok (.iload_n 1, 1) := by decide +kernel
theorem d_ReferenceWays_characterOf_17 : decode b_ReferenceWays_characterOf 17 = .ok (.ldc 117, 2) := by decide +kernel
theorem d_ReferenceWays_characterOf_19 : decode b_ReferenceWays_characterOf 19 = .ok (.if_icmp .le 15, 3) := by decide +kernel
theorem d_ReferenceWays_characterOf_22 : decode b_ReferenceWays_characterOf 22 = .ok (.aload_n 0, 1) := by decide +kernel
theorem d_ReferenceWays_characterOf_23 : decode b_ReferenceWays_characterOf 23 = .ok (.getfield 20, 3) := by decide +kernel
theorem d_ReferenceWays_characterOf_26 : decode b_ReferenceWays_characterOf 26 = .ok (.bipush 29, 2) := by decide +kernel
theorem d_ReferenceWays_characterOf_28 : decode b_ReferenceWays_characterOf 28 = .ok (.invokevirtual 90, 3) := by decide +kernel
theorem d_ReferenceWays_characterOf_31 : decode b_ReferenceWays_characterOf 31 = .ok (.ldc 116, 2) := by decide +kernel
theorem d_ReferenceWays_characterOf_33 : decode b_ReferenceWays_characterOf 33 = .ok (.ireturn, 1) := by decide +kernel
theorem d_ReferenceWays_characterOf_34 : decode b_ReferenceWays_characterOf 34 = .ok (.iload_n 1, 1) := by decide +kernel
theorem d_ReferenceWays_characterOf_35 : decode b_ReferenceWays_characterOf 35 = .ok (.ldc 118, 2) := by decide +kernel
theorem d_ReferenceWays_characterOf_37 : decode b_ReferenceWays_characterOf 37 = .ok (.if_icmp .lt 21, 3) := by decide +kernel
theorem d_ReferenceWays_characterOf_40 : decode b_ReferenceWays_characterOf 40 = .ok (.iload_n 1, 1) := by decide +kernel
theorem d_ReferenceWays_characterOf_41 : decode b_ReferenceWays_characterOf 41 = .ok (.ldc 119, 2) := by decide +kernel
theorem d_ReferenceWays_characterOf_43 : decode b_ReferenceWays_characterOf 43 = .ok (.if_icmp .gt 15, 3) := by decide +kernel
theorem d_ReferenceWays_characterOf_46 : decode b_ReferenceWays_characterOf 46 = .ok (.aload_n 0, 1) := by decide +kernel
theorem d_ReferenceWays_characterOf_47 : decode b_ReferenceWays_characterOf 47 = .ok (.getfield 20, 3) := by decide +kernel
theorem d_ReferenceWays_characterOf_50 : decode b_ReferenceWays_characterOf 50 = .ok (.bipush 30, 2) := by decide +kernel
theorem d_ReferenceWays_characterOf_52 : decode b_ReferenceWays_characterOf 52 = .ok (.invokevirtual 90, 3) := by decide +kernel
theorem d_ReferenceWays_characterOf_55 : decode b_ReferenceWays_characterOf 55 = .ok (.ldc 116, 2) := by decide +kernel
theorem d_ReferenceWays_characterOf_57 : decode b_ReferenceWays_characterOf 57 = .ok (.ireturn, 1) := by decide +kernel
theorem d_ReferenceWays_characterOf_58 : decode b_ReferenceWays_characterOf 58 = .ok (.iload_n 1, 1) := by decide +kernel
theorem d_ReferenceWays_characterOf_59 : decode b_ReferenceWays_characterOf 59 = .ok (.invokestatic 120, 3) := by decide +kernel
theorem d_ReferenceWays_characterOf_62 : decode b_ReferenceWays_characterOf 62 = .ok (.ifCond .eq 14, 3) := by decide +kernel
theorem d_ReferenceWays_characterOf_65 : decode b_ReferenceWays_characterOf 65 = .ok (.aload_n 0, 1) := by decide +kernel
theorem d_ReferenceWays_characterOf_66 : decode b_ReferenceWays_characterOf 66 = .ok (.getfield 20, 3) := by decide +kernel
theorem d_ReferenceWays_characterOf_69 : decode b_ReferenceWays_characterOf 69 = .ok (.bipush 31, 2) := by decide +kernel
theorem d_ReferenceWays_characterOf_71 : decode b_ReferenceWays_characterOf 71 = .ok (.invokevirtual 90, 3) := by decide +kernel
theorem d_ReferenceWays_characterOf_74 : decode b_ReferenceWays_characterOf 74 = .ok (.iload_n 1, 1) := by decide +kernel
theorem d_ReferenceWays_characterOf_75 : decode b_ReferenceWays_characterOf 75 = .ok (.ireturn, 1) := by decide +kernel
theorem d_ReferenceWays_characterOf_76 : decode b_ReferenceWays_characterOf 76 = .ok (.iload_n 1, 1) := by decide +kernel
theorem d_ReferenceWays_characterOf_77 : decode b_ReferenceWays_characterOf 77 = .ok (.invokestatic 123, 3) := by decide +kernel
theorem d_ReferenceWays_characterOf_80 : decode b_ReferenceWays_characterOf 80 = .ok (.ifCond .eq 17, 3) := by decide +kernel
theorem d_ReferenceWays_characterOf_83 : decode b_ReferenceWays_characterOf 83 = .ok (.aload_n 0, 1) := by decide +kernel
theorem d_ReferenceWays_characterOf_84 : decode b_ReferenceWays_characterOf 84 = .ok (.getfield 20, 3) := by decide +kernel
theorem d_ReferenceWays_characterOf_87 : decode b_ReferenceWays_characterOf 87 = .ok (.bipush 32, 2) := by decide +kernel
theorem d_ReferenceWays_characterOf_89 : decode b_ReferenceWays_characterOf 89 = .ok (.invokevirtual 90, 3) := by decide +kernel
theorem d_ReferenceWays_characterOf_92 : decode b_ReferenceWays_characterOf 92 = .ok (.iload_n 1, 1) := by decide +kernel
theorem d_ReferenceWays_characterOf_93 : decode b_ReferenceWays_characterOf 93 = .ok (.invokestatic 126, 3) := by decide +kernel
theorem d_ReferenceWays_characterOf_96 : decode b_ReferenceWays_characterOf 96 = .ok (.ireturn, 1) := by decide +kernel
theorem d_ReferenceWays_characterOf_97 : decode b_ReferenceWays_characterOf 97 = .ok (.iload_n 1, 1) := by decide +kernel
theorem d_ReferenceWays_characterOf_98 : decode b_ReferenceWays_characterOf 98 = .ok (.ireturn, 1) := by decide +kernel
theorem d_ReferenceWays_numbered_0 : decode b_ReferenceWays_numbered 0 = .ok (.aload_n 0, 1) := by decide +kernel
theorem d_ReferenceWays_numbered_1 : decode b_ReferenceWays_numbered 1 = .ok (.getfield 20, 3) := by decide +kernel
theorem d_ReferenceWays_numbered_4 : decode b_ReferenceWays_numbered 4 = .ok (.invokevirtual 59, 3) := by decide +kernel
theorem d_ReferenceWays_numbered_7 : decode b_ReferenceWays_numbered 7 = .ok (.istore_n 1, 1) := by decide +kernel
theorem d_ReferenceWays_numbered_8 : decode b_ReferenceWays_numbered 8 = .ok (.aload_n 0, 1) := by decide +kernel
theorem d_ReferenceWays_numbered_9 : decode b_ReferenceWays_numbered 9 = .ok (.getfield 20, 3) := by decide +kernel
theorem d_ReferenceWays_numbered_12 : decode b_ReferenceWays_numbered 12 = .ok (.iconst 1, 1) := by decide +kernel
theorem d_ReferenceWays_numbered_13 : decode b_ReferenceWays_numbered 13 = .ok (.invokevirtual 74, 3) := by decide +kernel
theorem d_ReferenceWays_numbered_16 : decode b_ReferenceWays_numbered 16 = .ok (.bipush 10, 2) := by decide +kernel
theorem d_ReferenceWays_numbered_18 : decode b_ReferenceWays_numbered 18 = .ok (.istore_n 2, 1) := by decide +kernel
theorem d_ReferenceWays_numbered_19 : decode b_ReferenceWays_numbered 19 = .ok (.aload_n 0, 1) := by decide +kernel
theorem d_ReferenceWays_numbered_20 : decode b_ReferenceWays_numbered 20 = .ok (.getfield 20, 3) := by decide +kernel
theorem d_ReferenceWays_numbered_23 : decode b_ReferenceWays_numbered 23 = .ok (.invokevirtual 81, 3) := by decide +kernel
theorem d_ReferenceWays_numbered_26 : decode b_ReferenceWays_numbered 26 = .ok (.invokestatic 97, 3) := by decide +kernel
theorem d_ReferenceWays_numbered_29 : decode b_ReferenceWays_numbered 29 = .ok (.bipush 120, 2) := by decide +kernel
theorem d_ReferenceWays_numbered_31 : decode b_ReferenceWays_numbered 31 = .ok (.if_icmp .ne 14, 3) := by decide +kernel
theorem d_ReferenceWays_numbered_34 : decode b_ReferenceWays_numbered 34 = .ok (.bipush 16, 2) := by decide +kernel
theorem d_ReferenceWays_numbered_36 : decode b_ReferenceWays_numbered 36 = .ok (.istore_n 2, 1) := by decide +kernel
theorem d_ReferenceWays_numbered_37 : decode b_ReferenceWays_numbered 37 = .ok (.aload_n 0, 1) := by decide +kernel
theorem d_ReferenceWays_numbered_38 : decode b_ReferenceWays_numbered 38 = .ok (.getfield 20, 3) := by decide +kernel
theorem d_ReferenceWays_numbered_41 : decode b_ReferenceWays_numbered 41 = .ok (.iconst 1, 1) := by decide +kernel
theorem d_ReferenceWays_numbered_42 : decode b_ReferenceWays_numbered 42 = .ok (.invokevirtual 74, 3) := by decide +kernel
theorem d_ReferenceWays_numbered_45 : decode b_ReferenceWays_numbered 45 = .ok (.aload_n 0, 1) := by decide +kernel
theorem d_ReferenceWays_numbered_46 : decode b_ReferenceWays_numbered 46 = .ok (.getfield 20, 3) := by decide +kernel
theorem d_ReferenceWays_numbered_49 : decode b_ReferenceWays_numbered 49 = .ok (.invokevirtual 59, 3) := by decide +kernel
theorem d_ReferenceWays_numbered_52 : decode b_ReferenceWays_numbered 52 = .ok (.istore_n 3, 1) := by decide +kernel
theorem d_ReferenceWays_numbered_53 : decode b_ReferenceWays_numbered 53 = .ok (.aload_n 0, 1) := by decide +kernel
theorem d_ReferenceWays_numbered_54 : decode b_ReferenceWays_numbered 54 = .ok (.iload_n 2, 1) := by decide +kernel
theorem d_ReferenceWays_numbered_55 : decode b_ReferenceWays_numbered 55 = .ok (.invokevirtual 100, 3) := by decide +kernel
theorem d_ReferenceWays_numbered_58 : decode b_ReferenceWays_numbered 58 = .ok (.istore 4, 2) := by decide +kernel
theorem d_ReferenceWays_numbered_60 : decode b_ReferenceWays_numbered 60 = .ok (.aload_n 0, 1) := by decide +kernel
theorem d_ReferenceWays_numbered_61 : decode b_ReferenceWays_numbered 61 = .ok (.getfield 20, 3) := by decide +kernel
theorem d_ReferenceWays_numbered_64 : decode b_ReferenceWays_numbered 64 = .ok (.invokevirtual 59, 3) := by decide +kernel
theorem d_ReferenceWays_numbered_67 : decode b_ReferenceWays_numbered 67 = .ok (.iload_n 3, 1) := by decide +kernel
theorem d_ReferenceWays_numbered_68 : decode b_ReferenceWays_numbered 68 = .ok (.if_icmp .ne 22, 3) := by decide +kernel
theorem d_ReferenceWays_numbered_71 : decode b_ReferenceWays_numbered 71 = .ok (.aload_n 0, 1) := by decide +kernel
theorem d_ReferenceWays_numbered_72 : decode b_ReferenceWays_numbered 72 = .ok (.getfield 20, 3) := by decide +kernel
theorem d_ReferenceWays_numbered_75 : decode b_ReferenceWays_numbered 75 = .ok (.bipush 27, 2) := by decide +kernel
theorem d_ReferenceWays_numbered_77 : decode b_ReferenceWays_numbered 77 = .ok (.invokevirtual 90, 3) := by decide +kernel
theorem d_ReferenceWays_numbered_80 : decode b_ReferenceWays_numbered 80 = .ok (.aload_n 0, 1) := by decide +kernel
theorem d_ReferenceWays_numbered_81 : decode b_ReferenceWays_numbered 81 = .ok (.iload_n 1, 1) := by decide +kernel
theorem d_ReferenceWays_numbered_82 : decode b_ReferenceWays_numbered 82 = .ok (.invokevirtual 87, 3) := by decide +kernel
theorem d_ReferenceWays_numbered_85 : decode b_ReferenceWays_numbered 85 = .ok (.aload_n 0, 1) := by decide +kernel
theorem d_ReferenceWays_numbered_86 : decode b_ReferenceWays_numbered 86 = .ok (.getfield 15, 3) := by decide +kernel
theorem d_ReferenceWays_numbered_89 : decode b_ReferenceWays_numbered 89 = .ok (.areturn, 1) := by decide +kernel
theorem d_ReferenceWays_numbered_90 : decode b_ReferenceWays_numbered 90 = .ok (.aload_n 0, 1) := by decide +kernel
theorem d_ReferenceWays_numbered_91 : decode b_ReferenceWays_numbered 91 = .ok (.getfield 20, 3) := by decide +kernel
theorem d_ReferenceWays_numbered_94 : decode b_ReferenceWays_numbered 94 = .ok (.invokevirtual 81, 3) := by decide +kernel
theorem d_ReferenceWays_numbered_97 : decode b_ReferenceWays_numbered 97 = .ok (.bipush 59, 2) := by decide +kernel
theorem d_ReferenceWays_numbered_99 : decode b_ReferenceWays_numbered 99 = .ok (.if_icmp .ne 14, 3) := by decide +kernel
theorem d_ReferenceWays_numbered_102 : decode b_ReferenceWays_numbered 102 = .ok (.aload_n 0, 1) := by decide +kernel
theorem d_ReferenceWays_numbered_103 : decode b_ReferenceWays_numbered 103 = .ok (.getfield 20, 3) := by decide +kernel
theorem d_ReferenceWays_numbered_106 : decode b_ReferenceWays_numbered 106 = .ok (.iconst 1, 1) := by decide +kernel
theorem d_ReferenceWays_numbered_107 : decode b_ReferenceWays_numbered 107 = .ok (.invokevirtual 74, 3) := by decide +kernel
theorem d_ReferenceWays_numbered_110 : decode b_ReferenceWays_numbered 110 = .ok (.goto 12, 3) := by decide +kernel
theorem d_ReferenceWays_numbered_113 : decode b_ReferenceWays_numbered 113 = .ok (.aload_n 0, 1) := by decide +kernel
theorem d_ReferenceWays_numbered_114 : decode b_ReferenceWays_numbered 114 = .ok (.getfield 20, 3) := by decide +kernel
theorem d_ReferenceWays_numbered_117 : decode b_ReferenceWays_numbered 117 = .ok (.bipush 25, 2) := by decide +kernel
theorem d_ReferenceWays_numbered_119 : decode b_ReferenceWays_numbered 119 = .ok (.invokevirtual 90, 3) := by decide +kernel
theorem d_ReferenceWays_numbered_122 : decode b_ReferenceWays_numbered 122 = .ok (.aload_n 0, 1) := by decide +kernel
theorem d_ReferenceWays_numbered_123 : decode b_ReferenceWays_numbered 123 = .ok (.getfield 43, 3) := by decide +kernel
theorem d_ReferenceWays_numbered_126 : decode b_ReferenceWays_numbered 126 = .ok (.aload_n 0, 1) := by decide +kernel
theorem d_ReferenceWays_numbered_127 : decode b_ReferenceWays_numbered 127 = .ok (.iload 4, 2) := by decide +kernel
theorem d_ReferenceWays_numbered_129 : decode b_ReferenceWays_numbered 129 = .ok (.invokevirtual 103, 3) := by decide +kernel
theorem d_ReferenceWays_numbered_132 : decode b_ReferenceWays_numbered 132 = .ok (.invokevirtual 47, 3) := by decide +kernel
theorem d_ReferenceWays_numbered_135 : decode b_ReferenceWays_numbered 135 = .ok (.aload_n 0, 1) := by decide +kernel
theorem d_ReferenceWays_numbered_136 : decode b_ReferenceWays_numbered 136 = .ok (.getfield 15, 3) := by decide +kernel
theorem d_ReferenceWays_numbered_139 : decode b_ReferenceWays_numbered 139 = .ok (.areturn, 1) := by decide +kernel
