theorem d_TagWays_endsName_0 : decode b_TagWays_endsName 0 = .ok (.iload_n 0, 1) := by decide +kernel
theorem d_TagWays_endsName_1 : decode b_TagWays_endsName 1 = .ok (.invokestatic 19, 3) := by decide +kernel
theorem d_TagWays_endsName_4 : decode b_TagWays_endsName 4 = .ok (.ifCond .ne 20, 3) := by decide +kernel
theorem d_TagWays_endsName_7 : decode b_TagWays_endsName 7 = .ok (.iload_n 0, 1) := by decide +kernel
theorem d_TagWays_endsName_8 : decode b_TagWays_endsName 8 = .ok (.bipush 47, 2) := by decide +kernel
theorem d_TagWays_endsName_10 : decode b_TagWays_endsName 10 = .ok (.if_icmp .eq 14, 3) := by decide +kernel
theorem d_TagWays_endsName_13 : decode b_TagWays_endsName 13 = .ok (.iload_n 0, 1) := by decide +kernel
theorem d_TagWays_endsName_14 : decode b_TagWays_endsName 14 = .ok (.bipush 62, 2) := by decide +kernel
theorem d_TagWays_endsName_16 : decode b_TagWays_endsName 16 = .ok (.if_icmp .eq 8, 3) := by decide +kernel
theorem d_TagWays_endsName_19 : decode b_TagWays_endsName 19 = .ok (.iload_n 0, 1) := by decide +kernel
theorem d_TagWays_endsName_20 : decode b_TagWays_endsName 20 = .ok (.iconst (-1), 1) := by decide +kernel
theorem d_TagWays_endsName_21 : decode b_TagWays_endsName 21 = .ok (.if_icmp .ne 7, 3) := by decide +kernel
theorem d_TagWays_endsName_24 : decode b_TagWays_endsName 24 = .ok (.iconst 1, 1) := by decide +kernel
theorem d_TagWays_endsName_25 : decode b_TagWays_endsName 25 = .ok (.goto 4, 3) := by decide +kernel
theorem d_TagWays_endsName_28 : decode b_TagWays_endsName 28 = .ok (.iconst 0, 1) := by decide +kernel
theorem d_TagWays_endsName_29 : decode b_TagWays_endsName 29 = .ok (.ireturn, 1) := by decide +kernel
theorem d_TagWays_tagDone_0 : decode b_TagWays_tagDone 0 = .ok (.aload_n 0, 1) := by decide +kernel
theorem d_TagWays_tagDone_1 : decode b_TagWays_tagDone 1 = .ok (.getfield 56, 3) := by decide +kernel
theorem d_TagWays_tagDone_4 : decode b_TagWays_tagDone 4 = .ok (.invokevirtual 60, 3) := by decide +kernel
theorem d_TagWays_tagDone_7 : decode b_TagWays_tagDone 7 = .ok (.aload_n 0, 1) := by decide +kernel
theorem d_TagWays_tagDone_8 : decode b_TagWays_tagDone 8 = .ok (.getfield 56, 3) := by decide +kernel
theorem d_TagWays_tagDone_11 : decode b_TagWays_tagDone 11 = .ok (.invokevirtual 66, 3) := by decide +kernel
theorem d_TagWays_tagDone_14 : decode b_TagWays_tagDone 14 = .ok (.ifCond .eq 56, 3) := by decide +kernel
theorem d_TagWays_tagDone_17 : decode b_TagWays_tagDone 17 = .ok (.aload_n 0, 1) := by decide +kernel
theorem d_TagWays_tagDone_18 : decode b_TagWays_tagDone 18 = .ok (.getfield 56, 3) := by decide +kernel
theorem d_TagWays_tagDone_21 : decode b_TagWays_tagDone 21 = .ok (.invokevirtual 70, 3) := by decide +kernel
theorem d_TagWays_tagDone_24 : decode b_TagWays_tagDone 24 = .ok (.ifCond .eq 12, 3) := by decide +kernel
theorem d_TagWays_tagDone_27 : decode b_TagWays_tagDone 27 = .ok (.aload_n 0, 1) := by decide +kernel
theorem d_TagWays_tagDone_28 : decode b_TagWays_tagDone 28 = .ok (.getfield 23, 3) := by decide +kernel
theorem d_TagWays_tagDone_31 : decode b_TagWays_tagDone 31 = .ok (.bipush 14, 2) := by decide +kernel
theorem d_TagWays_tagDone_33 : decode b_TagWays_tagDone 33 = .ok (.invokevirtual 49, 3) := by decide +kernel
theorem d_TagWays_tagDone_36 : decode b_TagWays_tagDone 36 = .ok (.aload_n 0, 1) := by decide +kernel
theorem d_TagWays_tagDone_37 : decode b_TagWays_tagDone 37 = .ok (.getfield 56, 3) := by decide +kernel
theorem d_TagWays_tagDone_40 : decode b_TagWays_tagDone 40 = .ok (.invokevirtual 73, 3) := by decide +kernel
theorem d_TagWays_tagDone_43 : decode b_TagWays_tagDone 43 = .ok (.ifCond .eq 12, 3) := by decide +kernel
theorem d_TagWays_tagDone_46 : decode b_TagWays_tagDone 46 = .ok (.aload_n 0, 1) := by decide +kernel
theorem d_TagWays_tagDone_47 : decode b_TagWays_tagDone 47 = .ok (.getfield 23, 3) := by decide +kernel
theorem d_TagWays_tagDone_50 : decode b_TagWays_tagDone 50 = .ok (.bipush 15, 2) := by decide +kernel
theorem d_TagWays_tagDone_52 : decode b_TagWays_tagDone 52 = .ok (.invokevirtual 49, 3) := by decide +kernel
theorem d_TagWays_tagDone_55 : decode b_TagWays_tagDone 55 = .ok (.aload_n 0, 1) := by decide +kernel
theorem d_TagWays_tagDone_56 : decode b_TagWays_tagDone 56 = .ok (.getfield 56, 3) := by decide +kernel
theorem d_TagWays_tagDone_59 : decode b_TagWays_tagDone 59 = .ok (.invokevirtual 76, 3) := by decide +kernel
theorem d_TagWays_tagDone_62 : decode b_TagWays_tagDone 62 = .ok (.aload_n 0, 1) := by decide +kernel
theorem d_TagWays_tagDone_63 : decode b_TagWays_tagDone 63 = .ok (.getfield 56, 3) := by decide +kernel
theorem d_TagWays_tagDone_66 : decode b_TagWays_tagDone 66 = .ok (.iconst 0, 1) := by decide +kernel
theorem d_TagWays_tagDone_67 : decode b_TagWays_tagDone 67 = .ok (.invokevirtual 79, 3) := by decide +kernel
theorem d_TagWays_tagDone_70 : decode b_TagWays_tagDone 70 = .ok (.aload_n 0, 1) := by decide +kernel
theorem d_TagWays_tagDone_71 : decode b_TagWays_tagDone 71 = .ok (.getfield 56, 3) := by decide +kernel
theorem d_TagWays_tagDone_74 : decode b_TagWays_tagDone 74 = .ok (.invokevirtual 82, 3) := by decide +kernel
theorem d_TagWays_tagDone_77 : decode b_TagWays_tagDone 77 = .ok (.aload_n 0, 1) := by decide +kernel
theorem d_TagWays_tagDone_78 : decode b_TagWays_tagDone 78 = .ok (.getfield 23, 3) := by decide +kernel
theorem d_TagWays_tagDone_81 : decode b_TagWays_tagDone 81 = .ok (.getstatic 85, 3) := by decide +kernel
theorem d_TagWays_tagDone_84 : decode b_TagWays_tagDone 84 = .ok (.invokevirtual 33, 3) := by decide +kernel
theorem d_TagWays_tagDone_87 : decode b_TagWays_tagDone 87 = .ok (.areturn, 1) := by decide +kernel
theorem d_TagWays_dropped_0 : decode b_TagWays_dropped 0 = .ok (.aload_n 0, 1) := by decide +kernel
theorem d_TagWays_dropped_1 : decode b_TagWays_dropped 1 = .ok (.getfield 23, 3) := by decide +kernel
theorem d_TagWays_dropped_4 : decode b_TagWays_dropped 4 = .ok (.bipush 6, 2) := by decide +kernel
theorem d_TagWays_dropped_6 : decode b_TagWays_dropped 6 = .ok (.invokevirtual 49, 3) := by decide +kernel
theorem d_TagWays_dropped_9 : decode b_TagWays_dropped 9 = .ok (.getstatic 53, 3) := by decide +kernel
theorem d_TagWays_dropped_12 : decode b_TagWays_dropped 12 = .ok (.areturn, 1) := by decide +kernel
theorem d_TagWays_leave_0 : decode b_TagWays_leave 0 = .ok (.iload_n 1, 1) := by decide +kernel
theorem d_TagWays_leave_1 : decode b_TagWays_leave 1 = .ok (.lookupswitch 56 #[((-1), 51), (47, 35), (62, 46)], 35) := by decide +kernel
theorem d_TagWays_leave_36 : decode b_TagWays_leave 36 = .ok (.aload_n 0, 1) := by decide +kernel
theorem d_TagWays_leave_37 : decode b_TagWays_leave 37 = .ok (.getfield 23, 3) := by decide +kernel
theorem d_TagWays_leave_40 : decode b_TagWays_leave 40 = .ok (.getstatic 27, 3) := by decide +kernel
theorem d_TagWays_leave_43 : decode b_TagWays_leave 43 = .ok (.invokevirtual 33, 3) := by decide +kernel
theorem d_TagWays_leave_46 : decode b_TagWays_leave 46 = .ok (.areturn, 1) := by decide +kernel
theorem d_TagWays_leave_47 : decode b_TagWays_leave 47 = .ok (.aload_n 0, 1) := by decide +kernel
theorem d_TagWays_leave_48 : decode b_TagWays_leave 48 = .ok (.invokevirtual 39, 3) := by decide +kernel
theorem d_TagWays_leave_51 : decode b_TagWays_leave 51 = .ok (.areturn, 1) := by decide +kernel
theorem d_TagWays_leave_52 : decode b_TagWays_leave 52 = .ok (.aload_n 0, 1) := by decide +kernel
theorem d_TagWays_leave_53 : decode b_TagWays_leave 53 = .ok (.invokevirtual 43, 3) := by decide +kernel
theorem d_TagWays_leave_56 : decode b_TagWays_leave 56 = .ok (.areturn, 1) := by decide +kernel
theorem d_TagWays_leave_57 : decode b_TagWays_leave 57 = .ok (.aload_n 0, 1) := by decide +kernel
theorem d_TagWays_leave_58 : decode b_TagWays_leave 58 = .ok (.getfield 23, 3) := by decide +kernel
theorem d_TagWays_leave_61 : decode b_TagWays_leave 61 = .ok (.getstatic 46, 3) := by decide +kernel
theorem d_TagWays_leave_64 : decode b_TagWays_leave 64 = .ok (.invokevirtual 33, 3) := by decide +kernel
theorem d_TagWays_leave_67 : decode b_TagWays_leave 67 = .ok (.areturn, 1) := by decide +kernel
theorem d_TagWays_name_0 : decode b_TagWays_name 0 = .ok (.iload_n 1, 1) := by decide +kernel
theorem d_TagWays_name_1 : decode b_TagWays_name 1 = .ok (.invokestatic 88, 3) := by decide +kernel
theorem d_TagWays_name_4 : decode b_TagWays_name 4 = .ok (.ifCond .eq 16, 3) := by decide +kernel
theorem d_TagWays_name_7 : decode b_TagWays_name 7 = .ok (.aload_n 0, 1) := by decide +kernel
theorem d_TagWays_name_8 : decode b_TagWays_name 8 = .ok (.getfield 56, 3) := by decide +kernel
theorem d_TagWays_name_11 : decode b_TagWays_name 11 = .ok (.invokevirtual 91, 3) := by decide +kernel
theorem d_TagWays_name_14 : decode b_TagWays_name 14 = .ok (.aload_n 0, 1) := by decide +kernel
theorem d_TagWays_name_15 : decode b_TagWays_name 15 = .ok (.iload_n 1, 1) := by decide +kernel
theorem d_TagWays_name_16 : decode b_TagWays_name 16 = .ok (.invokevirtual 94, 3) := by decide +kernel
theorem d_TagWays_name_19 : decode b_TagWays_name 19 = .ok (.areturn, 1) := by decide +kernel
theorem d_TagWays_name_20 : decode b_TagWays_name 20 = .ok (.aload_n 0, 1) := by decide +kernel
theorem d_TagWays_name_21 : decode b_TagWays_name 21 = .ok (.iload_n 1, 1) := by decide +kernel
theorem d_TagWays_name_22 : decode b_TagWays_name 22 = .ok (.invokestatic 98, 3) := by decide +kernel
theorem d_TagWays_name_25 : decode b_TagWays_name 25 = .ok (.invokevirtual 102, 3) := by decide +kernel
theorem d_TagWays_name_28 : decode b_TagWays_name 28 = .ok (.aload_n 0, 1) := by decide +kernel
theorem d_TagWays_name_29 : decode b_TagWays_name 29 = .ok (.getfield 23, 3) := by decide +kernel
theorem d_TagWays_name_32 : decode b_TagWays_name 32 = .ok (.getstatic 105, 3) := by decide +kernel
theorem d_TagWays_name_35 : decode b_TagWays_name 35 = .ok (.invokevirtual 33, 3) := by decide +kernel
theorem d_TagWays_name_38 : decode b_TagWays_name 38 = .ok (.areturn, 1) := by decide +kernel
theorem d_TagWays_before_0 : decode b_TagWays_before 0 = .ok (.iload_n 1, 1) := by decide +kernel
theorem d_TagWays_before_1 : decode b_TagWays_before 1 = .ok (.invokestatic 19, 3) := by decide +kernel
theorem d_TagWays_before_4 : decode b_TagWays_before 4 = .ok (.ifCond .eq 14, 3) := by decide +kernel
theorem d_TagWays_before_7 : decode b_TagWays_before 7 = .ok (.aload_n 0, 1) := by decide +kernel
theorem d_TagWays_before_8 : decode b_TagWays_before 8 = .ok (.getfield 23, 3) := by decide +kernel
theorem d_TagWays_before_11 : decode b_TagWays_before 11 = .ok (.getstatic 46, 3) := by decide +kernel
theorem d_TagWays_before_14 : decode b_TagWays_before 14 = .ok (.invokevirtual 33, 3) := by decide +kernel
theorem d_TagWays_before_17 : decode b_TagWays_before 17 = .ok (.areturn, 1) := by decide +kernel
theorem d_TagWays_before_18 : decode b_TagWays_before 18 = .ok (.iload_n 1, 1) := by decide +kernel
theorem d_TagWays_before_19 : decode b_TagWays_before 19 = .ok (.invokestatic 88, 3) := by decide +kernel
theorem d_TagWays_before_22 : decode b_TagWays_before 22 = .ok (.ifCond .eq 7, 3) := by decide +kernel
theorem d_TagWays_before_25 : decode b_TagWays_before 25 = .ok (.getstatic 108, 3) := by decide +kernel
theorem d_TagWays_before_28 : decode b_TagWays_before 28 = .ok (.areturn, 1) := by decide +kernel
theorem d_TagWays_before_29 : decode b_TagWays_before 29 = .ok (.aload_n 0, 1) := by decide +kernel
theorem d_TagWays_before_30 : decode b_TagWays_before 30 = .ok (.getfield 56, 3) := by decide +kernel
theorem d_TagWays_before_33 : decode b_TagWays_before 33 = .ok (.invokevirtual 111, 3) := by decide +kernel
theorem d_TagWays_before_36 : decode b_TagWays_before 36 = .ok (.iload_n 1, 1) := by decide +kernel
theorem d_TagWays_before_37 : decode b_TagWays_before 37 = .ok (.bipush 61, 2) := by decide +kernel
theorem d_TagWays_before_39 : decode b_TagWays_before 39 = .ok (.if_icmp .ne 31, 3) := by decide +kernel
theorem d_TagWays_before_42 : decode b_TagWays_before 42 = .ok (.aload_n 0, 1) := by decide +kernel
theorem d_TagWays_before_43 : decode b_TagWays_before 43 = .ok (.getfield 23, 3) := by decide +kernel
theorem d_TagWays_before_46 : decode b_TagWays_before 46 = .ok (.bipush 7, 2) := by decide +kernel
theorem d_TagWays_before_48 : decode b_TagWays_before 48 = .ok (.invokevirtual 49, 3) := by decide +kernel
theorem d_TagWays_before_51 : decode b_TagWays_before 51 = .ok (.aload_n 0, 1) := by decide +kernel
theorem d_TagWays_before_52 : decode b_TagWays_before 52 = .ok (.getfield 56, 3) := by decide +kernel
theorem d_TagWays_before_55 : decode b_TagWays_before 55 = .ok (.iload_n 1, 1) := by decide +kernel
theorem d_TagWays_before_56 : decode b_TagWays_before 56 = .ok (.invokevirtual 114, 3) := by decide +kernel
theorem d_TagWays_before_59 : decode b_TagWays_before 59 = .ok (.aload_n 0, 1) := by decide +kernel
theorem d_TagWays_before_60 : decode b_TagWays_before 60 = .ok (.getfield 23, 3) := by decide +kernel
theorem d_TagWays_before_63 : decode b_TagWays_before 63 = .ok (.getstatic 117, 3) := by decide +kernel
theorem d_TagWays_before_66 : decode b_TagWays_before 66 = .ok (.invokevirtual 33, 3) := by decide +kernel
theorem d_TagWays_before_69 : decode b_TagWays_before 69 = .ok (.areturn, 1) := by decide +kernel
theorem d_TagWays_before_70 : decode b_TagWays_before 70 = .ok (.getstatic 117, 3) := by decide +kernel
theorem d_TagWays_before_73 : decode b_TagWays_before 73 = .ok (.areturn, 1) := by decide +kernel
theorem d_TagWays_leaveAttributeName_0 : decode b_TagWays_leaveAttributeName 0 = .ok (.aload_n 0, 1) := by decide +kernel
theorem d_TagWays_leaveAttributeName_1 : decode b_TagWays_leaveAttributeName 1 = .ok (.getfield 56, 3) := by decide +kernel
theorem d_TagWays_leaveAttributeName_4 : decode b_TagWays_leaveAttributeName 4 = .ok (.invokevirtual 126, 3) := by decide +kernel
theorem d_TagWays_leaveAttributeName_7 : decode b_TagWays_leaveAttributeName 7 = .ok (.aload_n 0, 1) := by decide +kernel
theorem d_TagWays_leaveAttributeName_8 : decode b_TagWays_leaveAttributeName 8 = .ok (.getfield 56, 3) := by decide +kernel
theorem d_TagWays_leaveAttributeName_11 : decode b_TagWays_leaveAttributeName 11 = .ok (.invokevirtual 129, 3) := by decide +kernel
theorem d_TagWays_leaveAttributeName_14 : decode b_TagWays_leaveAttributeName 14 = .ok (.ifCond .eq 19, 3) := by decide +kernel
theorem d_TagWays_leaveAttributeName_17 : decode b_TagWays_leaveAttributeName 17 = .ok (.aload_n 0, 1) := by decide +kernel
theorem d_TagWays_leaveAttributeName_18 : decode b_TagWays_leaveAttributeName 18 = .ok (.getfield 23, 3) := by decide +kernel
theorem d_TagWays_leaveAttributeName_21 : decode b_TagWays_leaveAttributeName 21 = .ok (.bipush 9, 2) := by decide +kernel
theorem d_TagWays_leaveAttributeName_23 : decode b_TagWays_leaveAttributeName 23 = .ok (.invokevirtual 49, 3) := by decide +kernel
theorem d_TagWays_leaveAttributeName_26 : decode b_TagWays_leaveAttributeName 26 = .ok (.aload_n 0, 1) := by decide +kernel
theorem d_TagWays_leaveAttributeName_27 : decode b_TagWays_leaveAttributeName 27 = .ok (.getfield 56, 3) := by decide +kernel
theorem d_TagWays_leaveAttributeName_30 : decode b_TagWays_leaveAttributeName 30 = .ok (.invokevirtual 132, 3) := by decide +kernel
theorem d_TagWays_leaveAttributeName_33 : decode b_TagWays_leaveAttributeName 33 = .ok (.return_, 1) := by decide +kernel
theorem d_TagWays_attribute_0 : decode b_TagWays_attribute 0 = .ok (.iload_n 1, 1) := by decide +kernel
theorem d_TagWays_attribute_1 : decode b_TagWays_attribute 1 = .ok (.invokestatic 88, 3) := by decide +kernel
theorem d_TagWays_attribute_4 : decode b_TagWays_attribute 4 = .ok (.ifCond .eq 11, 3) := by decide +kernel
theorem d_TagWays_attribute_7 : decode b_TagWays_attribute 7 = .ok (.aload_n 0, 1) := by decide +kernel
theorem d_TagWays_attribute_8 : decode b_TagWays_attribute 8 = .ok (.invokevirtual 120, 3) := by decide +kernel
theorem d_TagWays_attribute_11 : decode b_TagWays_attribute 11 = .ok (.getstatic 108, 3) := by decide +kernel
theorem d_TagWays_attribute_14 : decode b_TagWays_attribute 14 = .ok (.areturn, 1) := by decide +kernel
theorem d_TagWays_attribute_15 : decode b_TagWays_attribute 15 = .ok (.iload_n 1, 1) := by decide +kernel
theorem d_TagWays_attribute_16 : decode b_TagWays_attribute 16 = .ok (.bipush 61, 2) := by decide +kernel
theorem d_TagWays_attribute_18 : decode b_TagWays_attribute 18 = .ok (.if_icmp .ne 18, 3) := by decide +kernel
theorem d_TagWays_attribute_21 : decode b_TagWays_attribute 21 = .ok (.aload_n 0, 1) := by decide +kernel
theorem d_TagWays_attribute_22 : decode b_TagWays_attribute 22 = .ok (.invokevirtual 120, 3) := by decide +kernel
theorem d_TagWays_attribute_25 : decode b_TagWays_attribute 25 = .ok (.aload_n 0, 1) := by decide +kernel
theorem d_TagWays_attribute_26 : decode b_TagWays_attribute 26 = .ok (.getfield 23, 3) := by decide +kernel
theorem d_TagWays_attribute_29 : decode b_TagWays_attribute 29 = .ok (.getstatic 123, 3) := by decide +kernel
theorem d_TagWays_attribute_32 : decode b_TagWays_attribute 32 = .ok (.invokevirtual 33, 3) := by decide +kernel
theorem d_TagWays_attribute_35 : decode b_TagWays_attribute 35 = .ok (.areturn, 1) := by decide +kernel
theorem d_TagWays_attribute_36 : decode b_TagWays_attribute 36 = .ok (.iload_n 1, 1) := by decide +kernel
theorem d_TagWays_attribute_37 : decode b_TagWays_attribute 37 = .ok (.bipush 34, 2) := by decide +kernel
theorem d_TagWays_attribute_39 : decode b_TagWays_attribute 39 = .ok (.if_icmp .eq 15, 3) := by decide +kernel
theorem d_TagWays_attribute_42 : decode b_TagWays_attribute 42 = .ok (.iload_n 1, 1) := by decide +kernel
theorem d_TagWays_attribute_43 : decode b_TagWays_attribute 43 = .ok (.bipush 39, 2) := by decide +kernel
theorem d_TagWays_attribute_45 : decode b_TagWays_attribute 45 = .ok (.if_icmp .eq 9, 3) := by decide +kernel
theorem d_TagWays_attribute_48 : decode b_TagWays_attribute 48 = .ok (.iload_n 1, 1) := by decide +kernel
theorem d_TagWays_attribute_49 : decode b_TagWays_attribute 49 = .ok (.bipush 60, 2) := by decide +kernel
theorem d_TagWays_attribute_51 : decode b_TagWays_attribute 51 = .ok (.if_icmp .ne 12, 3) := by decide +kernel
theorem d_TagWays_attribute_54 : decode b_TagWays_attribute 54 = .ok (.aload_n 0, 1) := by decide +kernel
theorem d_TagWays_attribute_55 : decode b_TagWays_attribute 55 = .ok (.getfield 23, 3) := by decide +kernel
theorem d_TagWays_attribute_58 : decode b_TagWays_attribute 58 = .ok (.bipush 8, 2) := by decide +kernel
theorem d_TagWays_attribute_60 : decode b_TagWays_attribute 60 = .ok (.invokevirtual 49, 3) := by decide +kernel
theorem d_TagWays_attribute_63 : decode b_TagWays_attribute 63 = .ok (.aload_n 0, 1) := by decide +kernel
theorem d_TagWays_attribute_64 : decode b_TagWays_attribute 64 = .ok (.iload_n 1, 1) := by decide +kernel
theorem d_TagWays_attribute_65 : decode b_TagWays_attribute 65 = .ok (.invokestatic 98, 3) := by decide +kernel
theorem d_TagWays_attribute_68 : decode b_TagWays_attribute 68 = .ok (.invokevirtual 102, 3) := by decide +kernel
theorem d_TagWays_attribute_71 : decode b_TagWays_attribute 71 = .ok (.aload_n 0, 1) := by decide +kernel
theorem d_TagWays_attribute_72 : decode b_TagWays_attribute 72 = .ok (.getfield 23, 3) := by decide +kernel
theorem d_TagWays_attribute_75 : decode b_TagWays_attribute 75 = .ok (.getstatic 117, 3) := by decide +kernel
theorem d_TagWays_attribute_78 : decode b_TagWays_attribute 78 = .ok (.invokevirtual 33, 3) := by decide +kernel
theorem d_TagWays_attribute_81 : decode b_TagWays_attribute 81 = .ok (.areturn, 1) := by decide +kernel
theorem d_TagWays_after_0 : decode b_TagWays_after 0 = .ok (.iload_n 1, 1) := by decide +kernel
theorem d_TagWays_after_1 : decode b_TagWays_after 1 = .ok (.invokestatic 19, 3) := by decide +kernel
theorem d_TagWays_after_4 : decode b_TagWays_after 4 = .ok (.ifCond .eq 14, 3) := by decide +kernel
theorem d_TagWays_after_7 : decode b_TagWays_after 7 = .ok (.aload_n 0, 1) := by decide +kernel
theorem d_TagWays_after_8 : decode b_TagWays_after 8 = .ok (.getfield 23, 3) := by decide +kernel
theorem d_TagWays_after_11 : decode b_TagWays_after 11 = .ok (.getstatic 108, 3) := by decide +kernel
theorem d_TagWays_after_14 : decode b_TagWays_after 14 = .ok (.invokevirtual 33, 3) := by decide +kernel
theorem d_TagWays_after_17 : decode b_TagWays_after 17 = .ok (.areturn, 1) := by decide +kernel
theorem d_TagWays_after_18 : decode b_TagWays_after 18 = .ok (.iload_n 1, 1) := by decide +kernel
theorem d_TagWays_after_19 : decode b_TagWays_after 19 = .ok (.invokestatic 88, 3) := by decide +kernel
theorem d_TagWays_after_22 : decode b_TagWays_after 22 = .ok (.ifCond .eq 9, 3) := by decide +kernel
theorem d_TagWays_after_25 : decode b_TagWays_after 25 = .ok (.aload_n 0, 1) := by decide +kernel
theorem d_TagWays_after_26 : decode b_TagWays_after 26 = .ok (.iload_n 1, 1) := by decide +kernel
theorem d_TagWays_after_27 : decode b_TagWays_after 27 = .ok (.invokevirtual 94, 3) := by decide +kernel
theorem d_TagWays_after_30 : decode b_TagWays_after 30 = .ok (.areturn, 1) := by decide +kernel
theorem d_TagWays_after_31 : decode b_TagWays_after 31 = .ok (.iload_n 1, 1) := by decide +kernel
theorem d_TagWays_after_32 : decode b_TagWays_after 32 = .ok (.bipush 61, 2) := by decide +kernel
theorem d_TagWays_after_34 : decode b_TagWays_after 34 = .ok (.if_icmp .ne 14, 3) := by decide +kernel
theorem d_TagWays_after_37 : decode b_TagWays_after 37 = .ok (.aload_n 0, 1) := by decide +kernel
theorem d_TagWays_after_38 : decode b_TagWays_after 38 = .ok (.getfield 23, 3) := by decide +kernel
theorem d_TagWays_after_41 : decode b_TagWays_after 41 = .ok (.getstatic 123, 3) := by decide +kernel
theorem d_TagWays_after_44 : decode b_TagWays_after 44 = .ok (.invokevirtual 33, 3) := by decide +kernel
theorem d_TagWays_after_47 : decode b_TagWays_after 47 = .ok (.areturn, 1) := by decide +kernel
theorem d_TagWays_after_48 : decode b_TagWays_after 48 = .ok (.aload_n 0, 1) := by decide +kernel
theorem d_TagWays_after_49 : decode b_TagWays_after 49 = .ok (.getfield 56, 3) := by decide +kernel
theorem d_TagWays_after_52 : decode b_TagWays_after 52 = .ok (.invokevirtual 111, 3) := by decide +kernel
theorem d_TagWays_after_55 : decode b_TagWays_after 55 = .ok (.getstatic 117, 3) := by decide +kernel
theorem d_TagWays_after_58 : decode b_TagWays_after 58 = .ok (.areturn, 1) := by decide +kernel
theorem d_TagWays_value_0 : decode b_TagWays_value 0 = .ok (.iload_n 1, 1) := by decide +kernel
theorem d_TagWays_value_1 : decode b_TagWays_value 1 = .ok (.invokestatic 19, 3) := by decide +kernel
theorem d_TagWays_value_4 : decode b_TagWays_value 4 = .ok (.ifCond .eq 14, 3) := by decide +kernel
theorem d_TagWays_value_7 : decode b_TagWays_value 7 = .ok (.aload_n 0, 1) := by decide +kernel
theorem d_TagWays_value_8 : decode b_TagWays_value 8 = .ok (.getfield 23, 3) := by decide +kernel
theorem d_TagWays_value_11 : decode b_TagWays_value 11 = .ok (.getstatic 123, 3) := by decide +kernel
theorem d_TagWays_value_14 : decode b_TagWays_value 14 = .ok (.invokevirtual 33, 3) := by decide +kernel
theorem d_TagWays_value_17 : decode b_TagWays_value 17 = .ok (.areturn, 1) := by decide +kernel
theorem d_TagWays_value_18 : decode b_TagWays_value 18 = .ok (.iload_n 1, 1) := by decide +kernel
theorem d_TagWays_value_19 : decode b_TagWays_value 19 = .ok (.lookupswitch 63 #[(34, 33), (39, 33), (62, 49)], 33) := by decide +kernel
theorem d_TagWays_value_52 : decode b_TagWays_value 52 = .ok (.aload_n 0, 1) := by decide +kernel
theorem d_TagWays_value_53 : decode b_TagWays_value 53 = .ok (.iload_n 1, 1) := by decide +kernel
theorem d_TagWays_value_54 : decode b_TagWays_value 54 = .ok (.putfield 9, 3) := by decide +kernel
theorem d_TagWays_value_57 : decode b_TagWays_value 57 = .ok (.aload_n 0, 1) := by decide +kernel
theorem d_TagWays_value_58 : decode b_TagWays_value 58 = .ok (.getfield 23, 3) := by decide +kernel
theorem d_TagWays_value_61 : decode b_TagWays_value 61 = .ok (.getstatic 135, 3) := by decide +kernel
theorem d_TagWays_value_64 : decode b_TagWays_value 64 = .ok (.invokevirtual 33, 3) := by decide +kernel
theorem d_TagWays_value_67 : decode b_TagWays_value 67 = .ok (.areturn, 1) := by decide +kernel
theorem d_TagWays_value_68 : decode b_TagWays_value 68 = .ok (.aload_n 0, 1) := by decide +kernel
theorem d_TagWays_value_69 : decode b_TagWays_value 69 = .ok (.getfield 23, 3) := by decide +kernel
theorem d_TagWays_value_72 : decode b_TagWays_value 72 = .ok (.bipush 10, 2) := by decide +kernel
theorem d_TagWays_value_74 : decode b_TagWays_value 74 = .ok (.invokevirtual 49, 3) := by decide +kernel
theorem d_TagWays_value_77 : decode b_TagWays_value 77 = .ok (.aload_n 0, 1) := by decide +kernel
theorem d_TagWays_value_78 : decode b_TagWays_value 78 = .ok (.invokevirtual 39, 3) := by decide +kernel
theorem d_TagWays_value_81 : decode b_TagWays_value 81 = .ok (.areturn, 1) := by decide +kernel
theorem d_TagWays_value_82 : decode b_TagWays_value 82 = .ok (.getstatic 138, 3) := by decide +kernel
theorem d_TagWays_value_85 : decode b_TagWays_value 85 = .ok (.areturn, 1) := by decide +kernel
theorem d_TagWays_quoted_0 : decode b_TagWays_quoted 0 = .ok (.iload_n 1, 1) := by decide +kernel
theorem d_TagWays_quoted_1 : decode b_TagWays_quoted 1 = .ok (.aload_n 0, 1) := by decide +kernel
theorem d_TagWays_quoted_2 : decode b_TagWays_quoted 2 = .ok (.getfield 9, 3) := by decide +kernel
theorem d_TagWays_quoted_5 : decode b_TagWays_quoted 5 = .ok (.if_icmp .ne 14, 3) := by decide +kernel
theorem d_TagWays_quoted_8 : decode b_TagWays_quoted 8 = .ok (.aload_n 0, 1) := by decide +kernel
theorem d_TagWays_quoted_9 : decode b_TagWays_quoted 9 = .ok (.getfield 23, 3) := by decide +kernel
theorem d_TagWays_quoted_12 : decode b_TagWays_quoted 12 = .ok (.getstatic 141, 3) := by decide +kernel
theorem d_TagWays_quoted_15 : decode b_TagWays_quoted 15 = .ok (.invokevirtual 33, 3) := by decide +kernel
theorem d_TagWays_quoted_18 : decode b_TagWays_quoted 18 = .ok (.areturn, 1) := by decide +kernel
theorem d_TagWays_quoted_19 : decode b_TagWays_quoted 19 = .ok (.iload_n 1, 1) := by decide +kernel
theorem d_TagWays_quoted_20 : decode b_TagWays_quoted 20 = .ok (.lookupswitch 44 #[((-1), 39), (38, 28)], 28) := by decide +kernel
theorem d_TagWays_quoted_48 : decode b_TagWays_quoted 48 = .ok (.aload_n 0, 1) := by decide +kernel
theorem d_TagWays_quoted_49 : decode b_TagWays_quoted 49 = .ok (.getfield 15, 3) := by decide +kernel
theorem d_TagWays_quoted_52 : decode b_TagWays_quoted 52 = .ok (.getstatic 135, 3) := by decide +kernel
theorem d_TagWays_quoted_55 : decode b_TagWays_quoted 55 = .ok (.invokevirtual 144, 3) := by decide +kernel
theorem d_TagWays_quoted_58 : decode b_TagWays_quoted 58 = .ok (.areturn, 1) := by decide +kernel
theorem d_TagWays_quoted_59 : decode b_TagWays_quoted 59 = .ok (.aload_n 0, 1) := by decide +kernel
theorem d_TagWays_quoted_60 : decode b_TagWays_quoted 60 = .ok (.invokevirtual 43, 3) := by decide +kernel
theorem d_TagWays_quoted_63 : decode b_TagWays_quoted 63 = .ok (.areturn, 1) := by decide +kernel
theorem d_TagWays_quoted_64 : decode b_TagWays_quoted 64 = .ok (.aload_n 0, 1) := by decide +kernel
theorem d_TagWays_quoted_65 : decode b_TagWays_quoted 65 = .ok (.iload_n 1, 1) := by decide +kernel
theorem d_TagWays_quoted_66 : decode b_TagWays_quoted 66 = .ok (.invokevirtual 102, 3) := by decide +kernel
theorem d_TagWays_quoted_69 : decode b_TagWays_quoted 69 = .ok (.aload_n 0, 1) := by decide +kernel
theorem d_TagWays_quoted_70 : decode b_TagWays_quoted 70 = .ok (.getfield 23, 3) := by decide +kernel
theorem d_TagWays_quoted_73 : decode b_TagWays_quoted 73 = .ok (.getstatic 135, 3) := by decide +kernel
theorem d_TagWays_quoted_76 : decode b_TagWays_quoted 76 = .ok (.invokevirtual 33, 3) := by decide +kernel
theorem d_TagWays_quoted_79 : decode b_TagWays_quoted 79 = .ok (.areturn, 1) := by decide +kernel
theorem d_TagWays_unquoted_0 : decode b_TagWays_unquoted 0 = .ok (.iload_n 1, 1) := by decide +kernel
theorem d_TagWays_unquoted_1 : decode b_TagWays_unquoted 1 = .ok (.invokestatic 19, 3) := by decide +kernel
theorem d_TagWays_unquoted_4 : decode b_TagWays_unquoted 4 = .ok (.ifCond .eq 14, 3) := by decide +kernel
theorem d_TagWays_unquoted_7 : decode b_TagWays_unquoted 7 = .ok (.aload_n 0, 1) := by decide +kernel
theorem d_TagWays_unquoted_8 : decode b_TagWays_unquoted 8 = .ok (.getfield 23, 3) := by decide +kernel
theorem d_TagWays_unquoted_11 : decode b_TagWays_unquoted 11 = .ok (.getstatic 46, 3) := by decide +kernel
theorem d_TagWays_unquoted_14 : decode b_TagWays_unquoted 14 = .ok (.invokevirtual 33, 3) := by decide +kernel
theorem d_TagWays_unquoted_17 : decode b_TagWays_unquoted 17 = .ok (.areturn, 1) := by decide +kernel
theorem d_TagWays_unquoted_18 : decode b_TagWays_unquoted 18 = .ok (.iload_n 1, 1) := by decide +kernel
theorem d_TagWays_unquoted_19 : decode b_TagWays_unquoted 19 = .ok (.lookupswitch 106 #[((-1), 89), (34, 94), (38, 73), (39, 94), (60, 94), (61, 94), (62, 84), (96, 94)], 73) := by decide +kernel
theorem d_TagWays_unquoted_92 : decode b_TagWays_unquoted 92 = .ok (.aload_n 0, 1) := by decide +kernel
theorem d_TagWays_unquoted_93 : decode b_TagWays_unquoted 93 = .ok (.getfield 15, 3) := by decide +kernel
theorem d_TagWays_unquoted_96 : decode b_TagWays_unquoted 96 = .ok (.getstatic 138, 3) := by decide +kernel
theorem d_TagWays_unquoted_99 : decode b_TagWays_unquoted 99 = .ok (.invokevirtual 144, 3) := by decide +kernel
theorem d_TagWays_unquoted_102 : decode b_TagWays_unquoted 102 = .ok (.areturn, 1) := by decide +kernel
theorem d_TagWays_unquoted_103 : decode b_TagWays_unquoted 103 = .ok (.aload_n 0, 1) := by decide +kernel
theorem d_TagWays_unquoted_104 : decode b_TagWays_unquoted 104 = .ok (.invokevirtual 39, 3) := by decide +kernel
theorem d_TagWays_unquoted_107 : decode b_TagWays_unquoted 107 = .ok (.areturn, 1) := by decide +kernel
theorem d_TagWays_unquoted_108 : decode b_TagWays_unquoted 108 = .ok (.aload_n 0, 1) := by decide +kernel
theorem d_TagWays_unquoted_109 : decode b_TagWays_unquoted 109 = .ok (.invokevirtual 43, 3) := by decide +kernel
theorem d_TagWays_unquoted_112 : decode b_TagWays_unquoted 112 = .ok (.areturn, 1) := by decide +kernel
theorem d_TagWays_unquoted_113 : decode b_TagWays_unquoted 113 = .ok (.aload_n 0, 1) := by decide +kernel
theorem d_TagWays_unquoted_114 : decode b_TagWays_unquoted 114 = .ok (.getfield 23, 3) := by decide +kernel
theorem d_TagWays_unquoted_117 : decode b_TagWays_unquoted 117 = .ok (.bipush 11, 2) := by decide +kernel
theorem d_TagWays_unquoted_119 : decode b_TagWays_unquoted 119 = .ok (.invokevirtual 49, 3) := by decide +kernel
theorem d_TagWays_unquoted_122 : decode b_TagWays_unquoted 122 = .ok (.goto 3, 3) := by decide +kernel
theorem d_TagWays_unquoted_125 : decode b_TagWays_unquoted 125 = .ok (.aload_n 0, 1) := by decide +kernel
theorem d_TagWays_unquoted_126 : decode b_TagWays_unquoted 126 = .ok (.iload_n 1, 1) := by decide +kernel
theorem d_TagWays_unquoted_127 : decode b_TagWays_unquoted 127 = .ok (.invokevirtual 102, 3) := by decide +kernel
theorem d_TagWays_unquoted_130 : decode b_TagWays_unquoted 130 = .ok (.aload_n 0, 1) := by decide +kernel
theorem d_TagWays_unquoted_131 : decode b_TagWays_unquoted 131 = .ok (.getfield 23, 3) := by decide +kernel
theorem d_TagWays_unquoted_134 : decode b_TagWays_unquoted 134 = .ok (.getstatic 138, 3) := by decide +kernel
theorem d_TagWays_unquoted_137 : decode b_TagWays_unquoted 137 = .ok (.invokevirtual 33, 3) := by decide +kernel
theorem d_TagWays_unquoted_140 : decode b_TagWays_unquoted 140 = .ok (.areturn, 1) := by decide +kernel
theorem d_TagWays_behind_0 : decode b_TagWays_behind 0 = .ok (.iload_n 1, 1) := by decide +kernel
theorem d_TagWays_behind_1 : decode b_TagWays_behind 1 = .ok (.invokestatic 88, 3) := by decide +kernel
theorem d_TagWays_behind_4 : decode b_TagWays_behind 4 = .ok (.ifCond .eq 9, 3) := by decide +kernel
theorem d_TagWays_behind_7 : decode b_TagWays_behind 7 = .ok (.aload_n 0, 1) := by decide +kernel
theorem d_TagWays_behind_8 : decode b_TagWays_behind 8 = .ok (.iload_n 1, 1) := by decide +kernel
theorem d_TagWays_behind_9 : decode b_TagWays_behind 9 = .ok (.invokevirtual 94, 3) := by decide +kernel
theorem d_TagWays_behind_12 : decode b_TagWays_behind 12 = .ok (.areturn, 1) := by decide +kernel
theorem d_TagWays_behind_13 : decode b_TagWays_behind 13 = .ok (.aload_n 0, 1) := by decide +kernel
theorem d_TagWays_behind_14 : decode b_TagWays_behind 14 = .ok (.getfield 23, 3) := by decide +kernel
theorem d_TagWays_behind_17 : decode b_TagWays_behind 17 = .ok (.bipush 12, 2) := by decide +kernel
theorem d_TagWays_behind_19 : decode b_TagWays_behind 19 = .ok (.invokevirtual 49, 3) := by decide +kernel
theorem d_TagWays_behind_22 : decode b_TagWays_behind 22 = .ok (.getstatic 46, 3) := by decide +kernel
theorem d_TagWays_behind_25 : decode b_TagWays_behind 25 = .ok (.areturn, 1) := by decide +kernel
theorem d_TagWays_self_0 : decode b_TagWays_self 0 = .ok (.iload_n 1, 1) := by decide +kernel
theorem d_TagWays_self_1 : decode b_TagWays_self 1 = .ok (.lookupswitch 45 #[((-1), 40), (62, 27)], 27) := by decide +kernel
theorem d_TagWays_self_28 : decode b_TagWays_self 28 = .ok (.aload_n 0, 1) := by decide +kernel
theorem d_TagWays_self_29 : decode b_TagWays_self 29 = .ok (.getfield 56, 3) := by decide +kernel
theorem d_TagWays_self_32 : decode b_TagWays_self 32 = .ok (.iconst 1, 1) := by decide +kernel
theorem d_TagWays_self_33 : decode b_TagWays_self 33 = .ok (.invokevirtual 79, 3) := by decide +kernel
theorem d_TagWays_self_36 : decode b_TagWays_self 36 = .ok (.aload_n 0, 1) := by decide +kernel
theorem d_TagWays_self_37 : decode b_TagWays_self 37 = .ok (.invokevirtual 39, 3) := by decide +kernel
theorem d_TagWays_self_40 : decode b_TagWays_self 40 = .ok (.areturn, 1) := by decide +kernel
theorem d_TagWays_self_41 : decode b_TagWays_self 41 = .ok (.aload_n 0, 1) := by decide +kernel
theorem d_TagWays_self_42 : decode b_TagWays_self 42 = .ok (.invokevirtual 43, 3) := by decide +kernel
theorem d_TagWays_self_45 : decode b_TagWays_self 45 = .ok (.areturn, 1) := by decide +kernel
theorem d_TagWays_self_46 : decode b_TagWays_self 46 = .ok (.aload_n 0, 1) := by decide +kernel
theorem d_TagWays_self_47 : decode b_TagWays_self 47 = .ok (.getfield 23, 3) := by decide +kernel
theorem d_TagWays_self_50 : decode b_TagWays_self 50 = .ok (.bipush 13, 2) := by decide +kernel
theorem d_TagWays_self_52 : decode b_TagWays_self 52 = .ok (.invokevirtual 49, 3) := by decide +kernel
theorem d_TagWays_self_55 : decode b_TagWays_self 55 = .ok (.getstatic 46, 3) := by decide +kernel
theorem d_TagWays_self_58 : decode b_TagWays_self 58 = .ok (.areturn, 1) := by decide +kernel
