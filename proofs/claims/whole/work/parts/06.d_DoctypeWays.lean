theorem d_DoctypeWays_start_0 : decode b_DoctypeWays_start 0 = .ok (.iload_n 1, 1) := by decide +kernel
theorem d_DoctypeWays_start_1 : decode b_DoctypeWays_start 1 = .ok (.invokestatic 34, 3) := by decide +kernel
theorem d_DoctypeWays_start_4 : decode b_DoctypeWays_start 4 = .ok (.ifCond .eq 14, 3) := by decide +kernel
theorem d_DoctypeWays_start_7 : decode b_DoctypeWays_start 7 = .ok (.aload_n 0, 1) := by decide +kernel
theorem d_DoctypeWays_start_8 : decode b_DoctypeWays_start 8 = .ok (.getfield 9, 3) := by decide +kernel
theorem d_DoctypeWays_start_11 : decode b_DoctypeWays_start 11 = .ok (.getstatic 38, 3) := by decide +kernel
theorem d_DoctypeWays_start_14 : decode b_DoctypeWays_start 14 = .ok (.invokevirtual 44, 3) := by decide +kernel
theorem d_DoctypeWays_start_17 : decode b_DoctypeWays_start 17 = .ok (.areturn, 1) := by decide +kernel
theorem d_DoctypeWays_start_18 : decode b_DoctypeWays_start 18 = .ok (.iload_n 1, 1) := by decide +kernel
theorem d_DoctypeWays_start_19 : decode b_DoctypeWays_start 19 = .ok (.bipush 62, 2) := by decide +kernel
theorem d_DoctypeWays_start_21 : decode b_DoctypeWays_start 21 = .ok (.if_icmp .eq 17, 3) := by decide +kernel
theorem d_DoctypeWays_start_24 : decode b_DoctypeWays_start 24 = .ok (.iload_n 1, 1) := by decide +kernel
theorem d_DoctypeWays_start_25 : decode b_DoctypeWays_start 25 = .ok (.iconst (-1), 1) := by decide +kernel
theorem d_DoctypeWays_start_26 : decode b_DoctypeWays_start 26 = .ok (.if_icmp .eq 12, 3) := by decide +kernel
theorem d_DoctypeWays_start_29 : decode b_DoctypeWays_start 29 = .ok (.aload_n 0, 1) := by decide +kernel
theorem d_DoctypeWays_start_30 : decode b_DoctypeWays_start 30 = .ok (.getfield 9, 3) := by decide +kernel
theorem d_DoctypeWays_start_33 : decode b_DoctypeWays_start 33 = .ok (.bipush 21, 2) := by decide +kernel
theorem d_DoctypeWays_start_35 : decode b_DoctypeWays_start 35 = .ok (.invokevirtual 15, 3) := by decide +kernel
theorem d_DoctypeWays_start_38 : decode b_DoctypeWays_start 38 = .ok (.getstatic 38, 3) := by decide +kernel
theorem d_DoctypeWays_start_41 : decode b_DoctypeWays_start 41 = .ok (.areturn, 1) := by decide +kernel
theorem d_DoctypeWays_oddAtEnd_0 : decode b_DoctypeWays_oddAtEnd 0 = .ok (.aload_n 0, 1) := by decide +kernel
theorem d_DoctypeWays_oddAtEnd_1 : decode b_DoctypeWays_oddAtEnd 1 = .ok (.getfield 9, 3) := by decide +kernel
theorem d_DoctypeWays_oddAtEnd_4 : decode b_DoctypeWays_oddAtEnd 4 = .ok (.bipush 23, 2) := by decide +kernel
theorem d_DoctypeWays_oddAtEnd_6 : decode b_DoctypeWays_oddAtEnd 6 = .ok (.invokevirtual 15, 3) := by decide +kernel
theorem d_DoctypeWays_oddAtEnd_9 : decode b_DoctypeWays_oddAtEnd 9 = .ok (.aload_n 0, 1) := by decide +kernel
theorem d_DoctypeWays_oddAtEnd_10 : decode b_DoctypeWays_oddAtEnd 10 = .ok (.getfield 21, 3) := by decide +kernel
theorem d_DoctypeWays_oddAtEnd_13 : decode b_DoctypeWays_oddAtEnd 13 = .ok (.iconst 1, 1) := by decide +kernel
theorem d_DoctypeWays_oddAtEnd_14 : decode b_DoctypeWays_oddAtEnd 14 = .ok (.invokevirtual 25, 3) := by decide +kernel
theorem d_DoctypeWays_oddAtEnd_17 : decode b_DoctypeWays_oddAtEnd 17 = .ok (.aload_n 0, 1) := by decide +kernel
theorem d_DoctypeWays_oddAtEnd_18 : decode b_DoctypeWays_oddAtEnd 18 = .ok (.invokevirtual 30, 3) := by decide +kernel
theorem d_DoctypeWays_oddAtEnd_21 : decode b_DoctypeWays_oddAtEnd 21 = .ok (.areturn, 1) := by decide +kernel
theorem d_DoctypeWays_before_0 : decode b_DoctypeWays_before 0 = .ok (.iload_n 1, 1) := by decide +kernel
theorem d_DoctypeWays_before_1 : decode b_DoctypeWays_before 1 = .ok (.invokestatic 34, 3) := by decide +kernel
theorem d_DoctypeWays_before_4 : decode b_DoctypeWays_before 4 = .ok (.ifCond .eq 14, 3) := by decide +kernel
theorem d_DoctypeWays_before_7 : decode b_DoctypeWays_before 7 = .ok (.aload_n 0, 1) := by decide +kernel
theorem d_DoctypeWays_before_8 : decode b_DoctypeWays_before 8 = .ok (.getfield 9, 3) := by decide +kernel
theorem d_DoctypeWays_before_11 : decode b_DoctypeWays_before 11 = .ok (.getstatic 38, 3) := by decide +kernel
theorem d_DoctypeWays_before_14 : decode b_DoctypeWays_before 14 = .ok (.invokevirtual 44, 3) := by decide +kernel
theorem d_DoctypeWays_before_17 : decode b_DoctypeWays_before 17 = .ok (.areturn, 1) := by decide +kernel
theorem d_DoctypeWays_before_18 : decode b_DoctypeWays_before 18 = .ok (.aload_n 0, 1) := by decide +kernel
theorem d_DoctypeWays_before_19 : decode b_DoctypeWays_before 19 = .ok (.getfield 21, 3) := by decide +kernel
theorem d_DoctypeWays_before_22 : decode b_DoctypeWays_before 22 = .ok (.iconst 4, 1) := by decide +kernel
theorem d_DoctypeWays_before_23 : decode b_DoctypeWays_before 23 = .ok (.invokevirtual 48, 3) := by decide +kernel
theorem d_DoctypeWays_before_26 : decode b_DoctypeWays_before 26 = .ok (.iload_n 1, 1) := by decide +kernel
theorem d_DoctypeWays_before_27 : decode b_DoctypeWays_before 27 = .ok (.lookupswitch 52 #[((-1), 47), (62, 25)], 25) := by decide +kernel
theorem d_DoctypeWays_before_52 : decode b_DoctypeWays_before 52 = .ok (.aload_n 0, 1) := by decide +kernel
theorem d_DoctypeWays_before_53 : decode b_DoctypeWays_before 53 = .ok (.getfield 9, 3) := by decide +kernel
theorem d_DoctypeWays_before_56 : decode b_DoctypeWays_before 56 = .ok (.bipush 22, 2) := by decide +kernel
theorem d_DoctypeWays_before_58 : decode b_DoctypeWays_before 58 = .ok (.invokevirtual 15, 3) := by decide +kernel
theorem d_DoctypeWays_before_61 : decode b_DoctypeWays_before 61 = .ok (.aload_n 0, 1) := by decide +kernel
theorem d_DoctypeWays_before_62 : decode b_DoctypeWays_before 62 = .ok (.getfield 21, 3) := by decide +kernel
theorem d_DoctypeWays_before_65 : decode b_DoctypeWays_before 65 = .ok (.iconst 1, 1) := by decide +kernel
theorem d_DoctypeWays_before_66 : decode b_DoctypeWays_before 66 = .ok (.invokevirtual 25, 3) := by decide +kernel
theorem d_DoctypeWays_before_69 : decode b_DoctypeWays_before 69 = .ok (.aload_n 0, 1) := by decide +kernel
theorem d_DoctypeWays_before_70 : decode b_DoctypeWays_before 70 = .ok (.invokevirtual 51, 3) := by decide +kernel
theorem d_DoctypeWays_before_73 : decode b_DoctypeWays_before 73 = .ok (.areturn, 1) := by decide +kernel
theorem d_DoctypeWays_before_74 : decode b_DoctypeWays_before 74 = .ok (.aload_n 0, 1) := by decide +kernel
theorem d_DoctypeWays_before_75 : decode b_DoctypeWays_before 75 = .ok (.invokevirtual 54, 3) := by decide +kernel
theorem d_DoctypeWays_before_78 : decode b_DoctypeWays_before 78 = .ok (.areturn, 1) := by decide +kernel
theorem d_DoctypeWays_before_79 : decode b_DoctypeWays_before 79 = .ok (.getstatic 57, 3) := by decide +kernel
theorem d_DoctypeWays_before_82 : decode b_DoctypeWays_before 82 = .ok (.areturn, 1) := by decide +kernel
theorem d_DoctypeWays_name_0 : decode b_DoctypeWays_name 0 = .ok (.iload_n 1, 1) := by decide +kernel
theorem d_DoctypeWays_name_1 : decode b_DoctypeWays_name 1 = .ok (.invokestatic 34, 3) := by decide +kernel
theorem d_DoctypeWays_name_4 : decode b_DoctypeWays_name 4 = .ok (.ifCond .eq 14, 3) := by decide +kernel
theorem d_DoctypeWays_name_7 : decode b_DoctypeWays_name 7 = .ok (.aload_n 0, 1) := by decide +kernel
theorem d_DoctypeWays_name_8 : decode b_DoctypeWays_name 8 = .ok (.getfield 9, 3) := by decide +kernel
theorem d_DoctypeWays_name_11 : decode b_DoctypeWays_name 11 = .ok (.getstatic 60, 3) := by decide +kernel
theorem d_DoctypeWays_name_14 : decode b_DoctypeWays_name 14 = .ok (.invokevirtual 44, 3) := by decide +kernel
theorem d_DoctypeWays_name_17 : decode b_DoctypeWays_name 17 = .ok (.areturn, 1) := by decide +kernel
theorem d_DoctypeWays_name_18 : decode b_DoctypeWays_name 18 = .ok (.iload_n 1, 1) := by decide +kernel
theorem d_DoctypeWays_name_19 : decode b_DoctypeWays_name 19 = .ok (.lookupswitch 35 #[((-1), 30), (62, 25)], 25) := by decide +kernel
theorem d_DoctypeWays_name_44 : decode b_DoctypeWays_name 44 = .ok (.aload_n 0, 1) := by decide +kernel
theorem d_DoctypeWays_name_45 : decode b_DoctypeWays_name 45 = .ok (.invokevirtual 51, 3) := by decide +kernel
theorem d_DoctypeWays_name_48 : decode b_DoctypeWays_name 48 = .ok (.areturn, 1) := by decide +kernel
theorem d_DoctypeWays_name_49 : decode b_DoctypeWays_name 49 = .ok (.aload_n 0, 1) := by decide +kernel
theorem d_DoctypeWays_name_50 : decode b_DoctypeWays_name 50 = .ok (.invokevirtual 54, 3) := by decide +kernel
theorem d_DoctypeWays_name_53 : decode b_DoctypeWays_name 53 = .ok (.areturn, 1) := by decide +kernel
theorem d_DoctypeWays_name_54 : decode b_DoctypeWays_name 54 = .ok (.aload_n 0, 1) := by decide +kernel
theorem d_DoctypeWays_name_55 : decode b_DoctypeWays_name 55 = .ok (.iload_n 1, 1) := by decide +kernel
theorem d_DoctypeWays_name_56 : decode b_DoctypeWays_name 56 = .ok (.invokestatic 63, 3) := by decide +kernel
theorem d_DoctypeWays_name_59 : decode b_DoctypeWays_name 59 = .ok (.invokevirtual 67, 3) := by decide +kernel
theorem d_DoctypeWays_name_62 : decode b_DoctypeWays_name 62 = .ok (.aload_n 0, 1) := by decide +kernel
theorem d_DoctypeWays_name_63 : decode b_DoctypeWays_name 63 = .ok (.getfield 9, 3) := by decide +kernel
theorem d_DoctypeWays_name_66 : decode b_DoctypeWays_name 66 = .ok (.getstatic 57, 3) := by decide +kernel
theorem d_DoctypeWays_name_69 : decode b_DoctypeWays_name 69 = .ok (.invokevirtual 44, 3) := by decide +kernel
theorem d_DoctypeWays_name_72 : decode b_DoctypeWays_name 72 = .ok (.areturn, 1) := by decide +kernel
theorem d_DoctypeWays_after_0 : decode b_DoctypeWays_after 0 = .ok (.iload_n 1, 1) := by decide +kernel
theorem d_DoctypeWays_after_1 : decode b_DoctypeWays_after 1 = .ok (.invokestatic 34, 3) := by decide +kernel
theorem d_DoctypeWays_after_4 : decode b_DoctypeWays_after 4 = .ok (.ifCond .eq 14, 3) := by decide +kernel
theorem d_DoctypeWays_after_7 : decode b_DoctypeWays_after 7 = .ok (.aload_n 0, 1) := by decide +kernel
theorem d_DoctypeWays_after_8 : decode b_DoctypeWays_after 8 = .ok (.getfield 9, 3) := by decide +kernel
theorem d_DoctypeWays_after_11 : decode b_DoctypeWays_after 11 = .ok (.getstatic 60, 3) := by decide +kernel
theorem d_DoctypeWays_after_14 : decode b_DoctypeWays_after 14 = .ok (.invokevirtual 44, 3) := by decide +kernel
theorem d_DoctypeWays_after_17 : decode b_DoctypeWays_after 17 = .ok (.areturn, 1) := by decide +kernel
theorem d_DoctypeWays_after_18 : decode b_DoctypeWays_after 18 = .ok (.iload_n 1, 1) := by decide +kernel
theorem d_DoctypeWays_after_19 : decode b_DoctypeWays_after 19 = .ok (.lookupswitch 35 #[((-1), 30), (62, 25)], 25) := by decide +kernel
theorem d_DoctypeWays_after_44 : decode b_DoctypeWays_after 44 = .ok (.aload_n 0, 1) := by decide +kernel
theorem d_DoctypeWays_after_45 : decode b_DoctypeWays_after 45 = .ok (.invokevirtual 51, 3) := by decide +kernel
theorem d_DoctypeWays_after_48 : decode b_DoctypeWays_after 48 = .ok (.areturn, 1) := by decide +kernel
theorem d_DoctypeWays_after_49 : decode b_DoctypeWays_after 49 = .ok (.aload_n 0, 1) := by decide +kernel
theorem d_DoctypeWays_after_50 : decode b_DoctypeWays_after 50 = .ok (.invokevirtual 54, 3) := by decide +kernel
theorem d_DoctypeWays_after_53 : decode b_DoctypeWays_after 53 = .ok (.areturn, 1) := by decide +kernel
theorem d_DoctypeWays_after_54 : decode b_DoctypeWays_after 54 = .ok (.aload_n 0, 1) := by decide +kernel
theorem d_DoctypeWays_after_55 : decode b_DoctypeWays_after 55 = .ok (.getfield 9, 3) := by decide +kernel
theorem d_DoctypeWays_after_58 : decode b_DoctypeWays_after 58 = .ok (.bipush 24, 2) := by decide +kernel
theorem d_DoctypeWays_after_60 : decode b_DoctypeWays_after 60 = .ok (.invokevirtual 15, 3) := by decide +kernel
theorem d_DoctypeWays_after_63 : decode b_DoctypeWays_after 63 = .ok (.aload_n 0, 1) := by decide +kernel
theorem d_DoctypeWays_after_64 : decode b_DoctypeWays_after 64 = .ok (.getfield 21, 3) := by decide +kernel
theorem d_DoctypeWays_after_67 : decode b_DoctypeWays_after 67 = .ok (.iconst 1, 1) := by decide +kernel
theorem d_DoctypeWays_after_68 : decode b_DoctypeWays_after 68 = .ok (.invokevirtual 25, 3) := by decide +kernel
theorem d_DoctypeWays_after_71 : decode b_DoctypeWays_after 71 = .ok (.getstatic 70, 3) := by decide +kernel
theorem d_DoctypeWays_after_74 : decode b_DoctypeWays_after 74 = .ok (.areturn, 1) := by decide +kernel
theorem d_DoctypeWays_odd_0 : decode b_DoctypeWays_odd 0 = .ok (.iload_n 1, 1) := by decide +kernel
theorem d_DoctypeWays_odd_1 : decode b_DoctypeWays_odd 1 = .ok (.lookupswitch 64 #[((-1), 40), (0, 45), (62, 35)], 35) := by decide +kernel
theorem d_DoctypeWays_odd_36 : decode b_DoctypeWays_odd 36 = .ok (.aload_n 0, 1) := by decide +kernel
theorem d_DoctypeWays_odd_37 : decode b_DoctypeWays_odd 37 = .ok (.invokevirtual 51, 3) := by decide +kernel
theorem d_DoctypeWays_odd_40 : decode b_DoctypeWays_odd 40 = .ok (.areturn, 1) := by decide +kernel
theorem d_DoctypeWays_odd_41 : decode b_DoctypeWays_odd 41 = .ok (.aload_n 0, 1) := by decide +kernel
theorem d_DoctypeWays_odd_42 : decode b_DoctypeWays_odd 42 = .ok (.invokevirtual 30, 3) := by decide +kernel
theorem d_DoctypeWays_odd_45 : decode b_DoctypeWays_odd 45 = .ok (.areturn, 1) := by decide +kernel
theorem d_DoctypeWays_odd_46 : decode b_DoctypeWays_odd 46 = .ok (.aload_n 0, 1) := by decide +kernel
theorem d_DoctypeWays_odd_47 : decode b_DoctypeWays_odd 47 = .ok (.getfield 9, 3) := by decide +kernel
theorem d_DoctypeWays_odd_50 : decode b_DoctypeWays_odd 50 = .ok (.iconst 1, 1) := by decide +kernel
theorem d_DoctypeWays_odd_51 : decode b_DoctypeWays_odd 51 = .ok (.invokevirtual 15, 3) := by decide +kernel
theorem d_DoctypeWays_odd_54 : decode b_DoctypeWays_odd 54 = .ok (.aload_n 0, 1) := by decide +kernel
theorem d_DoctypeWays_odd_55 : decode b_DoctypeWays_odd 55 = .ok (.getfield 9, 3) := by decide +kernel
theorem d_DoctypeWays_odd_58 : decode b_DoctypeWays_odd 58 = .ok (.getstatic 70, 3) := by decide +kernel
theorem d_DoctypeWays_odd_61 : decode b_DoctypeWays_odd 61 = .ok (.invokevirtual 44, 3) := by decide +kernel
theorem d_DoctypeWays_odd_64 : decode b_DoctypeWays_odd 64 = .ok (.areturn, 1) := by decide +kernel
theorem d_DoctypeWays_odd_65 : decode b_DoctypeWays_odd 65 = .ok (.aload_n 0, 1) := by decide +kernel
theorem d_DoctypeWays_odd_66 : decode b_DoctypeWays_odd 66 = .ok (.getfield 9, 3) := by decide +kernel
theorem d_DoctypeWays_odd_69 : decode b_DoctypeWays_odd 69 = .ok (.getstatic 70, 3) := by decide +kernel
theorem d_DoctypeWays_odd_72 : decode b_DoctypeWays_odd 72 = .ok (.invokevirtual 44, 3) := by decide +kernel
theorem d_DoctypeWays_odd_75 : decode b_DoctypeWays_odd 75 = .ok (.areturn, 1) := by decide +kernel
