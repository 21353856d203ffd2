theorem d_Reader_addToText_0 : decode b_Reader_addToText 0 = .ok (.aload_n 0, 1) := by decide +kernel
theorem d_Reader_addToText_1 : decode b_Reader_addToText 1 = .ok (.getfield 65, 3) := by decide +kernel
theorem d_Reader_addToText_4 : decode b_Reader_addToText 4 = .ok (.invokevirtual 163, 3) := by decide +kernel
theorem d_Reader_addToText_7 : decode b_Reader_addToText 7 = .ok (.aload_n 0, 1) := by decide +kernel
theorem d_Reader_addToText_8 : decode b_Reader_addToText 8 = .ok (.getfield 65, 3) := by decide +kernel
theorem d_Reader_addToText_11 : decode b_Reader_addToText 11 = .ok (.iload_n 1, 1) := by decide +kernel
theorem d_Reader_addToText_12 : decode b_Reader_addToText 12 = .ok (.invokevirtual 166, 3) := by decide +kernel
theorem d_Reader_addToText_15 : decode b_Reader_addToText 15 = .ok (.return_, 1) := by decide +kernel
theorem d_Reader_data_0 : decode b_Reader_data 0 = .ok (.iload_n 1, 1) := by decide +kernel
theorem d_Reader_data_1 : decode b_Reader_data 1 = .ok (.lookupswitch 87 #[((-1), 72), (0, 76), (38, 43), (60, 61)], 43) := by decide +kernel
theorem d_Reader_data_44 : decode b_Reader_data 44 = .ok (.aload_n 0, 1) := by decide +kernel
theorem d_Reader_data_45 : decode b_Reader_data 45 = .ok (.getfield 65, 3) := by decide +kernel
theorem d_Reader_data_48 : decode b_Reader_data 48 = .ok (.invokevirtual 163, 3) := by decide +kernel
theorem d_Reader_data_51 : decode b_Reader_data 51 = .ok (.aload_n 0, 1) := by decide +kernel
theorem d_Reader_data_52 : decode b_Reader_data 52 = .ok (.getfield 12, 3) := by decide +kernel
theorem d_Reader_data_55 : decode b_Reader_data 55 = .ok (.getstatic 41, 3) := by decide +kernel
theorem d_Reader_data_58 : decode b_Reader_data 58 = .ok (.invokevirtual 176, 3) := by decide +kernel
theorem d_Reader_data_61 : decode b_Reader_data 61 = .ok (.areturn, 1) := by decide +kernel
theorem d_Reader_data_62 : decode b_Reader_data 62 = .ok (.aload_n 0, 1) := by decide +kernel
theorem d_Reader_data_63 : decode b_Reader_data 63 = .ok (.getfield 51, 3) := by decide +kernel
theorem d_Reader_data_66 : decode b_Reader_data 66 = .ok (.getstatic 180, 3) := by decide +kernel
theorem d_Reader_data_69 : decode b_Reader_data 69 = .ok (.invokevirtual 183, 3) := by decide +kernel
theorem d_Reader_data_72 : decode b_Reader_data 72 = .ok (.areturn, 1) := by decide +kernel
theorem d_Reader_data_73 : decode b_Reader_data 73 = .ok (.getstatic 48, 3) := by decide +kernel
theorem d_Reader_data_76 : decode b_Reader_data 76 = .ok (.areturn, 1) := by decide +kernel
theorem d_Reader_data_77 : decode b_Reader_data 77 = .ok (.aload_n 0, 1) := by decide +kernel
theorem d_Reader_data_78 : decode b_Reader_data 78 = .ok (.getfield 51, 3) := by decide +kernel
theorem d_Reader_data_81 : decode b_Reader_data 81 = .ok (.iconst 1, 1) := by decide +kernel
theorem d_Reader_data_82 : decode b_Reader_data 82 = .ok (.invokevirtual 186, 3) := by decide +kernel
theorem d_Reader_data_85 : decode b_Reader_data 85 = .ok (.goto 3, 3) := by decide +kernel
theorem d_Reader_data_88 : decode b_Reader_data 88 = .ok (.aload_n 0, 1) := by decide +kernel
theorem d_Reader_data_89 : decode b_Reader_data 89 = .ok (.iload_n 1, 1) := by decide +kernel
theorem d_Reader_data_90 : decode b_Reader_data 90 = .ok (.invokevirtual 189, 3) := by decide +kernel
theorem d_Reader_data_93 : decode b_Reader_data 93 = .ok (.aload_n 0, 1) := by decide +kernel
theorem d_Reader_data_94 : decode b_Reader_data 94 = .ok (.getfield 51, 3) := by decide +kernel
theorem d_Reader_data_97 : decode b_Reader_data 97 = .ok (.getstatic 41, 3) := by decide +kernel
theorem d_Reader_data_100 : decode b_Reader_data 100 = .ok (.invokevirtual 183, 3) := by decide +kernel
theorem d_Reader_data_103 : decode b_Reader_data 103 = .ok (.areturn, 1) := by decide +kernel
theorem d_Reader_bogus_0 : decode b_Reader_bogus 0 = .ok (.aload_n 0, 1) := by decide +kernel
theorem d_Reader_bogus_1 : decode b_Reader_bogus 1 = .ok (.getfield 65, 3) := by decide +kernel
theorem d_Reader_bogus_4 : decode b_Reader_bogus 4 = .ok (.iconst 3, 1) := by decide +kernel
theorem d_Reader_bogus_5 : decode b_Reader_bogus 5 = .ok (.invokevirtual 170, 3) := by decide +kernel
theorem d_Reader_bogus_8 : decode b_Reader_bogus 8 = .ok (.getstatic 173, 3) := by decide +kernel
theorem d_Reader_bogus_11 : decode b_Reader_bogus 11 = .ok (.areturn, 1) := by decide +kernel
theorem d_Reader_tag_0 : decode b_Reader_tag 0 = .ok (.iload_n 1, 1) := by decide +kernel
theorem d_Reader_tag_1 : decode b_Reader_tag 1 = .ok (.invokestatic 192, 3) := by decide +kernel
theorem d_Reader_tag_4 : decode b_Reader_tag 4 = .ok (.ifCond .eq 15, 3) := by decide +kernel
theorem d_Reader_tag_7 : decode b_Reader_tag 7 = .ok (.aload_n 0, 1) := by decide +kernel
theorem d_Reader_tag_8 : decode b_Reader_tag 8 = .ok (.getfield 65, 3) := by decide +kernel
theorem d_Reader_tag_11 : decode b_Reader_tag 11 = .ok (.iconst 1, 1) := by decide +kernel
theorem d_Reader_tag_12 : decode b_Reader_tag 12 = .ok (.invokevirtual 170, 3) := by decide +kernel
theorem d_Reader_tag_15 : decode b_Reader_tag 15 = .ok (.getstatic 196, 3) := by decide +kernel
theorem d_Reader_tag_18 : decode b_Reader_tag 18 = .ok (.areturn, 1) := by decide +kernel
theorem d_Reader_tag_19 : decode b_Reader_tag 19 = .ok (.iload_n 1, 1) := by decide +kernel
theorem d_Reader_tag_20 : decode b_Reader_tag 20 = .ok (.lookupswitch 97 #[((-1), 79), (33, 44), (47, 55), (63, 66)], 44) := by decide +kernel
theorem d_Reader_tag_64 : decode b_Reader_tag 64 = .ok (.aload_n 0, 1) := by decide +kernel
theorem d_Reader_tag_65 : decode b_Reader_tag 65 = .ok (.getfield 51, 3) := by decide +kernel
theorem d_Reader_tag_68 : decode b_Reader_tag 68 = .ok (.getstatic 199, 3) := by decide +kernel
theorem d_Reader_tag_71 : decode b_Reader_tag 71 = .ok (.invokevirtual 183, 3) := by decide +kernel
theorem d_Reader_tag_74 : decode b_Reader_tag 74 = .ok (.areturn, 1) := by decide +kernel
theorem d_Reader_tag_75 : decode b_Reader_tag 75 = .ok (.aload_n 0, 1) := by decide +kernel
theorem d_Reader_tag_76 : decode b_Reader_tag 76 = .ok (.getfield 51, 3) := by decide +kernel
theorem d_Reader_tag_79 : decode b_Reader_tag 79 = .ok (.getstatic 202, 3) := by decide +kernel
theorem d_Reader_tag_82 : decode b_Reader_tag 82 = .ok (.invokevirtual 183, 3) := by decide +kernel
theorem d_Reader_tag_85 : decode b_Reader_tag 85 = .ok (.areturn, 1) := by decide +kernel
theorem d_Reader_tag_86 : decode b_Reader_tag 86 = .ok (.aload_n 0, 1) := by decide +kernel
theorem d_Reader_tag_87 : decode b_Reader_tag 87 = .ok (.getfield 51, 3) := by decide +kernel
theorem d_Reader_tag_90 : decode b_Reader_tag 90 = .ok (.iconst 2, 1) := by decide +kernel
theorem d_Reader_tag_91 : decode b_Reader_tag 91 = .ok (.invokevirtual 186, 3) := by decide +kernel
theorem d_Reader_tag_94 : decode b_Reader_tag 94 = .ok (.aload_n 0, 1) := by decide +kernel
theorem d_Reader_tag_95 : decode b_Reader_tag 95 = .ok (.invokevirtual 205, 3) := by decide +kernel
theorem d_Reader_tag_98 : decode b_Reader_tag 98 = .ok (.areturn, 1) := by decide +kernel
theorem d_Reader_tag_99 : decode b_Reader_tag 99 = .ok (.aload_n 0, 1) := by decide +kernel
theorem d_Reader_tag_100 : decode b_Reader_tag 100 = .ok (.getfield 51, 3) := by decide +kernel
theorem d_Reader_tag_103 : decode b_Reader_tag 103 = .ok (.iconst 3, 1) := by decide +kernel
theorem d_Reader_tag_104 : decode b_Reader_tag 104 = .ok (.invokevirtual 186, 3) := by decide +kernel
theorem d_Reader_tag_107 : decode b_Reader_tag 107 = .ok (.aload_n 0, 1) := by decide +kernel
theorem d_Reader_tag_108 : decode b_Reader_tag 108 = .ok (.bipush 60, 2) := by decide +kernel
theorem d_Reader_tag_110 : decode b_Reader_tag 110 = .ok (.invokevirtual 189, 3) := by decide +kernel
theorem d_Reader_tag_113 : decode b_Reader_tag 113 = .ok (.getstatic 48, 3) := by decide +kernel
theorem d_Reader_tag_116 : decode b_Reader_tag 116 = .ok (.areturn, 1) := by decide +kernel
theorem d_Reader_tag_117 : decode b_Reader_tag 117 = .ok (.aload_n 0, 1) := by decide +kernel
theorem d_Reader_tag_118 : decode b_Reader_tag 118 = .ok (.getfield 51, 3) := by decide +kernel
theorem d_Reader_tag_121 : decode b_Reader_tag 121 = .ok (.iconst 4, 1) := by decide +kernel
theorem d_Reader_tag_122 : decode b_Reader_tag 122 = .ok (.invokevirtual 186, 3) := by decide +kernel
theorem d_Reader_tag_125 : decode b_Reader_tag 125 = .ok (.aload_n 0, 1) := by decide +kernel
theorem d_Reader_tag_126 : decode b_Reader_tag 126 = .ok (.bipush 60, 2) := by decide +kernel
theorem d_Reader_tag_128 : decode b_Reader_tag 128 = .ok (.invokevirtual 189, 3) := by decide +kernel
theorem d_Reader_tag_131 : decode b_Reader_tag 131 = .ok (.getstatic 41, 3) := by decide +kernel
theorem d_Reader_tag_134 : decode b_Reader_tag 134 = .ok (.areturn, 1) := by decide +kernel
theorem d_Reader_endTag_0 : decode b_Reader_endTag 0 = .ok (.iload_n 1, 1) := by decide +kernel
theorem d_Reader_endTag_1 : decode b_Reader_endTag 1 = .ok (.invokestatic 192, 3) := by decide +kernel
theorem d_Reader_endTag_4 : decode b_Reader_endTag 4 = .ok (.ifCond .eq 15, 3) := by decide +kernel
theorem d_Reader_endTag_7 : decode b_Reader_endTag 7 = .ok (.aload_n 0, 1) := by decide +kernel
theorem d_Reader_endTag_8 : decode b_Reader_endTag 8 = .ok (.getfield 65, 3) := by decide +kernel
theorem d_Reader_endTag_11 : decode b_Reader_endTag 11 = .ok (.iconst 2, 1) := by decide +kernel
theorem d_Reader_endTag_12 : decode b_Reader_endTag 12 = .ok (.invokevirtual 170, 3) := by decide +kernel
theorem d_Reader_endTag_15 : decode b_Reader_endTag 15 = .ok (.getstatic 196, 3) := by decide +kernel
theorem d_Reader_endTag_18 : decode b_Reader_endTag 18 = .ok (.areturn, 1) := by decide +kernel
theorem d_Reader_endTag_19 : decode b_Reader_endTag 19 = .ok (.iload_n 1, 1) := by decide +kernel
theorem d_Reader_endTag_20 : decode b_Reader_endTag 20 = .ok (.lookupswitch 71 #[((-1), 47), (62, 28)], 28) := by decide +kernel
theorem d_Reader_endTag_48 : decode b_Reader_endTag 48 = .ok (.aload_n 0, 1) := by decide +kernel
theorem d_Reader_endTag_49 : decode b_Reader_endTag 49 = .ok (.getfield 51, 3) := by decide +kernel
theorem d_Reader_endTag_52 : decode b_Reader_endTag 52 = .ok (.iconst 5, 1) := by decide +kernel
theorem d_Reader_endTag_53 : decode b_Reader_endTag 53 = .ok (.invokevirtual 186, 3) := by decide +kernel
theorem d_Reader_endTag_56 : decode b_Reader_endTag 56 = .ok (.aload_n 0, 1) := by decide +kernel
theorem d_Reader_endTag_57 : decode b_Reader_endTag 57 = .ok (.getfield 51, 3) := by decide +kernel
theorem d_Reader_endTag_60 : decode b_Reader_endTag 60 = .ok (.getstatic 41, 3) := by decide +kernel
theorem d_Reader_endTag_63 : decode b_Reader_endTag 63 = .ok (.invokevirtual 183, 3) := by decide +kernel
theorem d_Reader_endTag_66 : decode b_Reader_endTag 66 = .ok (.areturn, 1) := by decide +kernel
theorem d_Reader_endTag_67 : decode b_Reader_endTag 67 = .ok (.aload_n 0, 1) := by decide +kernel
theorem d_Reader_endTag_68 : decode b_Reader_endTag 68 = .ok (.getfield 51, 3) := by decide +kernel
theorem d_Reader_endTag_71 : decode b_Reader_endTag 71 = .ok (.iconst 3, 1) := by decide +kernel
theorem d_Reader_endTag_72 : decode b_Reader_endTag 72 = .ok (.invokevirtual 186, 3) := by decide +kernel
theorem d_Reader_endTag_75 : decode b_Reader_endTag 75 = .ok (.aload_n 0, 1) := by decide +kernel
theorem d_Reader_endTag_76 : decode b_Reader_endTag 76 = .ok (.bipush 60, 2) := by decide +kernel
theorem d_Reader_endTag_78 : decode b_Reader_endTag 78 = .ok (.invokevirtual 189, 3) := by decide +kernel
theorem d_Reader_endTag_81 : decode b_Reader_endTag 81 = .ok (.aload_n 0, 1) := by decide +kernel
theorem d_Reader_endTag_82 : decode b_Reader_endTag 82 = .ok (.bipush 47, 2) := by decide +kernel
theorem d_Reader_endTag_84 : decode b_Reader_endTag 84 = .ok (.invokevirtual 189, 3) := by decide +kernel
theorem d_Reader_endTag_87 : decode b_Reader_endTag 87 = .ok (.getstatic 48, 3) := by decide +kernel
theorem d_Reader_endTag_90 : decode b_Reader_endTag 90 = .ok (.areturn, 1) := by decide +kernel
theorem d_Reader_endTag_91 : decode b_Reader_endTag 91 = .ok (.aload_n 0, 1) := by decide +kernel
theorem d_Reader_endTag_92 : decode b_Reader_endTag 92 = .ok (.getfield 51, 3) := by decide +kernel
theorem d_Reader_endTag_95 : decode b_Reader_endTag 95 = .ok (.iconst 4, 1) := by decide +kernel
theorem d_Reader_endTag_96 : decode b_Reader_endTag 96 = .ok (.invokevirtual 186, 3) := by decide +kernel
theorem d_Reader_endTag_99 : decode b_Reader_endTag 99 = .ok (.aload_n 0, 1) := by decide +kernel
theorem d_Reader_endTag_100 : decode b_Reader_endTag 100 = .ok (.invokevirtual 205, 3) := by decide +kernel
theorem d_Reader_endTag_103 : decode b_Reader_endTag 103 = .ok (.areturn, 1) := by decide +kernel
theorem d_Reader_doctypeComes_0 : decode b_Reader_doctypeComes 0 = .ok (.iconst 0, 1) := by decide +kernel
theorem d_Reader_doctypeComes_1 : decode b_Reader_doctypeComes 1 = .ok (.istore_n 1, 1) := by decide +kernel
theorem d_Reader_doctypeComes_2 : decode b_Reader_doctypeComes 2 = .ok (.iload_n 1, 1) := by decide +kernel
theorem d_Reader_doctypeComes_3 : decode b_Reader_doctypeComes 3 = .ok (.ldc 224, 2) := by decide +kernel
theorem d_Reader_doctypeComes_5 : decode b_Reader_doctypeComes 5 = .ok (.invokevirtual 226, 3) := by decide +kernel
theorem d_Reader_doctypeComes_8 : decode b_Reader_doctypeComes 8 = .ok (.if_icmp .ge 41, 3) := by decide +kernel
theorem d_Reader_doctypeComes_11 : decode b_Reader_doctypeComes 11 = .ok (.aload_n 0, 1) := by decide +kernel
theorem d_Reader_doctypeComes_12 : decode b_Reader_doctypeComes 12 = .ok (.getfield 51, 3) := by decide +kernel
theorem d_Reader_doctypeComes_15 : decode b_Reader_doctypeComes 15 = .ok (.aload_n 0, 1) := by decide +kernel
theorem d_Reader_doctypeComes_16 : decode b_Reader_doctypeComes 16 = .ok (.getfield 51, 3) := by decide +kernel
theorem d_Reader_doctypeComes_19 : decode b_Reader_doctypeComes 19 = .ok (.invokevirtual 207, 3) := by decide +kernel
theorem d_Reader_doctypeComes_22 : decode b_Reader_doctypeComes 22 = .ok (.iload_n 1, 1) := by decide +kernel
theorem d_Reader_doctypeComes_23 : decode b_Reader_doctypeComes 23 = .ok (.iadd, 1) := by decide +kernel
theorem d_Reader_doctypeComes_24 : decode b_Reader_doctypeComes 24 = .ok (.invokevirtual 210, 3) := by decide +kernel
theorem d_Reader_doctypeComes_27 : decode b_Reader_doctypeComes 27 = .ok (.istore_n 2, 1) := by decide +kernel
theorem d_Reader_doctypeComes_28 : decode b_Reader_doctypeComes 28 = .ok (.iload_n 2, 1) := by decide +kernel
theorem d_Reader_doctypeComes_29 : decode b_Reader_doctypeComes 29 = .ok (.invokestatic 234, 3) := by decide +kernel
theorem d_Reader_doctypeComes_32 : decode b_Reader_doctypeComes 32 = .ok (.ldc 224, 2) := by decide +kernel
theorem d_Reader_doctypeComes_34 : decode b_Reader_doctypeComes 34 = .ok (.iload_n 1, 1) := by decide +kernel
theorem d_Reader_doctypeComes_35 : decode b_Reader_doctypeComes 35 = .ok (.invokevirtual 237, 3) := by decide +kernel
theorem d_Reader_doctypeComes_38 : decode b_Reader_doctypeComes 38 = .ok (.if_icmp .eq 5, 3) := by decide +kernel
theorem d_Reader_doctypeComes_41 : decode b_Reader_doctypeComes 41 = .ok (.iconst 0, 1) := by decide +kernel
theorem d_Reader_doctypeComes_42 : decode b_Reader_doctypeComes 42 = .ok (.ireturn, 1) := by decide +kernel
theorem d_Reader_doctypeComes_43 : decode b_Reader_doctypeComes 43 = .ok (.iinc 1 1, 3) := by decide +kernel
theorem d_Reader_doctypeComes_46 : decode b_Reader_doctypeComes 46 = .ok (.goto (-44), 3) := by decide +kernel
theorem d_Reader_doctypeComes_49 : decode b_Reader_doctypeComes 49 = .ok (.iconst 1, 1) := by decide +kernel
theorem d_Reader_doctypeComes_50 : decode b_Reader_doctypeComes 50 = .ok (.ireturn, 1) := by decide +kernel
theorem d_Reader_mark_0 : decode b_Reader_mark 0 = .ok (.iload_n 1, 1) := by decide +kernel
theorem d_Reader_mark_1 : decode b_Reader_mark 1 = .ok (.bipush 45, 2) := by decide +kernel
theorem d_Reader_mark_3 : decode b_Reader_mark 3 = .ok (.if_icmp .ne 44, 3) := by decide +kernel
theorem d_Reader_mark_6 : decode b_Reader_mark 6 = .ok (.aload_n 0, 1) := by decide +kernel
theorem d_Reader_mark_7 : decode b_Reader_mark 7 = .ok (.getfield 51, 3) := by decide +kernel
theorem d_Reader_mark_10 : decode b_Reader_mark 10 = .ok (.aload_n 0, 1) := by decide +kernel
theorem d_Reader_mark_11 : decode b_Reader_mark 11 = .ok (.getfield 51, 3) := by decide +kernel
theorem d_Reader_mark_14 : decode b_Reader_mark 14 = .ok (.invokevirtual 207, 3) := by decide +kernel
theorem d_Reader_mark_17 : decode b_Reader_mark 17 = .ok (.iconst 1, 1) := by decide +kernel
theorem d_Reader_mark_18 : decode b_Reader_mark 18 = .ok (.iadd, 1) := by decide +kernel
theorem d_Reader_mark_19 : decode b_Reader_mark 19 = .ok (.invokevirtual 210, 3) := by decide +kernel
theorem d_Reader_mark_22 : decode b_Reader_mark 22 = .ok (.bipush 45, 2) := by decide +kernel
theorem d_Reader_mark_24 : decode b_Reader_mark 24 = .ok (.if_icmp .ne 23, 3) := by decide +kernel
theorem d_Reader_mark_27 : decode b_Reader_mark 27 = .ok (.aload_n 0, 1) := by decide +kernel
theorem d_Reader_mark_28 : decode b_Reader_mark 28 = .ok (.getfield 51, 3) := by decide +kernel
theorem d_Reader_mark_31 : decode b_Reader_mark 31 = .ok (.iconst 2, 1) := by decide +kernel
theorem d_Reader_mark_32 : decode b_Reader_mark 32 = .ok (.invokevirtual 214, 3) := by decide +kernel
theorem d_Reader_mark_35 : decode b_Reader_mark 35 = .ok (.aload_n 0, 1) := by decide +kernel
theorem d_Reader_mark_36 : decode b_Reader_mark 36 = .ok (.getfield 65, 3) := by decide +kernel
theorem d_Reader_mark_39 : decode b_Reader_mark 39 = .ok (.iconst 3, 1) := by decide +kernel
theorem d_Reader_mark_40 : decode b_Reader_mark 40 = .ok (.invokevirtual 170, 3) := by decide +kernel
theorem d_Reader_mark_43 : decode b_Reader_mark 43 = .ok (.getstatic 217, 3) := by decide +kernel
theorem d_Reader_mark_46 : decode b_Reader_mark 46 = .ok (.areturn, 1) := by decide +kernel
theorem d_Reader_mark_47 : decode b_Reader_mark 47 = .ok (.aload_n 0, 1) := by decide +kernel
theorem d_Reader_mark_48 : decode b_Reader_mark 48 = .ok (.invokevirtual 220, 3) := by decide +kernel
theorem d_Reader_mark_51 : decode b_Reader_mark 51 = .ok (.ifCond .eq 19, 3) := by decide +kernel
theorem d_Reader_mark_54 : decode b_Reader_mark 54 = .ok (.aload_n 0, 1) := by decide +kernel
theorem d_Reader_mark_55 : decode b_Reader_mark 55 = .ok (.getfield 51, 3) := by decide +kernel
theorem d_Reader_mark_58 : decode b_Reader_mark 58 = .ok (.ldc 224, 2) := by decide +kernel
theorem d_Reader_mark_60 : decode b_Reader_mark 60 = .ok (.invokevirtual 226, 3) := by decide +kernel
theorem d_Reader_mark_63 : decode b_Reader_mark 63 = .ok (.invokevirtual 214, 3) := by decide +kernel
theorem d_Reader_mark_66 : decode b_Reader_mark 66 = .ok (.getstatic 231, 3) := by decide +kernel
theorem d_Reader_mark_69 : decode b_Reader_mark 69 = .ok (.areturn, 1) := by decide +kernel
theorem d_Reader_mark_70 : decode b_Reader_mark 70 = .ok (.aload_n 0, 1) := by decide +kernel
theorem d_Reader_mark_71 : decode b_Reader_mark 71 = .ok (.getfield 51, 3) := by decide +kernel
theorem d_Reader_mark_74 : decode b_Reader_mark 74 = .ok (.bipush 16, 2) := by decide +kernel
theorem d_Reader_mark_76 : decode b_Reader_mark 76 = .ok (.invokevirtual 186, 3) := by decide +kernel
theorem d_Reader_mark_79 : decode b_Reader_mark 79 = .ok (.aload_n 0, 1) := by decide +kernel
theorem d_Reader_mark_80 : decode b_Reader_mark 80 = .ok (.invokevirtual 205, 3) := by decide +kernel
theorem d_Reader_mark_83 : decode b_Reader_mark 83 = .ok (.areturn, 1) := by decide +kernel
theorem d_Reader_follow_0 : decode b_Reader_follow 0 = .ok (.getstatic 75, 3) := by decide +kernel
theorem d_Reader_follow_3 : decode b_Reader_follow 3 = .ok (.aload_n 1, 1) := by decide +kernel
theorem d_Reader_follow_4 : decode b_Reader_follow 4 = .ok (.invokevirtual 81, 3) := by decide +kernel
theorem d_Reader_follow_7 : decode b_Reader_follow 7 = .ok (.iaload, 1) := by decide +kernel
theorem d_Reader_follow_8 : decode b_Reader_follow 8 = .ok (.tableswitch 378 1 29 #[132, 138, 144, 150, 159, 167, 175, 183, 192, 201, 210, 219, 228, 237, 246, 255, 264, 270, 279, 288, 297, 306, 315, 324, 333, 342, 351, 360, 369], 132) := by decide +kernel
theorem d_Reader_follow_140 : decode b_Reader_follow 140 = .ok (.aload_n 0, 1) := by decide +kernel
theorem d_Reader_follow_141 : decode b_Reader_follow 141 = .ok (.iload_n 2, 1) := by decide +kernel
theorem d_Reader_follow_142 : decode b_Reader_follow 142 = .ok (.invokevirtual 84, 3) := by decide +kernel
theorem d_Reader_follow_145 : decode b_Reader_follow 145 = .ok (.areturn, 1) := by decide +kernel
theorem d_Reader_follow_146 : decode b_Reader_follow 146 = .ok (.aload_n 0, 1) := by decide +kernel
theorem d_Reader_follow_147 : decode b_Reader_follow 147 = .ok (.iload_n 2, 1) := by decide +kernel
theorem d_Reader_follow_148 : decode b_Reader_follow 148 = .ok (.invokevirtual 88, 3) := by decide +kernel
theorem d_Reader_follow_151 : decode b_Reader_follow 151 = .ok (.areturn, 1) := by decide +kernel
theorem d_Reader_follow_152 : decode b_Reader_follow 152 = .ok (.aload_n 0, 1) := by decide +kernel
theorem d_Reader_follow_153 : decode b_Reader_follow 153 = .ok (.iload_n 2, 1) := by decide +kernel
theorem d_Reader_follow_154 : decode b_Reader_follow 154 = .ok (.invokevirtual 91, 3) := by decide +kernel
theorem d_Reader_follow_157 : decode b_Reader_follow 157 = .ok (.areturn, 1) := by decide +kernel
theorem d_Reader_follow_158 : decode b_Reader_follow 158 = .ok (.aload_n 0, 1) := by decide +kernel
theorem d_Reader_follow_159 : decode b_Reader_follow 159 = .ok (.getfield 12, 3) := by decide +kernel
theorem d_Reader_follow_162 : decode b_Reader_follow 162 = .ok (.iload_n 2, 1) := by decide +kernel
theorem d_Reader_follow_163 : decode b_Reader_follow 163 = .ok (.invokevirtual 94, 3) := by decide +kernel
theorem d_Reader_follow_166 : decode b_Reader_follow 166 = .ok (.areturn, 1) := by decide +kernel
theorem d_Reader_follow_167 : decode b_Reader_follow 167 = .ok (.aload_n 0, 1) := by decide +kernel
theorem d_Reader_follow_168 : decode b_Reader_follow 168 = .ok (.getfield 12, 3) := by decide +kernel
theorem d_Reader_follow_171 : decode b_Reader_follow 171 = .ok (.invokevirtual 97, 3) := by decide +kernel
theorem d_Reader_follow_174 : decode b_Reader_follow 174 = .ok (.areturn, 1) := by decide +kernel
theorem d_Reader_follow_175 : decode b_Reader_follow 175 = .ok (.aload_n 0, 1) := by decide +kernel
theorem d_Reader_follow_176 : decode b_Reader_follow 176 = .ok (.getfield 12, 3) := by decide +kernel
theorem d_Reader_follow_179 : decode b_Reader_follow 179 = .ok (.invokevirtual 101, 3) := by decide +kernel
theorem d_Reader_follow_182 : decode b_Reader_follow 182 = .ok (.areturn, 1) := by decide +kernel
theorem d_Reader_follow_183 : decode b_Reader_follow 183 = .ok (.aload_n 0, 1) := by decide +kernel
theorem d_Reader_follow_184 : decode b_Reader_follow 184 = .ok (.getfield 12, 3) := by decide +kernel
theorem d_Reader_follow_187 : decode b_Reader_follow 187 = .ok (.invokevirtual 104, 3) := by decide +kernel
theorem d_Reader_follow_190 : decode b_Reader_follow 190 = .ok (.areturn, 1) := by decide +kernel
theorem d_Reader_follow_191 : decode b_Reader_follow 191 = .ok (.aload_n 0, 1) := by decide +kernel
theorem d_Reader_follow_192 : decode b_Reader_follow 192 = .ok (.getfield 23, 3) := by decide +kernel
theorem d_Reader_follow_195 : decode b_Reader_follow 195 = .ok (.iload_n 2, 1) := by decide +kernel
theorem d_Reader_follow_196 : decode b_Reader_follow 196 = .ok (.invokevirtual 107, 3) := by decide +kernel
theorem d_Reader_follow_199 : decode b_Reader_follow 199 = .ok (.areturn, 1) := by decide +kernel
theorem d_Reader_follow_200 : decode b_Reader_follow 200 = .ok (.aload_n 0, 1) := by decide +kernel
theorem d_Reader_follow_201 : decode b_Reader_follow 201 = .ok (.getfield 23, 3) := by decide +kernel
theorem d_Reader_follow_204 : decode b_Reader_follow 204 = .ok (.iload_n 2, 1) := by decide +kernel
theorem d_Reader_follow_205 : decode b_Reader_follow 205 = .ok (.invokevirtual 110, 3) := by decide +kernel
theorem d_Reader_follow_208 : decode b_Reader_follow 208 = .ok (.areturn, 1) := by decide +kernel
theorem d_Reader_follow_209 : decode b_Reader_follow 209 = .ok (.aload_n 0, 1) := by decide +kernel
theorem d_Reader_follow_210 : decode b_Reader_follow 210 = .ok (.getfield 23, 3) := by decide +kernel
theorem d_Reader_follow_213 : decode b_Reader_follow 213 = .ok (.iload_n 2, 1) := by decide +kernel
theorem d_Reader_follow_214 : decode b_Reader_follow 214 = .ok (.invokevirtual 113, 3) := by decide +kernel
theorem d_Reader_follow_217 : decode b_Reader_follow 217 = .ok (.areturn, 1) := by decide +kernel
theorem d_Reader_follow_218 : decode b_Reader_follow 218 = .ok (.aload_n 0, 1) := by decide +kernel
theorem d_Reader_follow_219 : decode b_Reader_follow 219 = .ok (.getfield 23, 3) := by decide +kernel
theorem d_Reader_follow_222 : decode b_Reader_follow 222 = .ok (.iload_n 2, 1) := by decide +kernel
theorem d_Reader_follow_223 : decode b_Reader_follow 223 = .ok (.invokevirtual 116, 3) := by decide +kernel
theorem d_Reader_follow_226 : decode b_Reader_follow 226 = .ok (.areturn, 1) := by decide +kernel
theorem d_Reader_follow_227 : decode b_Reader_follow 227 = .ok (.aload_n 0, 1) := by decide +kernel
theorem d_Reader_follow_228 : decode b_Reader_follow 228 = .ok (.getfield 23, 3) := by decide +kernel
theorem d_Reader_follow_231 : decode b_Reader_follow 231 = .ok (.iload_n 2, 1) := by decide +kernel
theorem d_Reader_follow_232 : decode b_Reader_follow 232 = .ok (.invokevirtual 119, 3) := by decide +kernel
theorem d_Reader_follow_235 : decode b_Reader_follow 235 = .ok (.areturn, 1) := by decide +kernel
theorem d_Reader_follow_236 : decode b_Reader_follow 236 = .ok (.aload_n 0, 1) := by decide +kernel
theorem d_Reader_follow_237 : decode b_Reader_follow 237 = .ok (.getfield 23, 3) := by decide +kernel
theorem d_Reader_follow_240 : decode b_Reader_follow 240 = .ok (.iload_n 2, 1) := by decide +kernel
theorem d_Reader_follow_241 : decode b_Reader_follow 241 = .ok (.invokevirtual 122, 3) := by decide +kernel
theorem d_Reader_follow_244 : decode b_Reader_follow 244 = .ok (.areturn, 1) := by decide +kernel
theorem d_Reader_follow_245 : decode b_Reader_follow 245 = .ok (.aload_n 0, 1) := by decide +kernel
theorem d_Reader_follow_246 : decode b_Reader_follow 246 = .ok (.getfield 23, 3) := by decide +kernel
theorem d_Reader_follow_249 : decode b_Reader_follow 249 = .ok (.iload_n 2, 1) := by decide +kernel
theorem d_Reader_follow_250 : decode b_Reader_follow 250 = .ok (.invokevirtual 125, 3) := by decide +kernel
theorem d_Reader_follow_253 : decode b_Reader_follow 253 = .ok (.areturn, 1) := by decide +kernel
theorem d_Reader_follow_254 : decode b_Reader_follow 254 = .ok (.aload_n 0, 1) := by decide +kernel
theorem d_Reader_follow_255 : decode b_Reader_follow 255 = .ok (.getfield 23, 3) := by decide +kernel
theorem d_Reader_follow_258 : decode b_Reader_follow 258 = .ok (.iload_n 2, 1) := by decide +kernel
theorem d_Reader_follow_259 : decode b_Reader_follow 259 = .ok (.invokevirtual 128, 3) := by decide +kernel
theorem d_Reader_follow_262 : decode b_Reader_follow 262 = .ok (.areturn, 1) := by decide +kernel
theorem d_Reader_follow_263 : decode b_Reader_follow 263 = .ok (.aload_n 0, 1) := by decide +kernel
theorem d_Reader_follow_264 : decode b_Reader_follow 264 = .ok (.getfield 23, 3) := by decide +kernel
theorem d_Reader_follow_267 : decode b_Reader_follow 267 = .ok (.iload_n 2, 1) := by decide +kernel
theorem d_Reader_follow_268 : decode b_Reader_follow 268 = .ok (.invokevirtual 131, 3) := by decide +kernel
theorem d_Reader_follow_271 : decode b_Reader_follow 271 = .ok (.areturn, 1) := by decide +kernel
theorem d_Reader_follow_272 : decode b_Reader_follow 272 = .ok (.aload_n 0, 1) := by decide +kernel
theorem d_Reader_follow_273 : decode b_Reader_follow 273 = .ok (.iload_n 2, 1) := by decide +kernel
theorem d_Reader_follow_274 : decode b_Reader_follow 274 = .ok (.invokevirtual 134, 3) := by decide +kernel
theorem d_Reader_follow_277 : decode b_Reader_follow 277 = .ok (.areturn, 1) := by decide +kernel
theorem d_Reader_follow_278 : decode b_Reader_follow 278 = .ok (.aload_n 0, 1) := by decide +kernel
theorem d_Reader_follow_279 : decode b_Reader_follow 279 = .ok (.getfield 30, 3) := by decide +kernel
theorem d_Reader_follow_282 : decode b_Reader_follow 282 = .ok (.iload_n 2, 1) := by decide +kernel
theorem d_Reader_follow_283 : decode b_Reader_follow 283 = .ok (.invokevirtual 137, 3) := by decide +kernel
theorem d_Reader_follow_286 : decode b_Reader_follow 286 = .ok (.areturn, 1) := by decide +kernel
theorem d_Reader_follow_287 : decode b_Reader_follow 287 = .ok (.aload_n 0, 1) := by decide +kernel
theorem d_Reader_follow_288 : decode b_Reader_follow 288 = .ok (.getfield 30, 3) := by decide +kernel
theorem d_Reader_follow_291 : decode b_Reader_follow 291 = .ok (.iload_n 2, 1) := by decide +kernel
theorem d_Reader_follow_292 : decode b_Reader_follow 292 = .ok (.invokevirtual 140, 3) := by decide +kernel
theorem d_Reader_follow_295 : decode b_Reader_follow 295 = .ok (.areturn, 1) := by decide +kernel
theorem d_Reader_follow_296 : decode b_Reader_follow 296 = .ok (.aload_n 0, 1) := by decide +kernel
theorem d_Reader_follow_297 : decode b_Reader_follow 297 = .ok (.getfield 30, 3) := by decide +kernel
theorem d_Reader_follow_300 : decode b_Reader_follow 300 = .ok (.iload_n 2, 1) := by decide +kernel
theorem d_Reader_follow_301 : decode b_Reader_follow 301 = .ok (.invokevirtual 141, 3) := by decide +kernel
theorem d_Reader_follow_304 : decode b_Reader_follow 304 = .ok (.areturn, 1) := by decide +kernel
theorem d_Reader_follow_305 : decode b_Reader_follow 305 = .ok (.aload_n 0, 1) := by decide +kernel
theorem d_Reader_follow_306 : decode b_Reader_follow 306 = .ok (.getfield 30, 3) := by decide +kernel
theorem d_Reader_follow_309 : decode b_Reader_follow 309 = .ok (.iload_n 2, 1) := by decide +kernel
theorem d_Reader_follow_310 : decode b_Reader_follow 310 = .ok (.invokevirtual 144, 3) := by decide +kernel
theorem d_Reader_follow_313 : decode b_Reader_follow 313 = .ok (.areturn, 1) := by decide +kernel
theorem d_Reader_follow_314 : decode b_Reader_follow 314 = .ok (.aload_n 0, 1) := by decide +kernel
theorem d_Reader_follow_315 : decode b_Reader_follow 315 = .ok (.getfield 30, 3) := by decide +kernel
theorem d_Reader_follow_318 : decode b_Reader_follow 318 = .ok (.iload_n 2, 1) := by decide +kernel
theorem d_Reader_follow_319 : decode b_Reader_follow 319 = .ok (.invokevirtual 147, 3) := by decide +kernel
theorem d_Reader_follow_322 : decode b_Reader_follow 322 = .ok (.areturn, 1) := by decide +kernel
theorem d_Reader_follow_323 : decode b_Reader_follow 323 = .ok (.aload_n 0, 1) := by decide +kernel
theorem d_Reader_follow_324 : decode b_Reader_follow 324 = .ok (.getfield 30, 3) := by decide +kernel
theorem d_Reader_follow_327 : decode b_Reader_follow 327 = .ok (.iload_n 2, 1) := by decide +kernel
theorem d_Reader_follow_328 : decode b_Reader_follow 328 = .ok (.invokevirtual 150, 3) := by decide +kernel
theorem d_Reader_follow_331 : decode b_Reader_follow 331 = .ok (.areturn, 1) := by decide +kernel
theorem d_Reader_follow_332 : decode b_Reader_follow 332 = .ok (.aload_n 0, 1) := by decide +kernel
theorem d_Reader_follow_333 : decode b_Reader_follow 333 = .ok (.getfield 30, 3) := by decide +kernel
theorem d_Reader_follow_336 : decode b_Reader_follow 336 = .ok (.iload_n 2, 1) := by decide +kernel
theorem d_Reader_follow_337 : decode b_Reader_follow 337 = .ok (.invokevirtual 153, 3) := by decide +kernel
theorem d_Reader_follow_340 : decode b_Reader_follow 340 = .ok (.areturn, 1) := by decide +kernel
theorem d_Reader_follow_341 : decode b_Reader_follow 341 = .ok (.aload_n 0, 1) := by decide +kernel
theorem d_Reader_follow_342 : decode b_Reader_follow 342 = .ok (.getfield 37, 3) := by decide +kernel
theorem d_Reader_follow_345 : decode b_Reader_follow 345 = .ok (.iload_n 2, 1) := by decide +kernel
theorem d_Reader_follow_346 : decode b_Reader_follow 346 = .ok (.invokevirtual 156, 3) := by decide +kernel
theorem d_Reader_follow_349 : decode b_Reader_follow 349 = .ok (.areturn, 1) := by decide +kernel
theorem d_Reader_follow_350 : decode b_Reader_follow 350 = .ok (.aload_n 0, 1) := by decide +kernel
theorem d_Reader_follow_351 : decode b_Reader_follow 351 = .ok (.getfield 37, 3) := by decide +kernel
theorem d_Reader_follow_354 : decode b_Reader_follow 354 = .ok (.iload_n 2, 1) := by decide +kernel
theorem d_Reader_follow_355 : decode b_Reader_follow 355 = .ok (.invokevirtual 157, 3) := by decide +kernel
theorem d_Reader_follow_358 : decode b_Reader_follow 358 = .ok (.areturn, 1) := by decide +kernel
theorem d_Reader_follow_359 : decode b_Reader_follow 359 = .ok (.aload_n 0, 1) := by decide +kernel
theorem d_Reader_follow_360 : decode b_Reader_follow 360 = .ok (.getfield 37, 3) := by decide +kernel
theorem d_Reader_follow_363 : decode b_Reader_follow 363 = .ok (.iload_n 2, 1) := by decide +kernel
theorem d_Reader_follow_364 : decode b_Reader_follow 364 = .ok (.invokevirtual 158, 3) := by decide +kernel
theorem d_Reader_follow_367 : decode b_Reader_follow 367 = .ok (.areturn, 1) := by decide +kernel
theorem d_Reader_follow_368 : decode b_Reader_follow 368 = .ok (.aload_n 0, 1) := by decide +kernel
theorem d_Reader_follow_369 : decode b_Reader_follow 369 = .ok (.getfield 37, 3) := by decide +kernel
theorem d_Reader_follow_372 : decode b_Reader_follow 372 = .ok (.iload_n 2, 1) := by decide +kernel
theorem d_Reader_follow_373 : decode b_Reader_follow 373 = .ok (.invokevirtual 159, 3) := by decide +kernel
theorem d_Reader_follow_376 : decode b_Reader_follow 376 = .ok (.areturn, 1) := by decide +kernel
theorem d_Reader_follow_377 : decode b_Reader_follow 377 = .ok (.aload_n 0, 1) := by decide +kernel
theorem d_Reader_follow_378 : decode b_Reader_follow 378 = .ok (.getfield 37, 3) := by decide +kernel
theorem d_Reader_follow_381 : decode b_Reader_follow 381 = .ok (.iload_n 2, 1) := by decide +kernel
theorem d_Reader_follow_382 : decode b_Reader_follow 382 = .ok (.invokevirtual 160, 3) := by decide +kernel
theorem d_Reader_follow_385 : decode b_Reader_follow 385 = .ok (.areturn, 1) := by decide +kernel
theorem d_Reader_follow_386 : decode b_Reader_follow 386 = .ok (.getstatic 48, 3) := by decide +kernel
theorem d_Reader_follow_389 : decode b_Reader_follow 389 = .ok (.areturn, 1) := by decide +kernel
theorem d_Reader_cut_0 : decode b_Reader_cut 0 = .ok (.getstatic 41, 3) := by decide +kernel
theorem d_Reader_cut_3 : decode b_Reader_cut 3 = .ok (.astore_n 1, 1) := by decide +kernel
theorem d_Reader_cut_4 : decode b_Reader_cut 4 = .ok (.iconst 0, 1) := by decide +kernel
theorem d_Reader_cut_5 : decode b_Reader_cut 5 = .ok (.istore_n 2, 1) := by decide +kernel
theorem d_Reader_cut_6 : decode b_Reader_cut 6 = .ok (.iload_n 2, 1) := by decide +kernel
theorem d_Reader_cut_7 : decode b_Reader_cut 7 = .ok (.ldc 47, 2) := by decide +kernel
theorem d_Reader_cut_9 : decode b_Reader_cut 9 = .ok (.if_icmp .ge 29, 3) := by decide +kernel
theorem d_Reader_cut_12 : decode b_Reader_cut 12 = .ok (.aload_n 1, 1) := by decide +kernel
theorem d_Reader_cut_13 : decode b_Reader_cut 13 = .ok (.getstatic 48, 3) := by decide +kernel
theorem d_Reader_cut_16 : decode b_Reader_cut 16 = .ok (.if_acmp .eq 22, 3) := by decide +kernel
theorem d_Reader_cut_19 : decode b_Reader_cut 19 = .ok (.aload_n 0, 1) := by decide +kernel
theorem d_Reader_cut_20 : decode b_Reader_cut 20 = .ok (.aload_n 1, 1) := by decide +kernel
theorem d_Reader_cut_21 : decode b_Reader_cut 21 = .ok (.aload_n 0, 1) := by decide +kernel
theorem d_Reader_cut_22 : decode b_Reader_cut 22 = .ok (.getfield 51, 3) := by decide +kernel
theorem d_Reader_cut_25 : decode b_Reader_cut 25 = .ok (.invokevirtual 55, 3) := by decide +kernel
theorem d_Reader_cut_28 : decode b_Reader_cut 28 = .ok (.invokevirtual 61, 3) := by decide +kernel
theorem d_Reader_cut_31 : decode b_Reader_cut 31 = .ok (.astore_n 1, 1) := by decide +kernel
theorem d_Reader_cut_32 : decode b_Reader_cut 32 = .ok (.iinc 2 1, 3) := by decide +kernel
theorem d_Reader_cut_35 : decode b_Reader_cut 35 = .ok (.goto (-29), 3) := by decide +kernel
theorem d_Reader_cut_38 : decode b_Reader_cut 38 = .ok (.aload_n 0, 1) := by decide +kernel
theorem d_Reader_cut_39 : decode b_Reader_cut 39 = .ok (.getfield 65, 3) := by decide +kernel
theorem d_Reader_cut_42 : decode b_Reader_cut 42 = .ok (.invokevirtual 69, 3) := by decide +kernel
theorem d_Reader_cut_45 : decode b_Reader_cut 45 = .ok (.return_, 1) := by decide +kernel
