theorem d_Source_open_0 : decode b_Source_open 0 = .ok (.aload_n 0, 1) := by decide +kernel
theorem d_Source_open_1 : decode b_Source_open 1 = .ok (.iconst 0, 1) := by decide +kernel
theorem d_Source_open_2 : decode b_Source_open 2 = .ok (.putfield 19, 3) := by decide +kernel
theorem d_Source_open_5 : decode b_Source_open 5 = .ok (.aload_n 0, 1) := by decide +kernel
theorem d_Source_open_6 : decode b_Source_open 6 = .ok (.iconst 0, 1) := by decide +kernel
theorem d_Source_open_7 : decode b_Source_open 7 = .ok (.putfield 15, 3) := by decide +kernel
theorem d_Source_open_10 : decode b_Source_open 10 = .ok (.aload_n 0, 1) := by decide +kernel
theorem d_Source_open_11 : decode b_Source_open 11 = .ok (.iconst 0, 1) := by decide +kernel
theorem d_Source_open_12 : decode b_Source_open 12 = .ok (.putfield 28, 3) := by decide +kernel
theorem d_Source_open_15 : decode b_Source_open 15 = .ok (.iconst 0, 1) := by decide +kernel
theorem d_Source_open_16 : decode b_Source_open 16 = .ok (.istore_n 3, 1) := by decide +kernel
theorem d_Source_open_17 : decode b_Source_open 17 = .ok (.iload_n 3, 1) := by decide +kernel
theorem d_Source_open_18 : decode b_Source_open 18 = .ok (.iload_n 2, 1) := by decide +kernel
theorem d_Source_open_19 : decode b_Source_open 19 = .ok (.if_icmp .ge 85, 3) := by decide +kernel
theorem d_Source_open_22 : decode b_Source_open 22 = .ok (.aload_n 1, 1) := by decide +kernel
theorem d_Source_open_23 : decode b_Source_open 23 = .ok (.iload_n 3, 1) := by decide +kernel
theorem d_Source_open_24 : decode b_Source_open 24 = .ok (.baload, 1) := by decide +kernel
theorem d_Source_open_25 : decode b_Source_open 25 = .ok (.bipush 13, 2) := by decide +kernel
theorem d_Source_open_27 : decode b_Source_open 27 = .ok (.if_icmp .ne 24, 3) := by decide +kernel
theorem d_Source_open_30 : decode b_Source_open 30 = .ok (.iload_n 3, 1) := by decide +kernel
theorem d_Source_open_31 : decode b_Source_open 31 = .ok (.iconst 1, 1) := by decide +kernel
theorem d_Source_open_32 : decode b_Source_open 32 = .ok (.iadd, 1) := by decide +kernel
theorem d_Source_open_33 : decode b_Source_open 33 = .ok (.iload_n 2, 1) := by decide +kernel
theorem d_Source_open_34 : decode b_Source_open 34 = .ok (.if_icmp .ge 17, 3) := by decide +kernel
theorem d_Source_open_37 : decode b_Source_open 37 = .ok (.aload_n 1, 1) := by decide +kernel
theorem d_Source_open_38 : decode b_Source_open 38 = .ok (.iload_n 3, 1) := by decide +kernel
theorem d_Source_open_39 : decode b_Source_open 39 = .ok (.iconst 1, 1) := by decide +kernel
theorem d_Source_open_40 : decode b_Source_open 40 = .ok (.iadd, 1) := by decide +kernel
theorem d_Source_open_41 : decode b_Source_open 41 = .ok (.baload, 1) := by decide +kernel
theorem d_Source_open_42 : decode b_Source_open 42 = .ok (.bipush 10, 2) := by decide +kernel
theorem d_Source_open_44 : decode b_Source_open 44 = .ok (.if_icmp .ne 7, 3) := by decide +kernel
theorem d_Source_open_47 : decode b_Source_open 47 = .ok (.iconst 1, 1) := by decide +kernel
theorem d_Source_open_48 : decode b_Source_open 48 = .ok (.goto 4, 3) := by decide +kernel
theorem d_Source_open_51 : decode b_Source_open 51 = .ok (.iconst 0, 1) := by decide +kernel
theorem d_Source_open_52 : decode b_Source_open 52 = .ok (.istore 4, 2) := by decide +kernel
theorem d_Source_open_54 : decode b_Source_open 54 = .ok (.iload 4, 2) := by decide +kernel
theorem d_Source_open_56 : decode b_Source_open 56 = .ok (.ifCond .ne 42, 3) := by decide +kernel
theorem d_Source_open_59 : decode b_Source_open 59 = .ok (.aload_n 0, 1) := by decide +kernel
theorem d_Source_open_60 : decode b_Source_open 60 = .ok (.getfield 9, 3) := by decide +kernel
theorem d_Source_open_63 : decode b_Source_open 63 = .ok (.aload_n 0, 1) := by decide +kernel
theorem d_Source_open_64 : decode b_Source_open 64 = .ok (.getfield 15, 3) := by decide +kernel
theorem d_Source_open_67 : decode b_Source_open 67 = .ok (.aload_n 1, 1) := by decide +kernel
theorem d_Source_open_68 : decode b_Source_open 68 = .ok (.iload_n 3, 1) := by decide +kernel
theorem d_Source_open_69 : decode b_Source_open 69 = .ok (.baload, 1) := by decide +kernel
theorem d_Source_open_70 : decode b_Source_open 70 = .ok (.bipush 13, 2) := by decide +kernel
theorem d_Source_open_72 : decode b_Source_open 72 = .ok (.if_icmp .ne 8, 3) := by decide +kernel
theorem d_Source_open_75 : decode b_Source_open 75 = .ok (.bipush 10, 2) := by decide +kernel
theorem d_Source_open_77 : decode b_Source_open 77 = .ok (.goto 10, 3) := by decide +kernel
theorem d_Source_open_80 : decode b_Source_open 80 = .ok (.aload_n 1, 1) := by decide +kernel
theorem d_Source_open_81 : decode b_Source_open 81 = .ok (.iload_n 3, 1) := by decide +kernel
theorem d_Source_open_82 : decode b_Source_open 82 = .ok (.baload, 1) := by decide +kernel
theorem d_Source_open_83 : decode b_Source_open 83 = .ok (.sipush 255, 3) := by decide +kernel
theorem d_Source_open_86 : decode b_Source_open 86 = .ok (.iand, 1) := by decide +kernel
theorem d_Source_open_87 : decode b_Source_open 87 = .ok (.iastore, 1) := by decide +kernel
theorem d_Source_open_88 : decode b_Source_open 88 = .ok (.aload_n 0, 1) := by decide +kernel
theorem d_Source_open_89 : decode b_Source_open 89 = .ok (.dup, 1) := by decide +kernel
theorem d_Source_open_90 : decode b_Source_open 90 = .ok (.getfield 15, 3) := by decide +kernel
theorem d_Source_open_93 : decode b_Source_open 93 = .ok (.iconst 1, 1) := by decide +kernel
theorem d_Source_open_94 : decode b_Source_open 94 = .ok (.iadd, 1) := by decide +kernel
theorem d_Source_open_95 : decode b_Source_open 95 = .ok (.putfield 15, 3) := by decide +kernel
theorem d_Source_open_98 : decode b_Source_open 98 = .ok (.iinc 3 1, 3) := by decide +kernel
theorem d_Source_open_101 : decode b_Source_open 101 = .ok (.goto (-84), 3) := by decide +kernel
theorem d_Source_open_104 : decode b_Source_open 104 = .ok (.return_, 1) := by decide +kernel
theorem d_Source_character_0 : decode b_Source_character 0 = .ok (.iload_n 1, 1) := by decide +kernel
theorem d_Source_character_1 : decode b_Source_character 1 = .ok (.ifCond .lt 20, 3) := by decide +kernel
theorem d_Source_character_4 : decode b_Source_character 4 = .ok (.iload_n 1, 1) := by decide +kernel
theorem d_Source_character_5 : decode b_Source_character 5 = .ok (.aload_n 0, 1) := by decide +kernel
theorem d_Source_character_6 : decode b_Source_character 6 = .ok (.getfield 15, 3) := by decide +kernel
theorem d_Source_character_9 : decode b_Source_character 9 = .ok (.if_icmp .ge 12, 3) := by decide +kernel
theorem d_Source_character_12 : decode b_Source_character 12 = .ok (.aload_n 0, 1) := by decide +kernel
theorem d_Source_character_13 : decode b_Source_character 13 = .ok (.getfield 9, 3) := by decide +kernel
theorem d_Source_character_16 : decode b_Source_character 16 = .ok (.iload_n 1, 1) := by decide +kernel
theorem d_Source_character_17 : decode b_Source_character 17 = .ok (.iaload, 1) := by decide +kernel
theorem d_Source_character_18 : decode b_Source_character 18 = .ok (.goto 4, 3) := by decide +kernel
theorem d_Source_character_21 : decode b_Source_character 21 = .ok (.iconst (-1), 1) := by decide +kernel
theorem d_Source_character_22 : decode b_Source_character 22 = .ok (.ireturn, 1) := by decide +kernel
theorem d_Source_next_0 : decode b_Source_next 0 = .ok (.aload_n 0, 1) := by decide +kernel
theorem d_Source_next_1 : decode b_Source_next 1 = .ok (.aload_n 0, 1) := by decide +kernel
theorem d_Source_next_2 : decode b_Source_next 2 = .ok (.getfield 19, 3) := by decide +kernel
theorem d_Source_next_5 : decode b_Source_next 5 = .ok (.invokevirtual 31, 3) := by decide +kernel
theorem d_Source_next_8 : decode b_Source_next 8 = .ok (.ireturn, 1) := by decide +kernel
theorem d_Source_then_0 : decode b_Source_then 0 = .ok (.aload_n 0, 1) := by decide +kernel
theorem d_Source_then_1 : decode b_Source_then 1 = .ok (.getfield 19, 3) := by decide +kernel
theorem d_Source_then_4 : decode b_Source_then 4 = .ok (.aload_n 0, 1) := by decide +kernel
theorem d_Source_then_5 : decode b_Source_then 5 = .ok (.getfield 15, 3) := by decide +kernel
theorem d_Source_then_8 : decode b_Source_then 8 = .ok (.if_icmp .ge 13, 3) := by decide +kernel
theorem d_Source_then_11 : decode b_Source_then 11 = .ok (.aload_n 0, 1) := by decide +kernel
theorem d_Source_then_12 : decode b_Source_then 12 = .ok (.dup, 1) := by decide +kernel
theorem d_Source_then_13 : decode b_Source_then 13 = .ok (.getfield 19, 3) := by decide +kernel
theorem d_Source_then_16 : decode b_Source_then 16 = .ok (.iconst 1, 1) := by decide +kernel
theorem d_Source_then_17 : decode b_Source_then 17 = .ok (.iadd, 1) := by decide +kernel
theorem d_Source_then_18 : decode b_Source_then 18 = .ok (.putfield 19, 3) := by decide +kernel
theorem d_Source_then_21 : decode b_Source_then 21 = .ok (.aload_n 1, 1) := by decide +kernel
theorem d_Source_then_22 : decode b_Source_then 22 = .ok (.areturn, 1) := by decide +kernel
theorem d_Source_wrong_0 : decode b_Source_wrong 0 = .ok (.aload_n 0, 1) := by decide +kernel
theorem d_Source_wrong_1 : decode b_Source_wrong 1 = .ok (.getfield 28, 3) := by decide +kernel
theorem d_Source_wrong_4 : decode b_Source_wrong 4 = .ok (.sipush 1203, 3) := by decide +kernel
theorem d_Source_wrong_7 : decode b_Source_wrong 7 = .ok (.if_icmp .ge 36, 3) := by decide +kernel
theorem d_Source_wrong_10 : decode b_Source_wrong 10 = .ok (.aload_n 0, 1) := by decide +kernel
theorem d_Source_wrong_11 : decode b_Source_wrong 11 = .ok (.getfield 22, 3) := by decide +kernel
theorem d_Source_wrong_14 : decode b_Source_wrong 14 = .ok (.aload_n 0, 1) := by decide +kernel
theorem d_Source_wrong_15 : decode b_Source_wrong 15 = .ok (.getfield 28, 3) := by decide +kernel
theorem d_Source_wrong_18 : decode b_Source_wrong 18 = .ok (.iload_n 1, 1) := by decide +kernel
theorem d_Source_wrong_19 : decode b_Source_wrong 19 = .ok (.iastore, 1) := by decide +kernel
theorem d_Source_wrong_20 : decode b_Source_wrong 20 = .ok (.aload_n 0, 1) := by decide +kernel
theorem d_Source_wrong_21 : decode b_Source_wrong 21 = .ok (.getfield 25, 3) := by decide +kernel
theorem d_Source_wrong_24 : decode b_Source_wrong 24 = .ok (.aload_n 0, 1) := by decide +kernel
theorem d_Source_wrong_25 : decode b_Source_wrong 25 = .ok (.getfield 28, 3) := by decide +kernel
theorem d_Source_wrong_28 : decode b_Source_wrong 28 = .ok (.aload_n 0, 1) := by decide +kernel
theorem d_Source_wrong_29 : decode b_Source_wrong 29 = .ok (.getfield 19, 3) := by decide +kernel
theorem d_Source_wrong_32 : decode b_Source_wrong 32 = .ok (.iastore, 1) := by decide +kernel
theorem d_Source_wrong_33 : decode b_Source_wrong 33 = .ok (.aload_n 0, 1) := by decide +kernel
theorem d_Source_wrong_34 : decode b_Source_wrong 34 = .ok (.dup, 1) := by decide +kernel
theorem d_Source_wrong_35 : decode b_Source_wrong 35 = .ok (.getfield 28, 3) := by decide +kernel
theorem d_Source_wrong_38 : decode b_Source_wrong 38 = .ok (.iconst 1, 1) := by decide +kernel
theorem d_Source_wrong_39 : decode b_Source_wrong 39 = .ok (.iadd, 1) := by decide +kernel
theorem d_Source_wrong_40 : decode b_Source_wrong 40 = .ok (.putfield 28, 3) := by decide +kernel
theorem d_Source_wrong_43 : decode b_Source_wrong 43 = .ok (.return_, 1) := by decide +kernel
theorem d_Source_place_0 : decode b_Source_place 0 = .ok (.aload_n 0, 1) := by decide +kernel
theorem d_Source_place_1 : decode b_Source_place 1 = .ok (.getfield 19, 3) := by decide +kernel
theorem d_Source_place_4 : decode b_Source_place 4 = .ok (.ireturn, 1) := by decide +kernel
theorem d_Source_skip_0 : decode b_Source_skip 0 = .ok (.aload_n 0, 1) := by decide +kernel
theorem d_Source_skip_1 : decode b_Source_skip 1 = .ok (.aload_n 0, 1) := by decide +kernel
theorem d_Source_skip_2 : decode b_Source_skip 2 = .ok (.getfield 19, 3) := by decide +kernel
theorem d_Source_skip_5 : decode b_Source_skip 5 = .ok (.iload_n 1, 1) := by decide +kernel
theorem d_Source_skip_6 : decode b_Source_skip 6 = .ok (.iadd, 1) := by decide +kernel
theorem d_Source_skip_7 : decode b_Source_skip 7 = .ok (.aload_n 0, 1) := by decide +kernel
theorem d_Source_skip_8 : decode b_Source_skip 8 = .ok (.getfield 15, 3) := by decide +kernel
theorem d_Source_skip_11 : decode b_Source_skip 11 = .ok (.invokestatic 35, 3) := by decide +kernel
theorem d_Source_skip_14 : decode b_Source_skip 14 = .ok (.putfield 19, 3) := by decide +kernel
theorem d_Source_skip_17 : decode b_Source_skip 17 = .ok (.return_, 1) := by decide +kernel
theorem d_Source_faultCount_0 : decode b_Source_faultCount 0 = .ok (.aload_n 0, 1) := by decide +kernel
theorem d_Source_faultCount_1 : decode b_Source_faultCount 1 = .ok (.getfield 28, 3) := by decide +kernel
theorem d_Source_faultCount_4 : decode b_Source_faultCount 4 = .ok (.ireturn, 1) := by decide +kernel
theorem d_Source_faultCode_0 : decode b_Source_faultCode 0 = .ok (.aload_n 0, 1) := by decide +kernel
theorem d_Source_faultCode_1 : decode b_Source_faultCode 1 = .ok (.getfield 22, 3) := by decide +kernel
theorem d_Source_faultCode_4 : decode b_Source_faultCode 4 = .ok (.iload_n 1, 1) := by decide +kernel
theorem d_Source_faultCode_5 : decode b_Source_faultCode 5 = .ok (.iaload, 1) := by decide +kernel
theorem d_Source_faultCode_6 : decode b_Source_faultCode 6 = .ok (.ireturn, 1) := by decide +kernel
theorem d_Source_faultPlace_0 : decode b_Source_faultPlace 0 = .ok (.aload_n 0, 1) := by decide +kernel
theorem d_Source_faultPlace_1 : decode b_Source_faultPlace 1 = .ok (.getfield 25, 3) := by decide +kernel
theorem d_Source_faultPlace_4 : decode b_Source_faultPlace 4 = .ok (.iload_n 1, 1) := by decide +kernel
theorem d_Source_faultPlace_5 : decode b_Source_faultPlace 5 = .ok (.iaload, 1) := by decide +kernel
theorem d_Source_faultPlace_6 : decode b_Source_faultPlace 6 = .ok (.ireturn, 1) := by decide +kernel
