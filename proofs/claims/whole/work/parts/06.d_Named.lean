theorem d_Named_lengthIn_0 : decode b_Named_lengthIn 0 = .ok (.aload_n 0, 1) := by decide +kernel
theorem d_Named_lengthIn_1 : decode b_Named_lengthIn 1 = .ok (.getfield 119, 3) := by decide +kernel
theorem d_Named_lengthIn_4 : decode b_Named_lengthIn 4 = .ok (.invokevirtual 131, 3) := by decide +kernel
theorem d_Named_lengthIn_7 : decode b_Named_lengthIn 7 = .ok (.istore_n 3, 1) := by decide +kernel
theorem d_Named_lengthIn_8 : decode b_Named_lengthIn 8 = .ok (.iconst 0, 1) := by decide +kernel
theorem d_Named_lengthIn_9 : decode b_Named_lengthIn 9 = .ok (.istore 4, 2) := by decide +kernel
theorem d_Named_lengthIn_11 : decode b_Named_lengthIn 11 = .ok (.iload 4, 2) := by decide +kernel
theorem d_Named_lengthIn_13 : decode b_Named_lengthIn 13 = .ok (.iload_n 3, 1) := by decide +kernel
theorem d_Named_lengthIn_14 : decode b_Named_lengthIn 14 = .ok (.if_icmp .ge 31, 3) := by decide +kernel
theorem d_Named_lengthIn_17 : decode b_Named_lengthIn 17 = .ok (.aload_n 1, 1) := by decide +kernel
theorem d_Named_lengthIn_18 : decode b_Named_lengthIn 18 = .ok (.iload_n 2, 1) := by decide +kernel
theorem d_Named_lengthIn_19 : decode b_Named_lengthIn 19 = .ok (.iload 4, 2) := by decide +kernel
theorem d_Named_lengthIn_21 : decode b_Named_lengthIn 21 = .ok (.iadd, 1) := by decide +kernel
theorem d_Named_lengthIn_22 : decode b_Named_lengthIn 22 = .ok (.invokevirtual 137, 3) := by decide +kernel
theorem d_Named_lengthIn_25 : decode b_Named_lengthIn 25 = .ok (.aload_n 0, 1) := by decide +kernel
theorem d_Named_lengthIn_26 : decode b_Named_lengthIn 26 = .ok (.getfield 119, 3) := by decide +kernel
theorem d_Named_lengthIn_29 : decode b_Named_lengthIn 29 = .ok (.iload 4, 2) := by decide +kernel
theorem d_Named_lengthIn_31 : decode b_Named_lengthIn 31 = .ok (.invokevirtual 143, 3) := by decide +kernel
theorem d_Named_lengthIn_34 : decode b_Named_lengthIn 34 = .ok (.if_icmp .eq 5, 3) := by decide +kernel
theorem d_Named_lengthIn_37 : decode b_Named_lengthIn 37 = .ok (.iconst 0, 1) := by decide +kernel
theorem d_Named_lengthIn_38 : decode b_Named_lengthIn 38 = .ok (.ireturn, 1) := by decide +kernel
theorem d_Named_lengthIn_39 : decode b_Named_lengthIn 39 = .ok (.iinc 4 1, 3) := by decide +kernel
theorem d_Named_lengthIn_42 : decode b_Named_lengthIn 42 = .ok (.goto (-31), 3) := by decide +kernel
theorem d_Named_lengthIn_45 : decode b_Named_lengthIn 45 = .ok (.aload_n 1, 1) := by decide +kernel
theorem d_Named_lengthIn_46 : decode b_Named_lengthIn 46 = .ok (.iload_n 2, 1) := by decide +kernel
theorem d_Named_lengthIn_47 : decode b_Named_lengthIn 47 = .ok (.iload_n 3, 1) := by decide +kernel
theorem d_Named_lengthIn_48 : decode b_Named_lengthIn 48 = .ok (.iadd, 1) := by decide +kernel
theorem d_Named_lengthIn_49 : decode b_Named_lengthIn 49 = .ok (.invokevirtual 137, 3) := by decide +kernel
theorem d_Named_lengthIn_52 : decode b_Named_lengthIn 52 = .ok (.bipush 59, 2) := by decide +kernel
theorem d_Named_lengthIn_54 : decode b_Named_lengthIn 54 = .ok (.if_icmp .ne 7, 3) := by decide +kernel
theorem d_Named_lengthIn_57 : decode b_Named_lengthIn 57 = .ok (.iload_n 3, 1) := by decide +kernel
theorem d_Named_lengthIn_58 : decode b_Named_lengthIn 58 = .ok (.iconst 1, 1) := by decide +kernel
theorem d_Named_lengthIn_59 : decode b_Named_lengthIn 59 = .ok (.iadd, 1) := by decide +kernel
theorem d_Named_lengthIn_60 : decode b_Named_lengthIn 60 = .ok (.ireturn, 1) := by decide +kernel
theorem d_Named_lengthIn_61 : decode b_Named_lengthIn 61 = .ok (.aload_n 0, 1) := by decide +kernel
theorem d_Named_lengthIn_62 : decode b_Named_lengthIn 62 = .ok (.getfield 127, 3) := by decide +kernel
theorem d_Named_lengthIn_65 : decode b_Named_lengthIn 65 = .ok (.ifCond .eq 7, 3) := by decide +kernel
theorem d_Named_lengthIn_68 : decode b_Named_lengthIn 68 = .ok (.iload_n 3, 1) := by decide +kernel
theorem d_Named_lengthIn_69 : decode b_Named_lengthIn 69 = .ok (.goto 4, 3) := by decide +kernel
theorem d_Named_lengthIn_72 : decode b_Named_lengthIn 72 = .ok (.iconst 0, 1) := by decide +kernel
theorem d_Named_lengthIn_73 : decode b_Named_lengthIn 73 = .ok (.ireturn, 1) := by decide +kernel
