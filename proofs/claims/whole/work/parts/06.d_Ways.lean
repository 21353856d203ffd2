theorem d_Ways_addKnown_0 : decode b_Ways_addKnown 0 = .ok (.iload_n 1, 1) := by decide +kernel
theorem d_Ways_addKnown_1 : decode b_Ways_addKnown 1 = .ok (.ifCond .ne 23, 3) := by decide +kernel
theorem d_Ways_addKnown_4 : decode b_Ways_addKnown 4 = .ok (.aload_n 0, 1) := by decide +kernel
theorem d_Ways_addKnown_5 : decode b_Ways_addKnown 5 = .ok (.getfield 9, 3) := by decide +kernel
theorem d_Ways_addKnown_8 : decode b_Ways_addKnown 8 = .ok (.iconst 1, 1) := by decide +kernel
theorem d_Ways_addKnown_9 : decode b_Ways_addKnown 9 = .ok (.invokevirtual 19, 3) := by decide +kernel
theorem d_Ways_addKnown_12 : decode b_Ways_addKnown 12 = .ok (.aload_n 0, 1) := by decide +kernel
theorem d_Ways_addKnown_13 : decode b_Ways_addKnown 13 = .ok (.getfield 15, 3) := by decide +kernel
theorem d_Ways_addKnown_16 : decode b_Ways_addKnown 16 = .ok (.ldc 25, 2) := by decide +kernel
theorem d_Ways_addKnown_18 : decode b_Ways_addKnown 18 = .ok (.invokevirtual 26, 3) := by decide +kernel
theorem d_Ways_addKnown_21 : decode b_Ways_addKnown 21 = .ok (.goto 11, 3) := by decide +kernel
theorem d_Ways_addKnown_24 : decode b_Ways_addKnown 24 = .ok (.aload_n 0, 1) := by decide +kernel
theorem d_Ways_addKnown_25 : decode b_Ways_addKnown 25 = .ok (.getfield 15, 3) := by decide +kernel
theorem d_Ways_addKnown_28 : decode b_Ways_addKnown 28 = .ok (.iload_n 1, 1) := by decide +kernel
theorem d_Ways_addKnown_29 : decode b_Ways_addKnown 29 = .ok (.invokevirtual 26, 3) := by decide +kernel
theorem d_Ways_addKnown_32 : decode b_Ways_addKnown 32 = .ok (.return_, 1) := by decide +kernel
theorem d_Ways_done_0 : decode b_Ways_done 0 = .ok (.aload_n 0, 1) := by decide +kernel
theorem d_Ways_done_1 : decode b_Ways_done 1 = .ok (.getfield 15, 3) := by decide +kernel
theorem d_Ways_done_4 : decode b_Ways_done 4 = .ok (.invokevirtual 31, 3) := by decide +kernel
theorem d_Ways_done_7 : decode b_Ways_done 7 = .ok (.aload_n 0, 1) := by decide +kernel
theorem d_Ways_done_8 : decode b_Ways_done 8 = .ok (.getfield 15, 3) := by decide +kernel
theorem d_Ways_done_11 : decode b_Ways_done 11 = .ok (.invokevirtual 34, 3) := by decide +kernel
theorem d_Ways_done_14 : decode b_Ways_done 14 = .ok (.aload_n 0, 1) := by decide +kernel
theorem d_Ways_done_15 : decode b_Ways_done 15 = .ok (.getfield 9, 3) := by decide +kernel
theorem d_Ways_done_18 : decode b_Ways_done 18 = .ok (.getstatic 37, 3) := by decide +kernel
theorem d_Ways_done_21 : decode b_Ways_done 21 = .ok (.invokevirtual 43, 3) := by decide +kernel
theorem d_Ways_done_24 : decode b_Ways_done 24 = .ok (.areturn, 1) := by decide +kernel
theorem d_Ways_toldAtEnd_0 : decode b_Ways_toldAtEnd 0 = .ok (.aload_n 0, 1) := by decide +kernel
theorem d_Ways_toldAtEnd_1 : decode b_Ways_toldAtEnd 1 = .ok (.getfield 15, 3) := by decide +kernel
theorem d_Ways_toldAtEnd_4 : decode b_Ways_toldAtEnd 4 = .ok (.invokevirtual 31, 3) := by decide +kernel
theorem d_Ways_toldAtEnd_7 : decode b_Ways_toldAtEnd 7 = .ok (.aload_n 0, 1) := by decide +kernel
theorem d_Ways_toldAtEnd_8 : decode b_Ways_toldAtEnd 8 = .ok (.getfield 15, 3) := by decide +kernel
theorem d_Ways_toldAtEnd_11 : decode b_Ways_toldAtEnd 11 = .ok (.invokevirtual 34, 3) := by decide +kernel
theorem d_Ways_toldAtEnd_14 : decode b_Ways_toldAtEnd 14 = .ok (.getstatic 47, 3) := by decide +kernel
theorem d_Ways_toldAtEnd_17 : decode b_Ways_toldAtEnd 17 = .ok (.areturn, 1) := by decide +kernel
