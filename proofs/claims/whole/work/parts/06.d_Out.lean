theorem d_Out_length_0 : decode b_Out_length 0 = .ok (.aload_n 0, 1) := by decide +kernel
theorem d_Out_length_1 : decode b_Out_length 1 = .ok (.getfield 15, 3) := by decide +kernel
theorem d_Out_length_4 : decode b_Out_length 4 = .ok (.ireturn, 1) := by decide +kernel
theorem d_Out_copyTo_0 : decode b_Out_copyTo 0 = .ok (.aload_n 0, 1) := by decide +kernel
theorem d_Out_copyTo_1 : decode b_Out_copyTo 1 = .ok (.getfield 11, 3) := by decide +kernel
theorem d_Out_copyTo_4 : decode b_Out_copyTo 4 = .ok (.iconst 0, 1) := by decide +kernel
theorem d_Out_copyTo_5 : decode b_Out_copyTo 5 = .ok (.aload_n 1, 1) := by decide +kernel
theorem d_Out_copyTo_6 : decode b_Out_copyTo 6 = .ok (.iconst 0, 1) := by decide +kernel
theorem d_Out_copyTo_7 : decode b_Out_copyTo 7 = .ok (.aload_n 0, 1) := by decide +kernel
theorem d_Out_copyTo_8 : decode b_Out_copyTo 8 = .ok (.getfield 15, 3) := by decide +kernel
theorem d_Out_copyTo_11 : decode b_Out_copyTo 11 = .ok (.aload_n 1, 1) := by decide +kernel
theorem d_Out_copyTo_12 : decode b_Out_copyTo 12 = .ok (.arraylength, 1) := by decide +kernel
theorem d_Out_copyTo_13 : decode b_Out_copyTo 13 = .ok (.invokestatic 25, 3) := by decide +kernel
theorem d_Out_copyTo_16 : decode b_Out_copyTo 16 = .ok (.invokestatic 31, 3) := by decide +kernel
theorem d_Out_copyTo_19 : decode b_Out_copyTo 19 = .ok (.return_, 1) := by decide +kernel
theorem d_Out_putByte_0 : decode b_Out_putByte 0 = .ok (.aload_n 0, 1) := by decide +kernel
theorem d_Out_putByte_1 : decode b_Out_putByte 1 = .ok (.getfield 15, 3) := by decide +kernel
theorem d_Out_putByte_4 : decode b_Out_putByte 4 = .ok (.sipush 3200, 3) := by decide +kernel
theorem d_Out_putByte_7 : decode b_Out_putByte 7 = .ok (.if_icmp .ge 24, 3) := by decide +kernel
theorem d_Out_putByte_10 : decode b_Out_putByte 10 = .ok (.aload_n 0, 1) := by decide +kernel
theorem d_Out_putByte_11 : decode b_Out_putByte 11 = .ok (.getfield 11, 3) := by decide +kernel
theorem d_Out_putByte_14 : decode b_Out_putByte 14 = .ok (.aload_n 0, 1) := by decide +kernel
theorem d_Out_putByte_15 : decode b_Out_putByte 15 = .ok (.getfield 15, 3) := by decide +kernel
theorem d_Out_putByte_18 : decode b_Out_putByte 18 = .ok (.iload_n 1, 1) := by decide +kernel
theorem d_Out_putByte_19 : decode b_Out_putByte 19 = .ok (.i2b, 1) := by decide +kernel
theorem d_Out_putByte_20 : decode b_Out_putByte 20 = .ok (.bastore, 1) := by decide +kernel
theorem d_Out_putByte_21 : decode b_Out_putByte 21 = .ok (.aload_n 0, 1) := by decide +kernel
theorem d_Out_putByte_22 : decode b_Out_putByte 22 = .ok (.dup, 1) := by decide +kernel
theorem d_Out_putByte_23 : decode b_Out_putByte 23 = .ok (.getfield 15, 3) := by decide +kernel
theorem d_Out_putByte_26 : decode b_Out_putByte 26 = .ok (.iconst 1, 1) := by decide +kernel
theorem d_Out_putByte_27 : decode b_Out_putByte 27 = .ok (.iadd, 1) := by decide +kernel
theorem d_Out_putByte_28 : decode b_Out_putByte 28 = .ok (.putfield 15, 3) := by decide +kernel
theorem d_Out_putByte_31 : decode b_Out_putByte 31 = .ok (.return_, 1) := by decide +kernel
theorem d_Out_putString_0 : decode b_Out_putString 0 = .ok (.iconst 0, 1) := by decide +kernel
theorem d_Out_putString_1 : decode b_Out_putString 1 = .ok (.istore_n 2, 1) := by decide +kernel
theorem d_Out_putString_2 : decode b_Out_putString 2 = .ok (.iload_n 2, 1) := by decide +kernel
theorem d_Out_putString_3 : decode b_Out_putString 3 = .ok (.aload_n 1, 1) := by decide +kernel
theorem d_Out_putString_4 : decode b_Out_putString 4 = .ok (.invokevirtual 127, 3) := by decide +kernel
theorem d_Out_putString_7 : decode b_Out_putString 7 = .ok (.if_icmp .ge 18, 3) := by decide +kernel
theorem d_Out_putString_10 : decode b_Out_putString 10 = .ok (.aload_n 0, 1) := by decide +kernel
theorem d_Out_putString_11 : decode b_Out_putString 11 = .ok (.aload_n 1, 1) := by decide +kernel
theorem d_Out_putString_12 : decode b_Out_putString 12 = .ok (.iload_n 2, 1) := by decide +kernel
theorem d_Out_putString_13 : decode b_Out_putString 13 = .ok (.invokevirtual 131, 3) := by decide +kernel
theorem d_Out_putString_16 : decode b_Out_putString 16 = .ok (.invokevirtual 83, 3) := by decide +kernel
theorem d_Out_putString_19 : decode b_Out_putString 19 = .ok (.iinc 2 1, 3) := by decide +kernel
theorem d_Out_putString_22 : decode b_Out_putString 22 = .ok (.goto (-20), 3) := by decide +kernel
theorem d_Out_putString_25 : decode b_Out_putString 25 = .ok (.return_, 1) := by decide +kernel
theorem d_Out_putDigits_0 : decode b_Out_putDigits 0 = .ok (.ldc 126, 2) := by decide +kernel
theorem d_Out_putDigits_2 : decode b_Out_putDigits 2 = .ok (.istore_n 2, 1) := by decide +kernel
theorem d_Out_putDigits_3 : decode b_Out_putDigits 3 = .ok (.iload_n 2, 1) := by decide +kernel
theorem d_Out_putDigits_4 : decode b_Out_putDigits 4 = .ok (.ifCond .le 29, 3) := by decide +kernel
theorem d_Out_putDigits_7 : decode b_Out_putDigits 7 = .ok (.iload_n 1, 1) := by decide +kernel
theorem d_Out_putDigits_8 : decode b_Out_putDigits 8 = .ok (.iload_n 2, 1) := by decide +kernel
theorem d_Out_putDigits_9 : decode b_Out_putDigits 9 = .ok (.if_icmp .lt 16, 3) := by decide +kernel
theorem d_Out_putDigits_12 : decode b_Out_putDigits 12 = .ok (.aload_n 0, 1) := by decide +kernel
theorem d_Out_putDigits_13 : decode b_Out_putDigits 13 = .ok (.bipush 48, 2) := by decide +kernel
theorem d_Out_putDigits_15 : decode b_Out_putDigits 15 = .ok (.iload_n 1, 1) := by decide +kernel
theorem d_Out_putDigits_16 : decode b_Out_putDigits 16 = .ok (.iload_n 2, 1) := by decide +kernel
theorem d_Out_putDigits_17 : decode b_Out_putDigits 17 = .ok (.idiv, 1) := by decide +kernel
theorem d_Out_putDigits_18 : decode b_Out_putDigits 18 = .ok (.bipush 10, 2) := by decide +kernel
theorem d_Out_putDigits_20 : decode b_Out_putDigits 20 = .ok (.irem, 1) := by decide +kernel
theorem d_Out_putDigits_21 : decode b_Out_putDigits 21 = .ok (.iadd, 1) := by decide +kernel
theorem d_Out_putDigits_22 : decode b_Out_putDigits 22 = .ok (.invokevirtual 83, 3) := by decide +kernel
theorem d_Out_putDigits_25 : decode b_Out_putDigits 25 = .ok (.iload_n 2, 1) := by decide +kernel
theorem d_Out_putDigits_26 : decode b_Out_putDigits 26 = .ok (.bipush 10, 2) := by decide +kernel
theorem d_Out_putDigits_28 : decode b_Out_putDigits 28 = .ok (.idiv, 1) := by decide +kernel
theorem d_Out_putDigits_29 : decode b_Out_putDigits 29 = .ok (.istore_n 2, 1) := by decide +kernel
theorem d_Out_putDigits_30 : decode b_Out_putDigits 30 = .ok (.goto (-27), 3) := by decide +kernel
theorem d_Out_putDigits_33 : decode b_Out_putDigits 33 = .ok (.return_, 1) := by decide +kernel
theorem d_Out_putReferable_0 : decode b_Out_putReferable 0 = .ok (.iload_n 1, 1) := by decide +kernel
theorem d_Out_putReferable_1 : decode b_Out_putReferable 1 = .ok (.bipush 38, 2) := by decide +kernel
theorem d_Out_putReferable_3 : decode b_Out_putReferable 3 = .ok (.if_icmp .ne 12, 3) := by decide +kernel
theorem d_Out_putReferable_6 : decode b_Out_putReferable 6 = .ok (.aload_n 0, 1) := by decide +kernel
theorem d_Out_putReferable_7 : decode b_Out_putReferable 7 = .ok (.ldc 119, 2) := by decide +kernel
theorem d_Out_putReferable_9 : decode b_Out_putReferable 9 = .ok (.invokevirtual 67, 3) := by decide +kernel
theorem d_Out_putReferable_12 : decode b_Out_putReferable 12 = .ok (.goto 41, 3) := by decide +kernel
theorem d_Out_putReferable_15 : decode b_Out_putReferable 15 = .ok (.iload_n 1, 1) := by decide +kernel
theorem d_Out_putReferable_16 : decode b_Out_putReferable 16 = .ok (.bipush 13, 2) := by decide +kernel
theorem d_Out_putReferable_18 : decode b_Out_putReferable 18 = .ok (.if_icmp .eq 10, 3) := by decide +kernel
theorem d_Out_putReferable_21 : decode b_Out_putReferable 21 = .ok (.iload_n 1, 1) := by decide +kernel
theorem d_Out_putReferable_22 : decode b_Out_putReferable 22 = .ok (.sipush 255, 3) := by decide +kernel
theorem d_Out_putReferable_25 : decode b_Out_putReferable 25 = .ok (.if_icmp .le 23, 3) := by decide +kernel
theorem d_Out_putReferable_28 : decode b_Out_putReferable 28 = .ok (.aload_n 0, 1) := by decide +kernel
theorem d_Out_putReferable_29 : decode b_Out_putReferable 29 = .ok (.ldc 121, 2) := by decide +kernel
theorem d_Out_putReferable_31 : decode b_Out_putReferable 31 = .ok (.invokevirtual 67, 3) := by decide +kernel
theorem d_Out_putReferable_34 : decode b_Out_putReferable 34 = .ok (.aload_n 0, 1) := by decide +kernel
theorem d_Out_putReferable_35 : decode b_Out_putReferable 35 = .ok (.iload_n 1, 1) := by decide +kernel
theorem d_Out_putReferable_36 : decode b_Out_putReferable 36 = .ok (.invokevirtual 123, 3) := by decide +kernel
theorem d_Out_putReferable_39 : decode b_Out_putReferable 39 = .ok (.aload_n 0, 1) := by decide +kernel
theorem d_Out_putReferable_40 : decode b_Out_putReferable 40 = .ok (.bipush 59, 2) := by decide +kernel
theorem d_Out_putReferable_42 : decode b_Out_putReferable 42 = .ok (.invokevirtual 83, 3) := by decide +kernel
theorem d_Out_putReferable_45 : decode b_Out_putReferable 45 = .ok (.goto 8, 3) := by decide +kernel
theorem d_Out_putReferable_48 : decode b_Out_putReferable 48 = .ok (.aload_n 0, 1) := by decide +kernel
theorem d_Out_putReferable_49 : decode b_Out_putReferable 49 = .ok (.iload_n 1, 1) := by decide +kernel
theorem d_Out_putReferable_50 : decode b_Out_putReferable 50 = .ok (.invokevirtual 83, 3) := by decide +kernel
theorem d_Out_putReferable_53 : decode b_Out_putReferable 53 = .ok (.return_, 1) := by decide +kernel
theorem d_Out_putText_0 : decode b_Out_putText 0 = .ok (.iconst 0, 1) := by decide +kernel
theorem d_Out_putText_1 : decode b_Out_putText 1 = .ok (.istore_n 2, 1) := by decide +kernel
theorem d_Out_putText_2 : decode b_Out_putText 2 = .ok (.iload_n 2, 1) := by decide +kernel
theorem d_Out_putText_3 : decode b_Out_putText 3 = .ok (.aload_n 0, 1) := by decide +kernel
theorem d_Out_putText_4 : decode b_Out_putText 4 = .ok (.getfield 19, 3) := by decide +kernel
theorem d_Out_putText_7 : decode b_Out_putText 7 = .ok (.iload_n 1, 1) := by decide +kernel
theorem d_Out_putText_8 : decode b_Out_putText 8 = .ok (.invokevirtual 60, 3) := by decide +kernel
theorem d_Out_putText_11 : decode b_Out_putText 11 = .ok (.if_icmp .ge 39, 3) := by decide +kernel
theorem d_Out_putText_14 : decode b_Out_putText 14 = .ok (.aload_n 0, 1) := by decide +kernel
theorem d_Out_putText_15 : decode b_Out_putText 15 = .ok (.getfield 19, 3) := by decide +kernel
theorem d_Out_putText_18 : decode b_Out_putText 18 = .ok (.iload_n 1, 1) := by decide +kernel
theorem d_Out_putText_19 : decode b_Out_putText 19 = .ok (.iload_n 2, 1) := by decide +kernel
theorem d_Out_putText_20 : decode b_Out_putText 20 = .ok (.invokevirtual 62, 3) := by decide +kernel
theorem d_Out_putText_23 : decode b_Out_putText 23 = .ok (.istore_n 3, 1) := by decide +kernel
theorem d_Out_putText_24 : decode b_Out_putText 24 = .ok (.iload_n 3, 1) := by decide +kernel
theorem d_Out_putText_25 : decode b_Out_putText 25 = .ok (.bipush 60, 2) := by decide +kernel
theorem d_Out_putText_27 : decode b_Out_putText 27 = .ok (.if_icmp .ne 12, 3) := by decide +kernel
theorem d_Out_putText_30 : decode b_Out_putText 30 = .ok (.aload_n 0, 1) := by decide +kernel
theorem d_Out_putText_31 : decode b_Out_putText 31 = .ok (.ldc 65, 2) := by decide +kernel
theorem d_Out_putText_33 : decode b_Out_putText 33 = .ok (.invokevirtual 67, 3) := by decide +kernel
theorem d_Out_putText_36 : decode b_Out_putText 36 = .ok (.goto 8, 3) := by decide +kernel
theorem d_Out_putText_39 : decode b_Out_putText 39 = .ok (.aload_n 0, 1) := by decide +kernel
theorem d_Out_putText_40 : decode b_Out_putText 40 = .ok (.iload_n 3, 1) := by decide +kernel
theorem d_Out_putText_41 : decode b_Out_putText 41 = .ok (.invokevirtual 71, 3) := by decide +kernel
theorem d_Out_putText_44 : decode b_Out_putText 44 = .ok (.iinc 2 1, 3) := by decide +kernel
theorem d_Out_putText_47 : decode b_Out_putText 47 = .ok (.goto (-45), 3) := by decide +kernel
theorem d_Out_putText_50 : decode b_Out_putText 50 = .ok (.return_, 1) := by decide +kernel
theorem d_Out_putPlain_0 : decode b_Out_putPlain 0 = .ok (.aload_n 0, 1) := by decide +kernel
theorem d_Out_putPlain_1 : decode b_Out_putPlain 1 = .ok (.iload_n 1, 1) := by decide +kernel
theorem d_Out_putPlain_2 : decode b_Out_putPlain 2 = .ok (.ldc 118, 2) := by decide +kernel
theorem d_Out_putPlain_4 : decode b_Out_putPlain 4 = .ok (.if_icmp .ne 7, 3) := by decide +kernel
theorem d_Out_putPlain_7 : decode b_Out_putPlain 7 = .ok (.iconst 0, 1) := by decide +kernel
theorem d_Out_putPlain_8 : decode b_Out_putPlain 8 = .ok (.goto 4, 3) := by decide +kernel
theorem d_Out_putPlain_11 : decode b_Out_putPlain 11 = .ok (.iload_n 1, 1) := by decide +kernel
theorem d_Out_putPlain_12 : decode b_Out_putPlain 12 = .ok (.invokevirtual 83, 3) := by decide +kernel
theorem d_Out_putPlain_15 : decode b_Out_putPlain 15 = .ok (.return_, 1) := by decide +kernel
theorem d_Out_putOwn_0 : decode b_Out_putOwn 0 = .ok (.iconst 0, 1) := by decide +kernel
theorem d_Out_putOwn_1 : decode b_Out_putOwn 1 = .ok (.istore_n 2, 1) := by decide +kernel
theorem d_Out_putOwn_2 : decode b_Out_putOwn 2 = .ok (.iload_n 2, 1) := by decide +kernel
theorem d_Out_putOwn_3 : decode b_Out_putOwn 3 = .ok (.aload_n 0, 1) := by decide +kernel
theorem d_Out_putOwn_4 : decode b_Out_putOwn 4 = .ok (.getfield 19, 3) := by decide +kernel
theorem d_Out_putOwn_7 : decode b_Out_putOwn 7 = .ok (.iload_n 1, 1) := by decide +kernel
theorem d_Out_putOwn_8 : decode b_Out_putOwn 8 = .ok (.invokevirtual 60, 3) := by decide +kernel
theorem d_Out_putOwn_11 : decode b_Out_putOwn 11 = .ok (.if_icmp .ge 22, 3) := by decide +kernel
theorem d_Out_putOwn_14 : decode b_Out_putOwn 14 = .ok (.aload_n 0, 1) := by decide +kernel
theorem d_Out_putOwn_15 : decode b_Out_putOwn 15 = .ok (.aload_n 0, 1) := by decide +kernel
theorem d_Out_putOwn_16 : decode b_Out_putOwn 16 = .ok (.getfield 19, 3) := by decide +kernel
theorem d_Out_putOwn_19 : decode b_Out_putOwn 19 = .ok (.iload_n 1, 1) := by decide +kernel
theorem d_Out_putOwn_20 : decode b_Out_putOwn 20 = .ok (.iload_n 2, 1) := by decide +kernel
theorem d_Out_putOwn_21 : decode b_Out_putOwn 21 = .ok (.invokevirtual 62, 3) := by decide +kernel
theorem d_Out_putOwn_24 : decode b_Out_putOwn 24 = .ok (.invokevirtual 105, 3) := by decide +kernel
theorem d_Out_putOwn_27 : decode b_Out_putOwn 27 = .ok (.iinc 2 1, 3) := by decide +kernel
theorem d_Out_putOwn_30 : decode b_Out_putOwn 30 = .ok (.goto (-28), 3) := by decide +kernel
theorem d_Out_putOwn_33 : decode b_Out_putOwn 33 = .ok (.return_, 1) := by decide +kernel
theorem d_Out_putComment_0 : decode b_Out_putComment 0 = .ok (.aload_n 0, 1) := by decide +kernel
theorem d_Out_putComment_1 : decode b_Out_putComment 1 = .ok (.ldc 74, 2) := by decide +kernel
theorem d_Out_putComment_3 : decode b_Out_putComment 3 = .ok (.invokevirtual 67, 3) := by decide +kernel
theorem d_Out_putComment_6 : decode b_Out_putComment 6 = .ok (.aload_n 0, 1) := by decide +kernel
theorem d_Out_putComment_7 : decode b_Out_putComment 7 = .ok (.iload_n 1, 1) := by decide +kernel
theorem d_Out_putComment_8 : decode b_Out_putComment 8 = .ok (.invokevirtual 76, 3) := by decide +kernel
theorem d_Out_putComment_11 : decode b_Out_putComment 11 = .ok (.aload_n 0, 1) := by decide +kernel
theorem d_Out_putComment_12 : decode b_Out_putComment 12 = .ok (.ldc 79, 2) := by decide +kernel
theorem d_Out_putComment_14 : decode b_Out_putComment 14 = .ok (.invokevirtual 67, 3) := by decide +kernel
theorem d_Out_putComment_17 : decode b_Out_putComment 17 = .ok (.return_, 1) := by decide +kernel
theorem d_Out_putDoctype_0 : decode b_Out_putDoctype 0 = .ok (.aload_n 0, 1) := by decide +kernel
theorem d_Out_putDoctype_1 : decode b_Out_putDoctype 1 = .ok (.ldc 81, 2) := by decide +kernel
theorem d_Out_putDoctype_3 : decode b_Out_putDoctype 3 = .ok (.invokevirtual 67, 3) := by decide +kernel
theorem d_Out_putDoctype_6 : decode b_Out_putDoctype 6 = .ok (.aload_n 0, 1) := by decide +kernel
theorem d_Out_putDoctype_7 : decode b_Out_putDoctype 7 = .ok (.getfield 19, 3) := by decide +kernel
theorem d_Out_putDoctype_10 : decode b_Out_putDoctype 10 = .ok (.iload_n 1, 1) := by decide +kernel
theorem d_Out_putDoctype_11 : decode b_Out_putDoctype 11 = .ok (.invokevirtual 60, 3) := by decide +kernel
theorem d_Out_putDoctype_14 : decode b_Out_putDoctype 14 = .ok (.ifCond .le 32, 3) := by decide +kernel
theorem d_Out_putDoctype_17 : decode b_Out_putDoctype 17 = .ok (.aload_n 0, 1) := by decide +kernel
theorem d_Out_putDoctype_18 : decode b_Out_putDoctype 18 = .ok (.bipush 32, 2) := by decide +kernel
theorem d_Out_putDoctype_20 : decode b_Out_putDoctype 20 = .ok (.invokevirtual 83, 3) := by decide +kernel
theorem d_Out_putDoctype_23 : decode b_Out_putDoctype 23 = .ok (.aload_n 0, 1) := by decide +kernel
theorem d_Out_putDoctype_24 : decode b_Out_putDoctype 24 = .ok (.iload_n 1, 1) := by decide +kernel
theorem d_Out_putDoctype_25 : decode b_Out_putDoctype 25 = .ok (.invokevirtual 76, 3) := by decide +kernel
theorem d_Out_putDoctype_28 : decode b_Out_putDoctype 28 = .ok (.aload_n 0, 1) := by decide +kernel
theorem d_Out_putDoctype_29 : decode b_Out_putDoctype 29 = .ok (.getfield 19, 3) := by decide +kernel
theorem d_Out_putDoctype_32 : decode b_Out_putDoctype 32 = .ok (.iload_n 1, 1) := by decide +kernel
theorem d_Out_putDoctype_33 : decode b_Out_putDoctype 33 = .ok (.invokevirtual 86, 3) := by decide +kernel
theorem d_Out_putDoctype_36 : decode b_Out_putDoctype 36 = .ok (.iconst 1, 1) := by decide +kernel
theorem d_Out_putDoctype_37 : decode b_Out_putDoctype 37 = .ok (.if_icmp .ne 9, 3) := by decide +kernel
theorem d_Out_putDoctype_40 : decode b_Out_putDoctype 40 = .ok (.aload_n 0, 1) := by decide +kernel
theorem d_Out_putDoctype_41 : decode b_Out_putDoctype 41 = .ok (.ldc 89, 2) := by decide +kernel
theorem d_Out_putDoctype_43 : decode b_Out_putDoctype 43 = .ok (.invokevirtual 67, 3) := by decide +kernel
theorem d_Out_putDoctype_46 : decode b_Out_putDoctype 46 = .ok (.aload_n 0, 1) := by decide +kernel
theorem d_Out_putDoctype_47 : decode b_Out_putDoctype 47 = .ok (.bipush 62, 2) := by decide +kernel
theorem d_Out_putDoctype_49 : decode b_Out_putDoctype 49 = .ok (.invokevirtual 83, 3) := by decide +kernel
theorem d_Out_putDoctype_52 : decode b_Out_putDoctype 52 = .ok (.return_, 1) := by decide +kernel
theorem d_Out_putAttribute_0 : decode b_Out_putAttribute 0 = .ok (.aload_n 0, 1) := by decide +kernel
theorem d_Out_putAttribute_1 : decode b_Out_putAttribute 1 = .ok (.bipush 32, 2) := by decide +kernel
theorem d_Out_putAttribute_3 : decode b_Out_putAttribute 3 = .ok (.invokevirtual 83, 3) := by decide +kernel
theorem d_Out_putAttribute_6 : decode b_Out_putAttribute 6 = .ok (.iconst 0, 1) := by decide +kernel
theorem d_Out_putAttribute_7 : decode b_Out_putAttribute 7 = .ok (.istore_n 3, 1) := by decide +kernel
theorem d_Out_putAttribute_8 : decode b_Out_putAttribute 8 = .ok (.iload_n 3, 1) := by decide +kernel
theorem d_Out_putAttribute_9 : decode b_Out_putAttribute 9 = .ok (.aload_n 0, 1) := by decide +kernel
theorem d_Out_putAttribute_10 : decode b_Out_putAttribute 10 = .ok (.getfield 19, 3) := by decide +kernel
theorem d_Out_putAttribute_13 : decode b_Out_putAttribute 13 = .ok (.iload_n 1, 1) := by decide +kernel
theorem d_Out_putAttribute_14 : decode b_Out_putAttribute 14 = .ok (.iload_n 2, 1) := by decide +kernel
theorem d_Out_putAttribute_15 : decode b_Out_putAttribute 15 = .ok (.invokevirtual 98, 3) := by decide +kernel
theorem d_Out_putAttribute_18 : decode b_Out_putAttribute 18 = .ok (.if_icmp .ge 23, 3) := by decide +kernel
theorem d_Out_putAttribute_21 : decode b_Out_putAttribute 21 = .ok (.aload_n 0, 1) := by decide +kernel
theorem d_Out_putAttribute_22 : decode b_Out_putAttribute 22 = .ok (.aload_n 0, 1) := by decide +kernel
theorem d_Out_putAttribute_23 : decode b_Out_putAttribute 23 = .ok (.getfield 19, 3) := by decide +kernel
theorem d_Out_putAttribute_26 : decode b_Out_putAttribute 26 = .ok (.iload_n 1, 1) := by decide +kernel
theorem d_Out_putAttribute_27 : decode b_Out_putAttribute 27 = .ok (.iload_n 2, 1) := by decide +kernel
theorem d_Out_putAttribute_28 : decode b_Out_putAttribute 28 = .ok (.iload_n 3, 1) := by decide +kernel
theorem d_Out_putAttribute_29 : decode b_Out_putAttribute 29 = .ok (.invokevirtual 101, 3) := by decide +kernel
theorem d_Out_putAttribute_32 : decode b_Out_putAttribute 32 = .ok (.invokevirtual 105, 3) := by decide +kernel
theorem d_Out_putAttribute_35 : decode b_Out_putAttribute 35 = .ok (.iinc 3 1, 3) := by decide +kernel
theorem d_Out_putAttribute_38 : decode b_Out_putAttribute 38 = .ok (.goto (-30), 3) := by decide +kernel
theorem d_Out_putAttribute_41 : decode b_Out_putAttribute 41 = .ok (.aload_n 0, 1) := by decide +kernel
theorem d_Out_putAttribute_42 : decode b_Out_putAttribute 42 = .ok (.ldc 108, 2) := by decide +kernel
theorem d_Out_putAttribute_44 : decode b_Out_putAttribute 44 = .ok (.invokevirtual 67, 3) := by decide +kernel
theorem d_Out_putAttribute_47 : decode b_Out_putAttribute 47 = .ok (.iconst 0, 1) := by decide +kernel
theorem d_Out_putAttribute_48 : decode b_Out_putAttribute 48 = .ok (.istore_n 3, 1) := by decide +kernel
theorem d_Out_putAttribute_49 : decode b_Out_putAttribute 49 = .ok (.iload_n 3, 1) := by decide +kernel
theorem d_Out_putAttribute_50 : decode b_Out_putAttribute 50 = .ok (.aload_n 0, 1) := by decide +kernel
theorem d_Out_putAttribute_51 : decode b_Out_putAttribute 51 = .ok (.getfield 19, 3) := by decide +kernel
theorem d_Out_putAttribute_54 : decode b_Out_putAttribute 54 = .ok (.iload_n 1, 1) := by decide +kernel
theorem d_Out_putAttribute_55 : decode b_Out_putAttribute 55 = .ok (.iload_n 2, 1) := by decide +kernel
theorem d_Out_putAttribute_56 : decode b_Out_putAttribute 56 = .ok (.invokevirtual 110, 3) := by decide +kernel
theorem d_Out_putAttribute_59 : decode b_Out_putAttribute 59 = .ok (.if_icmp .ge 43, 3) := by decide +kernel
theorem d_Out_putAttribute_62 : decode b_Out_putAttribute 62 = .ok (.aload_n 0, 1) := by decide +kernel
theorem d_Out_putAttribute_63 : decode b_Out_putAttribute 63 = .ok (.getfield 19, 3) := by decide +kernel
theorem d_Out_putAttribute_66 : decode b_Out_putAttribute 66 = .ok (.iload_n 1, 1) := by decide +kernel
theorem d_Out_putAttribute_67 : decode b_Out_putAttribute 67 = .ok (.iload_n 2, 1) := by decide +kernel
theorem d_Out_putAttribute_68 : decode b_Out_putAttribute 68 = .ok (.iload_n 3, 1) := by decide +kernel
theorem d_Out_putAttribute_69 : decode b_Out_putAttribute 69 = .ok (.invokevirtual 113, 3) := by decide +kernel
theorem d_Out_putAttribute_72 : decode b_Out_putAttribute 72 = .ok (.istore 4, 2) := by decide +kernel
theorem d_Out_putAttribute_74 : decode b_Out_putAttribute 74 = .ok (.iload 4, 2) := by decide +kernel
theorem d_Out_putAttribute_76 : decode b_Out_putAttribute 76 = .ok (.bipush 34, 2) := by decide +kernel
theorem d_Out_putAttribute_78 : decode b_Out_putAttribute 78 = .ok (.if_icmp .ne 12, 3) := by decide +kernel
theorem d_Out_putAttribute_81 : decode b_Out_putAttribute 81 = .ok (.aload_n 0, 1) := by decide +kernel
theorem d_Out_putAttribute_82 : decode b_Out_putAttribute 82 = .ok (.ldc 116, 2) := by decide +kernel
theorem d_Out_putAttribute_84 : decode b_Out_putAttribute 84 = .ok (.invokevirtual 67, 3) := by decide +kernel
theorem d_Out_putAttribute_87 : decode b_Out_putAttribute 87 = .ok (.goto 9, 3) := by decide +kernel
theorem d_Out_putAttribute_90 : decode b_Out_putAttribute 90 = .ok (.aload_n 0, 1) := by decide +kernel
theorem d_Out_putAttribute_91 : decode b_Out_putAttribute 91 = .ok (.iload 4, 2) := by decide +kernel
theorem d_Out_putAttribute_93 : decode b_Out_putAttribute 93 = .ok (.invokevirtual 71, 3) := by decide +kernel
theorem d_Out_putAttribute_96 : decode b_Out_putAttribute 96 = .ok (.iinc 3 1, 3) := by decide +kernel
theorem d_Out_putAttribute_99 : decode b_Out_putAttribute 99 = .ok (.goto (-50), 3) := by decide +kernel
theorem d_Out_putAttribute_102 : decode b_Out_putAttribute 102 = .ok (.aload_n 0, 1) := by decide +kernel
theorem d_Out_putAttribute_103 : decode b_Out_putAttribute 103 = .ok (.bipush 34, 2) := by decide +kernel
theorem d_Out_putAttribute_105 : decode b_Out_putAttribute 105 = .ok (.invokevirtual 83, 3) := by decide +kernel
theorem d_Out_putAttribute_108 : decode b_Out_putAttribute 108 = .ok (.return_, 1) := by decide +kernel
theorem d_Out_putTag_0 : decode b_Out_putTag 0 = .ok (.aload_n 0, 1) := by decide +kernel
theorem d_Out_putTag_1 : decode b_Out_putTag 1 = .ok (.bipush 60, 2) := by decide +kernel
theorem d_Out_putTag_3 : decode b_Out_putTag 3 = .ok (.invokevirtual 83, 3) := by decide +kernel
theorem d_Out_putTag_6 : decode b_Out_putTag 6 = .ok (.aload_n 0, 1) := by decide +kernel
theorem d_Out_putTag_7 : decode b_Out_putTag 7 = .ok (.getfield 19, 3) := by decide +kernel
theorem d_Out_putTag_10 : decode b_Out_putTag 10 = .ok (.iload_n 1, 1) := by decide +kernel
theorem d_Out_putTag_11 : decode b_Out_putTag 11 = .ok (.invokevirtual 43, 3) := by decide +kernel
theorem d_Out_putTag_14 : decode b_Out_putTag 14 = .ok (.iconst 2, 1) := by decide +kernel
theorem d_Out_putTag_15 : decode b_Out_putTag 15 = .ok (.if_icmp .ne 9, 3) := by decide +kernel
theorem d_Out_putTag_18 : decode b_Out_putTag 18 = .ok (.aload_n 0, 1) := by decide +kernel
theorem d_Out_putTag_19 : decode b_Out_putTag 19 = .ok (.bipush 47, 2) := by decide +kernel
theorem d_Out_putTag_21 : decode b_Out_putTag 21 = .ok (.invokevirtual 83, 3) := by decide +kernel
theorem d_Out_putTag_24 : decode b_Out_putTag 24 = .ok (.aload_n 0, 1) := by decide +kernel
theorem d_Out_putTag_25 : decode b_Out_putTag 25 = .ok (.iload_n 1, 1) := by decide +kernel
theorem d_Out_putTag_26 : decode b_Out_putTag 26 = .ok (.invokevirtual 76, 3) := by decide +kernel
theorem d_Out_putTag_29 : decode b_Out_putTag 29 = .ok (.iconst 0, 1) := by decide +kernel
theorem d_Out_putTag_30 : decode b_Out_putTag 30 = .ok (.istore_n 2, 1) := by decide +kernel
theorem d_Out_putTag_31 : decode b_Out_putTag 31 = .ok (.iload_n 2, 1) := by decide +kernel
theorem d_Out_putTag_32 : decode b_Out_putTag 32 = .ok (.aload_n 0, 1) := by decide +kernel
theorem d_Out_putTag_33 : decode b_Out_putTag 33 = .ok (.getfield 19, 3) := by decide +kernel
theorem d_Out_putTag_36 : decode b_Out_putTag 36 = .ok (.iload_n 1, 1) := by decide +kernel
theorem d_Out_putTag_37 : decode b_Out_putTag 37 = .ok (.invokevirtual 91, 3) := by decide +kernel
theorem d_Out_putTag_40 : decode b_Out_putTag 40 = .ok (.if_icmp .ge 15, 3) := by decide +kernel
theorem d_Out_putTag_43 : decode b_Out_putTag 43 = .ok (.aload_n 0, 1) := by decide +kernel
theorem d_Out_putTag_44 : decode b_Out_putTag 44 = .ok (.iload_n 1, 1) := by decide +kernel
theorem d_Out_putTag_45 : decode b_Out_putTag 45 = .ok (.iload_n 2, 1) := by decide +kernel
theorem d_Out_putTag_46 : decode b_Out_putTag 46 = .ok (.invokevirtual 94, 3) := by decide +kernel
theorem d_Out_putTag_49 : decode b_Out_putTag 49 = .ok (.iinc 2 1, 3) := by decide +kernel
theorem d_Out_putTag_52 : decode b_Out_putTag 52 = .ok (.goto (-21), 3) := by decide +kernel
theorem d_Out_putTag_55 : decode b_Out_putTag 55 = .ok (.aload_n 0, 1) := by decide +kernel
theorem d_Out_putTag_56 : decode b_Out_putTag 56 = .ok (.getfield 19, 3) := by decide +kernel
theorem d_Out_putTag_59 : decode b_Out_putTag 59 = .ok (.iload_n 1, 1) := by decide +kernel
theorem d_Out_putTag_60 : decode b_Out_putTag 60 = .ok (.invokevirtual 86, 3) := by decide +kernel
theorem d_Out_putTag_63 : decode b_Out_putTag 63 = .ok (.iconst 1, 1) := by decide +kernel
theorem d_Out_putTag_64 : decode b_Out_putTag 64 = .ok (.if_icmp .ne 9, 3) := by decide +kernel
theorem d_Out_putTag_67 : decode b_Out_putTag 67 = .ok (.aload_n 0, 1) := by decide +kernel
theorem d_Out_putTag_68 : decode b_Out_putTag 68 = .ok (.bipush 47, 2) := by decide +kernel
theorem d_Out_putTag_70 : decode b_Out_putTag 70 = .ok (.invokevirtual 83, 3) := by decide +kernel
theorem d_Out_putTag_73 : decode b_Out_putTag 73 = .ok (.aload_n 0, 1) := by decide +kernel
theorem d_Out_putTag_74 : decode b_Out_putTag 74 = .ok (.bipush 62, 2) := by decide +kernel
theorem d_Out_putTag_76 : decode b_Out_putTag 76 = .ok (.invokevirtual 83, 3) := by decide +kernel
theorem d_Out_putTag_79 : decode b_Out_putTag 79 = .ok (.return_, 1) := by decide +kernel
theorem d_Out_putAll_0 : decode b_Out_putAll 0 = .ok (.aload_n 0, 1) := by decide +kernel
theorem d_Out_putAll_1 : decode b_Out_putAll 1 = .ok (.iconst 0, 1) := by decide +kernel
theorem d_Out_putAll_2 : decode b_Out_putAll 2 = .ok (.putfield 15, 3) := by decide +kernel
theorem d_Out_putAll_5 : decode b_Out_putAll 5 = .ok (.iconst 0, 1) := by decide +kernel
theorem d_Out_putAll_6 : decode b_Out_putAll 6 = .ok (.istore_n 1, 1) := by decide +kernel
theorem d_Out_putAll_7 : decode b_Out_putAll 7 = .ok (.iload_n 1, 1) := by decide +kernel
theorem d_Out_putAll_8 : decode b_Out_putAll 8 = .ok (.aload_n 0, 1) := by decide +kernel
theorem d_Out_putAll_9 : decode b_Out_putAll 9 = .ok (.getfield 19, 3) := by decide +kernel
theorem d_Out_putAll_12 : decode b_Out_putAll 12 = .ok (.invokevirtual 37, 3) := by decide +kernel
theorem d_Out_putAll_15 : decode b_Out_putAll 15 = .ok (.if_icmp .ge 80, 3) := by decide +kernel
theorem d_Out_putAll_18 : decode b_Out_putAll 18 = .ok (.aload_n 0, 1) := by decide +kernel
theorem d_Out_putAll_19 : decode b_Out_putAll 19 = .ok (.getfield 19, 3) := by decide +kernel
theorem d_Out_putAll_22 : decode b_Out_putAll 22 = .ok (.iload_n 1, 1) := by decide +kernel
theorem d_Out_putAll_23 : decode b_Out_putAll 23 = .ok (.invokevirtual 43, 3) := by decide +kernel
theorem d_Out_putAll_26 : decode b_Out_putAll 26 = .ok (.tableswitch 58 0 4 #[34, 58, 58, 42, 50], 34) := by decide +kernel
theorem d_Out_putAll_60 : decode b_Out_putAll 60 = .ok (.aload_n 0, 1) := by decide +kernel
theorem d_Out_putAll_61 : decode b_Out_putAll 61 = .ok (.iload_n 1, 1) := by decide +kernel
theorem d_Out_putAll_62 : decode b_Out_putAll 62 = .ok (.invokevirtual 47, 3) := by decide +kernel
theorem d_Out_putAll_65 : decode b_Out_putAll 65 = .ok (.goto 24, 3) := by decide +kernel
theorem d_Out_putAll_68 : decode b_Out_putAll 68 = .ok (.aload_n 0, 1) := by decide +kernel
theorem d_Out_putAll_69 : decode b_Out_putAll 69 = .ok (.iload_n 1, 1) := by decide +kernel
theorem d_Out_putAll_70 : decode b_Out_putAll 70 = .ok (.invokevirtual 51, 3) := by decide +kernel
theorem d_Out_putAll_73 : decode b_Out_putAll 73 = .ok (.goto 16, 3) := by decide +kernel
theorem d_Out_putAll_76 : decode b_Out_putAll 76 = .ok (.aload_n 0, 1) := by decide +kernel
theorem d_Out_putAll_77 : decode b_Out_putAll 77 = .ok (.iload_n 1, 1) := by decide +kernel
theorem d_Out_putAll_78 : decode b_Out_putAll 78 = .ok (.invokevirtual 54, 3) := by decide +kernel
theorem d_Out_putAll_81 : decode b_Out_putAll 81 = .ok (.goto 8, 3) := by decide +kernel
theorem d_Out_putAll_84 : decode b_Out_putAll 84 = .ok (.aload_n 0, 1) := by decide +kernel
theorem d_Out_putAll_85 : decode b_Out_putAll 85 = .ok (.iload_n 1, 1) := by decide +kernel
theorem d_Out_putAll_86 : decode b_Out_putAll 86 = .ok (.invokevirtual 57, 3) := by decide +kernel
theorem d_Out_putAll_89 : decode b_Out_putAll 89 = .ok (.iinc 1 1, 3) := by decide +kernel
theorem d_Out_putAll_92 : decode b_Out_putAll 92 = .ok (.goto (-85), 3) := by decide +kernel
theorem d_Out_putAll_95 : decode b_Out_putAll 95 = .ok (.return_, 1) := by decide +kernel
theorem d_Out_byteAt_0 : decode b_Out_byteAt 0 = .ok (.lload_n 1, 1) := by decide +kernel
theorem d_Out_byteAt_1 : decode b_Out_byteAt 1 = .ok (.lconst 0, 1) := by decide +kernel
theorem d_Out_byteAt_2 : decode b_Out_byteAt 2 = .ok (.lcmp, 1) := by decide +kernel
theorem d_Out_byteAt_3 : decode b_Out_byteAt 3 = .ok (.ifCond .lt 28, 3) := by decide +kernel
theorem d_Out_byteAt_6 : decode b_Out_byteAt 6 = .ok (.lload_n 1, 1) := by decide +kernel
theorem d_Out_byteAt_7 : decode b_Out_byteAt 7 = .ok (.aload_n 0, 1) := by decide +kernel
theorem d_Out_byteAt_8 : decode b_Out_byteAt 8 = .ok (.getfield 15, 3) := by decide +kernel
theorem d_Out_byteAt_11 : decode b_Out_byteAt 11 = .ok (.i2l, 1) := by decide +kernel
theorem d_Out_byteAt_12 : decode b_Out_byteAt 12 = .ok (.lcmp, 1) := by decide +kernel
theorem d_Out_byteAt_13 : decode b_Out_byteAt 13 = .ok (.ifCond .ge 18, 3) := by decide +kernel
theorem d_Out_byteAt_16 : decode b_Out_byteAt 16 = .ok (.aload_n 0, 1) := by decide +kernel
theorem d_Out_byteAt_17 : decode b_Out_byteAt 17 = .ok (.getfield 11, 3) := by decide +kernel
theorem d_Out_byteAt_20 : decode b_Out_byteAt 20 = .ok (.lload_n 1, 1) := by decide +kernel
theorem d_Out_byteAt_21 : decode b_Out_byteAt 21 = .ok (.l2i, 1) := by decide +kernel
theorem d_Out_byteAt_22 : decode b_Out_byteAt 22 = .ok (.baload, 1) := by decide +kernel
theorem d_Out_byteAt_23 : decode b_Out_byteAt 23 = .ok (.i2l, 1) := by decide +kernel
theorem d_Out_byteAt_24 : decode b_Out_byteAt 24 = .ok (.ldc2_w 23, 3) := by decide +kernel
theorem d_Out_byteAt_27 : decode b_Out_byteAt 27 = .ok (.land, 1) := by decide +kernel
theorem d_Out_byteAt_28 : decode b_Out_byteAt 28 = .ok (.goto 4, 3) := by decide +kernel
theorem d_Out_byteAt_31 : decode b_Out_byteAt 31 = .ok (.lconst 0, 1) := by decide +kernel
theorem d_Out_byteAt_32 : decode b_Out_byteAt 32 = .ok (.lreturn, 1) := by decide +kernel
