theorem d_Tokens_forget_0 : decode b_Tokens_forget 0 = .ok (.aload_n 0, 1) := by decide +kernel
theorem d_Tokens_forget_1 : decode b_Tokens_forget 1 = .ok (.iconst 0, 1) := by decide +kernel
theorem d_Tokens_forget_2 : decode b_Tokens_forget 2 = .ok (.putfield 15, 3) := by decide +kernel
theorem d_Tokens_forget_5 : decode b_Tokens_forget 5 = .ok (.aload_n 0, 1) := by decide +kernel
theorem d_Tokens_forget_6 : decode b_Tokens_forget 6 = .ok (.iconst 0, 1) := by decide +kernel
theorem d_Tokens_forget_7 : decode b_Tokens_forget 7 = .ok (.putfield 37, 3) := by decide +kernel
theorem d_Tokens_forget_10 : decode b_Tokens_forget 10 = .ok (.aload_n 0, 1) := by decide +kernel
theorem d_Tokens_forget_11 : decode b_Tokens_forget 11 = .ok (.iconst 0, 1) := by decide +kernel
theorem d_Tokens_forget_12 : decode b_Tokens_forget 12 = .ok (.putfield 40, 3) := by decide +kernel
theorem d_Tokens_forget_15 : decode b_Tokens_forget 15 = .ok (.aload_n 0, 1) := by decide +kernel
theorem d_Tokens_forget_16 : decode b_Tokens_forget 16 = .ok (.iconst 0, 1) := by decide +kernel
theorem d_Tokens_forget_17 : decode b_Tokens_forget 17 = .ok (.putfield 53, 3) := by decide +kernel
theorem d_Tokens_forget_20 : decode b_Tokens_forget 20 = .ok (.aload_n 0, 1) := by decide +kernel
theorem d_Tokens_forget_21 : decode b_Tokens_forget 21 = .ok (.iconst 0, 1) := by decide +kernel
theorem d_Tokens_forget_22 : decode b_Tokens_forget 22 = .ok (.putfield 56, 3) := by decide +kernel
theorem d_Tokens_forget_25 : decode b_Tokens_forget 25 = .ok (.return_, 1) := by decide +kernel
theorem d_Tokens_open_0 : decode b_Tokens_open 0 = .ok (.aload_n 0, 1) := by decide +kernel
theorem d_Tokens_open_1 : decode b_Tokens_open 1 = .ok (.getfield 37, 3) := by decide +kernel
theorem d_Tokens_open_4 : decode b_Tokens_open 4 = .ok (.sipush 400, 3) := by decide +kernel
theorem d_Tokens_open_7 : decode b_Tokens_open 7 = .ok (.if_icmp .ge 59, 3) := by decide +kernel
theorem d_Tokens_open_10 : decode b_Tokens_open 10 = .ok (.aload_n 0, 1) := by decide +kernel
theorem d_Tokens_open_11 : decode b_Tokens_open 11 = .ok (.getfield 19, 3) := by decide +kernel
theorem d_Tokens_open_14 : decode b_Tokens_open 14 = .ok (.aload_n 0, 1) := by decide +kernel
theorem d_Tokens_open_15 : decode b_Tokens_open 15 = .ok (.getfield 37, 3) := by decide +kernel
theorem d_Tokens_open_18 : decode b_Tokens_open 18 = .ok (.iload_n 1, 1) := by decide +kernel
theorem d_Tokens_open_19 : decode b_Tokens_open 19 = .ok (.iastore, 1) := by decide +kernel
theorem d_Tokens_open_20 : decode b_Tokens_open 20 = .ok (.aload_n 0, 1) := by decide +kernel
theorem d_Tokens_open_21 : decode b_Tokens_open 21 = .ok (.getfield 22, 3) := by decide +kernel
theorem d_Tokens_open_24 : decode b_Tokens_open 24 = .ok (.aload_n 0, 1) := by decide +kernel
theorem d_Tokens_open_25 : decode b_Tokens_open 25 = .ok (.getfield 37, 3) := by decide +kernel
theorem d_Tokens_open_28 : decode b_Tokens_open 28 = .ok (.aload_n 0, 1) := by decide +kernel
theorem d_Tokens_open_29 : decode b_Tokens_open 29 = .ok (.getfield 15, 3) := by decide +kernel
theorem d_Tokens_open_32 : decode b_Tokens_open 32 = .ok (.iastore, 1) := by decide +kernel
theorem d_Tokens_open_33 : decode b_Tokens_open 33 = .ok (.aload_n 0, 1) := by decide +kernel
theorem d_Tokens_open_34 : decode b_Tokens_open 34 = .ok (.getfield 28, 3) := by decide +kernel
theorem d_Tokens_open_37 : decode b_Tokens_open 37 = .ok (.aload_n 0, 1) := by decide +kernel
theorem d_Tokens_open_38 : decode b_Tokens_open 38 = .ok (.getfield 37, 3) := by decide +kernel
theorem d_Tokens_open_41 : decode b_Tokens_open 41 = .ok (.iconst 0, 1) := by decide +kernel
theorem d_Tokens_open_42 : decode b_Tokens_open 42 = .ok (.iastore, 1) := by decide +kernel
theorem d_Tokens_open_43 : decode b_Tokens_open 43 = .ok (.aload_n 0, 1) := by decide +kernel
theorem d_Tokens_open_44 : decode b_Tokens_open 44 = .ok (.getfield 31, 3) := by decide +kernel
theorem d_Tokens_open_47 : decode b_Tokens_open 47 = .ok (.aload_n 0, 1) := by decide +kernel
theorem d_Tokens_open_48 : decode b_Tokens_open 48 = .ok (.getfield 37, 3) := by decide +kernel
theorem d_Tokens_open_51 : decode b_Tokens_open 51 = .ok (.aload_n 0, 1) := by decide +kernel
theorem d_Tokens_open_52 : decode b_Tokens_open 52 = .ok (.getfield 53, 3) := by decide +kernel
theorem d_Tokens_open_55 : decode b_Tokens_open 55 = .ok (.iastore, 1) := by decide +kernel
theorem d_Tokens_open_56 : decode b_Tokens_open 56 = .ok (.aload_n 0, 1) := by decide +kernel
theorem d_Tokens_open_57 : decode b_Tokens_open 57 = .ok (.getfield 34, 3) := by decide +kernel
theorem d_Tokens_open_60 : decode b_Tokens_open 60 = .ok (.aload_n 0, 1) := by decide +kernel
theorem d_Tokens_open_61 : decode b_Tokens_open 61 = .ok (.getfield 37, 3) := by decide +kernel
theorem d_Tokens_open_64 : decode b_Tokens_open 64 = .ok (.iconst 0, 1) := by decide +kernel
theorem d_Tokens_open_65 : decode b_Tokens_open 65 = .ok (.iastore, 1) := by decide +kernel
theorem d_Tokens_open_66 : decode b_Tokens_open 66 = .ok (.return_, 1) := by decide +kernel
theorem d_Tokens_beginText_0 : decode b_Tokens_beginText 0 = .ok (.aload_n 0, 1) := by decide +kernel
theorem d_Tokens_beginText_1 : decode b_Tokens_beginText 1 = .ok (.getfield 40, 3) := by decide +kernel
theorem d_Tokens_beginText_4 : decode b_Tokens_beginText 4 = .ok (.ifCond .ne 13, 3) := by decide +kernel
theorem d_Tokens_beginText_7 : decode b_Tokens_beginText 7 = .ok (.aload_n 0, 1) := by decide +kernel
theorem d_Tokens_beginText_8 : decode b_Tokens_beginText 8 = .ok (.iconst 1, 1) := by decide +kernel
theorem d_Tokens_beginText_9 : decode b_Tokens_beginText 9 = .ok (.putfield 40, 3) := by decide +kernel
theorem d_Tokens_beginText_12 : decode b_Tokens_beginText 12 = .ok (.aload_n 0, 1) := by decide +kernel
theorem d_Tokens_beginText_13 : decode b_Tokens_beginText 13 = .ok (.iconst 0, 1) := by decide +kernel
theorem d_Tokens_beginText_14 : decode b_Tokens_beginText 14 = .ok (.invokevirtual 62, 3) := by decide +kernel
theorem d_Tokens_beginText_17 : decode b_Tokens_beginText 17 = .ok (.return_, 1) := by decide +kernel
theorem d_Tokens_add_0 : decode b_Tokens_add 0 = .ok (.aload_n 0, 1) := by decide +kernel
theorem d_Tokens_add_1 : decode b_Tokens_add 1 = .ok (.getfield 15, 3) := by decide +kernel
theorem d_Tokens_add_4 : decode b_Tokens_add 4 = .ok (.sipush 400, 3) := by decide +kernel
theorem d_Tokens_add_7 : decode b_Tokens_add 7 = .ok (.if_icmp .ge 23, 3) := by decide +kernel
theorem d_Tokens_add_10 : decode b_Tokens_add 10 = .ok (.aload_n 0, 1) := by decide +kernel
theorem d_Tokens_add_11 : decode b_Tokens_add 11 = .ok (.getfield 11, 3) := by decide +kernel
theorem d_Tokens_add_14 : decode b_Tokens_add 14 = .ok (.aload_n 0, 1) := by decide +kernel
theorem d_Tokens_add_15 : decode b_Tokens_add 15 = .ok (.getfield 15, 3) := by decide +kernel
theorem d_Tokens_add_18 : decode b_Tokens_add 18 = .ok (.iload_n 1, 1) := by decide +kernel
theorem d_Tokens_add_19 : decode b_Tokens_add 19 = .ok (.iastore, 1) := by decide +kernel
theorem d_Tokens_add_20 : decode b_Tokens_add 20 = .ok (.aload_n 0, 1) := by decide +kernel
theorem d_Tokens_add_21 : decode b_Tokens_add 21 = .ok (.dup, 1) := by decide +kernel
theorem d_Tokens_add_22 : decode b_Tokens_add 22 = .ok (.getfield 15, 3) := by decide +kernel
theorem d_Tokens_add_25 : decode b_Tokens_add 25 = .ok (.iconst 1, 1) := by decide +kernel
theorem d_Tokens_add_26 : decode b_Tokens_add 26 = .ok (.iadd, 1) := by decide +kernel
theorem d_Tokens_add_27 : decode b_Tokens_add 27 = .ok (.putfield 15, 3) := by decide +kernel
theorem d_Tokens_add_30 : decode b_Tokens_add 30 = .ok (.return_, 1) := by decide +kernel
theorem d_Tokens_endText_0 : decode b_Tokens_endText 0 = .ok (.aload_n 0, 1) := by decide +kernel
theorem d_Tokens_endText_1 : decode b_Tokens_endText 1 = .ok (.getfield 40, 3) := by decide +kernel
theorem d_Tokens_endText_4 : decode b_Tokens_endText 4 = .ok (.ifCond .eq 36, 3) := by decide +kernel
theorem d_Tokens_endText_7 : decode b_Tokens_endText 7 = .ok (.aload_n 0, 1) := by decide +kernel
theorem d_Tokens_endText_8 : decode b_Tokens_endText 8 = .ok (.getfield 37, 3) := by decide +kernel
theorem d_Tokens_endText_11 : decode b_Tokens_endText 11 = .ok (.sipush 400, 3) := by decide +kernel
theorem d_Tokens_endText_14 : decode b_Tokens_endText 14 = .ok (.if_icmp .ge 26, 3) := by decide +kernel
theorem d_Tokens_endText_17 : decode b_Tokens_endText 17 = .ok (.aload_n 0, 1) := by decide +kernel
theorem d_Tokens_endText_18 : decode b_Tokens_endText 18 = .ok (.getfield 25, 3) := by decide +kernel
theorem d_Tokens_endText_21 : decode b_Tokens_endText 21 = .ok (.aload_n 0, 1) := by decide +kernel
theorem d_Tokens_endText_22 : decode b_Tokens_endText 22 = .ok (.getfield 37, 3) := by decide +kernel
theorem d_Tokens_endText_25 : decode b_Tokens_endText 25 = .ok (.aload_n 0, 1) := by decide +kernel
theorem d_Tokens_endText_26 : decode b_Tokens_endText 26 = .ok (.getfield 15, 3) := by decide +kernel
theorem d_Tokens_endText_29 : decode b_Tokens_endText 29 = .ok (.iastore, 1) := by decide +kernel
theorem d_Tokens_endText_30 : decode b_Tokens_endText 30 = .ok (.aload_n 0, 1) := by decide +kernel
theorem d_Tokens_endText_31 : decode b_Tokens_endText 31 = .ok (.dup, 1) := by decide +kernel
theorem d_Tokens_endText_32 : decode b_Tokens_endText 32 = .ok (.getfield 37, 3) := by decide +kernel
theorem d_Tokens_endText_35 : decode b_Tokens_endText 35 = .ok (.iconst 1, 1) := by decide +kernel
theorem d_Tokens_endText_36 : decode b_Tokens_endText 36 = .ok (.iadd, 1) := by decide +kernel
theorem d_Tokens_endText_37 : decode b_Tokens_endText 37 = .ok (.putfield 37, 3) := by decide +kernel
theorem d_Tokens_endText_40 : decode b_Tokens_endText 40 = .ok (.aload_n 0, 1) := by decide +kernel
theorem d_Tokens_endText_41 : decode b_Tokens_endText 41 = .ok (.iconst 0, 1) := by decide +kernel
theorem d_Tokens_endText_42 : decode b_Tokens_endText 42 = .ok (.putfield 40, 3) := by decide +kernel
theorem d_Tokens_endText_45 : decode b_Tokens_endText 45 = .ok (.return_, 1) := by decide +kernel
theorem d_Tokens_begin_0 : decode b_Tokens_begin 0 = .ok (.aload_n 0, 1) := by decide +kernel
theorem d_Tokens_begin_1 : decode b_Tokens_begin 1 = .ok (.invokevirtual 59, 3) := by decide +kernel
theorem d_Tokens_begin_4 : decode b_Tokens_begin 4 = .ok (.aload_n 0, 1) := by decide +kernel
theorem d_Tokens_begin_5 : decode b_Tokens_begin 5 = .ok (.iload_n 1, 1) := by decide +kernel
theorem d_Tokens_begin_6 : decode b_Tokens_begin 6 = .ok (.invokevirtual 62, 3) := by decide +kernel
theorem d_Tokens_begin_9 : decode b_Tokens_begin 9 = .ok (.return_, 1) := by decide +kernel
theorem d_Tokens_endOwn_0 : decode b_Tokens_endOwn 0 = .ok (.aload_n 0, 1) := by decide +kernel
theorem d_Tokens_endOwn_1 : decode b_Tokens_endOwn 1 = .ok (.getfield 37, 3) := by decide +kernel
theorem d_Tokens_endOwn_4 : decode b_Tokens_endOwn 4 = .ok (.sipush 400, 3) := by decide +kernel
theorem d_Tokens_endOwn_7 : decode b_Tokens_endOwn 7 = .ok (.if_icmp .ge 16, 3) := by decide +kernel
theorem d_Tokens_endOwn_10 : decode b_Tokens_endOwn 10 = .ok (.aload_n 0, 1) := by decide +kernel
theorem d_Tokens_endOwn_11 : decode b_Tokens_endOwn 11 = .ok (.getfield 25, 3) := by decide +kernel
theorem d_Tokens_endOwn_14 : decode b_Tokens_endOwn 14 = .ok (.aload_n 0, 1) := by decide +kernel
theorem d_Tokens_endOwn_15 : decode b_Tokens_endOwn 15 = .ok (.getfield 37, 3) := by decide +kernel
theorem d_Tokens_endOwn_18 : decode b_Tokens_endOwn 18 = .ok (.aload_n 0, 1) := by decide +kernel
theorem d_Tokens_endOwn_19 : decode b_Tokens_endOwn 19 = .ok (.getfield 15, 3) := by decide +kernel
theorem d_Tokens_endOwn_22 : decode b_Tokens_endOwn 22 = .ok (.iastore, 1) := by decide +kernel
theorem d_Tokens_endOwn_23 : decode b_Tokens_endOwn 23 = .ok (.return_, 1) := by decide +kernel
theorem d_Tokens_endAttribute_0 : decode b_Tokens_endAttribute 0 = .ok (.aload_n 0, 1) := by decide +kernel
theorem d_Tokens_endAttribute_1 : decode b_Tokens_endAttribute 1 = .ok (.getfield 56, 3) := by decide +kernel
theorem d_Tokens_endAttribute_4 : decode b_Tokens_endAttribute 4 = .ok (.ifCond .eq 59, 3) := by decide +kernel
theorem d_Tokens_endAttribute_7 : decode b_Tokens_endAttribute 7 = .ok (.aload_n 0, 1) := by decide +kernel
theorem d_Tokens_endAttribute_8 : decode b_Tokens_endAttribute 8 = .ok (.getfield 37, 3) := by decide +kernel
theorem d_Tokens_endAttribute_11 : decode b_Tokens_endAttribute 11 = .ok (.sipush 400, 3) := by decide +kernel
theorem d_Tokens_endAttribute_14 : decode b_Tokens_endAttribute 14 = .ok (.if_icmp .ge 49, 3) := by decide +kernel
theorem d_Tokens_endAttribute_17 : decode b_Tokens_endAttribute 17 = .ok (.aload_n 0, 1) := by decide +kernel
theorem d_Tokens_endAttribute_18 : decode b_Tokens_endAttribute 18 = .ok (.getfield 53, 3) := by decide +kernel
theorem d_Tokens_endAttribute_21 : decode b_Tokens_endAttribute 21 = .ok (.sipush 400, 3) := by decide +kernel
theorem d_Tokens_endAttribute_24 : decode b_Tokens_endAttribute 24 = .ok (.if_icmp .ge 39, 3) := by decide +kernel
theorem d_Tokens_endAttribute_27 : decode b_Tokens_endAttribute 27 = .ok (.aload_n 0, 1) := by decide +kernel
theorem d_Tokens_endAttribute_28 : decode b_Tokens_endAttribute 28 = .ok (.getfield 50, 3) := by decide +kernel
theorem d_Tokens_endAttribute_31 : decode b_Tokens_endAttribute 31 = .ok (.aload_n 0, 1) := by decide +kernel
theorem d_Tokens_endAttribute_32 : decode b_Tokens_endAttribute 32 = .ok (.getfield 53, 3) := by decide +kernel
theorem d_Tokens_endAttribute_35 : decode b_Tokens_endAttribute 35 = .ok (.aload_n 0, 1) := by decide +kernel
theorem d_Tokens_endAttribute_36 : decode b_Tokens_endAttribute 36 = .ok (.getfield 15, 3) := by decide +kernel
theorem d_Tokens_endAttribute_39 : decode b_Tokens_endAttribute 39 = .ok (.iastore, 1) := by decide +kernel
theorem d_Tokens_endAttribute_40 : decode b_Tokens_endAttribute 40 = .ok (.aload_n 0, 1) := by decide +kernel
theorem d_Tokens_endAttribute_41 : decode b_Tokens_endAttribute 41 = .ok (.dup, 1) := by decide +kernel
theorem d_Tokens_endAttribute_42 : decode b_Tokens_endAttribute 42 = .ok (.getfield 53, 3) := by decide +kernel
theorem d_Tokens_endAttribute_45 : decode b_Tokens_endAttribute 45 = .ok (.iconst 1, 1) := by decide +kernel
theorem d_Tokens_endAttribute_46 : decode b_Tokens_endAttribute 46 = .ok (.iadd, 1) := by decide +kernel
theorem d_Tokens_endAttribute_47 : decode b_Tokens_endAttribute 47 = .ok (.putfield 53, 3) := by decide +kernel
theorem d_Tokens_endAttribute_50 : decode b_Tokens_endAttribute 50 = .ok (.aload_n 0, 1) := by decide +kernel
theorem d_Tokens_endAttribute_51 : decode b_Tokens_endAttribute 51 = .ok (.getfield 34, 3) := by decide +kernel
theorem d_Tokens_endAttribute_54 : decode b_Tokens_endAttribute 54 = .ok (.aload_n 0, 1) := by decide +kernel
theorem d_Tokens_endAttribute_55 : decode b_Tokens_endAttribute 55 = .ok (.getfield 37, 3) := by decide +kernel
theorem d_Tokens_endAttribute_58 : decode b_Tokens_endAttribute 58 = .ok (.dup2, 1) := by decide +kernel
theorem d_Tokens_endAttribute_59 : decode b_Tokens_endAttribute 59 = .ok (.iaload, 1) := by decide +kernel
theorem d_Tokens_endAttribute_60 : decode b_Tokens_endAttribute 60 = .ok (.iconst 1, 1) := by decide +kernel
theorem d_Tokens_endAttribute_61 : decode b_Tokens_endAttribute 61 = .ok (.iadd, 1) := by decide +kernel
theorem d_Tokens_endAttribute_62 : decode b_Tokens_endAttribute 62 = .ok (.iastore, 1) := by decide +kernel
theorem d_Tokens_endAttribute_63 : decode b_Tokens_endAttribute 63 = .ok (.aload_n 0, 1) := by decide +kernel
theorem d_Tokens_endAttribute_64 : decode b_Tokens_endAttribute 64 = .ok (.iconst 0, 1) := by decide +kernel
theorem d_Tokens_endAttribute_65 : decode b_Tokens_endAttribute 65 = .ok (.putfield 56, 3) := by decide +kernel
theorem d_Tokens_endAttribute_68 : decode b_Tokens_endAttribute 68 = .ok (.return_, 1) := by decide +kernel
theorem d_Tokens_isStop_0 : decode b_Tokens_isStop 0 = .ok (.aload_n 0, 1) := by decide +kernel
theorem d_Tokens_isStop_1 : decode b_Tokens_isStop 1 = .ok (.getfield 37, 3) := by decide +kernel
theorem d_Tokens_isStop_4 : decode b_Tokens_isStop 4 = .ok (.sipush 400, 3) := by decide +kernel
theorem d_Tokens_isStop_7 : decode b_Tokens_isStop 7 = .ok (.if_icmp .ge 20, 3) := by decide +kernel
theorem d_Tokens_isStop_10 : decode b_Tokens_isStop 10 = .ok (.aload_n 0, 1) := by decide +kernel
theorem d_Tokens_isStop_11 : decode b_Tokens_isStop 11 = .ok (.getfield 19, 3) := by decide +kernel
theorem d_Tokens_isStop_14 : decode b_Tokens_isStop 14 = .ok (.aload_n 0, 1) := by decide +kernel
theorem d_Tokens_isStop_15 : decode b_Tokens_isStop 15 = .ok (.getfield 37, 3) := by decide +kernel
theorem d_Tokens_isStop_18 : decode b_Tokens_isStop 18 = .ok (.iaload, 1) := by decide +kernel
theorem d_Tokens_isStop_19 : decode b_Tokens_isStop 19 = .ok (.iconst 2, 1) := by decide +kernel
theorem d_Tokens_isStop_20 : decode b_Tokens_isStop 20 = .ok (.if_icmp .ne 7, 3) := by decide +kernel
theorem d_Tokens_isStop_23 : decode b_Tokens_isStop 23 = .ok (.iconst 1, 1) := by decide +kernel
theorem d_Tokens_isStop_24 : decode b_Tokens_isStop 24 = .ok (.goto 4, 3) := by decide +kernel
theorem d_Tokens_isStop_27 : decode b_Tokens_isStop 27 = .ok (.iconst 0, 1) := by decide +kernel
theorem d_Tokens_isStop_28 : decode b_Tokens_isStop 28 = .ok (.ireturn, 1) := by decide +kernel
theorem d_Tokens_hasAttributes_0 : decode b_Tokens_hasAttributes 0 = .ok (.aload_n 0, 1) := by decide +kernel
theorem d_Tokens_hasAttributes_1 : decode b_Tokens_hasAttributes 1 = .ok (.getfield 37, 3) := by decide +kernel
theorem d_Tokens_hasAttributes_4 : decode b_Tokens_hasAttributes 4 = .ok (.sipush 400, 3) := by decide +kernel
theorem d_Tokens_hasAttributes_7 : decode b_Tokens_hasAttributes 7 = .ok (.if_icmp .ge 19, 3) := by decide +kernel
theorem d_Tokens_hasAttributes_10 : decode b_Tokens_hasAttributes 10 = .ok (.aload_n 0, 1) := by decide +kernel
theorem d_Tokens_hasAttributes_11 : decode b_Tokens_hasAttributes 11 = .ok (.getfield 34, 3) := by decide +kernel
theorem d_Tokens_hasAttributes_14 : decode b_Tokens_hasAttributes 14 = .ok (.aload_n 0, 1) := by decide +kernel
theorem d_Tokens_hasAttributes_15 : decode b_Tokens_hasAttributes 15 = .ok (.getfield 37, 3) := by decide +kernel
theorem d_Tokens_hasAttributes_18 : decode b_Tokens_hasAttributes 18 = .ok (.iaload, 1) := by decide +kernel
theorem d_Tokens_hasAttributes_19 : decode b_Tokens_hasAttributes 19 = .ok (.ifCond .le 7, 3) := by decide +kernel
theorem d_Tokens_hasAttributes_22 : decode b_Tokens_hasAttributes 22 = .ok (.iconst 1, 1) := by decide +kernel
theorem d_Tokens_hasAttributes_23 : decode b_Tokens_hasAttributes 23 = .ok (.goto 4, 3) := by decide +kernel
theorem d_Tokens_hasAttributes_26 : decode b_Tokens_hasAttributes 26 = .ok (.iconst 0, 1) := by decide +kernel
theorem d_Tokens_hasAttributes_27 : decode b_Tokens_hasAttributes 27 = .ok (.ireturn, 1) := by decide +kernel
theorem d_Tokens_isMarked_0 : decode b_Tokens_isMarked 0 = .ok (.aload_n 0, 1) := by decide +kernel
theorem d_Tokens_isMarked_1 : decode b_Tokens_isMarked 1 = .ok (.getfield 37, 3) := by decide +kernel
theorem d_Tokens_isMarked_4 : decode b_Tokens_isMarked 4 = .ok (.sipush 400, 3) := by decide +kernel
theorem d_Tokens_isMarked_7 : decode b_Tokens_isMarked 7 = .ok (.if_icmp .ge 20, 3) := by decide +kernel
theorem d_Tokens_isMarked_10 : decode b_Tokens_isMarked 10 = .ok (.aload_n 0, 1) := by decide +kernel
theorem d_Tokens_isMarked_11 : decode b_Tokens_isMarked 11 = .ok (.getfield 28, 3) := by decide +kernel
theorem d_Tokens_isMarked_14 : decode b_Tokens_isMarked 14 = .ok (.aload_n 0, 1) := by decide +kernel
theorem d_Tokens_isMarked_15 : decode b_Tokens_isMarked 15 = .ok (.getfield 37, 3) := by decide +kernel
theorem d_Tokens_isMarked_18 : decode b_Tokens_isMarked 18 = .ok (.iaload, 1) := by decide +kernel
theorem d_Tokens_isMarked_19 : decode b_Tokens_isMarked 19 = .ok (.iconst 1, 1) := by decide +kernel
theorem d_Tokens_isMarked_20 : decode b_Tokens_isMarked 20 = .ok (.if_icmp .ne 7, 3) := by decide +kernel
theorem d_Tokens_isMarked_23 : decode b_Tokens_isMarked 23 = .ok (.iconst 1, 1) := by decide +kernel
theorem d_Tokens_isMarked_24 : decode b_Tokens_isMarked 24 = .ok (.goto 4, 3) := by decide +kernel
theorem d_Tokens_isMarked_27 : decode b_Tokens_isMarked 27 = .ok (.iconst 0, 1) := by decide +kernel
theorem d_Tokens_isMarked_28 : decode b_Tokens_isMarked 28 = .ok (.ireturn, 1) := by decide +kernel
theorem d_Tokens_dropAttributes_0 : decode b_Tokens_dropAttributes 0 = .ok (.aload_n 0, 1) := by decide +kernel
theorem d_Tokens_dropAttributes_1 : decode b_Tokens_dropAttributes 1 = .ok (.getfield 37, 3) := by decide +kernel
theorem d_Tokens_dropAttributes_4 : decode b_Tokens_dropAttributes 4 = .ok (.sipush 400, 3) := by decide +kernel
theorem d_Tokens_dropAttributes_7 : decode b_Tokens_dropAttributes 7 = .ok (.if_icmp .ge 13, 3) := by decide +kernel
theorem d_Tokens_dropAttributes_10 : decode b_Tokens_dropAttributes 10 = .ok (.aload_n 0, 1) := by decide +kernel
theorem d_Tokens_dropAttributes_11 : decode b_Tokens_dropAttributes 11 = .ok (.getfield 34, 3) := by decide +kernel
theorem d_Tokens_dropAttributes_14 : decode b_Tokens_dropAttributes 14 = .ok (.aload_n 0, 1) := by decide +kernel
theorem d_Tokens_dropAttributes_15 : decode b_Tokens_dropAttributes 15 = .ok (.getfield 37, 3) := by decide +kernel
theorem d_Tokens_dropAttributes_18 : decode b_Tokens_dropAttributes 18 = .ok (.iconst 0, 1) := by decide +kernel
theorem d_Tokens_dropAttributes_19 : decode b_Tokens_dropAttributes 19 = .ok (.iastore, 1) := by decide +kernel
theorem d_Tokens_dropAttributes_20 : decode b_Tokens_dropAttributes 20 = .ok (.return_, 1) := by decide +kernel
theorem d_Tokens_setMark_0 : decode b_Tokens_setMark 0 = .ok (.aload_n 0, 1) := by decide +kernel
theorem d_Tokens_setMark_1 : decode b_Tokens_setMark 1 = .ok (.getfield 37, 3) := by decide +kernel
theorem d_Tokens_setMark_4 : decode b_Tokens_setMark 4 = .ok (.sipush 400, 3) := by decide +kernel
theorem d_Tokens_setMark_7 : decode b_Tokens_setMark 7 = .ok (.if_icmp .ge 13, 3) := by decide +kernel
theorem d_Tokens_setMark_10 : decode b_Tokens_setMark 10 = .ok (.aload_n 0, 1) := by decide +kernel
theorem d_Tokens_setMark_11 : decode b_Tokens_setMark 11 = .ok (.getfield 28, 3) := by decide +kernel
theorem d_Tokens_setMark_14 : decode b_Tokens_setMark 14 = .ok (.aload_n 0, 1) := by decide +kernel
theorem d_Tokens_setMark_15 : decode b_Tokens_setMark 15 = .ok (.getfield 37, 3) := by decide +kernel
theorem d_Tokens_setMark_18 : decode b_Tokens_setMark 18 = .ok (.iload_n 1, 1) := by decide +kernel
theorem d_Tokens_setMark_19 : decode b_Tokens_setMark 19 = .ok (.iastore, 1) := by decide +kernel
theorem d_Tokens_setMark_20 : decode b_Tokens_setMark 20 = .ok (.return_, 1) := by decide +kernel
theorem d_Tokens_tell_0 : decode b_Tokens_tell 0 = .ok (.aload_n 0, 1) := by decide +kernel
theorem d_Tokens_tell_1 : decode b_Tokens_tell 1 = .ok (.getfield 37, 3) := by decide +kernel
theorem d_Tokens_tell_4 : decode b_Tokens_tell 4 = .ok (.sipush 400, 3) := by decide +kernel
theorem d_Tokens_tell_7 : decode b_Tokens_tell 7 = .ok (.if_icmp .ge 13, 3) := by decide +kernel
theorem d_Tokens_tell_10 : decode b_Tokens_tell 10 = .ok (.aload_n 0, 1) := by decide +kernel
theorem d_Tokens_tell_11 : decode b_Tokens_tell 11 = .ok (.dup, 1) := by decide +kernel
theorem d_Tokens_tell_12 : decode b_Tokens_tell 12 = .ok (.getfield 37, 3) := by decide +kernel
theorem d_Tokens_tell_15 : decode b_Tokens_tell 15 = .ok (.iconst 1, 1) := by decide +kernel
theorem d_Tokens_tell_16 : decode b_Tokens_tell 16 = .ok (.iadd, 1) := by decide +kernel
theorem d_Tokens_tell_17 : decode b_Tokens_tell 17 = .ok (.putfield 37, 3) := by decide +kernel
theorem d_Tokens_tell_20 : decode b_Tokens_tell 20 = .ok (.return_, 1) := by decide +kernel
theorem d_Tokens_beginAttribute_0 : decode b_Tokens_beginAttribute 0 = .ok (.aload_n 0, 1) := by decide +kernel
theorem d_Tokens_beginAttribute_1 : decode b_Tokens_beginAttribute 1 = .ok (.invokevirtual 66, 3) := by decide +kernel
theorem d_Tokens_beginAttribute_4 : decode b_Tokens_beginAttribute 4 = .ok (.aload_n 0, 1) := by decide +kernel
theorem d_Tokens_beginAttribute_5 : decode b_Tokens_beginAttribute 5 = .ok (.iconst 1, 1) := by decide +kernel
theorem d_Tokens_beginAttribute_6 : decode b_Tokens_beginAttribute 6 = .ok (.putfield 56, 3) := by decide +kernel
theorem d_Tokens_beginAttribute_9 : decode b_Tokens_beginAttribute 9 = .ok (.aload_n 0, 1) := by decide +kernel
theorem d_Tokens_beginAttribute_10 : decode b_Tokens_beginAttribute 10 = .ok (.getfield 53, 3) := by decide +kernel
theorem d_Tokens_beginAttribute_13 : decode b_Tokens_beginAttribute 13 = .ok (.sipush 400, 3) := by decide +kernel
theorem d_Tokens_beginAttribute_16 : decode b_Tokens_beginAttribute 16 = .ok (.if_icmp .ge 16, 3) := by decide +kernel
theorem d_Tokens_beginAttribute_19 : decode b_Tokens_beginAttribute 19 = .ok (.aload_n 0, 1) := by decide +kernel
theorem d_Tokens_beginAttribute_20 : decode b_Tokens_beginAttribute 20 = .ok (.getfield 44, 3) := by decide +kernel
theorem d_Tokens_beginAttribute_23 : decode b_Tokens_beginAttribute 23 = .ok (.aload_n 0, 1) := by decide +kernel
theorem d_Tokens_beginAttribute_24 : decode b_Tokens_beginAttribute 24 = .ok (.getfield 53, 3) := by decide +kernel
theorem d_Tokens_beginAttribute_27 : decode b_Tokens_beginAttribute 27 = .ok (.aload_n 0, 1) := by decide +kernel
theorem d_Tokens_beginAttribute_28 : decode b_Tokens_beginAttribute 28 = .ok (.getfield 15, 3) := by decide +kernel
theorem d_Tokens_beginAttribute_31 : decode b_Tokens_beginAttribute 31 = .ok (.iastore, 1) := by decide +kernel
theorem d_Tokens_beginAttribute_32 : decode b_Tokens_beginAttribute 32 = .ok (.return_, 1) := by decide +kernel
theorem d_Tokens_endAttributeName_0 : decode b_Tokens_endAttributeName 0 = .ok (.aload_n 0, 1) := by decide +kernel
theorem d_Tokens_endAttributeName_1 : decode b_Tokens_endAttributeName 1 = .ok (.getfield 53, 3) := by decide +kernel
theorem d_Tokens_endAttributeName_4 : decode b_Tokens_endAttributeName 4 = .ok (.sipush 400, 3) := by decide +kernel
theorem d_Tokens_endAttributeName_7 : decode b_Tokens_endAttributeName 7 = .ok (.if_icmp .ge 16, 3) := by decide +kernel
theorem d_Tokens_endAttributeName_10 : decode b_Tokens_endAttributeName 10 = .ok (.aload_n 0, 1) := by decide +kernel
theorem d_Tokens_endAttributeName_11 : decode b_Tokens_endAttributeName 11 = .ok (.getfield 47, 3) := by decide +kernel
theorem d_Tokens_endAttributeName_14 : decode b_Tokens_endAttributeName 14 = .ok (.aload_n 0, 1) := by decide +kernel
theorem d_Tokens_endAttributeName_15 : decode b_Tokens_endAttributeName 15 = .ok (.getfield 53, 3) := by decide +kernel
theorem d_Tokens_endAttributeName_18 : decode b_Tokens_endAttributeName 18 = .ok (.aload_n 0, 1) := by decide +kernel
theorem d_Tokens_endAttributeName_19 : decode b_Tokens_endAttributeName 19 = .ok (.getfield 15, 3) := by decide +kernel
theorem d_Tokens_endAttributeName_22 : decode b_Tokens_endAttributeName 22 = .ok (.iastore, 1) := by decide +kernel
theorem d_Tokens_endAttributeName_23 : decode b_Tokens_endAttributeName 23 = .ok (.return_, 1) := by decide +kernel
theorem d_Tokens_sameName_0 : decode b_Tokens_sameName 0 = .ok (.aload_n 0, 1) := by decide +kernel
theorem d_Tokens_sameName_1 : decode b_Tokens_sameName 1 = .ok (.getfield 47, 3) := by decide +kernel
theorem d_Tokens_sameName_4 : decode b_Tokens_sameName 4 = .ok (.iload_n 1, 1) := by decide +kernel
theorem d_Tokens_sameName_5 : decode b_Tokens_sameName 5 = .ok (.iaload, 1) := by decide +kernel
theorem d_Tokens_sameName_6 : decode b_Tokens_sameName 6 = .ok (.aload_n 0, 1) := by decide +kernel
theorem d_Tokens_sameName_7 : decode b_Tokens_sameName 7 = .ok (.getfield 44, 3) := by decide +kernel
theorem d_Tokens_sameName_10 : decode b_Tokens_sameName 10 = .ok (.iload_n 1, 1) := by decide +kernel
theorem d_Tokens_sameName_11 : decode b_Tokens_sameName 11 = .ok (.iaload, 1) := by decide +kernel
theorem d_Tokens_sameName_12 : decode b_Tokens_sameName 12 = .ok (.isub, 1) := by decide +kernel
theorem d_Tokens_sameName_13 : decode b_Tokens_sameName 13 = .ok (.istore_n 3, 1) := by decide +kernel
theorem d_Tokens_sameName_14 : decode b_Tokens_sameName 14 = .ok (.iload_n 3, 1) := by decide +kernel
theorem d_Tokens_sameName_15 : decode b_Tokens_sameName 15 = .ok (.aload_n 0, 1) := by decide +kernel
theorem d_Tokens_sameName_16 : decode b_Tokens_sameName 16 = .ok (.getfield 47, 3) := by decide +kernel
theorem d_Tokens_sameName_19 : decode b_Tokens_sameName 19 = .ok (.iload_n 2, 1) := by decide +kernel
theorem d_Tokens_sameName_20 : decode b_Tokens_sameName 20 = .ok (.iaload, 1) := by decide +kernel
theorem d_Tokens_sameName_21 : decode b_Tokens_sameName 21 = .ok (.aload_n 0, 1) := by decide +kernel
theorem d_Tokens_sameName_22 : decode b_Tokens_sameName 22 = .ok (.getfield 44, 3) := by decide +kernel
theorem d_Tokens_sameName_25 : decode b_Tokens_sameName 25 = .ok (.iload_n 2, 1) := by decide +kernel
theorem d_Tokens_sameName_26 : decode b_Tokens_sameName 26 = .ok (.iaload, 1) := by decide +kernel
theorem d_Tokens_sameName_27 : decode b_Tokens_sameName 27 = .ok (.isub, 1) := by decide +kernel
theorem d_Tokens_sameName_28 : decode b_Tokens_sameName 28 = .ok (.if_icmp .eq 5, 3) := by decide +kernel
theorem d_Tokens_sameName_31 : decode b_Tokens_sameName 31 = .ok (.iconst 0, 1) := by decide +kernel
theorem d_Tokens_sameName_32 : decode b_Tokens_sameName 32 = .ok (.ireturn, 1) := by decide +kernel
theorem d_Tokens_sameName_33 : decode b_Tokens_sameName 33 = .ok (.iconst 0, 1) := by decide +kernel
theorem d_Tokens_sameName_34 : decode b_Tokens_sameName 34 = .ok (.istore 4, 2) := by decide +kernel
theorem d_Tokens_sameName_36 : decode b_Tokens_sameName 36 = .ok (.iload 4, 2) := by decide +kernel
theorem d_Tokens_sameName_38 : decode b_Tokens_sameName 38 = .ok (.iload_n 3, 1) := by decide +kernel
theorem d_Tokens_sameName_39 : decode b_Tokens_sameName 39 = .ok (.if_icmp .ge 42, 3) := by decide +kernel
theorem d_Tokens_sameName_42 : decode b_Tokens_sameName 42 = .ok (.aload_n 0, 1) := by decide +kernel
theorem d_Tokens_sameName_43 : decode b_Tokens_sameName 43 = .ok (.getfield 11, 3) := by decide +kernel
theorem d_Tokens_sameName_46 : decode b_Tokens_sameName 46 = .ok (.aload_n 0, 1) := by decide +kernel
theorem d_Tokens_sameName_47 : decode b_Tokens_sameName 47 = .ok (.getfield 44, 3) := by decide +kernel
theorem d_Tokens_sameName_50 : decode b_Tokens_sameName 50 = .ok (.iload_n 1, 1) := by decide +kernel
theorem d_Tokens_sameName_51 : decode b_Tokens_sameName 51 = .ok (.iaload, 1) := by decide +kernel
theorem d_Tokens_sameName_52 : decode b_Tokens_sameName 52 = .ok (.iload 4, 2) := by decide +kernel
theorem d_Tokens_sameName_54 : decode b_Tokens_sameName 54 = .ok (.iadd, 1) := by decide +kernel
theorem d_Tokens_sameName_55 : decode b_Tokens_sameName 55 = .ok (.iaload, 1) := by decide +kernel
theorem d_Tokens_sameName_56 : decode b_Tokens_sameName 56 = .ok (.aload_n 0, 1) := by decide +kernel
theorem d_Tokens_sameName_57 : decode b_Tokens_sameName 57 = .ok (.getfield 11, 3) := by decide +kernel
theorem d_Tokens_sameName_60 : decode b_Tokens_sameName 60 = .ok (.aload_n 0, 1) := by decide +kernel
theorem d_Tokens_sameName_61 : decode b_Tokens_sameName 61 = .ok (.getfield 44, 3) := by decide +kernel
theorem d_Tokens_sameName_64 : decode b_Tokens_sameName 64 = .ok (.iload_n 2, 1) := by decide +kernel
theorem d_Tokens_sameName_65 : decode b_Tokens_sameName 65 = .ok (.iaload, 1) := by decide +kernel
theorem d_Tokens_sameName_66 : decode b_Tokens_sameName 66 = .ok (.iload 4, 2) := by decide +kernel
theorem d_Tokens_sameName_68 : decode b_Tokens_sameName 68 = .ok (.iadd, 1) := by decide +kernel
theorem d_Tokens_sameName_69 : decode b_Tokens_sameName 69 = .ok (.iaload, 1) := by decide +kernel
theorem d_Tokens_sameName_70 : decode b_Tokens_sameName 70 = .ok (.if_icmp .eq 5, 3) := by decide +kernel
theorem d_Tokens_sameName_73 : decode b_Tokens_sameName 73 = .ok (.iconst 0, 1) := by decide +kernel
theorem d_Tokens_sameName_74 : decode b_Tokens_sameName 74 = .ok (.ireturn, 1) := by decide +kernel
theorem d_Tokens_sameName_75 : decode b_Tokens_sameName 75 = .ok (.iinc 4 1, 3) := by decide +kernel
theorem d_Tokens_sameName_78 : decode b_Tokens_sameName 78 = .ok (.goto (-42), 3) := by decide +kernel
theorem d_Tokens_sameName_81 : decode b_Tokens_sameName 81 = .ok (.iconst 1, 1) := by decide +kernel
theorem d_Tokens_sameName_82 : decode b_Tokens_sameName 82 = .ok (.ireturn, 1) := by decide +kernel
theorem d_Tokens_stoodBefore_0 : decode b_Tokens_stoodBefore 0 = .ok (.aload_n 0, 1) := by decide +kernel
theorem d_Tokens_stoodBefore_1 : decode b_Tokens_stoodBefore 1 = .ok (.getfield 37, 3) := by decide +kernel
theorem d_Tokens_stoodBefore_4 : decode b_Tokens_stoodBefore 4 = .ok (.sipush 400, 3) := by decide +kernel
theorem d_Tokens_stoodBefore_7 : decode b_Tokens_stoodBefore 7 = .ok (.if_icmp .ge 13, 3) := by decide +kernel
theorem d_Tokens_stoodBefore_10 : decode b_Tokens_stoodBefore 10 = .ok (.aload_n 0, 1) := by decide +kernel
theorem d_Tokens_stoodBefore_11 : decode b_Tokens_stoodBefore 11 = .ok (.getfield 53, 3) := by decide +kernel
theorem d_Tokens_stoodBefore_14 : decode b_Tokens_stoodBefore 14 = .ok (.sipush 400, 3) := by decide +kernel
theorem d_Tokens_stoodBefore_17 : decode b_Tokens_stoodBefore 17 = .ok (.if_icmp .lt 5, 3) := by decide +kernel
theorem d_Tokens_stoodBefore_20 : decode b_Tokens_stoodBefore 20 = .ok (.iconst 0, 1) := by decide +kernel
theorem d_Tokens_stoodBefore_21 : decode b_Tokens_stoodBefore 21 = .ok (.ireturn, 1) := by decide +kernel
theorem d_Tokens_stoodBefore_22 : decode b_Tokens_stoodBefore 22 = .ok (.aload_n 0, 1) := by decide +kernel
theorem d_Tokens_stoodBefore_23 : decode b_Tokens_stoodBefore 23 = .ok (.getfield 31, 3) := by decide +kernel
theorem d_Tokens_stoodBefore_26 : decode b_Tokens_stoodBefore 26 = .ok (.aload_n 0, 1) := by decide +kernel
theorem d_Tokens_stoodBefore_27 : decode b_Tokens_stoodBefore 27 = .ok (.getfield 37, 3) := by decide +kernel
theorem d_Tokens_stoodBefore_30 : decode b_Tokens_stoodBefore 30 = .ok (.iaload, 1) := by decide +kernel
theorem d_Tokens_stoodBefore_31 : decode b_Tokens_stoodBefore 31 = .ok (.istore_n 1, 1) := by decide +kernel
theorem d_Tokens_stoodBefore_32 : decode b_Tokens_stoodBefore 32 = .ok (.iload_n 1, 1) := by decide +kernel
theorem d_Tokens_stoodBefore_33 : decode b_Tokens_stoodBefore 33 = .ok (.aload_n 0, 1) := by decide +kernel
theorem d_Tokens_stoodBefore_34 : decode b_Tokens_stoodBefore 34 = .ok (.getfield 53, 3) := by decide +kernel
theorem d_Tokens_stoodBefore_37 : decode b_Tokens_stoodBefore 37 = .ok (.if_icmp .ge 23, 3) := by decide +kernel
theorem d_Tokens_stoodBefore_40 : decode b_Tokens_stoodBefore 40 = .ok (.aload_n 0, 1) := by decide +kernel
theorem d_Tokens_stoodBefore_41 : decode b_Tokens_stoodBefore 41 = .ok (.iload_n 1, 1) := by decide +kernel
theorem d_Tokens_stoodBefore_42 : decode b_Tokens_stoodBefore 42 = .ok (.aload_n 0, 1) := by decide +kernel
theorem d_Tokens_stoodBefore_43 : decode b_Tokens_stoodBefore 43 = .ok (.getfield 53, 3) := by decide +kernel
theorem d_Tokens_stoodBefore_46 : decode b_Tokens_stoodBefore 46 = .ok (.invokevirtual 69, 3) := by decide +kernel
theorem d_Tokens_stoodBefore_49 : decode b_Tokens_stoodBefore 49 = .ok (.ifCond .eq 5, 3) := by decide +kernel
theorem d_Tokens_stoodBefore_52 : decode b_Tokens_stoodBefore 52 = .ok (.iconst 1, 1) := by decide +kernel
theorem d_Tokens_stoodBefore_53 : decode b_Tokens_stoodBefore 53 = .ok (.ireturn, 1) := by decide +kernel
theorem d_Tokens_stoodBefore_54 : decode b_Tokens_stoodBefore 54 = .ok (.iinc 1 1, 3) := by decide +kernel
theorem d_Tokens_stoodBefore_57 : decode b_Tokens_stoodBefore 57 = .ok (.goto (-25), 3) := by decide +kernel
theorem d_Tokens_stoodBefore_60 : decode b_Tokens_stoodBefore 60 = .ok (.iconst 0, 1) := by decide +kernel
theorem d_Tokens_stoodBefore_61 : decode b_Tokens_stoodBefore 61 = .ok (.ireturn, 1) := by decide +kernel
theorem d_Tokens_loseAttribute_0 : decode b_Tokens_loseAttribute 0 = .ok (.aload_n 0, 1) := by decide +kernel
theorem d_Tokens_loseAttribute_1 : decode b_Tokens_loseAttribute 1 = .ok (.iconst 0, 1) := by decide +kernel
theorem d_Tokens_loseAttribute_2 : decode b_Tokens_loseAttribute 2 = .ok (.putfield 56, 3) := by decide +kernel
theorem d_Tokens_loseAttribute_5 : decode b_Tokens_loseAttribute 5 = .ok (.return_, 1) := by decide +kernel
theorem d_Tokens_count_0 : decode b_Tokens_count 0 = .ok (.aload_n 0, 1) := by decide +kernel
theorem d_Tokens_count_1 : decode b_Tokens_count 1 = .ok (.getfield 37, 3) := by decide +kernel
theorem d_Tokens_count_4 : decode b_Tokens_count 4 = .ok (.ireturn, 1) := by decide +kernel
theorem d_Tokens_has_0 : decode b_Tokens_has 0 = .ok (.iload_n 1, 1) := by decide +kernel
theorem d_Tokens_has_1 : decode b_Tokens_has 1 = .ok (.ifCond .lt 15, 3) := by decide +kernel
theorem d_Tokens_has_4 : decode b_Tokens_has 4 = .ok (.iload_n 1, 1) := by decide +kernel
theorem d_Tokens_has_5 : decode b_Tokens_has 5 = .ok (.aload_n 0, 1) := by decide +kernel
theorem d_Tokens_has_6 : decode b_Tokens_has 6 = .ok (.getfield 37, 3) := by decide +kernel
theorem d_Tokens_has_9 : decode b_Tokens_has 9 = .ok (.if_icmp .ge 7, 3) := by decide +kernel
theorem d_Tokens_has_12 : decode b_Tokens_has 12 = .ok (.iconst 1, 1) := by decide +kernel
theorem d_Tokens_has_13 : decode b_Tokens_has 13 = .ok (.goto 4, 3) := by decide +kernel
theorem d_Tokens_has_16 : decode b_Tokens_has 16 = .ok (.iconst 0, 1) := by decide +kernel
theorem d_Tokens_has_17 : decode b_Tokens_has 17 = .ok (.ireturn, 1) := by decide +kernel
theorem d_Tokens_kind_0 : decode b_Tokens_kind 0 = .ok (.aload_n 0, 1) := by decide +kernel
theorem d_Tokens_kind_1 : decode b_Tokens_kind 1 = .ok (.getfield 19, 3) := by decide +kernel
theorem d_Tokens_kind_4 : decode b_Tokens_kind 4 = .ok (.iload_n 1, 1) := by decide +kernel
theorem d_Tokens_kind_5 : decode b_Tokens_kind 5 = .ok (.iaload, 1) := by decide +kernel
theorem d_Tokens_kind_6 : decode b_Tokens_kind 6 = .ok (.ireturn, 1) := by decide +kernel
theorem d_Tokens_length_0 : decode b_Tokens_length 0 = .ok (.aload_n 0, 1) := by decide +kernel
theorem d_Tokens_length_1 : decode b_Tokens_length 1 = .ok (.getfield 25, 3) := by decide +kernel
theorem d_Tokens_length_4 : decode b_Tokens_length 4 = .ok (.iload_n 1, 1) := by decide +kernel
theorem d_Tokens_length_5 : decode b_Tokens_length 5 = .ok (.iaload, 1) := by decide +kernel
theorem d_Tokens_length_6 : decode b_Tokens_length 6 = .ok (.aload_n 0, 1) := by decide +kernel
theorem d_Tokens_length_7 : decode b_Tokens_length 7 = .ok (.getfield 22, 3) := by decide +kernel
theorem d_Tokens_length_10 : decode b_Tokens_length 10 = .ok (.iload_n 1, 1) := by decide +kernel
theorem d_Tokens_length_11 : decode b_Tokens_length 11 = .ok (.iaload, 1) := by decide +kernel
theorem d_Tokens_length_12 : decode b_Tokens_length 12 = .ok (.isub, 1) := by decide +kernel
theorem d_Tokens_length_13 : decode b_Tokens_length 13 = .ok (.ireturn, 1) := by decide +kernel
theorem d_Tokens_mark_0 : decode b_Tokens_mark 0 = .ok (.aload_n 0, 1) := by decide +kernel
theorem d_Tokens_mark_1 : decode b_Tokens_mark 1 = .ok (.getfield 28, 3) := by decide +kernel
theorem d_Tokens_mark_4 : decode b_Tokens_mark 4 = .ok (.iload_n 1, 1) := by decide +kernel
theorem d_Tokens_mark_5 : decode b_Tokens_mark 5 = .ok (.iaload, 1) := by decide +kernel
theorem d_Tokens_mark_6 : decode b_Tokens_mark 6 = .ok (.ireturn, 1) := by decide +kernel
theorem d_Tokens_attributes_0 : decode b_Tokens_attributes 0 = .ok (.aload_n 0, 1) := by decide +kernel
theorem d_Tokens_attributes_1 : decode b_Tokens_attributes 1 = .ok (.getfield 34, 3) := by decide +kernel
theorem d_Tokens_attributes_4 : decode b_Tokens_attributes 4 = .ok (.iload_n 1, 1) := by decide +kernel
theorem d_Tokens_attributes_5 : decode b_Tokens_attributes 5 = .ok (.iaload, 1) := by decide +kernel
theorem d_Tokens_attributes_6 : decode b_Tokens_attributes 6 = .ok (.ireturn, 1) := by decide +kernel
theorem d_Tokens_character_0 : decode b_Tokens_character 0 = .ok (.aload_n 0, 1) := by decide +kernel
theorem d_Tokens_character_1 : decode b_Tokens_character 1 = .ok (.getfield 11, 3) := by decide +kernel
theorem d_Tokens_character_4 : decode b_Tokens_character 4 = .ok (.aload_n 0, 1) := by decide +kernel
theorem d_Tokens_character_5 : decode b_Tokens_character 5 = .ok (.getfield 22, 3) := by decide +kernel
theorem d_Tokens_character_8 : decode b_Tokens_character 8 = .ok (.iload_n 1, 1) := by decide +kernel
theorem d_Tokens_character_9 : decode b_Tokens_character 9 = .ok (.iaload, 1) := by decide +kernel
theorem d_Tokens_character_10 : decode b_Tokens_character 10 = .ok (.iload_n 2, 1) := by decide +kernel
theorem d_Tokens_character_11 : decode b_Tokens_character 11 = .ok (.iadd, 1) := by decide +kernel
theorem d_Tokens_character_12 : decode b_Tokens_character 12 = .ok (.iaload, 1) := by decide +kernel
theorem d_Tokens_character_13 : decode b_Tokens_character 13 = .ok (.ireturn, 1) := by decide +kernel
theorem d_Tokens_hasAttribute_0 : decode b_Tokens_hasAttribute 0 = .ok (.aload_n 0, 1) := by decide +kernel
theorem d_Tokens_hasAttribute_1 : decode b_Tokens_hasAttribute 1 = .ok (.iload_n 1, 1) := by decide +kernel
theorem d_Tokens_hasAttribute_2 : decode b_Tokens_hasAttribute 2 = .ok (.invokevirtual 73, 3) := by decide +kernel
theorem d_Tokens_hasAttribute_5 : decode b_Tokens_hasAttribute 5 = .ok (.ifCond .eq 21, 3) := by decide +kernel
theorem d_Tokens_hasAttribute_8 : decode b_Tokens_hasAttribute 8 = .ok (.iload_n 2, 1) := by decide +kernel
theorem d_Tokens_hasAttribute_9 : decode b_Tokens_hasAttribute 9 = .ok (.ifCond .lt 17, 3) := by decide +kernel
theorem d_Tokens_hasAttribute_12 : decode b_Tokens_hasAttribute 12 = .ok (.iload_n 2, 1) := by decide +kernel
theorem d_Tokens_hasAttribute_13 : decode b_Tokens_hasAttribute 13 = .ok (.aload_n 0, 1) := by decide +kernel
theorem d_Tokens_hasAttribute_14 : decode b_Tokens_hasAttribute 14 = .ok (.getfield 34, 3) := by decide +kernel
theorem d_Tokens_hasAttribute_17 : decode b_Tokens_hasAttribute 17 = .ok (.iload_n 1, 1) := by decide +kernel
theorem d_Tokens_hasAttribute_18 : decode b_Tokens_hasAttribute 18 = .ok (.iaload, 1) := by decide +kernel
theorem d_Tokens_hasAttribute_19 : decode b_Tokens_hasAttribute 19 = .ok (.if_icmp .ge 7, 3) := by decide +kernel
theorem d_Tokens_hasAttribute_22 : decode b_Tokens_hasAttribute 22 = .ok (.iconst 1, 1) := by decide +kernel
theorem d_Tokens_hasAttribute_23 : decode b_Tokens_hasAttribute 23 = .ok (.goto 4, 3) := by decide +kernel
theorem d_Tokens_hasAttribute_26 : decode b_Tokens_hasAttribute 26 = .ok (.iconst 0, 1) := by decide +kernel
theorem d_Tokens_hasAttribute_27 : decode b_Tokens_hasAttribute 27 = .ok (.ireturn, 1) := by decide +kernel
theorem d_Tokens_nameLength_0 : decode b_Tokens_nameLength 0 = .ok (.aload_n 0, 1) := by decide +kernel
theorem d_Tokens_nameLength_1 : decode b_Tokens_nameLength 1 = .ok (.getfield 31, 3) := by decide +kernel
theorem d_Tokens_nameLength_4 : decode b_Tokens_nameLength 4 = .ok (.iload_n 1, 1) := by decide +kernel
theorem d_Tokens_nameLength_5 : decode b_Tokens_nameLength 5 = .ok (.iaload, 1) := by decide +kernel
theorem d_Tokens_nameLength_6 : decode b_Tokens_nameLength 6 = .ok (.iload_n 2, 1) := by decide +kernel
theorem d_Tokens_nameLength_7 : decode b_Tokens_nameLength 7 = .ok (.iadd, 1) := by decide +kernel
theorem d_Tokens_nameLength_8 : decode b_Tokens_nameLength 8 = .ok (.istore_n 3, 1) := by decide +kernel
theorem d_Tokens_nameLength_9 : decode b_Tokens_nameLength 9 = .ok (.aload_n 0, 1) := by decide +kernel
theorem d_Tokens_nameLength_10 : decode b_Tokens_nameLength 10 = .ok (.getfield 47, 3) := by decide +kernel
theorem d_Tokens_nameLength_13 : decode b_Tokens_nameLength 13 = .ok (.iload_n 3, 1) := by decide +kernel
theorem d_Tokens_nameLength_14 : decode b_Tokens_nameLength 14 = .ok (.iaload, 1) := by decide +kernel
theorem d_Tokens_nameLength_15 : decode b_Tokens_nameLength 15 = .ok (.aload_n 0, 1) := by decide +kernel
theorem d_Tokens_nameLength_16 : decode b_Tokens_nameLength 16 = .ok (.getfield 44, 3) := by decide +kernel
theorem d_Tokens_nameLength_19 : decode b_Tokens_nameLength 19 = .ok (.iload_n 3, 1) := by decide +kernel
theorem d_Tokens_nameLength_20 : decode b_Tokens_nameLength 20 = .ok (.iaload, 1) := by decide +kernel
theorem d_Tokens_nameLength_21 : decode b_Tokens_nameLength 21 = .ok (.isub, 1) := by decide +kernel
theorem d_Tokens_nameLength_22 : decode b_Tokens_nameLength 22 = .ok (.ireturn, 1) := by decide +kernel
theorem d_Tokens_valueLength_0 : decode b_Tokens_valueLength 0 = .ok (.aload_n 0, 1) := by decide +kernel
theorem d_Tokens_valueLength_1 : decode b_Tokens_valueLength 1 = .ok (.getfield 31, 3) := by decide +kernel
theorem d_Tokens_valueLength_4 : decode b_Tokens_valueLength 4 = .ok (.iload_n 1, 1) := by decide +kernel
theorem d_Tokens_valueLength_5 : decode b_Tokens_valueLength 5 = .ok (.iaload, 1) := by decide +kernel
theorem d_Tokens_valueLength_6 : decode b_Tokens_valueLength 6 = .ok (.iload_n 2, 1) := by decide +kernel
theorem d_Tokens_valueLength_7 : decode b_Tokens_valueLength 7 = .ok (.iadd, 1) := by decide +kernel
theorem d_Tokens_valueLength_8 : decode b_Tokens_valueLength 8 = .ok (.istore_n 3, 1) := by decide +kernel
theorem d_Tokens_valueLength_9 : decode b_Tokens_valueLength 9 = .ok (.aload_n 0, 1) := by decide +kernel
theorem d_Tokens_valueLength_10 : decode b_Tokens_valueLength 10 = .ok (.getfield 50, 3) := by decide +kernel
theorem d_Tokens_valueLength_13 : decode b_Tokens_valueLength 13 = .ok (.iload_n 3, 1) := by decide +kernel
theorem d_Tokens_valueLength_14 : decode b_Tokens_valueLength 14 = .ok (.iaload, 1) := by decide +kernel
theorem d_Tokens_valueLength_15 : decode b_Tokens_valueLength 15 = .ok (.aload_n 0, 1) := by decide +kernel
theorem d_Tokens_valueLength_16 : decode b_Tokens_valueLength 16 = .ok (.getfield 47, 3) := by decide +kernel
theorem d_Tokens_valueLength_19 : decode b_Tokens_valueLength 19 = .ok (.iload_n 3, 1) := by decide +kernel
theorem d_Tokens_valueLength_20 : decode b_Tokens_valueLength 20 = .ok (.iaload, 1) := by decide +kernel
theorem d_Tokens_valueLength_21 : decode b_Tokens_valueLength 21 = .ok (.isub, 1) := by decide +kernel
theorem d_Tokens_valueLength_22 : decode b_Tokens_valueLength 22 = .ok (.ireturn, 1) := by decide +kernel
theorem d_Tokens_nameCharacter_0 : decode b_Tokens_nameCharacter 0 = .ok (.aload_n 0, 1) := by decide +kernel
theorem d_Tokens_nameCharacter_1 : decode b_Tokens_nameCharacter 1 = .ok (.getfield 11, 3) := by decide +kernel
theorem d_Tokens_nameCharacter_4 : decode b_Tokens_nameCharacter 4 = .ok (.aload_n 0, 1) := by decide +kernel
theorem d_Tokens_nameCharacter_5 : decode b_Tokens_nameCharacter 5 = .ok (.getfield 44, 3) := by decide +kernel
theorem d_Tokens_nameCharacter_8 : decode b_Tokens_nameCharacter 8 = .ok (.aload_n 0, 1) := by decide +kernel
theorem d_Tokens_nameCharacter_9 : decode b_Tokens_nameCharacter 9 = .ok (.getfield 31, 3) := by decide +kernel
theorem d_Tokens_nameCharacter_12 : decode b_Tokens_nameCharacter 12 = .ok (.iload_n 1, 1) := by decide +kernel
theorem d_Tokens_nameCharacter_13 : decode b_Tokens_nameCharacter 13 = .ok (.iaload, 1) := by decide +kernel
theorem d_Tokens_nameCharacter_14 : decode b_Tokens_nameCharacter 14 = .ok (.iload_n 2, 1) := by decide +kernel
theorem d_Tokens_nameCharacter_15 : decode b_Tokens_nameCharacter 15 = .ok (.iadd, 1) := by decide +kernel
theorem d_Tokens_nameCharacter_16 : decode b_Tokens_nameCharacter 16 = .ok (.iaload, 1) := by decide +kernel
theorem d_Tokens_nameCharacter_17 : decode b_Tokens_nameCharacter 17 = .ok (.iload_n 3, 1) := by decide +kernel
theorem d_Tokens_nameCharacter_18 : decode b_Tokens_nameCharacter 18 = .ok (.iadd, 1) := by decide +kernel
theorem d_Tokens_nameCharacter_19 : decode b_Tokens_nameCharacter 19 = .ok (.iaload, 1) := by decide +kernel
theorem d_Tokens_nameCharacter_20 : decode b_Tokens_nameCharacter 20 = .ok (.ireturn, 1) := by decide +kernel
theorem d_Tokens_valueCharacter_0 : decode b_Tokens_valueCharacter 0 = .ok (.aload_n 0, 1) := by decide +kernel
theorem d_Tokens_valueCharacter_1 : decode b_Tokens_valueCharacter 1 = .ok (.getfield 11, 3) := by decide +kernel
theorem d_Tokens_valueCharacter_4 : decode b_Tokens_valueCharacter 4 = .ok (.aload_n 0, 1) := by decide +kernel
theorem d_Tokens_valueCharacter_5 : decode b_Tokens_valueCharacter 5 = .ok (.getfield 47, 3) := by decide +kernel
theorem d_Tokens_valueCharacter_8 : decode b_Tokens_valueCharacter 8 = .ok (.aload_n 0, 1) := by decide +kernel
theorem d_Tokens_valueCharacter_9 : decode b_Tokens_valueCharacter 9 = .ok (.getfield 31, 3) := by decide +kernel
theorem d_Tokens_valueCharacter_12 : decode b_Tokens_valueCharacter 12 = .ok (.iload_n 1, 1) := by decide +kernel
theorem d_Tokens_valueCharacter_13 : decode b_Tokens_valueCharacter 13 = .ok (.iaload, 1) := by decide +kernel
theorem d_Tokens_valueCharacter_14 : decode b_Tokens_valueCharacter 14 = .ok (.iload_n 2, 1) := by decide +kernel
theorem d_Tokens_valueCharacter_15 : decode b_Tokens_valueCharacter 15 = .ok (.iadd, 1) := by decide +kernel
theorem d_Tokens_valueCharacter_16 : decode b_Tokens_valueCharacter 16 = .ok (.iaload, 1) := by decide +kernel
theorem d_Tokens_valueCharacter_17 : decode b_Tokens_valueCharacter 17 = .ok (.iload_n 3, 1) := by decide +kernel
theorem d_Tokens_valueCharacter_18 : decode b_Tokens_valueCharacter 18 = .ok (.iadd, 1) := by decide +kernel
theorem d_Tokens_valueCharacter_19 : decode b_Tokens_valueCharacter 19 = .ok (.iaload, 1) := by decide +kernel
theorem d_Tokens_valueCharacter_20 : decode b_Tokens_valueCharacter 20 = .ok (.ireturn, 1) := by decide +kernel
