theorem dX0_init_0 : decode cX0_init 0 = .ok (.aload_n 0, 1) := by decide +kernel
theorem dX0_init_1 : decode cX0_init 1 = .ok (.invokespecial 3, 3) := by decide +kernel
theorem dX0_init_4 : decode cX0_init 4 = .ok (.aload_n 0, 1) := by decide +kernel
theorem dX0_init_5 : decode cX0_init 5 = .ok (.bipush 24, 2) := by decide +kernel
theorem dX0_init_7 : decode cX0_init 7 = .ok (.anewarray 9, 3) := by decide +kernel
theorem dX0_init_10 : decode cX0_init 10 = .ok (.putfield 11, 3) := by decide +kernel
theorem dX0_init_13 : decode cX0_init 13 = .ok (.aload_n 0, 1) := by decide +kernel
theorem dX0_init_14 : decode cX0_init 14 = .ok (.iconst 0, 1) := by decide +kernel
theorem dX0_init_15 : decode cX0_init 15 = .ok (.putfield 17, 3) := by decide +kernel
theorem dX0_init_18 : decode cX0_init 18 = .ok (.aload_n 0, 1) := by decide +kernel
theorem dX0_init_19 : decode cX0_init 19 = .ok (.iconst 0, 1) := by decide +kernel
theorem dX0_init_20 : decode cX0_init 20 = .ok (.putfield 21, 3) := by decide +kernel
theorem dX0_init_23 : decode cX0_init 23 = .ok (.iconst 0, 1) := by decide +kernel
theorem dX0_init_24 : decode cX0_init 24 = .ok (.istore_n 1, 1) := by decide +kernel
theorem dX0_init_25 : decode cX0_init 25 = .ok (.iload_n 1, 1) := by decide +kernel
theorem dX0_init_26 : decode cX0_init 26 = .ok (.bipush 24, 2) := by decide +kernel
theorem dX0_init_28 : decode cX0_init 28 = .ok (.if_icmp .ge 22, 3) := by decide +kernel
theorem dX0_init_31 : decode cX0_init 31 = .ok (.aload_n 0, 1) := by decide +kernel
theorem dX0_init_32 : decode cX0_init 32 = .ok (.getfield 11, 3) := by decide +kernel
theorem dX0_init_35 : decode cX0_init 35 = .ok (.iload_n 1, 1) := by decide +kernel
theorem dX0_init_36 : decode cX0_init 36 = .ok (.new 9, 3) := by decide +kernel
theorem dX0_init_39 : decode cX0_init 39 = .ok (.dup, 1) := by decide +kernel
theorem dX0_init_40 : decode cX0_init 40 = .ok (.invokespecial 24, 3) := by decide +kernel
theorem dX0_init_43 : decode cX0_init 43 = .ok (.aastore, 1) := by decide +kernel
theorem dX0_init_44 : decode cX0_init 44 = .ok (.iinc 1 1, 3) := by decide +kernel
theorem dX0_init_47 : decode cX0_init 47 = .ok (.goto (-22), 3) := by decide +kernel
theorem dX0_init_50 : decode cX0_init 50 = .ok (.return_, 1) := by decide +kernel
theorem dX0_keep_0 : decode cX0_keep 0 = .ok (.aload_n 0, 1) := by decide +kernel
theorem dX0_keep_1 : decode cX0_keep 1 = .ok (.getfield 11, 3) := by decide +kernel
theorem dX0_keep_4 : decode cX0_keep 4 = .ok (.aload_n 0, 1) := by decide +kernel
theorem dX0_keep_5 : decode cX0_keep 5 = .ok (.getfield 17, 3) := by decide +kernel
theorem dX0_keep_8 : decode cX0_keep 8 = .ok (.aload_n 0, 1) := by decide +kernel
theorem dX0_keep_9 : decode cX0_keep 9 = .ok (.getfield 21, 3) := by decide +kernel
theorem dX0_keep_12 : decode cX0_keep 12 = .ok (.iadd, 1) := by decide +kernel
theorem dX0_keep_13 : decode cX0_keep 13 = .ok (.bipush 24, 2) := by decide +kernel
theorem dX0_keep_15 : decode cX0_keep 15 = .ok (.irem, 1) := by decide +kernel
theorem dX0_keep_16 : decode cX0_keep 16 = .ok (.aaload, 1) := by decide +kernel
theorem dX0_keep_17 : decode cX0_keep 17 = .ok (.aload_n 1, 1) := by decide +kernel
theorem dX0_keep_18 : decode cX0_keep 18 = .ok (.invokevirtual 25, 3) := by decide +kernel
theorem dX0_keep_21 : decode cX0_keep 21 = .ok (.aload_n 0, 1) := by decide +kernel
theorem dX0_keep_22 : decode cX0_keep 22 = .ok (.getfield 21, 3) := by decide +kernel
theorem dX0_keep_25 : decode cX0_keep 25 = .ok (.bipush 24, 2) := by decide +kernel
theorem dX0_keep_27 : decode cX0_keep 27 = .ok (.if_icmp .ge 16, 3) := by decide +kernel
theorem dX0_keep_30 : decode cX0_keep 30 = .ok (.aload_n 0, 1) := by decide +kernel
theorem dX0_keep_31 : decode cX0_keep 31 = .ok (.dup, 1) := by decide +kernel
theorem dX0_keep_32 : decode cX0_keep 32 = .ok (.getfield 21, 3) := by decide +kernel
theorem dX0_keep_35 : decode cX0_keep 35 = .ok (.iconst 1, 1) := by decide +kernel
theorem dX0_keep_36 : decode cX0_keep 36 = .ok (.iadd, 1) := by decide +kernel
theorem dX0_keep_37 : decode cX0_keep 37 = .ok (.putfield 21, 3) := by decide +kernel
theorem dX0_keep_40 : decode cX0_keep 40 = .ok (.goto 16, 3) := by decide +kernel
theorem dX0_keep_43 : decode cX0_keep 43 = .ok (.aload_n 0, 1) := by decide +kernel
theorem dX0_keep_44 : decode cX0_keep 44 = .ok (.aload_n 0, 1) := by decide +kernel
theorem dX0_keep_45 : decode cX0_keep 45 = .ok (.getfield 17, 3) := by decide +kernel
theorem dX0_keep_48 : decode cX0_keep 48 = .ok (.iconst 1, 1) := by decide +kernel
theorem dX0_keep_49 : decode cX0_keep 49 = .ok (.iadd, 1) := by decide +kernel
theorem dX0_keep_50 : decode cX0_keep 50 = .ok (.bipush 24, 2) := by decide +kernel
theorem dX0_keep_52 : decode cX0_keep 52 = .ok (.irem, 1) := by decide +kernel
theorem dX0_keep_53 : decode cX0_keep 53 = .ok (.putfield 17, 3) := by decide +kernel
theorem dX0_keep_56 : decode cX0_keep 56 = .ok (.return_, 1) := by decide +kernel
theorem dX0_takeBack_0 : decode cX0_takeBack 0 = .ok (.aload_n 0, 1) := by decide +kernel
theorem dX0_takeBack_1 : decode cX0_takeBack 1 = .ok (.getfield 21, 3) := by decide +kernel
theorem dX0_takeBack_4 : decode cX0_takeBack 4 = .ok (.ifCond .le 34, 3) := by decide +kernel
theorem dX0_takeBack_7 : decode cX0_takeBack 7 = .ok (.aload_n 0, 1) := by decide +kernel
theorem dX0_takeBack_8 : decode cX0_takeBack 8 = .ok (.dup, 1) := by decide +kernel
theorem dX0_takeBack_9 : decode cX0_takeBack 9 = .ok (.getfield 21, 3) := by decide +kernel
theorem dX0_takeBack_12 : decode cX0_takeBack 12 = .ok (.iconst 1, 1) := by decide +kernel
theorem dX0_takeBack_13 : decode cX0_takeBack 13 = .ok (.isub, 1) := by decide +kernel
theorem dX0_takeBack_14 : decode cX0_takeBack 14 = .ok (.putfield 21, 3) := by decide +kernel
theorem dX0_takeBack_17 : decode cX0_takeBack 17 = .ok (.aload_n 1, 1) := by decide +kernel
theorem dX0_takeBack_18 : decode cX0_takeBack 18 = .ok (.aload_n 0, 1) := by decide +kernel
theorem dX0_takeBack_19 : decode cX0_takeBack 19 = .ok (.getfield 11, 3) := by decide +kernel
theorem dX0_takeBack_22 : decode cX0_takeBack 22 = .ok (.aload_n 0, 1) := by decide +kernel
theorem dX0_takeBack_23 : decode cX0_takeBack 23 = .ok (.getfield 17, 3) := by decide +kernel
theorem dX0_takeBack_26 : decode cX0_takeBack 26 = .ok (.aload_n 0, 1) := by decide +kernel
theorem dX0_takeBack_27 : decode cX0_takeBack 27 = .ok (.getfield 21, 3) := by decide +kernel
theorem dX0_takeBack_30 : decode cX0_takeBack 30 = .ok (.iadd, 1) := by decide +kernel
theorem dX0_takeBack_31 : decode cX0_takeBack 31 = .ok (.bipush 24, 2) := by decide +kernel
theorem dX0_takeBack_33 : decode cX0_takeBack 33 = .ok (.irem, 1) := by decide +kernel
theorem dX0_takeBack_34 : decode cX0_takeBack 34 = .ok (.aaload, 1) := by decide +kernel
theorem dX0_takeBack_35 : decode cX0_takeBack 35 = .ok (.invokevirtual 25, 3) := by decide +kernel
theorem dX0_takeBack_38 : decode cX0_takeBack 38 = .ok (.return_, 1) := by decide +kernel
theorem dX0_forget_0 : decode cX0_forget 0 = .ok (.aload_n 0, 1) := by decide +kernel
theorem dX0_forget_1 : decode cX0_forget 1 = .ok (.iconst 0, 1) := by decide +kernel
theorem dX0_forget_2 : decode cX0_forget 2 = .ok (.putfield 17, 3) := by decide +kernel
theorem dX0_forget_5 : decode cX0_forget 5 = .ok (.aload_n 0, 1) := by decide +kernel
theorem dX0_forget_6 : decode cX0_forget 6 = .ok (.iconst 0, 1) := by decide +kernel
theorem dX0_forget_7 : decode cX0_forget 7 = .ok (.putfield 21, 3) := by decide +kernel
theorem dX0_forget_10 : decode cX0_forget 10 = .ok (.return_, 1) := by decide +kernel
theorem dX1_init_0 : decode cX1_init 0 = .ok (.aload_n 0, 1) := by decide +kernel
theorem dX1_init_1 : decode cX1_init 1 = .ok (.invokespecial 1, 3) := by decide +kernel
theorem dX1_init_4 : decode cX1_init 4 = .ok (.aload_n 0, 1) := by decide +kernel
theorem dX1_init_5 : decode cX1_init 5 = .ok (.bipush 16, 2) := by decide +kernel
theorem dX1_init_7 : decode cX1_init 7 = .ok (.newarray .int, 2) := by decide +kernel
theorem dX1_init_9 : decode cX1_init 9 = .ok (.putfield 9, 3) := by decide +kernel
theorem dX1_init_12 : decode cX1_init 12 = .ok (.aload_n 0, 1) := by decide +kernel
theorem dX1_init_13 : decode cX1_init 13 = .ok (.iconst 0, 1) := by decide +kernel
theorem dX1_init_14 : decode cX1_init 14 = .ok (.putfield 13, 3) := by decide +kernel
theorem dX1_init_17 : decode cX1_init 17 = .ok (.return_, 1) := by decide +kernel
theorem dX1_isKind_0 : decode cX1_isKind 0 = .ok (.iload_n 0, 1) := by decide +kernel
theorem dX1_isKind_1 : decode cX1_isKind 1 = .ok (.ifCond .lt 13, 3) := by decide +kernel
theorem dX1_isKind_4 : decode cX1_isKind 4 = .ok (.iload_n 0, 1) := by decide +kernel
theorem dX1_isKind_5 : decode cX1_isKind 5 = .ok (.bipush 6, 2) := by decide +kernel
theorem dX1_isKind_7 : decode cX1_isKind 7 = .ok (.if_icmp .ge 7, 3) := by decide +kernel
theorem dX1_isKind_10 : decode cX1_isKind 10 = .ok (.iconst 1, 1) := by decide +kernel
theorem dX1_isKind_11 : decode cX1_isKind 11 = .ok (.goto 4, 3) := by decide +kernel
theorem dX1_isKind_14 : decode cX1_isKind 14 = .ok (.iconst 0, 1) := by decide +kernel
theorem dX1_isKind_15 : decode cX1_isKind 15 = .ok (.ireturn, 1) := by decide +kernel
theorem dX1_isOneOf_0 : decode cX1_isOneOf 0 = .ok (.iload_n 0, 1) := by decide +kernel
theorem dX1_isOneOf_1 : decode cX1_isOneOf 1 = .ok (.istore_n 2, 1) := by decide +kernel
theorem dX1_isOneOf_2 : decode cX1_isOneOf 2 = .ok (.iconst 0, 1) := by decide +kernel
theorem dX1_isOneOf_3 : decode cX1_isOneOf 3 = .ok (.istore_n 3, 1) := by decide +kernel
theorem dX1_isOneOf_4 : decode cX1_isOneOf 4 = .ok (.iload_n 3, 1) := by decide +kernel
theorem dX1_isOneOf_5 : decode cX1_isOneOf 5 = .ok (.bipush 6, 2) := by decide +kernel
theorem dX1_isOneOf_7 : decode cX1_isOneOf 7 = .ok (.if_icmp .ge 29, 3) := by decide +kernel
theorem dX1_isOneOf_10 : decode cX1_isOneOf 10 = .ok (.iload_n 2, 1) := by decide +kernel
theorem dX1_isOneOf_11 : decode cX1_isOneOf 11 = .ok (.invokestatic 17, 3) := by decide +kernel
theorem dX1_isOneOf_14 : decode cX1_isOneOf 14 = .ok (.ifCond .eq 22, 3) := by decide +kernel
theorem dX1_isOneOf_17 : decode cX1_isOneOf 17 = .ok (.iload_n 2, 1) := by decide +kernel
theorem dX1_isOneOf_18 : decode cX1_isOneOf 18 = .ok (.iload_n 1, 1) := by decide +kernel
theorem dX1_isOneOf_19 : decode cX1_isOneOf 19 = .ok (.if_icmp .ne 5, 3) := by decide +kernel
theorem dX1_isOneOf_22 : decode cX1_isOneOf 22 = .ok (.iconst 1, 1) := by decide +kernel
theorem dX1_isOneOf_23 : decode cX1_isOneOf 23 = .ok (.ireturn, 1) := by decide +kernel
theorem dX1_isOneOf_24 : decode cX1_isOneOf 24 = .ok (.getstatic 21, 3) := by decide +kernel
theorem dX1_isOneOf_27 : decode cX1_isOneOf 27 = .ok (.iload_n 2, 1) := by decide +kernel
theorem dX1_isOneOf_28 : decode cX1_isOneOf 28 = .ok (.iaload, 1) := by decide +kernel
theorem dX1_isOneOf_29 : decode cX1_isOneOf 29 = .ok (.istore_n 2, 1) := by decide +kernel
theorem dX1_isOneOf_30 : decode cX1_isOneOf 30 = .ok (.iinc 3 1, 3) := by decide +kernel
theorem dX1_isOneOf_33 : decode cX1_isOneOf 33 = .ok (.goto (-29), 3) := by decide +kernel
theorem dX1_isOneOf_36 : decode cX1_isOneOf 36 = .ok (.iconst 0, 1) := by decide +kernel
theorem dX1_isOneOf_37 : decode cX1_isOneOf 37 = .ok (.ireturn, 1) := by decide +kernel
theorem dX1_begin_0 : decode cX1_begin 0 = .ok (.aload_n 0, 1) := by decide +kernel
theorem dX1_begin_1 : decode cX1_begin 1 = .ok (.iconst 0, 1) := by decide +kernel
theorem dX1_begin_2 : decode cX1_begin 2 = .ok (.putfield 13, 3) := by decide +kernel
theorem dX1_begin_5 : decode cX1_begin 5 = .ok (.aload_n 0, 1) := by decide +kernel
theorem dX1_begin_6 : decode cX1_begin 6 = .ok (.aload_n 1, 1) := by decide +kernel
theorem dX1_begin_7 : decode cX1_begin 7 = .ok (.aload_n 1, 1) := by decide +kernel
theorem dX1_begin_8 : decode cX1_begin 8 = .ok (.iload_n 2, 1) := by decide +kernel
theorem dX1_begin_9 : decode cX1_begin 9 = .ok (.iload_n 3, 1) := by decide +kernel
theorem dX1_begin_10 : decode cX1_begin 10 = .ok (.invokestatic 24, 3) := by decide +kernel
theorem dX1_begin_13 : decode cX1_begin 13 = .ok (.iload_n 2, 1) := by decide +kernel
theorem dX1_begin_14 : decode cX1_begin 14 = .ok (.iconst 0, 1) := by decide +kernel
theorem dX1_begin_15 : decode cX1_begin 15 = .ok (.invokestatic 28, 3) := by decide +kernel
theorem dX1_begin_18 : decode cX1_begin 18 = .ok (.ireturn, 1) := by decide +kernel
theorem dX1_bodyFor_0 : decode cX1_bodyFor 0 = .ok (.aload_n 0, 1) := by decide +kernel
theorem dX1_bodyFor_1 : decode cX1_bodyFor 1 = .ok (.getfield 32, 3) := by decide +kernel
theorem dX1_bodyFor_4 : decode cX1_bodyFor 4 = .ok (.iload_n 1, 1) := by decide +kernel
theorem dX1_bodyFor_5 : decode cX1_bodyFor 5 = .ok (.iaload, 1) := by decide +kernel
theorem dX1_bodyFor_6 : decode cX1_bodyFor 6 = .ok (.istore_n 3, 1) := by decide +kernel
theorem dX1_bodyFor_7 : decode cX1_bodyFor 7 = .ok (.iload_n 3, 1) := by decide +kernel
theorem dX1_bodyFor_8 : decode cX1_bodyFor 8 = .ok (.invokestatic 17, 3) := by decide +kernel
theorem dX1_bodyFor_11 : decode cX1_bodyFor 11 = .ok (.ifCond .ne 5, 3) := by decide +kernel
theorem dX1_bodyFor_14 : decode cX1_bodyFor 14 = .ok (.iconst 0, 1) := by decide +kernel
theorem dX1_bodyFor_15 : decode cX1_bodyFor 15 = .ok (.ireturn, 1) := by decide +kernel
theorem dX1_bodyFor_16 : decode cX1_bodyFor 16 = .ok (.iload_n 2, 1) := by decide +kernel
theorem dX1_bodyFor_17 : decode cX1_bodyFor 17 = .ok (.ifCond .ne 11, 3) := by decide +kernel
theorem dX1_bodyFor_20 : decode cX1_bodyFor 20 = .ok (.getstatic 37, 3) := by decide +kernel
theorem dX1_bodyFor_23 : decode cX1_bodyFor 23 = .ok (.iload_n 3, 1) := by decide +kernel
theorem dX1_bodyFor_24 : decode cX1_bodyFor 24 = .ok (.iaload, 1) := by decide +kernel
theorem dX1_bodyFor_25 : decode cX1_bodyFor 25 = .ok (.goto 8, 3) := by decide +kernel
theorem dX1_bodyFor_28 : decode cX1_bodyFor 28 = .ok (.getstatic 40, 3) := by decide +kernel
theorem dX1_bodyFor_31 : decode cX1_bodyFor 31 = .ok (.iload_n 3, 1) := by decide +kernel
theorem dX1_bodyFor_32 : decode cX1_bodyFor 32 = .ok (.iaload, 1) := by decide +kernel
theorem dX1_bodyFor_33 : decode cX1_bodyFor 33 = .ok (.ireturn, 1) := by decide +kernel
theorem dX1_leave_0 : decode cX1_leave 0 = .ok (.aload_n 0, 1) := by decide +kernel
theorem dX1_leave_1 : decode cX1_leave 1 = .ok (.getfield 13, 3) := by decide +kernel
theorem dX1_leave_4 : decode cX1_leave 4 = .ok (.bipush 16, 2) := by decide +kernel
theorem dX1_leave_6 : decode cX1_leave 6 = .ok (.if_icmp .ge 23, 3) := by decide +kernel
theorem dX1_leave_9 : decode cX1_leave 9 = .ok (.aload_n 0, 1) := by decide +kernel
theorem dX1_leave_10 : decode cX1_leave 10 = .ok (.getfield 9, 3) := by decide +kernel
theorem dX1_leave_13 : decode cX1_leave 13 = .ok (.aload_n 0, 1) := by decide +kernel
theorem dX1_leave_14 : decode cX1_leave 14 = .ok (.getfield 13, 3) := by decide +kernel
theorem dX1_leave_17 : decode cX1_leave 17 = .ok (.iload_n 1, 1) := by decide +kernel
theorem dX1_leave_18 : decode cX1_leave 18 = .ok (.iastore, 1) := by decide +kernel
theorem dX1_leave_19 : decode cX1_leave 19 = .ok (.aload_n 0, 1) := by decide +kernel
theorem dX1_leave_20 : decode cX1_leave 20 = .ok (.dup, 1) := by decide +kernel
theorem dX1_leave_21 : decode cX1_leave 21 = .ok (.getfield 13, 3) := by decide +kernel
theorem dX1_leave_24 : decode cX1_leave 24 = .ok (.iconst 1, 1) := by decide +kernel
theorem dX1_leave_25 : decode cX1_leave 25 = .ok (.iadd, 1) := by decide +kernel
theorem dX1_leave_26 : decode cX1_leave 26 = .ok (.putfield 13, 3) := by decide +kernel
theorem dX1_leave_29 : decode cX1_leave 29 = .ok (.return_, 1) := by decide +kernel
theorem dX1_gives_0 : decode cX1_gives 0 = .ok (.iload 4, 2) := by decide +kernel
theorem dX1_gives_2 : decode cX1_gives 2 = .ok (.bipush 20, 2) := by decide +kernel
theorem dX1_gives_4 : decode cX1_gives 4 = .ok (.if_icmp .le 5, 3) := by decide +kernel
theorem dX1_gives_7 : decode cX1_gives 7 = .ok (.iconst 0, 1) := by decide +kernel
theorem dX1_gives_8 : decode cX1_gives 8 = .ok (.ireturn, 1) := by decide +kernel
theorem dX1_gives_9 : decode cX1_gives 9 = .ok (.aload_n 0, 1) := by decide +kernel
theorem dX1_gives_10 : decode cX1_gives 10 = .ok (.iload_n 2, 1) := by decide +kernel
theorem dX1_gives_11 : decode cX1_gives 11 = .ok (.invokevirtual 43, 3) := by decide +kernel
theorem dX1_gives_14 : decode cX1_gives 14 = .ok (.iload 4, 2) := by decide +kernel
theorem dX1_gives_16 : decode cX1_gives 16 = .ok (.iconst 1, 1) := by decide +kernel
theorem dX1_gives_17 : decode cX1_gives 17 = .ok (.iadd, 1) := by decide +kernel
theorem dX1_gives_18 : decode cX1_gives 18 = .ok (.istore 5, 2) := by decide +kernel
theorem dX1_gives_20 : decode cX1_gives 20 = .ok (.iload_n 2, 1) := by decide +kernel
theorem dX1_gives_21 : decode cX1_gives 21 = .ok (.tableswitch 221 10 24 #[75, 82, 108, 120, 134, 221, 221, 221, 221, 221, 147, 149, 167, 182, 208], 75) := by decide +kernel
theorem dX1_gives_96 : decode cX1_gives 96 = .ok (.aload_n 1, 1) := by decide +kernel
theorem dX1_gives_97 : decode cX1_gives 97 = .ok (.getfield 47, 3) := by decide +kernel
theorem dX1_gives_100 : decode cX1_gives 100 = .ok (.iload_n 3, 1) := by decide +kernel
theorem dX1_gives_101 : decode cX1_gives 101 = .ok (.iaload, 1) := by decide +kernel
theorem dX1_gives_102 : decode cX1_gives 102 = .ok (.ireturn, 1) := by decide +kernel
theorem dX1_gives_103 : decode cX1_gives 103 = .ok (.aload_n 0, 1) := by decide +kernel
theorem dX1_gives_104 : decode cX1_gives 104 = .ok (.aload_n 1, 1) := by decide +kernel
theorem dX1_gives_105 : decode cX1_gives 105 = .ok (.bipush 10, 2) := by decide +kernel
theorem dX1_gives_107 : decode cX1_gives 107 = .ok (.iload_n 3, 1) := by decide +kernel
theorem dX1_gives_108 : decode cX1_gives 108 = .ok (.iload 5, 2) := by decide +kernel
theorem dX1_gives_110 : decode cX1_gives 110 = .ok (.invokestatic 28, 3) := by decide +kernel
theorem dX1_gives_113 : decode cX1_gives 113 = .ok (.aload_n 0, 1) := by decide +kernel
theorem dX1_gives_114 : decode cX1_gives 114 = .ok (.aload_n 1, 1) := by decide +kernel
theorem dX1_gives_115 : decode cX1_gives 115 = .ok (.aload_n 1, 1) := by decide +kernel
theorem dX1_gives_116 : decode cX1_gives 116 = .ok (.iload_n 3, 1) := by decide +kernel
theorem dX1_gives_117 : decode cX1_gives 117 = .ok (.iconst 1, 1) := by decide +kernel
theorem dX1_gives_118 : decode cX1_gives 118 = .ok (.invokestatic 24, 3) := by decide +kernel
theorem dX1_gives_121 : decode cX1_gives 121 = .ok (.iload_n 3, 1) := by decide +kernel
theorem dX1_gives_122 : decode cX1_gives 122 = .ok (.iload 5, 2) := by decide +kernel
theorem dX1_gives_124 : decode cX1_gives 124 = .ok (.invokestatic 28, 3) := by decide +kernel
theorem dX1_gives_127 : decode cX1_gives 127 = .ok (.iadd, 1) := by decide +kernel
theorem dX1_gives_128 : decode cX1_gives 128 = .ok (.ireturn, 1) := by decide +kernel
theorem dX1_gives_129 : decode cX1_gives 129 = .ok (.aload_n 0, 1) := by decide +kernel
theorem dX1_gives_130 : decode cX1_gives 130 = .ok (.aload_n 1, 1) := by decide +kernel
theorem dX1_gives_131 : decode cX1_gives 131 = .ok (.bipush 11, 2) := by decide +kernel
theorem dX1_gives_133 : decode cX1_gives 133 = .ok (.iload_n 3, 1) := by decide +kernel
theorem dX1_gives_134 : decode cX1_gives 134 = .ok (.iload 5, 2) := by decide +kernel
theorem dX1_gives_136 : decode cX1_gives 136 = .ok (.invokestatic 28, 3) := by decide +kernel
theorem dX1_gives_139 : decode cX1_gives 139 = .ok (.ineg, 1) := by decide +kernel
theorem dX1_gives_140 : decode cX1_gives 140 = .ok (.ireturn, 1) := by decide +kernel
theorem dX1_gives_141 : decode cX1_gives 141 = .ok (.aload_n 0, 1) := by decide +kernel
theorem dX1_gives_142 : decode cX1_gives 142 = .ok (.aload_n 1, 1) := by decide +kernel
theorem dX1_gives_143 : decode cX1_gives 143 = .ok (.bipush 10, 2) := by decide +kernel
theorem dX1_gives_145 : decode cX1_gives 145 = .ok (.iload_n 3, 1) := by decide +kernel
theorem dX1_gives_146 : decode cX1_gives 146 = .ok (.iload 5, 2) := by decide +kernel
theorem dX1_gives_148 : decode cX1_gives 148 = .ok (.invokestatic 28, 3) := by decide +kernel
theorem dX1_gives_151 : decode cX1_gives 151 = .ok (.bipush 100, 2) := by decide +kernel
theorem dX1_gives_153 : decode cX1_gives 153 = .ok (.isub, 1) := by decide +kernel
theorem dX1_gives_154 : decode cX1_gives 154 = .ok (.ireturn, 1) := by decide +kernel
theorem dX1_gives_155 : decode cX1_gives 155 = .ok (.iconst 2, 1) := by decide +kernel
theorem dX1_gives_156 : decode cX1_gives 156 = .ok (.aload_n 0, 1) := by decide +kernel
theorem dX1_gives_157 : decode cX1_gives 157 = .ok (.aload_n 1, 1) := by decide +kernel
theorem dX1_gives_158 : decode cX1_gives 158 = .ok (.bipush 11, 2) := by decide +kernel
theorem dX1_gives_160 : decode cX1_gives 160 = .ok (.iload_n 3, 1) := by decide +kernel
theorem dX1_gives_161 : decode cX1_gives 161 = .ok (.iload 5, 2) := by decide +kernel
theorem dX1_gives_163 : decode cX1_gives 163 = .ok (.invokestatic 28, 3) := by decide +kernel
theorem dX1_gives_166 : decode cX1_gives 166 = .ok (.imul, 1) := by decide +kernel
theorem dX1_gives_167 : decode cX1_gives 167 = .ok (.ireturn, 1) := by decide +kernel
theorem dX1_gives_168 : decode cX1_gives 168 = .ok (.iload_n 3, 1) := by decide +kernel
theorem dX1_gives_169 : decode cX1_gives 169 = .ok (.ireturn, 1) := by decide +kernel
theorem dX1_gives_170 : decode cX1_gives 170 = .ok (.aload_n 0, 1) := by decide +kernel
theorem dX1_gives_171 : decode cX1_gives 171 = .ok (.aload_n 1, 1) := by decide +kernel
theorem dX1_gives_172 : decode cX1_gives 172 = .ok (.bipush 20, 2) := by decide +kernel
theorem dX1_gives_174 : decode cX1_gives 174 = .ok (.iload_n 3, 1) := by decide +kernel
theorem dX1_gives_175 : decode cX1_gives 175 = .ok (.iload 5, 2) := by decide +kernel
theorem dX1_gives_177 : decode cX1_gives 177 = .ok (.invokestatic 28, 3) := by decide +kernel
theorem dX1_gives_180 : decode cX1_gives 180 = .ok (.aload_n 1, 1) := by decide +kernel
theorem dX1_gives_181 : decode cX1_gives 181 = .ok (.getfield 50, 3) := by decide +kernel
theorem dX1_gives_184 : decode cX1_gives 184 = .ok (.iload_n 3, 1) := by decide +kernel
theorem dX1_gives_185 : decode cX1_gives 185 = .ok (.iaload, 1) := by decide +kernel
theorem dX1_gives_186 : decode cX1_gives 186 = .ok (.iadd, 1) := by decide +kernel
theorem dX1_gives_187 : decode cX1_gives 187 = .ok (.ireturn, 1) := by decide +kernel
theorem dX1_gives_188 : decode cX1_gives 188 = .ok (.aload_n 0, 1) := by decide +kernel
theorem dX1_gives_189 : decode cX1_gives 189 = .ok (.aload_n 1, 1) := by decide +kernel
theorem dX1_gives_190 : decode cX1_gives 190 = .ok (.bipush 21, 2) := by decide +kernel
theorem dX1_gives_192 : decode cX1_gives 192 = .ok (.iload_n 3, 1) := by decide +kernel
theorem dX1_gives_193 : decode cX1_gives 193 = .ok (.iload 5, 2) := by decide +kernel
theorem dX1_gives_195 : decode cX1_gives 195 = .ok (.invokestatic 28, 3) := by decide +kernel
theorem dX1_gives_198 : decode cX1_gives 198 = .ok (.sipush 1000, 3) := by decide +kernel
theorem dX1_gives_201 : decode cX1_gives 201 = .ok (.isub, 1) := by decide +kernel
theorem dX1_gives_202 : decode cX1_gives 202 = .ok (.ireturn, 1) := by decide +kernel
theorem dX1_gives_203 : decode cX1_gives 203 = .ok (.aload_n 0, 1) := by decide +kernel
theorem dX1_gives_204 : decode cX1_gives 204 = .ok (.aload_n 1, 1) := by decide +kernel
theorem dX1_gives_205 : decode cX1_gives 205 = .ok (.bipush 20, 2) := by decide +kernel
theorem dX1_gives_207 : decode cX1_gives 207 = .ok (.iload_n 3, 1) := by decide +kernel
theorem dX1_gives_208 : decode cX1_gives 208 = .ok (.iload 5, 2) := by decide +kernel
theorem dX1_gives_210 : decode cX1_gives 210 = .ok (.invokestatic 28, 3) := by decide +kernel
theorem dX1_gives_213 : decode cX1_gives 213 = .ok (.aload_n 0, 1) := by decide +kernel
theorem dX1_gives_214 : decode cX1_gives 214 = .ok (.aload_n 1, 1) := by decide +kernel
theorem dX1_gives_215 : decode cX1_gives 215 = .ok (.aload_n 1, 1) := by decide +kernel
theorem dX1_gives_216 : decode cX1_gives 216 = .ok (.iload_n 3, 1) := by decide +kernel
theorem dX1_gives_217 : decode cX1_gives 217 = .ok (.iconst 0, 1) := by decide +kernel
theorem dX1_gives_218 : decode cX1_gives 218 = .ok (.invokestatic 24, 3) := by decide +kernel
theorem dX1_gives_221 : decode cX1_gives 221 = .ok (.iload_n 3, 1) := by decide +kernel
theorem dX1_gives_222 : decode cX1_gives 222 = .ok (.iload 5, 2) := by decide +kernel
theorem dX1_gives_224 : decode cX1_gives 224 = .ok (.invokestatic 28, 3) := by decide +kernel
theorem dX1_gives_227 : decode cX1_gives 227 = .ok (.isub, 1) := by decide +kernel
theorem dX1_gives_228 : decode cX1_gives 228 = .ok (.ireturn, 1) := by decide +kernel
theorem dX1_gives_229 : decode cX1_gives 229 = .ok (.iconst 2, 1) := by decide +kernel
theorem dX1_gives_230 : decode cX1_gives 230 = .ok (.aload_n 0, 1) := by decide +kernel
theorem dX1_gives_231 : decode cX1_gives 231 = .ok (.aload_n 1, 1) := by decide +kernel
theorem dX1_gives_232 : decode cX1_gives 232 = .ok (.bipush 22, 2) := by decide +kernel
theorem dX1_gives_234 : decode cX1_gives 234 = .ok (.iload_n 3, 1) := by decide +kernel
theorem dX1_gives_235 : decode cX1_gives 235 = .ok (.iload 5, 2) := by decide +kernel
theorem dX1_gives_237 : decode cX1_gives 237 = .ok (.invokestatic 28, 3) := by decide +kernel
theorem dX1_gives_240 : decode cX1_gives 240 = .ok (.imul, 1) := by decide +kernel
theorem dX1_gives_241 : decode cX1_gives 241 = .ok (.ireturn, 1) := by decide +kernel
theorem dX1_gives_242 : decode cX1_gives 242 = .ok (.iconst 0, 1) := by decide +kernel
theorem dX1_gives_243 : decode cX1_gives 243 = .ok (.ireturn, 1) := by decide +kernel
theorem dX2_init_0 : decode cX2_init 0 = .ok (.aload_n 0, 1) := by decide +kernel
theorem dX2_init_1 : decode cX2_init 1 = .ok (.invokespecial 3, 3) := by decide +kernel
theorem dX2_init_4 : decode cX2_init 4 = .ok (.aload_n 0, 1) := by decide +kernel
theorem dX2_init_5 : decode cX2_init 5 = .ok (.iconst 4, 1) := by decide +kernel
theorem dX2_init_6 : decode cX2_init 6 = .ok (.newarray .long, 2) := by decide +kernel
theorem dX2_init_8 : decode cX2_init 8 = .ok (.putfield 9, 3) := by decide +kernel
theorem dX2_init_11 : decode cX2_init 11 = .ok (.aload_n 0, 1) := by decide +kernel
theorem dX2_init_12 : decode cX2_init 12 = .ok (.iconst 0, 1) := by decide +kernel
theorem dX2_init_13 : decode cX2_init 13 = .ok (.putfield 15, 3) := by decide +kernel
theorem dX2_init_16 : decode cX2_init 16 = .ok (.aload_n 0, 1) := by decide +kernel
theorem dX2_init_17 : decode cX2_init 17 = .ok (.iconst 1, 1) := by decide +kernel
theorem dX2_init_18 : decode cX2_init 18 = .ok (.putfield 19, 3) := by decide +kernel
theorem dX2_init_21 : decode cX2_init 21 = .ok (.return_, 1) := by decide +kernel
theorem dX2_foresee_0 : decode cX2_foresee 0 = .ok (.aload_n 0, 1) := by decide +kernel
theorem dX2_foresee_1 : decode cX2_foresee 1 = .ok (.aload_n 1, 1) := by decide +kernel
theorem dX2_foresee_2 : decode cX2_foresee 2 = .ok (.iload_n 2, 1) := by decide +kernel
theorem dX2_foresee_3 : decode cX2_foresee 3 = .ok (.invokevirtual 22, 3) := by decide +kernel
theorem dX2_foresee_6 : decode cX2_foresee 6 = .ok (.lconst 0, 1) := by decide +kernel
theorem dX2_foresee_7 : decode cX2_foresee 7 = .ok (.lstore_n 3, 1) := by decide +kernel
theorem dX2_foresee_8 : decode cX2_foresee 8 = .ok (.lconst 1, 1) := by decide +kernel
theorem dX2_foresee_9 : decode cX2_foresee 9 = .ok (.lstore 5, 2) := by decide +kernel
theorem dX2_foresee_11 : decode cX2_foresee 11 = .ok (.iconst 0, 1) := by decide +kernel
theorem dX2_foresee_12 : decode cX2_foresee 12 = .ok (.istore 7, 2) := by decide +kernel
theorem dX2_foresee_14 : decode cX2_foresee 14 = .ok (.iload 7, 2) := by decide +kernel
theorem dX2_foresee_16 : decode cX2_foresee 16 = .ok (.iload_n 2, 1) := by decide +kernel
theorem dX2_foresee_17 : decode cX2_foresee 17 = .ok (.if_icmp .gt 31, 3) := by decide +kernel
theorem dX2_foresee_20 : decode cX2_foresee 20 = .ok (.lload_n 3, 1) := by decide +kernel
theorem dX2_foresee_21 : decode cX2_foresee 21 = .ok (.aload_n 0, 1) := by decide +kernel
theorem dX2_foresee_22 : decode cX2_foresee 22 = .ok (.getfield 9, 3) := by decide +kernel
theorem dX2_foresee_25 : decode cX2_foresee 25 = .ok (.iload 7, 2) := by decide +kernel
theorem dX2_foresee_27 : decode cX2_foresee 27 = .ok (.laload, 1) := by decide +kernel
theorem dX2_foresee_28 : decode cX2_foresee 28 = .ok (.aload_n 1, 1) := by decide +kernel
theorem dX2_foresee_29 : decode cX2_foresee 29 = .ok (.aload_n 1, 1) := by decide +kernel
theorem dX2_foresee_30 : decode cX2_foresee 30 = .ok (.iload 7, 2) := by decide +kernel
theorem dX2_foresee_32 : decode cX2_foresee 32 = .ok (.invokevirtual 26, 3) := by decide +kernel
theorem dX2_foresee_35 : decode cX2_foresee 35 = .ok (.invokevirtual 32, 3) := by decide +kernel
theorem dX2_foresee_38 : decode cX2_foresee 38 = .ok (.i2l, 1) := by decide +kernel
theorem dX2_foresee_39 : decode cX2_foresee 39 = .ok (.lmul, 1) := by decide +kernel
theorem dX2_foresee_40 : decode cX2_foresee 40 = .ok (.ladd, 1) := by decide +kernel
theorem dX2_foresee_41 : decode cX2_foresee 41 = .ok (.lstore_n 3, 1) := by decide +kernel
theorem dX2_foresee_42 : decode cX2_foresee 42 = .ok (.iinc 7 1, 3) := by decide +kernel
theorem dX2_foresee_45 : decode cX2_foresee 45 = .ok (.goto (-31), 3) := by decide +kernel
theorem dX2_foresee_48 : decode cX2_foresee 48 = .ok (.iconst 0, 1) := by decide +kernel
theorem dX2_foresee_49 : decode cX2_foresee 49 = .ok (.istore 7, 2) := by decide +kernel
theorem dX2_foresee_51 : decode cX2_foresee 51 = .ok (.iload 7, 2) := by decide +kernel
theorem dX2_foresee_53 : decode cX2_foresee 53 = .ok (.iload_n 2, 1) := by decide +kernel
theorem dX2_foresee_54 : decode cX2_foresee 54 = .ok (.if_icmp .ge 17, 3) := by decide +kernel
theorem dX2_foresee_57 : decode cX2_foresee 57 = .ok (.lload 5, 2) := by decide +kernel
theorem dX2_foresee_59 : decode cX2_foresee 59 = .ok (.ldc2_w 35, 3) := by decide +kernel
theorem dX2_foresee_62 : decode cX2_foresee 62 = .ok (.lmul, 1) := by decide +kernel
theorem dX2_foresee_63 : decode cX2_foresee 63 = .ok (.lstore 5, 2) := by decide +kernel
theorem dX2_foresee_65 : decode cX2_foresee 65 = .ok (.iinc 7 1, 3) := by decide +kernel
theorem dX2_foresee_68 : decode cX2_foresee 68 = .ok (.goto (-17), 3) := by decide +kernel
theorem dX2_foresee_71 : decode cX2_foresee 71 = .ok (.lload_n 3, 1) := by decide +kernel
theorem dX2_foresee_72 : decode cX2_foresee 72 = .ok (.lload 5, 2) := by decide +kernel
theorem dX2_foresee_74 : decode cX2_foresee 74 = .ok (.invokestatic 37, 3) := by decide +kernel
theorem dX2_foresee_77 : decode cX2_foresee 77 = .ok (.lstore 7, 2) := by decide +kernel
theorem dX2_foresee_79 : decode cX2_foresee 79 = .ok (.lload 7, 2) := by decide +kernel
theorem dX2_foresee_81 : decode cX2_foresee 81 = .ok (.lconst 0, 1) := by decide +kernel
theorem dX2_foresee_82 : decode cX2_foresee 82 = .ok (.lcmp, 1) := by decide +kernel
theorem dX2_foresee_83 : decode cX2_foresee 83 = .ok (.ifCond .le 22, 3) := by decide +kernel
theorem dX2_foresee_86 : decode cX2_foresee 86 = .ok (.aload_n 0, 1) := by decide +kernel
theorem dX2_foresee_87 : decode cX2_foresee 87 = .ok (.lload_n 3, 1) := by decide +kernel
theorem dX2_foresee_88 : decode cX2_foresee 88 = .ok (.lload 7, 2) := by decide +kernel
theorem dX2_foresee_90 : decode cX2_foresee 90 = .ok (.ldiv, 1) := by decide +kernel
theorem dX2_foresee_91 : decode cX2_foresee 91 = .ok (.l2i, 1) := by decide +kernel
theorem dX2_foresee_92 : decode cX2_foresee 92 = .ok (.putfield 15, 3) := by decide +kernel
theorem dX2_foresee_95 : decode cX2_foresee 95 = .ok (.aload_n 0, 1) := by decide +kernel
theorem dX2_foresee_96 : decode cX2_foresee 96 = .ok (.lload 5, 2) := by decide +kernel
theorem dX2_foresee_98 : decode cX2_foresee 98 = .ok (.lload 7, 2) := by decide +kernel
theorem dX2_foresee_100 : decode cX2_foresee 100 = .ok (.ldiv, 1) := by decide +kernel
theorem dX2_foresee_101 : decode cX2_foresee 101 = .ok (.l2i, 1) := by decide +kernel
theorem dX2_foresee_102 : decode cX2_foresee 102 = .ok (.putfield 19, 3) := by decide +kernel
theorem dX2_foresee_105 : decode cX2_foresee 105 = .ok (.return_, 1) := by decide +kernel
theorem dX2_weigh_0 : decode cX2_weigh 0 = .ok (.aload_n 0, 1) := by decide +kernel
theorem dX2_weigh_1 : decode cX2_weigh 1 = .ok (.getfield 9, 3) := by decide +kernel
theorem dX2_weigh_4 : decode cX2_weigh 4 = .ok (.iconst 0, 1) := by decide +kernel
theorem dX2_weigh_5 : decode cX2_weigh 5 = .ok (.lconst 1, 1) := by decide +kernel
theorem dX2_weigh_6 : decode cX2_weigh 6 = .ok (.lastore, 1) := by decide +kernel
theorem dX2_weigh_7 : decode cX2_weigh 7 = .ok (.iconst 0, 1) := by decide +kernel
theorem dX2_weigh_8 : decode cX2_weigh 8 = .ok (.istore_n 3, 1) := by decide +kernel
theorem dX2_weigh_9 : decode cX2_weigh 9 = .ok (.iload_n 3, 1) := by decide +kernel
theorem dX2_weigh_10 : decode cX2_weigh 10 = .ok (.iload_n 2, 1) := by decide +kernel
theorem dX2_weigh_11 : decode cX2_weigh 11 = .ok (.if_icmp .ge 104, 3) := by decide +kernel
theorem dX2_weigh_14 : decode cX2_weigh 14 = .ok (.aload_n 1, 1) := by decide +kernel
theorem dX2_weigh_15 : decode cX2_weigh 15 = .ok (.getfield 41, 3) := by decide +kernel
theorem dX2_weigh_18 : decode cX2_weigh 18 = .ok (.aload_n 1, 1) := by decide +kernel
theorem dX2_weigh_19 : decode cX2_weigh 19 = .ok (.getfield 45, 3) := by decide +kernel
theorem dX2_weigh_22 : decode cX2_weigh 22 = .ok (.iload_n 3, 1) := by decide +kernel
theorem dX2_weigh_23 : decode cX2_weigh 23 = .ok (.iadd, 1) := by decide +kernel
theorem dX2_weigh_24 : decode cX2_weigh 24 = .ok (.iaload, 1) := by decide +kernel
theorem dX2_weigh_25 : decode cX2_weigh 25 = .ok (.istore 4, 2) := by decide +kernel
theorem dX2_weigh_27 : decode cX2_weigh 27 = .ok (.aload_n 0, 1) := by decide +kernel
theorem dX2_weigh_28 : decode cX2_weigh 28 = .ok (.getfield 9, 3) := by decide +kernel
theorem dX2_weigh_31 : decode cX2_weigh 31 = .ok (.iload_n 3, 1) := by decide +kernel
theorem dX2_weigh_32 : decode cX2_weigh 32 = .ok (.iconst 1, 1) := by decide +kernel
theorem dX2_weigh_33 : decode cX2_weigh 33 = .ok (.iadd, 1) := by decide +kernel
theorem dX2_weigh_34 : decode cX2_weigh 34 = .ok (.aload_n 0, 1) := by decide +kernel
theorem dX2_weigh_35 : decode cX2_weigh 35 = .ok (.getfield 9, 3) := by decide +kernel
theorem dX2_weigh_38 : decode cX2_weigh 38 = .ok (.iload_n 3, 1) := by decide +kernel
theorem dX2_weigh_39 : decode cX2_weigh 39 = .ok (.laload, 1) := by decide +kernel
theorem dX2_weigh_40 : decode cX2_weigh 40 = .ok (.iload 4, 2) := by decide +kernel
theorem dX2_weigh_42 : decode cX2_weigh 42 = .ok (.i2l, 1) := by decide +kernel
theorem dX2_weigh_43 : decode cX2_weigh 43 = .ok (.lmul, 1) := by decide +kernel
theorem dX2_weigh_44 : decode cX2_weigh 44 = .ok (.lastore, 1) := by decide +kernel
theorem dX2_weigh_45 : decode cX2_weigh 45 = .ok (.iload_n 3, 1) := by decide +kernel
theorem dX2_weigh_46 : decode cX2_weigh 46 = .ok (.istore 5, 2) := by decide +kernel
theorem dX2_weigh_48 : decode cX2_weigh 48 = .ok (.iload 5, 2) := by decide +kernel
theorem dX2_weigh_50 : decode cX2_weigh 50 = .ok (.ifCond .le 44, 3) := by decide +kernel
theorem dX2_weigh_53 : decode cX2_weigh 53 = .ok (.aload_n 0, 1) := by decide +kernel
theorem dX2_weigh_54 : decode cX2_weigh 54 = .ok (.getfield 9, 3) := by decide +kernel
theorem dX2_weigh_57 : decode cX2_weigh 57 = .ok (.iload 5, 2) := by decide +kernel
theorem dX2_weigh_59 : decode cX2_weigh 59 = .ok (.aload_n 0, 1) := by decide +kernel
theorem dX2_weigh_60 : decode cX2_weigh 60 = .ok (.getfield 9, 3) := by decide +kernel
theorem dX2_weigh_63 : decode cX2_weigh 63 = .ok (.iload 5, 2) := by decide +kernel
theorem dX2_weigh_65 : decode cX2_weigh 65 = .ok (.laload, 1) := by decide +kernel
theorem dX2_weigh_66 : decode cX2_weigh 66 = .ok (.bipush 100, 2) := by decide +kernel
theorem dX2_weigh_68 : decode cX2_weigh 68 = .ok (.iload 4, 2) := by decide +kernel
theorem dX2_weigh_70 : decode cX2_weigh 70 = .ok (.isub, 1) := by decide +kernel
theorem dX2_weigh_71 : decode cX2_weigh 71 = .ok (.i2l, 1) := by decide +kernel
theorem dX2_weigh_72 : decode cX2_weigh 72 = .ok (.lmul, 1) := by decide +kernel
theorem dX2_weigh_73 : decode cX2_weigh 73 = .ok (.aload_n 0, 1) := by decide +kernel
theorem dX2_weigh_74 : decode cX2_weigh 74 = .ok (.getfield 9, 3) := by decide +kernel
theorem dX2_weigh_77 : decode cX2_weigh 77 = .ok (.iload 5, 2) := by decide +kernel
theorem dX2_weigh_79 : decode cX2_weigh 79 = .ok (.iconst 1, 1) := by decide +kernel
theorem dX2_weigh_80 : decode cX2_weigh 80 = .ok (.isub, 1) := by decide +kernel
theorem dX2_weigh_81 : decode cX2_weigh 81 = .ok (.laload, 1) := by decide +kernel
theorem dX2_weigh_82 : decode cX2_weigh 82 = .ok (.iload 4, 2) := by decide +kernel
theorem dX2_weigh_84 : decode cX2_weigh 84 = .ok (.i2l, 1) := by decide +kernel
theorem dX2_weigh_85 : decode cX2_weigh 85 = .ok (.lmul, 1) := by decide +kernel
theorem dX2_weigh_86 : decode cX2_weigh 86 = .ok (.ladd, 1) := by decide +kernel
theorem dX2_weigh_87 : decode cX2_weigh 87 = .ok (.lastore, 1) := by decide +kernel
theorem dX2_weigh_88 : decode cX2_weigh 88 = .ok (.iinc 5 (-1), 3) := by decide +kernel
theorem dX2_weigh_91 : decode cX2_weigh 91 = .ok (.goto (-43), 3) := by decide +kernel
theorem dX2_weigh_94 : decode cX2_weigh 94 = .ok (.aload_n 0, 1) := by decide +kernel
theorem dX2_weigh_95 : decode cX2_weigh 95 = .ok (.getfield 9, 3) := by decide +kernel
theorem dX2_weigh_98 : decode cX2_weigh 98 = .ok (.iconst 0, 1) := by decide +kernel
theorem dX2_weigh_99 : decode cX2_weigh 99 = .ok (.dup2, 1) := by decide +kernel
theorem dX2_weigh_100 : decode cX2_weigh 100 = .ok (.laload, 1) := by decide +kernel
theorem dX2_weigh_101 : decode cX2_weigh 101 = .ok (.bipush 100, 2) := by decide +kernel
theorem dX2_weigh_103 : decode cX2_weigh 103 = .ok (.iload 4, 2) := by decide +kernel
theorem dX2_weigh_105 : decode cX2_weigh 105 = .ok (.isub, 1) := by decide +kernel
theorem dX2_weigh_106 : decode cX2_weigh 106 = .ok (.i2l, 1) := by decide +kernel
theorem dX2_weigh_107 : decode cX2_weigh 107 = .ok (.lmul, 1) := by decide +kernel
theorem dX2_weigh_108 : decode cX2_weigh 108 = .ok (.lastore, 1) := by decide +kernel
theorem dX2_weigh_109 : decode cX2_weigh 109 = .ok (.iinc 3 1, 3) := by decide +kernel
theorem dX2_weigh_112 : decode cX2_weigh 112 = .ok (.goto (-103), 3) := by decide +kernel
theorem dX2_weigh_115 : decode cX2_weigh 115 = .ok (.return_, 1) := by decide +kernel
theorem dX2_commonDivisor_0 : decode cX2_commonDivisor 0 = .ok (.lload_n 0, 1) := by decide +kernel
theorem dX2_commonDivisor_1 : decode cX2_commonDivisor 1 = .ok (.lstore 4, 2) := by decide +kernel
theorem dX2_commonDivisor_3 : decode cX2_commonDivisor 3 = .ok (.lload_n 2, 1) := by decide +kernel
theorem dX2_commonDivisor_4 : decode cX2_commonDivisor 4 = .ok (.lstore 6, 2) := by decide +kernel
theorem dX2_commonDivisor_6 : decode cX2_commonDivisor 6 = .ok (.iconst 0, 1) := by decide +kernel
theorem dX2_commonDivisor_7 : decode cX2_commonDivisor 7 = .ok (.istore 8, 2) := by decide +kernel
theorem dX2_commonDivisor_9 : decode cX2_commonDivisor 9 = .ok (.iload 8, 2) := by decide +kernel
theorem dX2_commonDivisor_11 : decode cX2_commonDivisor 11 = .ok (.bipush 100, 2) := by decide +kernel
theorem dX2_commonDivisor_13 : decode cX2_commonDivisor 13 = .ok (.if_icmp .ge 31, 3) := by decide +kernel
theorem dX2_commonDivisor_16 : decode cX2_commonDivisor 16 = .ok (.lload 6, 2) := by decide +kernel
theorem dX2_commonDivisor_18 : decode cX2_commonDivisor 18 = .ok (.lconst 0, 1) := by decide +kernel
theorem dX2_commonDivisor_19 : decode cX2_commonDivisor 19 = .ok (.lcmp, 1) := by decide +kernel
theorem dX2_commonDivisor_20 : decode cX2_commonDivisor 20 = .ok (.ifCond .eq 24, 3) := by decide +kernel
theorem dX2_commonDivisor_23 : decode cX2_commonDivisor 23 = .ok (.lload 4, 2) := by decide +kernel
theorem dX2_commonDivisor_25 : decode cX2_commonDivisor 25 = .ok (.lload 6, 2) := by decide +kernel
theorem dX2_commonDivisor_27 : decode cX2_commonDivisor 27 = .ok (.lrem, 1) := by decide +kernel
theorem dX2_commonDivisor_28 : decode cX2_commonDivisor 28 = .ok (.lstore 9, 2) := by decide +kernel
theorem dX2_commonDivisor_30 : decode cX2_commonDivisor 30 = .ok (.lload 6, 2) := by decide +kernel
theorem dX2_commonDivisor_32 : decode cX2_commonDivisor 32 = .ok (.lstore 4, 2) := by decide +kernel
theorem dX2_commonDivisor_34 : decode cX2_commonDivisor 34 = .ok (.lload 9, 2) := by decide +kernel
theorem dX2_commonDivisor_36 : decode cX2_commonDivisor 36 = .ok (.lstore 6, 2) := by decide +kernel
theorem dX2_commonDivisor_38 : decode cX2_commonDivisor 38 = .ok (.iinc 8 1, 3) := by decide +kernel
theorem dX2_commonDivisor_41 : decode cX2_commonDivisor 41 = .ok (.goto (-32), 3) := by decide +kernel
theorem dX2_commonDivisor_44 : decode cX2_commonDivisor 44 = .ok (.lload 4, 2) := by decide +kernel
theorem dX2_commonDivisor_46 : decode cX2_commonDivisor 46 = .ok (.lreturn, 1) := by decide +kernel
theorem dX3_init_0 : decode cX3_init 0 = .ok (.aload_n 0, 1) := by decide +kernel
theorem dX3_init_1 : decode cX3_init 1 = .ok (.invokespecial 3, 3) := by decide +kernel
theorem dX3_init_4 : decode cX3_init 4 = .ok (.aload_n 0, 1) := by decide +kernel
theorem dX3_init_5 : decode cX3_init 5 = .ok (.bipush 12, 2) := by decide +kernel
theorem dX3_init_7 : decode cX3_init 7 = .ok (.newarray .int, 2) := by decide +kernel
theorem dX3_init_9 : decode cX3_init 9 = .ok (.putfield 9, 3) := by decide +kernel
theorem dX3_init_12 : decode cX3_init 12 = .ok (.aload_n 0, 1) := by decide +kernel
theorem dX3_init_13 : decode cX3_init 13 = .ok (.iconst 4, 1) := by decide +kernel
theorem dX3_init_14 : decode cX3_init 14 = .ok (.newarray .int, 2) := by decide +kernel
theorem dX3_init_16 : decode cX3_init 16 = .ok (.putfield 15, 3) := by decide +kernel
theorem dX3_init_19 : decode cX3_init 19 = .ok (.aload_n 0, 1) := by decide +kernel
theorem dX3_init_20 : decode cX3_init 20 = .ok (.iconst 4, 1) := by decide +kernel
theorem dX3_init_21 : decode cX3_init 21 = .ok (.newarray .int, 2) := by decide +kernel
theorem dX3_init_23 : decode cX3_init 23 = .ok (.putfield 18, 3) := by decide +kernel
theorem dX3_init_26 : decode cX3_init 26 = .ok (.aload_n 0, 1) := by decide +kernel
theorem dX3_init_27 : decode cX3_init 27 = .ok (.iconst 4, 1) := by decide +kernel
theorem dX3_init_28 : decode cX3_init 28 = .ok (.newarray .int, 2) := by decide +kernel
theorem dX3_init_30 : decode cX3_init 30 = .ok (.putfield 21, 3) := by decide +kernel
theorem dX3_init_33 : decode cX3_init 33 = .ok (.aload_n 0, 1) := by decide +kernel
theorem dX3_init_34 : decode cX3_init 34 = .ok (.bipush 36, 2) := by decide +kernel
theorem dX3_init_36 : decode cX3_init 36 = .ok (.newarray .int, 2) := by decide +kernel
theorem dX3_init_38 : decode cX3_init 38 = .ok (.putfield 24, 3) := by decide +kernel
theorem dX3_init_41 : decode cX3_init 41 = .ok (.aload_n 0, 1) := by decide +kernel
theorem dX3_init_42 : decode cX3_init 42 = .ok (.bipush 16, 2) := by decide +kernel
theorem dX3_init_44 : decode cX3_init 44 = .ok (.newarray .int, 2) := by decide +kernel
theorem dX3_init_46 : decode cX3_init 46 = .ok (.putfield 27, 3) := by decide +kernel
theorem dX3_init_49 : decode cX3_init 49 = .ok (.aload_n 0, 1) := by decide +kernel
theorem dX3_init_50 : decode cX3_init 50 = .ok (.bipush 16, 2) := by decide +kernel
theorem dX3_init_52 : decode cX3_init 52 = .ok (.newarray .int, 2) := by decide +kernel
theorem dX3_init_54 : decode cX3_init 54 = .ok (.putfield 30, 3) := by decide +kernel
theorem dX3_init_57 : decode cX3_init 57 = .ok (.aload_n 0, 1) := by decide +kernel
theorem dX3_init_58 : decode cX3_init 58 = .ok (.bipush 16, 2) := by decide +kernel
theorem dX3_init_60 : decode cX3_init 60 = .ok (.newarray .int, 2) := by decide +kernel
theorem dX3_init_62 : decode cX3_init 62 = .ok (.putfield 33, 3) := by decide +kernel
theorem dX3_init_65 : decode cX3_init 65 = .ok (.aload_n 0, 1) := by decide +kernel
theorem dX3_init_66 : decode cX3_init 66 = .ok (.iconst 0, 1) := by decide +kernel
theorem dX3_init_67 : decode cX3_init 67 = .ok (.putfield 36, 3) := by decide +kernel
theorem dX3_init_70 : decode cX3_init 70 = .ok (.aload_n 0, 1) := by decide +kernel
theorem dX3_init_71 : decode cX3_init 71 = .ok (.iconst 0, 1) := by decide +kernel
theorem dX3_init_72 : decode cX3_init 72 = .ok (.putfield 40, 3) := by decide +kernel
theorem dX3_init_75 : decode cX3_init 75 = .ok (.aload_n 0, 1) := by decide +kernel
theorem dX3_init_76 : decode cX3_init 76 = .ok (.iconst 0, 1) := by decide +kernel
theorem dX3_init_77 : decode cX3_init 77 = .ok (.putfield 43, 3) := by decide +kernel
theorem dX3_init_80 : decode cX3_init 80 = .ok (.aload_n 0, 1) := by decide +kernel
theorem dX3_init_81 : decode cX3_init 81 = .ok (.iconst 0, 1) := by decide +kernel
theorem dX3_init_82 : decode cX3_init 82 = .ok (.putfield 46, 3) := by decide +kernel
theorem dX3_init_85 : decode cX3_init 85 = .ok (.return_, 1) := by decide +kernel
theorem dX3_clear_0 : decode cX3_clear 0 = .ok (.aload_n 0, 1) := by decide +kernel
theorem dX3_clear_1 : decode cX3_clear 1 = .ok (.iconst 0, 1) := by decide +kernel
theorem dX3_clear_2 : decode cX3_clear 2 = .ok (.putfield 36, 3) := by decide +kernel
theorem dX3_clear_5 : decode cX3_clear 5 = .ok (.aload_n 0, 1) := by decide +kernel
theorem dX3_clear_6 : decode cX3_clear 6 = .ok (.iconst 0, 1) := by decide +kernel
theorem dX3_clear_7 : decode cX3_clear 7 = .ok (.putfield 40, 3) := by decide +kernel
theorem dX3_clear_10 : decode cX3_clear 10 = .ok (.aload_n 0, 1) := by decide +kernel
theorem dX3_clear_11 : decode cX3_clear 11 = .ok (.iconst 0, 1) := by decide +kernel
theorem dX3_clear_12 : decode cX3_clear 12 = .ok (.putfield 43, 3) := by decide +kernel
theorem dX3_clear_15 : decode cX3_clear 15 = .ok (.aload_n 0, 1) := by decide +kernel
theorem dX3_clear_16 : decode cX3_clear 16 = .ok (.iconst 0, 1) := by decide +kernel
theorem dX3_clear_17 : decode cX3_clear 17 = .ok (.putfield 46, 3) := by decide +kernel
theorem dX3_clear_20 : decode cX3_clear 20 = .ok (.return_, 1) := by decide +kernel
theorem dX3_takeOver_0 : decode cX3_takeOver 0 = .ok (.aload_n 1, 1) := by decide +kernel
theorem dX3_takeOver_1 : decode cX3_takeOver 1 = .ok (.getfield 9, 3) := by decide +kernel
theorem dX3_takeOver_4 : decode cX3_takeOver 4 = .ok (.iconst 0, 1) := by decide +kernel
theorem dX3_takeOver_5 : decode cX3_takeOver 5 = .ok (.aload_n 0, 1) := by decide +kernel
theorem dX3_takeOver_6 : decode cX3_takeOver 6 = .ok (.getfield 9, 3) := by decide +kernel
theorem dX3_takeOver_9 : decode cX3_takeOver 9 = .ok (.iconst 0, 1) := by decide +kernel
theorem dX3_takeOver_10 : decode cX3_takeOver 10 = .ok (.bipush 12, 2) := by decide +kernel
theorem dX3_takeOver_12 : decode cX3_takeOver 12 = .ok (.invokestatic 49, 3) := by decide +kernel
theorem dX3_takeOver_15 : decode cX3_takeOver 15 = .ok (.aload_n 1, 1) := by decide +kernel
theorem dX3_takeOver_16 : decode cX3_takeOver 16 = .ok (.getfield 15, 3) := by decide +kernel
theorem dX3_takeOver_19 : decode cX3_takeOver 19 = .ok (.iconst 0, 1) := by decide +kernel
theorem dX3_takeOver_20 : decode cX3_takeOver 20 = .ok (.aload_n 0, 1) := by decide +kernel
theorem dX3_takeOver_21 : decode cX3_takeOver 21 = .ok (.getfield 15, 3) := by decide +kernel
theorem dX3_takeOver_24 : decode cX3_takeOver 24 = .ok (.iconst 0, 1) := by decide +kernel
theorem dX3_takeOver_25 : decode cX3_takeOver 25 = .ok (.iconst 4, 1) := by decide +kernel
theorem dX3_takeOver_26 : decode cX3_takeOver 26 = .ok (.invokestatic 49, 3) := by decide +kernel
theorem dX3_takeOver_29 : decode cX3_takeOver 29 = .ok (.aload_n 1, 1) := by decide +kernel
theorem dX3_takeOver_30 : decode cX3_takeOver 30 = .ok (.getfield 18, 3) := by decide +kernel
theorem dX3_takeOver_33 : decode cX3_takeOver 33 = .ok (.iconst 0, 1) := by decide +kernel
theorem dX3_takeOver_34 : decode cX3_takeOver 34 = .ok (.aload_n 0, 1) := by decide +kernel
theorem dX3_takeOver_35 : decode cX3_takeOver 35 = .ok (.getfield 18, 3) := by decide +kernel
theorem dX3_takeOver_38 : decode cX3_takeOver 38 = .ok (.iconst 0, 1) := by decide +kernel
theorem dX3_takeOver_39 : decode cX3_takeOver 39 = .ok (.iconst 4, 1) := by decide +kernel
theorem dX3_takeOver_40 : decode cX3_takeOver 40 = .ok (.invokestatic 49, 3) := by decide +kernel
theorem dX3_takeOver_43 : decode cX3_takeOver 43 = .ok (.aload_n 1, 1) := by decide +kernel
theorem dX3_takeOver_44 : decode cX3_takeOver 44 = .ok (.getfield 21, 3) := by decide +kernel
theorem dX3_takeOver_47 : decode cX3_takeOver 47 = .ok (.iconst 0, 1) := by decide +kernel
theorem dX3_takeOver_48 : decode cX3_takeOver 48 = .ok (.aload_n 0, 1) := by decide +kernel
theorem dX3_takeOver_49 : decode cX3_takeOver 49 = .ok (.getfield 21, 3) := by decide +kernel
theorem dX3_takeOver_52 : decode cX3_takeOver 52 = .ok (.iconst 0, 1) := by decide +kernel
theorem dX3_takeOver_53 : decode cX3_takeOver 53 = .ok (.iconst 4, 1) := by decide +kernel
theorem dX3_takeOver_54 : decode cX3_takeOver 54 = .ok (.invokestatic 49, 3) := by decide +kernel
theorem dX3_takeOver_57 : decode cX3_takeOver 57 = .ok (.aload_n 1, 1) := by decide +kernel
theorem dX3_takeOver_58 : decode cX3_takeOver 58 = .ok (.getfield 24, 3) := by decide +kernel
theorem dX3_takeOver_61 : decode cX3_takeOver 61 = .ok (.iconst 0, 1) := by decide +kernel
theorem dX3_takeOver_62 : decode cX3_takeOver 62 = .ok (.aload_n 0, 1) := by decide +kernel
theorem dX3_takeOver_63 : decode cX3_takeOver 63 = .ok (.getfield 24, 3) := by decide +kernel
theorem dX3_takeOver_66 : decode cX3_takeOver 66 = .ok (.iconst 0, 1) := by decide +kernel
theorem dX3_takeOver_67 : decode cX3_takeOver 67 = .ok (.bipush 36, 2) := by decide +kernel
theorem dX3_takeOver_69 : decode cX3_takeOver 69 = .ok (.invokestatic 49, 3) := by decide +kernel
theorem dX3_takeOver_72 : decode cX3_takeOver 72 = .ok (.aload_n 1, 1) := by decide +kernel
theorem dX3_takeOver_73 : decode cX3_takeOver 73 = .ok (.getfield 27, 3) := by decide +kernel
theorem dX3_takeOver_76 : decode cX3_takeOver 76 = .ok (.iconst 0, 1) := by decide +kernel
theorem dX3_takeOver_77 : decode cX3_takeOver 77 = .ok (.aload_n 0, 1) := by decide +kernel
theorem dX3_takeOver_78 : decode cX3_takeOver 78 = .ok (.getfield 27, 3) := by decide +kernel
theorem dX3_takeOver_81 : decode cX3_takeOver 81 = .ok (.iconst 0, 1) := by decide +kernel
theorem dX3_takeOver_82 : decode cX3_takeOver 82 = .ok (.bipush 16, 2) := by decide +kernel
theorem dX3_takeOver_84 : decode cX3_takeOver 84 = .ok (.invokestatic 49, 3) := by decide +kernel
theorem dX3_takeOver_87 : decode cX3_takeOver 87 = .ok (.aload_n 1, 1) := by decide +kernel
theorem dX3_takeOver_88 : decode cX3_takeOver 88 = .ok (.getfield 30, 3) := by decide +kernel
theorem dX3_takeOver_91 : decode cX3_takeOver 91 = .ok (.iconst 0, 1) := by decide +kernel
theorem dX3_takeOver_92 : decode cX3_takeOver 92 = .ok (.aload_n 0, 1) := by decide +kernel
theorem dX3_takeOver_93 : decode cX3_takeOver 93 = .ok (.getfield 30, 3) := by decide +kernel
theorem dX3_takeOver_96 : decode cX3_takeOver 96 = .ok (.iconst 0, 1) := by decide +kernel
theorem dX3_takeOver_97 : decode cX3_takeOver 97 = .ok (.bipush 16, 2) := by decide +kernel
theorem dX3_takeOver_99 : decode cX3_takeOver 99 = .ok (.invokestatic 49, 3) := by decide +kernel
theorem dX3_takeOver_102 : decode cX3_takeOver 102 = .ok (.aload_n 1, 1) := by decide +kernel
theorem dX3_takeOver_103 : decode cX3_takeOver 103 = .ok (.getfield 33, 3) := by decide +kernel
theorem dX3_takeOver_106 : decode cX3_takeOver 106 = .ok (.iconst 0, 1) := by decide +kernel
theorem dX3_takeOver_107 : decode cX3_takeOver 107 = .ok (.aload_n 0, 1) := by decide +kernel
theorem dX3_takeOver_108 : decode cX3_takeOver 108 = .ok (.getfield 33, 3) := by decide +kernel
theorem dX3_takeOver_111 : decode cX3_takeOver 111 = .ok (.iconst 0, 1) := by decide +kernel
theorem dX3_takeOver_112 : decode cX3_takeOver 112 = .ok (.bipush 16, 2) := by decide +kernel
theorem dX3_takeOver_114 : decode cX3_takeOver 114 = .ok (.invokestatic 49, 3) := by decide +kernel
theorem dX3_takeOver_117 : decode cX3_takeOver 117 = .ok (.aload_n 0, 1) := by decide +kernel
theorem dX3_takeOver_118 : decode cX3_takeOver 118 = .ok (.aload_n 1, 1) := by decide +kernel
theorem dX3_takeOver_119 : decode cX3_takeOver 119 = .ok (.getfield 36, 3) := by decide +kernel
theorem dX3_takeOver_122 : decode cX3_takeOver 122 = .ok (.putfield 36, 3) := by decide +kernel
theorem dX3_takeOver_125 : decode cX3_takeOver 125 = .ok (.aload_n 0, 1) := by decide +kernel
theorem dX3_takeOver_126 : decode cX3_takeOver 126 = .ok (.aload_n 1, 1) := by decide +kernel
theorem dX3_takeOver_127 : decode cX3_takeOver 127 = .ok (.getfield 40, 3) := by decide +kernel
theorem dX3_takeOver_130 : decode cX3_takeOver 130 = .ok (.putfield 40, 3) := by decide +kernel
theorem dX3_takeOver_133 : decode cX3_takeOver 133 = .ok (.aload_n 0, 1) := by decide +kernel
theorem dX3_takeOver_134 : decode cX3_takeOver 134 = .ok (.aload_n 1, 1) := by decide +kernel
theorem dX3_takeOver_135 : decode cX3_takeOver 135 = .ok (.getfield 43, 3) := by decide +kernel
theorem dX3_takeOver_138 : decode cX3_takeOver 138 = .ok (.putfield 43, 3) := by decide +kernel
theorem dX3_takeOver_141 : decode cX3_takeOver 141 = .ok (.aload_n 0, 1) := by decide +kernel
theorem dX3_takeOver_142 : decode cX3_takeOver 142 = .ok (.aload_n 1, 1) := by decide +kernel
theorem dX3_takeOver_143 : decode cX3_takeOver 143 = .ok (.getfield 46, 3) := by decide +kernel
theorem dX3_takeOver_146 : decode cX3_takeOver 146 = .ok (.putfield 46, 3) := by decide +kernel
theorem dX3_takeOver_149 : decode cX3_takeOver 149 = .ok (.return_, 1) := by decide +kernel
theorem dX3_isThere_0 : decode cX3_isThere 0 = .ok (.aload_n 0, 1) := by decide +kernel
theorem dX3_isThere_1 : decode cX3_isThere 1 = .ok (.getfield 36, 3) := by decide +kernel
theorem dX3_isThere_4 : decode cX3_isThere 4 = .ok (.ifCond .le 7, 3) := by decide +kernel
theorem dX3_isThere_7 : decode cX3_isThere 7 = .ok (.iconst 1, 1) := by decide +kernel
theorem dX3_isThere_8 : decode cX3_isThere 8 = .ok (.goto 4, 3) := by decide +kernel
theorem dX3_isThere_11 : decode cX3_isThere 11 = .ok (.iconst 0, 1) := by decide +kernel
theorem dX3_isThere_12 : decode cX3_isThere 12 = .ok (.ireturn, 1) := by decide +kernel
theorem dX3_hasDesk_0 : decode cX3_hasDesk 0 = .ok (.iload_n 1, 1) := by decide +kernel
theorem dX3_hasDesk_1 : decode cX3_hasDesk 1 = .ok (.ifCond .lt 15, 3) := by decide +kernel
theorem dX3_hasDesk_4 : decode cX3_hasDesk 4 = .ok (.iload_n 1, 1) := by decide +kernel
theorem dX3_hasDesk_5 : decode cX3_hasDesk 5 = .ok (.aload_n 0, 1) := by decide +kernel
theorem dX3_hasDesk_6 : decode cX3_hasDesk 6 = .ok (.getfield 36, 3) := by decide +kernel
theorem dX3_hasDesk_9 : decode cX3_hasDesk 9 = .ok (.if_icmp .ge 7, 3) := by decide +kernel
theorem dX3_hasDesk_12 : decode cX3_hasDesk 12 = .ok (.iconst 1, 1) := by decide +kernel
theorem dX3_hasDesk_13 : decode cX3_hasDesk 13 = .ok (.goto 4, 3) := by decide +kernel
theorem dX3_hasDesk_16 : decode cX3_hasDesk 16 = .ok (.iconst 0, 1) := by decide +kernel
theorem dX3_hasDesk_17 : decode cX3_hasDesk 17 = .ok (.ireturn, 1) := by decide +kernel
theorem dX3_hasSheet_0 : decode cX3_hasSheet 0 = .ok (.iload_n 1, 1) := by decide +kernel
theorem dX3_hasSheet_1 : decode cX3_hasSheet 1 = .ok (.ifCond .lt 15, 3) := by decide +kernel
theorem dX3_hasSheet_4 : decode cX3_hasSheet 4 = .ok (.iload_n 1, 1) := by decide +kernel
theorem dX3_hasSheet_5 : decode cX3_hasSheet 5 = .ok (.aload_n 0, 1) := by decide +kernel
theorem dX3_hasSheet_6 : decode cX3_hasSheet 6 = .ok (.getfield 40, 3) := by decide +kernel
theorem dX3_hasSheet_9 : decode cX3_hasSheet 9 = .ok (.if_icmp .ge 7, 3) := by decide +kernel
theorem dX3_hasSheet_12 : decode cX3_hasSheet 12 = .ok (.iconst 1, 1) := by decide +kernel
theorem dX3_hasSheet_13 : decode cX3_hasSheet 13 = .ok (.goto 4, 3) := by decide +kernel
theorem dX3_hasSheet_16 : decode cX3_hasSheet 16 = .ok (.iconst 0, 1) := by decide +kernel
theorem dX3_hasSheet_17 : decode cX3_hasSheet 17 = .ok (.ireturn, 1) := by decide +kernel
theorem dX3_hasRoom_0 : decode cX3_hasRoom 0 = .ok (.aload_n 0, 1) := by decide +kernel
theorem dX3_hasRoom_1 : decode cX3_hasRoom 1 = .ok (.getfield 21, 3) := by decide +kernel
theorem dX3_hasRoom_4 : decode cX3_hasRoom 4 = .ok (.iload_n 1, 1) := by decide +kernel
theorem dX3_hasRoom_5 : decode cX3_hasRoom 5 = .ok (.iaload, 1) := by decide +kernel
theorem dX3_hasRoom_6 : decode cX3_hasRoom 6 = .ok (.aload_n 0, 1) := by decide +kernel
theorem dX3_hasRoom_7 : decode cX3_hasRoom 7 = .ok (.getfield 15, 3) := by decide +kernel
theorem dX3_hasRoom_10 : decode cX3_hasRoom 10 = .ok (.iload_n 1, 1) := by decide +kernel
theorem dX3_hasRoom_11 : decode cX3_hasRoom 11 = .ok (.iaload, 1) := by decide +kernel
theorem dX3_hasRoom_12 : decode cX3_hasRoom 12 = .ok (.if_icmp .ge 7, 3) := by decide +kernel
theorem dX3_hasRoom_15 : decode cX3_hasRoom 15 = .ok (.iconst 1, 1) := by decide +kernel
theorem dX3_hasRoom_16 : decode cX3_hasRoom 16 = .ok (.goto 4, 3) := by decide +kernel
theorem dX3_hasRoom_19 : decode cX3_hasRoom 19 = .ok (.iconst 0, 1) := by decide +kernel
theorem dX3_hasRoom_20 : decode cX3_hasRoom 20 = .ok (.ireturn, 1) := by decide +kernel
theorem dX3_furnish_0 : decode cX3_furnish 0 = .ok (.aload_n 0, 1) := by decide +kernel
theorem dX3_furnish_1 : decode cX3_furnish 1 = .ok (.getfield 36, 3) := by decide +kernel
theorem dX3_furnish_4 : decode cX3_furnish 4 = .ok (.iconst 4, 1) := by decide +kernel
theorem dX3_furnish_5 : decode cX3_furnish 5 = .ok (.if_icmp .ge 43, 3) := by decide +kernel
theorem dX3_furnish_8 : decode cX3_furnish 8 = .ok (.aload_n 0, 1) := by decide +kernel
theorem dX3_furnish_9 : decode cX3_furnish 9 = .ok (.getfield 15, 3) := by decide +kernel
theorem dX3_furnish_12 : decode cX3_furnish 12 = .ok (.aload_n 0, 1) := by decide +kernel
theorem dX3_furnish_13 : decode cX3_furnish 13 = .ok (.getfield 36, 3) := by decide +kernel
theorem dX3_furnish_16 : decode cX3_furnish 16 = .ok (.iload_n 1, 1) := by decide +kernel
theorem dX3_furnish_17 : decode cX3_furnish 17 = .ok (.iastore, 1) := by decide +kernel
theorem dX3_furnish_18 : decode cX3_furnish 18 = .ok (.aload_n 0, 1) := by decide +kernel
theorem dX3_furnish_19 : decode cX3_furnish 19 = .ok (.getfield 18, 3) := by decide +kernel
theorem dX3_furnish_22 : decode cX3_furnish 22 = .ok (.aload_n 0, 1) := by decide +kernel
theorem dX3_furnish_23 : decode cX3_furnish 23 = .ok (.getfield 36, 3) := by decide +kernel
theorem dX3_furnish_26 : decode cX3_furnish 26 = .ok (.iload_n 2, 1) := by decide +kernel
theorem dX3_furnish_27 : decode cX3_furnish 27 = .ok (.iastore, 1) := by decide +kernel
theorem dX3_furnish_28 : decode cX3_furnish 28 = .ok (.aload_n 0, 1) := by decide +kernel
theorem dX3_furnish_29 : decode cX3_furnish 29 = .ok (.getfield 21, 3) := by decide +kernel
theorem dX3_furnish_32 : decode cX3_furnish 32 = .ok (.aload_n 0, 1) := by decide +kernel
theorem dX3_furnish_33 : decode cX3_furnish 33 = .ok (.getfield 36, 3) := by decide +kernel
theorem dX3_furnish_36 : decode cX3_furnish 36 = .ok (.iconst 0, 1) := by decide +kernel
theorem dX3_furnish_37 : decode cX3_furnish 37 = .ok (.iastore, 1) := by decide +kernel
theorem dX3_furnish_38 : decode cX3_furnish 38 = .ok (.aload_n 0, 1) := by decide +kernel
theorem dX3_furnish_39 : decode cX3_furnish 39 = .ok (.dup, 1) := by decide +kernel
theorem dX3_furnish_40 : decode cX3_furnish 40 = .ok (.getfield 36, 3) := by decide +kernel
theorem dX3_furnish_43 : decode cX3_furnish 43 = .ok (.iconst 1, 1) := by decide +kernel
theorem dX3_furnish_44 : decode cX3_furnish 44 = .ok (.iadd, 1) := by decide +kernel
theorem dX3_furnish_45 : decode cX3_furnish 45 = .ok (.putfield 36, 3) := by decide +kernel
theorem dX3_furnish_48 : decode cX3_furnish 48 = .ok (.return_, 1) := by decide +kernel
theorem dX3_bring_0 : decode cX3_bring 0 = .ok (.aload_n 0, 1) := by decide +kernel
theorem dX3_bring_1 : decode cX3_bring 1 = .ok (.getfield 40, 3) := by decide +kernel
theorem dX3_bring_4 : decode cX3_bring 4 = .ok (.istore 5, 2) := by decide +kernel
theorem dX3_bring_6 : decode cX3_bring 6 = .ok (.iload 5, 2) := by decide +kernel
theorem dX3_bring_8 : decode cX3_bring 8 = .ok (.bipush 16, 2) := by decide +kernel
theorem dX3_bring_10 : decode cX3_bring 10 = .ok (.if_icmp .ge 45, 3) := by decide +kernel
theorem dX3_bring_13 : decode cX3_bring 13 = .ok (.aload_n 0, 1) := by decide +kernel
theorem dX3_bring_14 : decode cX3_bring 14 = .ok (.getfield 27, 3) := by decide +kernel
theorem dX3_bring_17 : decode cX3_bring 17 = .ok (.iload 5, 2) := by decide +kernel
theorem dX3_bring_19 : decode cX3_bring 19 = .ok (.iload_n 1, 1) := by decide +kernel
theorem dX3_bring_20 : decode cX3_bring 20 = .ok (.iastore, 1) := by decide +kernel
theorem dX3_bring_21 : decode cX3_bring 21 = .ok (.aload_n 0, 1) := by decide +kernel
theorem dX3_bring_22 : decode cX3_bring 22 = .ok (.getfield 30, 3) := by decide +kernel
theorem dX3_bring_25 : decode cX3_bring 25 = .ok (.iload 5, 2) := by decide +kernel
theorem dX3_bring_27 : decode cX3_bring 27 = .ok (.iload_n 3, 1) := by decide +kernel
theorem dX3_bring_28 : decode cX3_bring 28 = .ok (.iastore, 1) := by decide +kernel
theorem dX3_bring_29 : decode cX3_bring 29 = .ok (.aload_n 0, 1) := by decide +kernel
theorem dX3_bring_30 : decode cX3_bring 30 = .ok (.getfield 33, 3) := by decide +kernel
theorem dX3_bring_33 : decode cX3_bring 33 = .ok (.iload 5, 2) := by decide +kernel
theorem dX3_bring_35 : decode cX3_bring 35 = .ok (.iload 4, 2) := by decide +kernel
theorem dX3_bring_37 : decode cX3_bring 37 = .ok (.iastore, 1) := by decide +kernel
theorem dX3_bring_38 : decode cX3_bring 38 = .ok (.aload_n 0, 1) := by decide +kernel
theorem dX3_bring_39 : decode cX3_bring 39 = .ok (.dup, 1) := by decide +kernel
theorem dX3_bring_40 : decode cX3_bring 40 = .ok (.getfield 40, 3) := by decide +kernel
theorem dX3_bring_43 : decode cX3_bring 43 = .ok (.iconst 1, 1) := by decide +kernel
theorem dX3_bring_44 : decode cX3_bring 44 = .ok (.iadd, 1) := by decide +kernel
theorem dX3_bring_45 : decode cX3_bring 45 = .ok (.putfield 40, 3) := by decide +kernel
theorem dX3_bring_48 : decode cX3_bring 48 = .ok (.aload_n 0, 1) := by decide +kernel
theorem dX3_bring_49 : decode cX3_bring 49 = .ok (.iload 5, 2) := by decide +kernel
theorem dX3_bring_51 : decode cX3_bring 51 = .ok (.iload_n 2, 1) := by decide +kernel
theorem dX3_bring_52 : decode cX3_bring 52 = .ok (.invokevirtual 55, 3) := by decide +kernel
theorem dX3_bring_55 : decode cX3_bring 55 = .ok (.iload 5, 2) := by decide +kernel
theorem dX3_bring_57 : decode cX3_bring 57 = .ok (.ireturn, 1) := by decide +kernel
theorem dX3_at_0 : decode cX3_at 0 = .ok (.aload_n 0, 1) := by decide +kernel
theorem dX3_at_1 : decode cX3_at 1 = .ok (.getfield 24, 3) := by decide +kernel
theorem dX3_at_4 : decode cX3_at 4 = .ok (.iload_n 1, 1) := by decide +kernel
theorem dX3_at_5 : decode cX3_at 5 = .ok (.bipush 9, 2) := by decide +kernel
theorem dX3_at_7 : decode cX3_at 7 = .ok (.imul, 1) := by decide +kernel
theorem dX3_at_8 : decode cX3_at 8 = .ok (.iload_n 2, 1) := by decide +kernel
theorem dX3_at_9 : decode cX3_at 9 = .ok (.iadd, 1) := by decide +kernel
theorem dX3_at_10 : decode cX3_at 10 = .ok (.iaload, 1) := by decide +kernel
theorem dX3_at_11 : decode cX3_at 11 = .ok (.ireturn, 1) := by decide +kernel
theorem dX3_putOn_0 : decode cX3_putOn 0 = .ok (.aload_n 0, 1) := by decide +kernel
theorem dX3_putOn_1 : decode cX3_putOn 1 = .ok (.iload_n 2, 1) := by decide +kernel
theorem dX3_putOn_2 : decode cX3_putOn 2 = .ok (.invokevirtual 59, 3) := by decide +kernel
theorem dX3_putOn_5 : decode cX3_putOn 5 = .ok (.ifCond .eq 30, 3) := by decide +kernel
theorem dX3_putOn_8 : decode cX3_putOn 8 = .ok (.aload_n 0, 1) := by decide +kernel
theorem dX3_putOn_9 : decode cX3_putOn 9 = .ok (.getfield 24, 3) := by decide +kernel
theorem dX3_putOn_12 : decode cX3_putOn 12 = .ok (.iload_n 2, 1) := by decide +kernel
theorem dX3_putOn_13 : decode cX3_putOn 13 = .ok (.bipush 9, 2) := by decide +kernel
theorem dX3_putOn_15 : decode cX3_putOn 15 = .ok (.imul, 1) := by decide +kernel
theorem dX3_putOn_16 : decode cX3_putOn 16 = .ok (.aload_n 0, 1) := by decide +kernel
theorem dX3_putOn_17 : decode cX3_putOn 17 = .ok (.getfield 21, 3) := by decide +kernel
theorem dX3_putOn_20 : decode cX3_putOn 20 = .ok (.iload_n 2, 1) := by decide +kernel
theorem dX3_putOn_21 : decode cX3_putOn 21 = .ok (.iaload, 1) := by decide +kernel
theorem dX3_putOn_22 : decode cX3_putOn 22 = .ok (.iadd, 1) := by decide +kernel
theorem dX3_putOn_23 : decode cX3_putOn 23 = .ok (.iload_n 1, 1) := by decide +kernel
theorem dX3_putOn_24 : decode cX3_putOn 24 = .ok (.iastore, 1) := by decide +kernel
theorem dX3_putOn_25 : decode cX3_putOn 25 = .ok (.aload_n 0, 1) := by decide +kernel
theorem dX3_putOn_26 : decode cX3_putOn 26 = .ok (.getfield 21, 3) := by decide +kernel
theorem dX3_putOn_29 : decode cX3_putOn 29 = .ok (.iload_n 2, 1) := by decide +kernel
theorem dX3_putOn_30 : decode cX3_putOn 30 = .ok (.dup2, 1) := by decide +kernel
theorem dX3_putOn_31 : decode cX3_putOn 31 = .ok (.iaload, 1) := by decide +kernel
theorem dX3_putOn_32 : decode cX3_putOn 32 = .ok (.iconst 1, 1) := by decide +kernel
theorem dX3_putOn_33 : decode cX3_putOn 33 = .ok (.iadd, 1) := by decide +kernel
theorem dX3_putOn_34 : decode cX3_putOn 34 = .ok (.iastore, 1) := by decide +kernel
theorem dX3_putOn_35 : decode cX3_putOn 35 = .ok (.return_, 1) := by decide +kernel
theorem dX3_takeOff_0 : decode cX3_takeOff 0 = .ok (.aload_n 0, 1) := by decide +kernel
theorem dX3_takeOff_1 : decode cX3_takeOff 1 = .ok (.iload_n 1, 1) := by decide +kernel
theorem dX3_takeOff_2 : decode cX3_takeOff 2 = .ok (.invokevirtual 63, 3) := by decide +kernel
theorem dX3_takeOff_5 : decode cX3_takeOff 5 = .ok (.istore_n 2, 1) := by decide +kernel
theorem dX3_takeOff_6 : decode cX3_takeOff 6 = .ok (.iload_n 2, 1) := by decide +kernel
theorem dX3_takeOff_7 : decode cX3_takeOff 7 = .ok (.ifCond .ge 4, 3) := by decide +kernel
theorem dX3_takeOff_10 : decode cX3_takeOff 10 = .ok (.return_, 1) := by decide +kernel
theorem dX3_takeOff_11 : decode cX3_takeOff 11 = .ok (.aload_n 0, 1) := by decide +kernel
theorem dX3_takeOff_12 : decode cX3_takeOff 12 = .ok (.getfield 21, 3) := by decide +kernel
theorem dX3_takeOff_15 : decode cX3_takeOff 15 = .ok (.iload_n 2, 1) := by decide +kernel
theorem dX3_takeOff_16 : decode cX3_takeOff 16 = .ok (.iaload, 1) := by decide +kernel
theorem dX3_takeOff_17 : decode cX3_takeOff 17 = .ok (.iconst 1, 1) := by decide +kernel
theorem dX3_takeOff_18 : decode cX3_takeOff 18 = .ok (.isub, 1) := by decide +kernel
theorem dX3_takeOff_19 : decode cX3_takeOff 19 = .ok (.istore_n 3, 1) := by decide +kernel
theorem dX3_takeOff_20 : decode cX3_takeOff 20 = .ok (.iload_n 3, 1) := by decide +kernel
theorem dX3_takeOff_21 : decode cX3_takeOff 21 = .ok (.aload_n 0, 1) := by decide +kernel
theorem dX3_takeOff_22 : decode cX3_takeOff 22 = .ok (.iload_n 1, 1) := by decide +kernel
theorem dX3_takeOff_23 : decode cX3_takeOff 23 = .ok (.invokevirtual 67, 3) := by decide +kernel
theorem dX3_takeOff_26 : decode cX3_takeOff 26 = .ok (.isub, 1) := by decide +kernel
theorem dX3_takeOff_27 : decode cX3_takeOff 27 = .ok (.istore 4, 2) := by decide +kernel
theorem dX3_takeOff_29 : decode cX3_takeOff 29 = .ok (.iload 4, 2) := by decide +kernel
theorem dX3_takeOff_31 : decode cX3_takeOff 31 = .ok (.iload_n 3, 1) := by decide +kernel
theorem dX3_takeOff_32 : decode cX3_takeOff 32 = .ok (.if_icmp .ge 30, 3) := by decide +kernel
theorem dX3_takeOff_35 : decode cX3_takeOff 35 = .ok (.aload_n 0, 1) := by decide +kernel
theorem dX3_takeOff_36 : decode cX3_takeOff 36 = .ok (.getfield 24, 3) := by decide +kernel
theorem dX3_takeOff_39 : decode cX3_takeOff 39 = .ok (.iload_n 2, 1) := by decide +kernel
theorem dX3_takeOff_40 : decode cX3_takeOff 40 = .ok (.bipush 9, 2) := by decide +kernel
theorem dX3_takeOff_42 : decode cX3_takeOff 42 = .ok (.imul, 1) := by decide +kernel
theorem dX3_takeOff_43 : decode cX3_takeOff 43 = .ok (.iload 4, 2) := by decide +kernel
theorem dX3_takeOff_45 : decode cX3_takeOff 45 = .ok (.iadd, 1) := by decide +kernel
theorem dX3_takeOff_46 : decode cX3_takeOff 46 = .ok (.aload_n 0, 1) := by decide +kernel
theorem dX3_takeOff_47 : decode cX3_takeOff 47 = .ok (.iload_n 2, 1) := by decide +kernel
theorem dX3_takeOff_48 : decode cX3_takeOff 48 = .ok (.iload 4, 2) := by decide +kernel
theorem dX3_takeOff_50 : decode cX3_takeOff 50 = .ok (.iconst 1, 1) := by decide +kernel
theorem dX3_takeOff_51 : decode cX3_takeOff 51 = .ok (.iadd, 1) := by decide +kernel
theorem dX3_takeOff_52 : decode cX3_takeOff 52 = .ok (.invokevirtual 70, 3) := by decide +kernel
theorem dX3_takeOff_55 : decode cX3_takeOff 55 = .ok (.iastore, 1) := by decide +kernel
theorem dX3_takeOff_56 : decode cX3_takeOff 56 = .ok (.iinc 4 1, 3) := by decide +kernel
theorem dX3_takeOff_59 : decode cX3_takeOff 59 = .ok (.goto (-30), 3) := by decide +kernel
theorem dX3_takeOff_62 : decode cX3_takeOff 62 = .ok (.aload_n 0, 1) := by decide +kernel
theorem dX3_takeOff_63 : decode cX3_takeOff 63 = .ok (.getfield 21, 3) := by decide +kernel
theorem dX3_takeOff_66 : decode cX3_takeOff 66 = .ok (.iload_n 2, 1) := by decide +kernel
theorem dX3_takeOff_67 : decode cX3_takeOff 67 = .ok (.iload_n 3, 1) := by decide +kernel
theorem dX3_takeOff_68 : decode cX3_takeOff 68 = .ok (.iastore, 1) := by decide +kernel
theorem dX3_takeOff_69 : decode cX3_takeOff 69 = .ok (.return_, 1) := by decide +kernel
theorem dX3_deskOf_0 : decode cX3_deskOf 0 = .ok (.iconst 0, 1) := by decide +kernel
theorem dX3_deskOf_1 : decode cX3_deskOf 1 = .ok (.istore_n 2, 1) := by decide +kernel
theorem dX3_deskOf_2 : decode cX3_deskOf 2 = .ok (.iload_n 2, 1) := by decide +kernel
theorem dX3_deskOf_3 : decode cX3_deskOf 3 = .ok (.aload_n 0, 1) := by decide +kernel
theorem dX3_deskOf_4 : decode cX3_deskOf 4 = .ok (.getfield 36, 3) := by decide +kernel
theorem dX3_deskOf_7 : decode cX3_deskOf 7 = .ok (.if_icmp .ge 23, 3) := by decide +kernel
theorem dX3_deskOf_10 : decode cX3_deskOf 10 = .ok (.aload_n 0, 1) := by decide +kernel
theorem dX3_deskOf_11 : decode cX3_deskOf 11 = .ok (.iload_n 2, 1) := by decide +kernel
theorem dX3_deskOf_12 : decode cX3_deskOf 12 = .ok (.invokevirtual 74, 3) := by decide +kernel
theorem dX3_deskOf_15 : decode cX3_deskOf 15 = .ok (.iload_n 1, 1) := by decide +kernel
theorem dX3_deskOf_16 : decode cX3_deskOf 16 = .ok (.ishr, 1) := by decide +kernel
theorem dX3_deskOf_17 : decode cX3_deskOf 17 = .ok (.iconst 1, 1) := by decide +kernel
theorem dX3_deskOf_18 : decode cX3_deskOf 18 = .ok (.iand, 1) := by decide +kernel
theorem dX3_deskOf_19 : decode cX3_deskOf 19 = .ok (.ifCond .eq 5, 3) := by decide +kernel
theorem dX3_deskOf_22 : decode cX3_deskOf 22 = .ok (.iload_n 2, 1) := by decide +kernel
theorem dX3_deskOf_23 : decode cX3_deskOf 23 = .ok (.ireturn, 1) := by decide +kernel
theorem dX3_deskOf_24 : decode cX3_deskOf 24 = .ok (.iinc 2 1, 3) := by decide +kernel
theorem dX3_deskOf_27 : decode cX3_deskOf 27 = .ok (.goto (-25), 3) := by decide +kernel
theorem dX3_deskOf_30 : decode cX3_deskOf 30 = .ok (.iconst (-1), 1) := by decide +kernel
theorem dX3_deskOf_31 : decode cX3_deskOf 31 = .ok (.ireturn, 1) := by decide +kernel
theorem dX3_above_0 : decode cX3_above 0 = .ok (.aload_n 0, 1) := by decide +kernel
theorem dX3_above_1 : decode cX3_above 1 = .ok (.iload_n 1, 1) := by decide +kernel
theorem dX3_above_2 : decode cX3_above 2 = .ok (.invokevirtual 63, 3) := by decide +kernel
theorem dX3_above_5 : decode cX3_above 5 = .ok (.istore_n 2, 1) := by decide +kernel
theorem dX3_above_6 : decode cX3_above 6 = .ok (.iload_n 2, 1) := by decide +kernel
theorem dX3_above_7 : decode cX3_above 7 = .ok (.ifCond .ge 5, 3) := by decide +kernel
theorem dX3_above_10 : decode cX3_above 10 = .ok (.iconst 0, 1) := by decide +kernel
theorem dX3_above_11 : decode cX3_above 11 = .ok (.ireturn, 1) := by decide +kernel
theorem dX3_above_12 : decode cX3_above 12 = .ok (.iconst 0, 1) := by decide +kernel
theorem dX3_above_13 : decode cX3_above 13 = .ok (.istore_n 3, 1) := by decide +kernel
theorem dX3_above_14 : decode cX3_above 14 = .ok (.aload_n 0, 1) := by decide +kernel
theorem dX3_above_15 : decode cX3_above 15 = .ok (.getfield 21, 3) := by decide +kernel
theorem dX3_above_18 : decode cX3_above 18 = .ok (.iload_n 2, 1) := by decide +kernel
theorem dX3_above_19 : decode cX3_above 19 = .ok (.iaload, 1) := by decide +kernel
theorem dX3_above_20 : decode cX3_above 20 = .ok (.iconst 1, 1) := by decide +kernel
theorem dX3_above_21 : decode cX3_above 21 = .ok (.isub, 1) := by decide +kernel
theorem dX3_above_22 : decode cX3_above 22 = .ok (.istore 4, 2) := by decide +kernel
theorem dX3_above_24 : decode cX3_above 24 = .ok (.iload 4, 2) := by decide +kernel
theorem dX3_above_26 : decode cX3_above 26 = .ok (.ifCond .lt 23, 3) := by decide +kernel
theorem dX3_above_29 : decode cX3_above 29 = .ok (.aload_n 0, 1) := by decide +kernel
theorem dX3_above_30 : decode cX3_above 30 = .ok (.iload_n 2, 1) := by decide +kernel
theorem dX3_above_31 : decode cX3_above 31 = .ok (.iload 4, 2) := by decide +kernel
theorem dX3_above_33 : decode cX3_above 33 = .ok (.invokevirtual 70, 3) := by decide +kernel
theorem dX3_above_36 : decode cX3_above 36 = .ok (.iload_n 1, 1) := by decide +kernel
theorem dX3_above_37 : decode cX3_above 37 = .ok (.if_icmp .eq 12, 3) := by decide +kernel
theorem dX3_above_40 : decode cX3_above 40 = .ok (.iinc 3 1, 3) := by decide +kernel
theorem dX3_above_43 : decode cX3_above 43 = .ok (.iinc 4 (-1), 3) := by decide +kernel
theorem dX3_above_46 : decode cX3_above 46 = .ok (.goto (-22), 3) := by decide +kernel
theorem dX3_above_49 : decode cX3_above 49 = .ok (.iload_n 3, 1) := by decide +kernel
theorem dX3_above_50 : decode cX3_above 50 = .ok (.ireturn, 1) := by decide +kernel
theorem dX3_setOn_0 : decode cX3_setOn 0 = .ok (.iconst 0, 1) := by decide +kernel
theorem dX3_setOn_1 : decode cX3_setOn 1 = .ok (.istore_n 2, 1) := by decide +kernel
theorem dX3_setOn_2 : decode cX3_setOn 2 = .ok (.iconst 0, 1) := by decide +kernel
theorem dX3_setOn_3 : decode cX3_setOn 3 = .ok (.istore_n 3, 1) := by decide +kernel
theorem dX3_setOn_4 : decode cX3_setOn 4 = .ok (.iload_n 3, 1) := by decide +kernel
theorem dX3_setOn_5 : decode cX3_setOn 5 = .ok (.aload_n 0, 1) := by decide +kernel
theorem dX3_setOn_6 : decode cX3_setOn 6 = .ok (.getfield 21, 3) := by decide +kernel
theorem dX3_setOn_9 : decode cX3_setOn 9 = .ok (.iload_n 1, 1) := by decide +kernel
theorem dX3_setOn_10 : decode cX3_setOn 10 = .ok (.iaload, 1) := by decide +kernel
theorem dX3_setOn_11 : decode cX3_setOn 11 = .ok (.if_icmp .ge 20, 3) := by decide +kernel
theorem dX3_setOn_14 : decode cX3_setOn 14 = .ok (.iload_n 2, 1) := by decide +kernel
theorem dX3_setOn_15 : decode cX3_setOn 15 = .ok (.iconst 1, 1) := by decide +kernel
theorem dX3_setOn_16 : decode cX3_setOn 16 = .ok (.aload_n 0, 1) := by decide +kernel
theorem dX3_setOn_17 : decode cX3_setOn 17 = .ok (.iload_n 1, 1) := by decide +kernel
theorem dX3_setOn_18 : decode cX3_setOn 18 = .ok (.iload_n 3, 1) := by decide +kernel
theorem dX3_setOn_19 : decode cX3_setOn 19 = .ok (.invokevirtual 70, 3) := by decide +kernel
theorem dX3_setOn_22 : decode cX3_setOn 22 = .ok (.ishl, 1) := by decide +kernel
theorem dX3_setOn_23 : decode cX3_setOn 23 = .ok (.ior, 1) := by decide +kernel
theorem dX3_setOn_24 : decode cX3_setOn 24 = .ok (.istore_n 2, 1) := by decide +kernel
theorem dX3_setOn_25 : decode cX3_setOn 25 = .ok (.iinc 3 1, 3) := by decide +kernel
theorem dX3_setOn_28 : decode cX3_setOn 28 = .ok (.goto (-24), 3) := by decide +kernel
theorem dX3_setOn_31 : decode cX3_setOn 31 = .ok (.iload_n 2, 1) := by decide +kernel
theorem dX3_setOn_32 : decode cX3_setOn 32 = .ok (.ireturn, 1) := by decide +kernel
theorem dX3_isGone_0 : decode cX3_isGone 0 = .ok (.aload_n 0, 1) := by decide +kernel
theorem dX3_isGone_1 : decode cX3_isGone 1 = .ok (.iload_n 1, 1) := by decide +kernel
theorem dX3_isGone_2 : decode cX3_isGone 2 = .ok (.invokevirtual 63, 3) := by decide +kernel
theorem dX3_isGone_5 : decode cX3_isGone 5 = .ok (.ifCond .ge 7, 3) := by decide +kernel
theorem dX3_isGone_8 : decode cX3_isGone 8 = .ok (.iconst 1, 1) := by decide +kernel
theorem dX3_isGone_9 : decode cX3_isGone 9 = .ok (.goto 4, 3) := by decide +kernel
theorem dX3_isGone_12 : decode cX3_isGone 12 = .ok (.iconst 0, 1) := by decide +kernel
theorem dX3_isGone_13 : decode cX3_isGone 13 = .ok (.ireturn, 1) := by decide +kernel
theorem dX3_isMet_0 : decode cX3_isMet 0 = .ok (.aload_n 0, 1) := by decide +kernel
theorem dX3_isMet_1 : decode cX3_isMet 1 = .ok (.getfield 46, 3) := by decide +kernel
theorem dX3_isMet_4 : decode cX3_isMet 4 = .ok (.iload_n 1, 1) := by decide +kernel
theorem dX3_isMet_5 : decode cX3_isMet 5 = .ok (.ishr, 1) := by decide +kernel
theorem dX3_isMet_6 : decode cX3_isMet 6 = .ok (.iconst 1, 1) := by decide +kernel
theorem dX3_isMet_7 : decode cX3_isMet 7 = .ok (.iand, 1) := by decide +kernel
theorem dX3_isMet_8 : decode cX3_isMet 8 = .ok (.ifCond .eq 7, 3) := by decide +kernel
theorem dX3_isMet_11 : decode cX3_isMet 11 = .ok (.iconst 1, 1) := by decide +kernel
theorem dX3_isMet_12 : decode cX3_isMet 12 = .ok (.goto 4, 3) := by decide +kernel
theorem dX3_isMet_15 : decode cX3_isMet 15 = .ok (.iconst 0, 1) := by decide +kernel
theorem dX3_isMet_16 : decode cX3_isMet 16 = .ok (.ireturn, 1) := by decide +kernel
theorem dX3_isMissed_0 : decode cX3_isMissed 0 = .ok (.aload_n 0, 1) := by decide +kernel
theorem dX3_isMissed_1 : decode cX3_isMissed 1 = .ok (.getfield 33, 3) := by decide +kernel
theorem dX3_isMissed_4 : decode cX3_isMissed 4 = .ok (.iload_n 1, 1) := by decide +kernel
theorem dX3_isMissed_5 : decode cX3_isMissed 5 = .ok (.iaload, 1) := by decide +kernel
theorem dX3_isMissed_6 : decode cX3_isMissed 6 = .ok (.bipush 12, 2) := by decide +kernel
theorem dX3_isMissed_8 : decode cX3_isMissed 8 = .ok (.if_icmp .ge 36, 3) := by decide +kernel
theorem dX3_isMissed_11 : decode cX3_isMissed 11 = .ok (.aload_n 0, 1) := by decide +kernel
theorem dX3_isMissed_12 : decode cX3_isMissed 12 = .ok (.iload_n 1, 1) := by decide +kernel
theorem dX3_isMissed_13 : decode cX3_isMissed 13 = .ok (.invokevirtual 77, 3) := by decide +kernel
theorem dX3_isMissed_16 : decode cX3_isMissed 16 = .ok (.ifCond .ne 28, 3) := by decide +kernel
theorem dX3_isMissed_19 : decode cX3_isMissed 19 = .ok (.aload_n 0, 1) := by decide +kernel
theorem dX3_isMissed_20 : decode cX3_isMissed 20 = .ok (.iload_n 1, 1) := by decide +kernel
theorem dX3_isMissed_21 : decode cX3_isMissed 21 = .ok (.invokevirtual 80, 3) := by decide +kernel
theorem dX3_isMissed_24 : decode cX3_isMissed 24 = .ok (.ifCond .ne 16, 3) := by decide +kernel
theorem dX3_isMissed_27 : decode cX3_isMissed 27 = .ok (.aload_n 0, 1) := by decide +kernel
theorem dX3_isMissed_28 : decode cX3_isMissed 28 = .ok (.getfield 43, 3) := by decide +kernel
theorem dX3_isMissed_31 : decode cX3_isMissed 31 = .ok (.aload_n 0, 1) := by decide +kernel
theorem dX3_isMissed_32 : decode cX3_isMissed 32 = .ok (.getfield 33, 3) := by decide +kernel
theorem dX3_isMissed_35 : decode cX3_isMissed 35 = .ok (.iload_n 1, 1) := by decide +kernel
theorem dX3_isMissed_36 : decode cX3_isMissed 36 = .ok (.iaload, 1) := by decide +kernel
theorem dX3_isMissed_37 : decode cX3_isMissed 37 = .ok (.if_icmp .le 7, 3) := by decide +kernel
theorem dX3_isMissed_40 : decode cX3_isMissed 40 = .ok (.iconst 1, 1) := by decide +kernel
theorem dX3_isMissed_41 : decode cX3_isMissed 41 = .ok (.goto 4, 3) := by decide +kernel
theorem dX3_isMissed_44 : decode cX3_isMissed 44 = .ok (.iconst 0, 1) := by decide +kernel
theorem dX3_isMissed_45 : decode cX3_isMissed 45 = .ok (.ireturn, 1) := by decide +kernel
theorem dX3_missedSet_0 : decode cX3_missedSet 0 = .ok (.iconst 0, 1) := by decide +kernel
theorem dX3_missedSet_1 : decode cX3_missedSet 1 = .ok (.istore_n 1, 1) := by decide +kernel
theorem dX3_missedSet_2 : decode cX3_missedSet 2 = .ok (.iconst 0, 1) := by decide +kernel
theorem dX3_missedSet_3 : decode cX3_missedSet 3 = .ok (.istore_n 2, 1) := by decide +kernel
theorem dX3_missedSet_4 : decode cX3_missedSet 4 = .ok (.iload_n 2, 1) := by decide +kernel
theorem dX3_missedSet_5 : decode cX3_missedSet 5 = .ok (.aload_n 0, 1) := by decide +kernel
theorem dX3_missedSet_6 : decode cX3_missedSet 6 = .ok (.getfield 40, 3) := by decide +kernel
theorem dX3_missedSet_9 : decode cX3_missedSet 9 = .ok (.if_icmp .ge 23, 3) := by decide +kernel
theorem dX3_missedSet_12 : decode cX3_missedSet 12 = .ok (.aload_n 0, 1) := by decide +kernel
theorem dX3_missedSet_13 : decode cX3_missedSet 13 = .ok (.iload_n 2, 1) := by decide +kernel
theorem dX3_missedSet_14 : decode cX3_missedSet 14 = .ok (.invokevirtual 83, 3) := by decide +kernel
theorem dX3_missedSet_17 : decode cX3_missedSet 17 = .ok (.ifCond .eq 9, 3) := by decide +kernel
theorem dX3_missedSet_20 : decode cX3_missedSet 20 = .ok (.iload_n 1, 1) := by decide +kernel
theorem dX3_missedSet_21 : decode cX3_missedSet 21 = .ok (.iconst 1, 1) := by decide +kernel
theorem dX3_missedSet_22 : decode cX3_missedSet 22 = .ok (.iload_n 2, 1) := by decide +kernel
theorem dX3_missedSet_23 : decode cX3_missedSet 23 = .ok (.ishl, 1) := by decide +kernel
theorem dX3_missedSet_24 : decode cX3_missedSet 24 = .ok (.ior, 1) := by decide +kernel
theorem dX3_missedSet_25 : decode cX3_missedSet 25 = .ok (.istore_n 1, 1) := by decide +kernel
theorem dX3_missedSet_26 : decode cX3_missedSet 26 = .ok (.iinc 2 1, 3) := by decide +kernel
theorem dX3_missedSet_29 : decode cX3_missedSet 29 = .ok (.goto (-25), 3) := by decide +kernel
theorem dX3_missedSet_32 : decode cX3_missedSet 32 = .ok (.iload_n 1, 1) := by decide +kernel
theorem dX3_missedSet_33 : decode cX3_missedSet 33 = .ok (.ireturn, 1) := by decide +kernel
theorem dX3_goneSet_0 : decode cX3_goneSet 0 = .ok (.iconst 1, 1) := by decide +kernel
theorem dX3_goneSet_1 : decode cX3_goneSet 1 = .ok (.aload_n 0, 1) := by decide +kernel
theorem dX3_goneSet_2 : decode cX3_goneSet 2 = .ok (.getfield 40, 3) := by decide +kernel
theorem dX3_goneSet_5 : decode cX3_goneSet 5 = .ok (.ishl, 1) := by decide +kernel
theorem dX3_goneSet_6 : decode cX3_goneSet 6 = .ok (.iconst 1, 1) := by decide +kernel
theorem dX3_goneSet_7 : decode cX3_goneSet 7 = .ok (.isub, 1) := by decide +kernel
theorem dX3_goneSet_8 : decode cX3_goneSet 8 = .ok (.istore_n 1, 1) := by decide +kernel
theorem dX3_goneSet_9 : decode cX3_goneSet 9 = .ok (.iconst 0, 1) := by decide +kernel
theorem dX3_goneSet_10 : decode cX3_goneSet 10 = .ok (.istore_n 2, 1) := by decide +kernel
theorem dX3_goneSet_11 : decode cX3_goneSet 11 = .ok (.iload_n 2, 1) := by decide +kernel
theorem dX3_goneSet_12 : decode cX3_goneSet 12 = .ok (.aload_n 0, 1) := by decide +kernel
theorem dX3_goneSet_13 : decode cX3_goneSet 13 = .ok (.getfield 36, 3) := by decide +kernel
theorem dX3_goneSet_16 : decode cX3_goneSet 16 = .ok (.if_icmp .ge 19, 3) := by decide +kernel
theorem dX3_goneSet_19 : decode cX3_goneSet 19 = .ok (.iload_n 1, 1) := by decide +kernel
theorem dX3_goneSet_20 : decode cX3_goneSet 20 = .ok (.aload_n 0, 1) := by decide +kernel
theorem dX3_goneSet_21 : decode cX3_goneSet 21 = .ok (.iload_n 2, 1) := by decide +kernel
theorem dX3_goneSet_22 : decode cX3_goneSet 22 = .ok (.invokevirtual 74, 3) := by decide +kernel
theorem dX3_goneSet_25 : decode cX3_goneSet 25 = .ok (.iconst (-1), 1) := by decide +kernel
theorem dX3_goneSet_26 : decode cX3_goneSet 26 = .ok (.ixor, 1) := by decide +kernel
theorem dX3_goneSet_27 : decode cX3_goneSet 27 = .ok (.iand, 1) := by decide +kernel
theorem dX3_goneSet_28 : decode cX3_goneSet 28 = .ok (.istore_n 1, 1) := by decide +kernel
theorem dX3_goneSet_29 : decode cX3_goneSet 29 = .ok (.iinc 2 1, 3) := by decide +kernel
theorem dX3_goneSet_32 : decode cX3_goneSet 32 = .ok (.goto (-21), 3) := by decide +kernel
theorem dX3_goneSet_35 : decode cX3_goneSet 35 = .ok (.iload_n 1, 1) := by decide +kernel
theorem dX3_goneSet_36 : decode cX3_goneSet 36 = .ok (.ireturn, 1) := by decide +kernel
theorem dX3_worthOf_0 : decode cX3_worthOf 0 = .ok (.iconst 0, 1) := by decide +kernel
theorem dX3_worthOf_1 : decode cX3_worthOf 1 = .ok (.istore_n 2, 1) := by decide +kernel
theorem dX3_worthOf_2 : decode cX3_worthOf 2 = .ok (.iconst 0, 1) := by decide +kernel
theorem dX3_worthOf_3 : decode cX3_worthOf 3 = .ok (.istore_n 3, 1) := by decide +kernel
theorem dX3_worthOf_4 : decode cX3_worthOf 4 = .ok (.iload_n 3, 1) := by decide +kernel
theorem dX3_worthOf_5 : decode cX3_worthOf 5 = .ok (.aload_n 0, 1) := by decide +kernel
theorem dX3_worthOf_6 : decode cX3_worthOf 6 = .ok (.getfield 40, 3) := by decide +kernel
theorem dX3_worthOf_9 : decode cX3_worthOf 9 = .ok (.if_icmp .ge 26, 3) := by decide +kernel
theorem dX3_worthOf_12 : decode cX3_worthOf 12 = .ok (.iload_n 1, 1) := by decide +kernel
theorem dX3_worthOf_13 : decode cX3_worthOf 13 = .ok (.iload_n 3, 1) := by decide +kernel
theorem dX3_worthOf_14 : decode cX3_worthOf 14 = .ok (.ishr, 1) := by decide +kernel
theorem dX3_worthOf_15 : decode cX3_worthOf 15 = .ok (.iconst 1, 1) := by decide +kernel
theorem dX3_worthOf_16 : decode cX3_worthOf 16 = .ok (.iand, 1) := by decide +kernel
theorem dX3_worthOf_17 : decode cX3_worthOf 17 = .ok (.ifCond .eq 12, 3) := by decide +kernel
theorem dX3_worthOf_20 : decode cX3_worthOf 20 = .ok (.iload_n 2, 1) := by decide +kernel
theorem dX3_worthOf_21 : decode cX3_worthOf 21 = .ok (.aload_n 0, 1) := by decide +kernel
theorem dX3_worthOf_22 : decode cX3_worthOf 22 = .ok (.getfield 30, 3) := by decide +kernel
theorem dX3_worthOf_25 : decode cX3_worthOf 25 = .ok (.iload_n 3, 1) := by decide +kernel
theorem dX3_worthOf_26 : decode cX3_worthOf 26 = .ok (.iaload, 1) := by decide +kernel
theorem dX3_worthOf_27 : decode cX3_worthOf 27 = .ok (.iadd, 1) := by decide +kernel
theorem dX3_worthOf_28 : decode cX3_worthOf 28 = .ok (.istore_n 2, 1) := by decide +kernel
theorem dX3_worthOf_29 : decode cX3_worthOf 29 = .ok (.iinc 3 1, 3) := by decide +kernel
theorem dX3_worthOf_32 : decode cX3_worthOf 32 = .ok (.goto (-28), 3) := by decide +kernel
theorem dX3_worthOf_35 : decode cX3_worthOf 35 = .ok (.iload_n 2, 1) := by decide +kernel
theorem dX3_worthOf_36 : decode cX3_worthOf 36 = .ok (.ireturn, 1) := by decide +kernel
theorem dX3_takenFrom_0 : decode cX3_takenFrom 0 = .ok (.iload_n 2, 1) := by decide +kernel
theorem dX3_takenFrom_1 : decode cX3_takenFrom 1 = .ok (.aload_n 0, 1) := by decide +kernel
theorem dX3_takenFrom_2 : decode cX3_takenFrom 2 = .ok (.getfield 21, 3) := by decide +kernel
theorem dX3_takenFrom_5 : decode cX3_takenFrom 5 = .ok (.iload_n 1, 1) := by decide +kernel
theorem dX3_takenFrom_6 : decode cX3_takenFrom 6 = .ok (.iaload, 1) := by decide +kernel
theorem dX3_takenFrom_7 : decode cX3_takenFrom 7 = .ok (.aload_n 0, 1) := by decide +kernel
theorem dX3_takenFrom_8 : decode cX3_takenFrom 8 = .ok (.getfield 18, 3) := by decide +kernel
theorem dX3_takenFrom_11 : decode cX3_takenFrom 11 = .ok (.iload_n 1, 1) := by decide +kernel
theorem dX3_takenFrom_12 : decode cX3_takenFrom 12 = .ok (.iaload, 1) := by decide +kernel
theorem dX3_takenFrom_13 : decode cX3_takenFrom 13 = .ok (.isub, 1) := by decide +kernel
theorem dX3_takenFrom_14 : decode cX3_takenFrom 14 = .ok (.invokestatic 86, 3) := by decide +kernel
theorem dX3_takenFrom_17 : decode cX3_takenFrom 17 = .ok (.istore_n 3, 1) := by decide +kernel
theorem dX3_takenFrom_18 : decode cX3_takenFrom 18 = .ok (.iconst 0, 1) := by decide +kernel
theorem dX3_takenFrom_19 : decode cX3_takenFrom 19 = .ok (.istore 4, 2) := by decide +kernel
theorem dX3_takenFrom_21 : decode cX3_takenFrom 21 = .ok (.iload 4, 2) := by decide +kernel
theorem dX3_takenFrom_23 : decode cX3_takenFrom 23 = .ok (.iload_n 3, 1) := by decide +kernel
theorem dX3_takenFrom_24 : decode cX3_takenFrom 24 = .ok (.if_icmp .ge 34, 3) := by decide +kernel
theorem dX3_takenFrom_27 : decode cX3_takenFrom 27 = .ok (.aload_n 0, 1) := by decide +kernel
theorem dX3_takenFrom_28 : decode cX3_takenFrom 28 = .ok (.getfield 27, 3) := by decide +kernel
theorem dX3_takenFrom_31 : decode cX3_takenFrom 31 = .ok (.aload_n 0, 1) := by decide +kernel
theorem dX3_takenFrom_32 : decode cX3_takenFrom 32 = .ok (.iload_n 1, 1) := by decide +kernel
theorem dX3_takenFrom_33 : decode cX3_takenFrom 33 = .ok (.aload_n 0, 1) := by decide +kernel
theorem dX3_takenFrom_34 : decode cX3_takenFrom 34 = .ok (.getfield 21, 3) := by decide +kernel
theorem dX3_takenFrom_37 : decode cX3_takenFrom 37 = .ok (.iload_n 1, 1) := by decide +kernel
theorem dX3_takenFrom_38 : decode cX3_takenFrom 38 = .ok (.iaload, 1) := by decide +kernel
theorem dX3_takenFrom_39 : decode cX3_takenFrom 39 = .ok (.iconst 1, 1) := by decide +kernel
theorem dX3_takenFrom_40 : decode cX3_takenFrom 40 = .ok (.isub, 1) := by decide +kernel
theorem dX3_takenFrom_41 : decode cX3_takenFrom 41 = .ok (.iload 4, 2) := by decide +kernel
theorem dX3_takenFrom_43 : decode cX3_takenFrom 43 = .ok (.isub, 1) := by decide +kernel
theorem dX3_takenFrom_44 : decode cX3_takenFrom 44 = .ok (.invokevirtual 70, 3) := by decide +kernel
theorem dX3_takenFrom_47 : decode cX3_takenFrom 47 = .ok (.iaload, 1) := by decide +kernel
theorem dX3_takenFrom_48 : decode cX3_takenFrom 48 = .ok (.iconst 5, 1) := by decide +kernel
theorem dX3_takenFrom_49 : decode cX3_takenFrom 49 = .ok (.if_icmp .eq 9, 3) := by decide +kernel
theorem dX3_takenFrom_52 : decode cX3_takenFrom 52 = .ok (.iinc 4 1, 3) := by decide +kernel
theorem dX3_takenFrom_55 : decode cX3_takenFrom 55 = .ok (.goto (-34), 3) := by decide +kernel
theorem dX3_takenFrom_58 : decode cX3_takenFrom 58 = .ok (.iload 4, 2) := by decide +kernel
theorem dX3_takenFrom_60 : decode cX3_takenFrom 60 = .ok (.ireturn, 1) := by decide +kernel
theorem dX3_lostFrom_0 : decode cX3_lostFrom 0 = .ok (.iconst 0, 1) := by decide +kernel
theorem dX3_lostFrom_1 : decode cX3_lostFrom 1 = .ok (.istore_n 3, 1) := by decide +kernel
theorem dX3_lostFrom_2 : decode cX3_lostFrom 2 = .ok (.aload_n 0, 1) := by decide +kernel
theorem dX3_lostFrom_3 : decode cX3_lostFrom 3 = .ok (.iload_n 1, 1) := by decide +kernel
theorem dX3_lostFrom_4 : decode cX3_lostFrom 4 = .ok (.iload_n 2, 1) := by decide +kernel
theorem dX3_lostFrom_5 : decode cX3_lostFrom 5 = .ok (.invokevirtual 91, 3) := by decide +kernel
theorem dX3_lostFrom_8 : decode cX3_lostFrom 8 = .ok (.istore 4, 2) := by decide +kernel
theorem dX3_lostFrom_10 : decode cX3_lostFrom 10 = .ok (.iload 4, 2) := by decide +kernel
theorem dX3_lostFrom_12 : decode cX3_lostFrom 12 = .ok (.ifCond .le 31, 3) := by decide +kernel
theorem dX3_lostFrom_15 : decode cX3_lostFrom 15 = .ok (.iload_n 3, 1) := by decide +kernel
theorem dX3_lostFrom_16 : decode cX3_lostFrom 16 = .ok (.aload_n 0, 1) := by decide +kernel
theorem dX3_lostFrom_17 : decode cX3_lostFrom 17 = .ok (.getfield 30, 3) := by decide +kernel
theorem dX3_lostFrom_20 : decode cX3_lostFrom 20 = .ok (.aload_n 0, 1) := by decide +kernel
theorem dX3_lostFrom_21 : decode cX3_lostFrom 21 = .ok (.iload_n 1, 1) := by decide +kernel
theorem dX3_lostFrom_22 : decode cX3_lostFrom 22 = .ok (.aload_n 0, 1) := by decide +kernel
theorem dX3_lostFrom_23 : decode cX3_lostFrom 23 = .ok (.getfield 21, 3) := by decide +kernel
theorem dX3_lostFrom_26 : decode cX3_lostFrom 26 = .ok (.iload_n 1, 1) := by decide +kernel
theorem dX3_lostFrom_27 : decode cX3_lostFrom 27 = .ok (.iaload, 1) := by decide +kernel
theorem dX3_lostFrom_28 : decode cX3_lostFrom 28 = .ok (.iload 4, 2) := by decide +kernel
theorem dX3_lostFrom_30 : decode cX3_lostFrom 30 = .ok (.isub, 1) := by decide +kernel
theorem dX3_lostFrom_31 : decode cX3_lostFrom 31 = .ok (.invokevirtual 70, 3) := by decide +kernel
theorem dX3_lostFrom_34 : decode cX3_lostFrom 34 = .ok (.iaload, 1) := by decide +kernel
theorem dX3_lostFrom_35 : decode cX3_lostFrom 35 = .ok (.iadd, 1) := by decide +kernel
theorem dX3_lostFrom_36 : decode cX3_lostFrom 36 = .ok (.istore_n 3, 1) := by decide +kernel
theorem dX3_lostFrom_37 : decode cX3_lostFrom 37 = .ok (.iinc 4 (-1), 3) := by decide +kernel
theorem dX3_lostFrom_40 : decode cX3_lostFrom 40 = .ok (.goto (-30), 3) := by decide +kernel
theorem dX3_lostFrom_43 : decode cX3_lostFrom 43 = .ok (.iload_n 3, 1) := by decide +kernel
theorem dX3_lostFrom_44 : decode cX3_lostFrom 44 = .ok (.ireturn, 1) := by decide +kernel
theorem dX3_takenByGust_0 : decode cX3_takenByGust 0 = .ok (.iconst 0, 1) := by decide +kernel
theorem dX3_takenByGust_1 : decode cX3_takenByGust 1 = .ok (.istore_n 2, 1) := by decide +kernel
theorem dX3_takenByGust_2 : decode cX3_takenByGust 2 = .ok (.iconst 0, 1) := by decide +kernel
theorem dX3_takenByGust_3 : decode cX3_takenByGust 3 = .ok (.istore_n 3, 1) := by decide +kernel
theorem dX3_takenByGust_4 : decode cX3_takenByGust 4 = .ok (.iload_n 3, 1) := by decide +kernel
theorem dX3_takenByGust_5 : decode cX3_takenByGust 5 = .ok (.aload_n 0, 1) := by decide +kernel
theorem dX3_takenByGust_6 : decode cX3_takenByGust 6 = .ok (.getfield 36, 3) := by decide +kernel
theorem dX3_takenByGust_9 : decode cX3_takenByGust 9 = .ok (.if_icmp .ge 41, 3) := by decide +kernel
theorem dX3_takenByGust_12 : decode cX3_takenByGust 12 = .ok (.aload_n 0, 1) := by decide +kernel
theorem dX3_takenByGust_13 : decode cX3_takenByGust 13 = .ok (.iload_n 3, 1) := by decide +kernel
theorem dX3_takenByGust_14 : decode cX3_takenByGust 14 = .ok (.iload_n 1, 1) := by decide +kernel
theorem dX3_takenByGust_15 : decode cX3_takenByGust 15 = .ok (.iconst 1, 1) := by decide +kernel
theorem dX3_takenByGust_16 : decode cX3_takenByGust 16 = .ok (.iadd, 1) := by decide +kernel
theorem dX3_takenByGust_17 : decode cX3_takenByGust 17 = .ok (.invokevirtual 91, 3) := by decide +kernel
theorem dX3_takenByGust_20 : decode cX3_takenByGust 20 = .ok (.iload_n 1, 1) := by decide +kernel
theorem dX3_takenByGust_21 : decode cX3_takenByGust 21 = .ok (.if_icmp .le 23, 3) := by decide +kernel
theorem dX3_takenByGust_24 : decode cX3_takenByGust 24 = .ok (.iload_n 2, 1) := by decide +kernel
theorem dX3_takenByGust_25 : decode cX3_takenByGust 25 = .ok (.iconst 1, 1) := by decide +kernel
theorem dX3_takenByGust_26 : decode cX3_takenByGust 26 = .ok (.aload_n 0, 1) := by decide +kernel
theorem dX3_takenByGust_27 : decode cX3_takenByGust 27 = .ok (.iload_n 3, 1) := by decide +kernel
theorem dX3_takenByGust_28 : decode cX3_takenByGust 28 = .ok (.aload_n 0, 1) := by decide +kernel
theorem dX3_takenByGust_29 : decode cX3_takenByGust 29 = .ok (.getfield 21, 3) := by decide +kernel
theorem dX3_takenByGust_32 : decode cX3_takenByGust 32 = .ok (.iload_n 3, 1) := by decide +kernel
theorem dX3_takenByGust_33 : decode cX3_takenByGust 33 = .ok (.iaload, 1) := by decide +kernel
theorem dX3_takenByGust_34 : decode cX3_takenByGust 34 = .ok (.iconst 1, 1) := by decide +kernel
theorem dX3_takenByGust_35 : decode cX3_takenByGust 35 = .ok (.isub, 1) := by decide +kernel
theorem dX3_takenByGust_36 : decode cX3_takenByGust 36 = .ok (.iload_n 1, 1) := by decide +kernel
theorem dX3_takenByGust_37 : decode cX3_takenByGust 37 = .ok (.isub, 1) := by decide +kernel
theorem dX3_takenByGust_38 : decode cX3_takenByGust 38 = .ok (.invokevirtual 70, 3) := by decide +kernel
theorem dX3_takenByGust_41 : decode cX3_takenByGust 41 = .ok (.ishl, 1) := by decide +kernel
theorem dX3_takenByGust_42 : decode cX3_takenByGust 42 = .ok (.ior, 1) := by decide +kernel
theorem dX3_takenByGust_43 : decode cX3_takenByGust 43 = .ok (.istore_n 2, 1) := by decide +kernel
theorem dX3_takenByGust_44 : decode cX3_takenByGust 44 = .ok (.iinc 3 1, 3) := by decide +kernel
theorem dX3_takenByGust_47 : decode cX3_takenByGust 47 = .ok (.goto (-43), 3) := by decide +kernel
theorem dX3_takenByGust_50 : decode cX3_takenByGust 50 = .ok (.iload_n 2, 1) := by decide +kernel
theorem dX3_takenByGust_51 : decode cX3_takenByGust 51 = .ok (.ireturn, 1) := by decide +kernel
theorem dX3_takenBy_0 : decode cX3_takenBy 0 = .ok (.iconst 0, 1) := by decide +kernel
theorem dX3_takenBy_1 : decode cX3_takenBy 1 = .ok (.istore_n 2, 1) := by decide +kernel
theorem dX3_takenBy_2 : decode cX3_takenBy 2 = .ok (.iconst 0, 1) := by decide +kernel
theorem dX3_takenBy_3 : decode cX3_takenBy 3 = .ok (.istore_n 3, 1) := by decide +kernel
theorem dX3_takenBy_4 : decode cX3_takenBy 4 = .ok (.iload_n 3, 1) := by decide +kernel
theorem dX3_takenBy_5 : decode cX3_takenBy 5 = .ok (.iload_n 1, 1) := by decide +kernel
theorem dX3_takenBy_6 : decode cX3_takenBy 6 = .ok (.if_icmp .ge 17, 3) := by decide +kernel
theorem dX3_takenBy_9 : decode cX3_takenBy 9 = .ok (.iload_n 2, 1) := by decide +kernel
theorem dX3_takenBy_10 : decode cX3_takenBy 10 = .ok (.aload_n 0, 1) := by decide +kernel
theorem dX3_takenBy_11 : decode cX3_takenBy 11 = .ok (.iload_n 3, 1) := by decide +kernel
theorem dX3_takenBy_12 : decode cX3_takenBy 12 = .ok (.invokevirtual 94, 3) := by decide +kernel
theorem dX3_takenBy_15 : decode cX3_takenBy 15 = .ok (.ior, 1) := by decide +kernel
theorem dX3_takenBy_16 : decode cX3_takenBy 16 = .ok (.istore_n 2, 1) := by decide +kernel
theorem dX3_takenBy_17 : decode cX3_takenBy 17 = .ok (.iinc 3 1, 3) := by decide +kernel
theorem dX3_takenBy_20 : decode cX3_takenBy 20 = .ok (.goto (-16), 3) := by decide +kernel
theorem dX3_takenBy_23 : decode cX3_takenBy 23 = .ok (.iload_n 2, 1) := by decide +kernel
theorem dX3_takenBy_24 : decode cX3_takenBy 24 = .ok (.ireturn, 1) := by decide +kernel
theorem dX3_blow_0 : decode cX3_blow 0 = .ok (.aload_n 0, 1) := by decide +kernel
theorem dX3_blow_1 : decode cX3_blow 1 = .ok (.iconst 0, 1) := by decide +kernel
theorem dX3_blow_2 : decode cX3_blow 2 = .ok (.invokevirtual 94, 3) := by decide +kernel
theorem dX3_blow_5 : decode cX3_blow 5 = .ok (.istore_n 1, 1) := by decide +kernel
theorem dX3_blow_6 : decode cX3_blow 6 = .ok (.iconst 0, 1) := by decide +kernel
theorem dX3_blow_7 : decode cX3_blow 7 = .ok (.istore_n 2, 1) := by decide +kernel
theorem dX3_blow_8 : decode cX3_blow 8 = .ok (.iload_n 2, 1) := by decide +kernel
theorem dX3_blow_9 : decode cX3_blow 9 = .ok (.aload_n 0, 1) := by decide +kernel
theorem dX3_blow_10 : decode cX3_blow 10 = .ok (.getfield 36, 3) := by decide +kernel
theorem dX3_blow_13 : decode cX3_blow 13 = .ok (.if_icmp .ge 24, 3) := by decide +kernel
theorem dX3_blow_16 : decode cX3_blow 16 = .ok (.aload_n 0, 1) := by decide +kernel
theorem dX3_blow_17 : decode cX3_blow 17 = .ok (.getfield 21, 3) := by decide +kernel
theorem dX3_blow_20 : decode cX3_blow 20 = .ok (.iload_n 2, 1) := by decide +kernel
theorem dX3_blow_21 : decode cX3_blow 21 = .ok (.dup2, 1) := by decide +kernel
theorem dX3_blow_22 : decode cX3_blow 22 = .ok (.iaload, 1) := by decide +kernel
theorem dX3_blow_23 : decode cX3_blow 23 = .ok (.aload_n 0, 1) := by decide +kernel
theorem dX3_blow_24 : decode cX3_blow 24 = .ok (.iload_n 2, 1) := by decide +kernel
theorem dX3_blow_25 : decode cX3_blow 25 = .ok (.iconst 1, 1) := by decide +kernel
theorem dX3_blow_26 : decode cX3_blow 26 = .ok (.invokevirtual 91, 3) := by decide +kernel
theorem dX3_blow_29 : decode cX3_blow 29 = .ok (.isub, 1) := by decide +kernel
theorem dX3_blow_30 : decode cX3_blow 30 = .ok (.iastore, 1) := by decide +kernel
theorem dX3_blow_31 : decode cX3_blow 31 = .ok (.iinc 2 1, 3) := by decide +kernel
theorem dX3_blow_34 : decode cX3_blow 34 = .ok (.goto (-26), 3) := by decide +kernel
theorem dX3_blow_37 : decode cX3_blow 37 = .ok (.iload_n 1, 1) := by decide +kernel
theorem dX3_blow_38 : decode cX3_blow 38 = .ok (.ireturn, 1) := by decide +kernel
theorem dX3_lostIfUppermost_0 : decode cX3_lostIfUppermost 0 = .ok (.aload_n 0, 1) := by decide +kernel
theorem dX3_lostIfUppermost_1 : decode cX3_lostIfUppermost 1 = .ok (.getfield 21, 3) := by decide +kernel
theorem dX3_lostIfUppermost_4 : decode cX3_lostIfUppermost 4 = .ok (.iload_n 2, 1) := by decide +kernel
theorem dX3_lostIfUppermost_5 : decode cX3_lostIfUppermost 5 = .ok (.iaload, 1) := by decide +kernel
theorem dX3_lostIfUppermost_6 : decode cX3_lostIfUppermost 6 = .ok (.aload_n 0, 1) := by decide +kernel
theorem dX3_lostIfUppermost_7 : decode cX3_lostIfUppermost 7 = .ok (.getfield 18, 3) := by decide +kernel
theorem dX3_lostIfUppermost_10 : decode cX3_lostIfUppermost 10 = .ok (.iload_n 2, 1) := by decide +kernel
theorem dX3_lostIfUppermost_11 : decode cX3_lostIfUppermost 11 = .ok (.iaload, 1) := by decide +kernel
theorem dX3_lostIfUppermost_12 : decode cX3_lostIfUppermost 12 = .ok (.if_icmp .le 22, 3) := by decide +kernel
theorem dX3_lostIfUppermost_15 : decode cX3_lostIfUppermost 15 = .ok (.aload_n 0, 1) := by decide +kernel
theorem dX3_lostIfUppermost_16 : decode cX3_lostIfUppermost 16 = .ok (.getfield 27, 3) := by decide +kernel
theorem dX3_lostIfUppermost_19 : decode cX3_lostIfUppermost 19 = .ok (.iload_n 1, 1) := by decide +kernel
theorem dX3_lostIfUppermost_20 : decode cX3_lostIfUppermost 20 = .ok (.iaload, 1) := by decide +kernel
theorem dX3_lostIfUppermost_21 : decode cX3_lostIfUppermost 21 = .ok (.iconst 5, 1) := by decide +kernel
theorem dX3_lostIfUppermost_22 : decode cX3_lostIfUppermost 22 = .ok (.if_icmp .eq 12, 3) := by decide +kernel
theorem dX3_lostIfUppermost_25 : decode cX3_lostIfUppermost 25 = .ok (.aload_n 0, 1) := by decide +kernel
theorem dX3_lostIfUppermost_26 : decode cX3_lostIfUppermost 26 = .ok (.getfield 30, 3) := by decide +kernel
theorem dX3_lostIfUppermost_29 : decode cX3_lostIfUppermost 29 = .ok (.iload_n 1, 1) := by decide +kernel
theorem dX3_lostIfUppermost_30 : decode cX3_lostIfUppermost 30 = .ok (.iaload, 1) := by decide +kernel
theorem dX3_lostIfUppermost_31 : decode cX3_lostIfUppermost 31 = .ok (.goto 4, 3) := by decide +kernel
theorem dX3_lostIfUppermost_34 : decode cX3_lostIfUppermost 34 = .ok (.iconst 0, 1) := by decide +kernel
theorem dX3_lostIfUppermost_35 : decode cX3_lostIfUppermost 35 = .ok (.ireturn, 1) := by decide +kernel
theorem dX3_lostThrough_0 : decode cX3_lostThrough 0 = .ok (.aload_n 0, 1) := by decide +kernel
theorem dX3_lostThrough_1 : decode cX3_lostThrough 1 = .ok (.getfield 21, 3) := by decide +kernel
theorem dX3_lostThrough_4 : decode cX3_lostThrough 4 = .ok (.iload_n 1, 1) := by decide +kernel
theorem dX3_lostThrough_5 : decode cX3_lostThrough 5 = .ok (.iaload, 1) := by decide +kernel
theorem dX3_lostThrough_6 : decode cX3_lostThrough 6 = .ok (.iconst 3, 1) := by decide +kernel
theorem dX3_lostThrough_7 : decode cX3_lostThrough 7 = .ok (.isub, 1) := by decide +kernel
theorem dX3_lostThrough_8 : decode cX3_lostThrough 8 = .ok (.istore_n 2, 1) := by decide +kernel
theorem dX3_lostThrough_9 : decode cX3_lostThrough 9 = .ok (.iload_n 2, 1) := by decide +kernel
theorem dX3_lostThrough_10 : decode cX3_lostThrough 10 = .ok (.aload_n 0, 1) := by decide +kernel
theorem dX3_lostThrough_11 : decode cX3_lostThrough 11 = .ok (.getfield 18, 3) := by decide +kernel
theorem dX3_lostThrough_14 : decode cX3_lostThrough 14 = .ok (.iload_n 1, 1) := by decide +kernel
theorem dX3_lostThrough_15 : decode cX3_lostThrough 15 = .ok (.iaload, 1) := by decide +kernel
theorem dX3_lostThrough_16 : decode cX3_lostThrough 16 = .ok (.if_icmp .lt 32, 3) := by decide +kernel
theorem dX3_lostThrough_19 : decode cX3_lostThrough 19 = .ok (.aload_n 0, 1) := by decide +kernel
theorem dX3_lostThrough_20 : decode cX3_lostThrough 20 = .ok (.getfield 27, 3) := by decide +kernel
theorem dX3_lostThrough_23 : decode cX3_lostThrough 23 = .ok (.aload_n 0, 1) := by decide +kernel
theorem dX3_lostThrough_24 : decode cX3_lostThrough 24 = .ok (.iload_n 1, 1) := by decide +kernel
theorem dX3_lostThrough_25 : decode cX3_lostThrough 25 = .ok (.iload_n 2, 1) := by decide +kernel
theorem dX3_lostThrough_26 : decode cX3_lostThrough 26 = .ok (.invokevirtual 70, 3) := by decide +kernel
theorem dX3_lostThrough_29 : decode cX3_lostThrough 29 = .ok (.iaload, 1) := by decide +kernel
theorem dX3_lostThrough_30 : decode cX3_lostThrough 30 = .ok (.iconst 5, 1) := by decide +kernel
theorem dX3_lostThrough_31 : decode cX3_lostThrough 31 = .ok (.if_icmp .eq 17, 3) := by decide +kernel
theorem dX3_lostThrough_34 : decode cX3_lostThrough 34 = .ok (.aload_n 0, 1) := by decide +kernel
theorem dX3_lostThrough_35 : decode cX3_lostThrough 35 = .ok (.getfield 30, 3) := by decide +kernel
theorem dX3_lostThrough_38 : decode cX3_lostThrough 38 = .ok (.aload_n 0, 1) := by decide +kernel
theorem dX3_lostThrough_39 : decode cX3_lostThrough 39 = .ok (.iload_n 1, 1) := by decide +kernel
theorem dX3_lostThrough_40 : decode cX3_lostThrough 40 = .ok (.iload_n 2, 1) := by decide +kernel
theorem dX3_lostThrough_41 : decode cX3_lostThrough 41 = .ok (.invokevirtual 70, 3) := by decide +kernel
theorem dX3_lostThrough_44 : decode cX3_lostThrough 44 = .ok (.iaload, 1) := by decide +kernel
theorem dX3_lostThrough_45 : decode cX3_lostThrough 45 = .ok (.goto 4, 3) := by decide +kernel
theorem dX3_lostThrough_48 : decode cX3_lostThrough 48 = .ok (.iconst 0, 1) := by decide +kernel
theorem dX3_lostThrough_49 : decode cX3_lostThrough 49 = .ok (.ireturn, 1) := by decide +kernel
theorem dX3_leastOn_0 : decode cX3_leastOn 0 = .ok (.aload_n 0, 1) := by decide +kernel
theorem dX3_leastOn_1 : decode cX3_leastOn 1 = .ok (.iload_n 1, 1) := by decide +kernel
theorem dX3_leastOn_2 : decode cX3_leastOn 2 = .ok (.iconst 0, 1) := by decide +kernel
theorem dX3_leastOn_3 : decode cX3_leastOn 3 = .ok (.invokevirtual 70, 3) := by decide +kernel
theorem dX3_leastOn_6 : decode cX3_leastOn 6 = .ok (.istore_n 2, 1) := by decide +kernel
theorem dX3_leastOn_7 : decode cX3_leastOn 7 = .ok (.iconst 1, 1) := by decide +kernel
theorem dX3_leastOn_8 : decode cX3_leastOn 8 = .ok (.istore_n 3, 1) := by decide +kernel
theorem dX3_leastOn_9 : decode cX3_leastOn 9 = .ok (.iload_n 3, 1) := by decide +kernel
theorem dX3_leastOn_10 : decode cX3_leastOn 10 = .ok (.aload_n 0, 1) := by decide +kernel
theorem dX3_leastOn_11 : decode cX3_leastOn 11 = .ok (.getfield 21, 3) := by decide +kernel
theorem dX3_leastOn_14 : decode cX3_leastOn 14 = .ok (.iload_n 1, 1) := by decide +kernel
theorem dX3_leastOn_15 : decode cX3_leastOn 15 = .ok (.iaload, 1) := by decide +kernel
theorem dX3_leastOn_16 : decode cX3_leastOn 16 = .ok (.if_icmp .ge 36, 3) := by decide +kernel
theorem dX3_leastOn_19 : decode cX3_leastOn 19 = .ok (.aload_n 0, 1) := by decide +kernel
theorem dX3_leastOn_20 : decode cX3_leastOn 20 = .ok (.getfield 30, 3) := by decide +kernel
theorem dX3_leastOn_23 : decode cX3_leastOn 23 = .ok (.aload_n 0, 1) := by decide +kernel
theorem dX3_leastOn_24 : decode cX3_leastOn 24 = .ok (.iload_n 1, 1) := by decide +kernel
theorem dX3_leastOn_25 : decode cX3_leastOn 25 = .ok (.iload_n 3, 1) := by decide +kernel
theorem dX3_leastOn_26 : decode cX3_leastOn 26 = .ok (.invokevirtual 70, 3) := by decide +kernel
theorem dX3_leastOn_29 : decode cX3_leastOn 29 = .ok (.iaload, 1) := by decide +kernel
theorem dX3_leastOn_30 : decode cX3_leastOn 30 = .ok (.aload_n 0, 1) := by decide +kernel
theorem dX3_leastOn_31 : decode cX3_leastOn 31 = .ok (.getfield 30, 3) := by decide +kernel
theorem dX3_leastOn_34 : decode cX3_leastOn 34 = .ok (.iload_n 2, 1) := by decide +kernel
theorem dX3_leastOn_35 : decode cX3_leastOn 35 = .ok (.iaload, 1) := by decide +kernel
theorem dX3_leastOn_36 : decode cX3_leastOn 36 = .ok (.if_icmp .ge 10, 3) := by decide +kernel
theorem dX3_leastOn_39 : decode cX3_leastOn 39 = .ok (.aload_n 0, 1) := by decide +kernel
theorem dX3_leastOn_40 : decode cX3_leastOn 40 = .ok (.iload_n 1, 1) := by decide +kernel
theorem dX3_leastOn_41 : decode cX3_leastOn 41 = .ok (.iload_n 3, 1) := by decide +kernel
theorem dX3_leastOn_42 : decode cX3_leastOn 42 = .ok (.invokevirtual 70, 3) := by decide +kernel
theorem dX3_leastOn_45 : decode cX3_leastOn 45 = .ok (.istore_n 2, 1) := by decide +kernel
theorem dX3_leastOn_46 : decode cX3_leastOn 46 = .ok (.iinc 3 1, 3) := by decide +kernel
theorem dX3_leastOn_49 : decode cX3_leastOn 49 = .ok (.goto (-40), 3) := by decide +kernel
theorem dX3_leastOn_52 : decode cX3_leastOn 52 = .ok (.iload_n 2, 1) := by decide +kernel
theorem dX3_leastOn_53 : decode cX3_leastOn 53 = .ok (.ireturn, 1) := by decide +kernel
theorem dX4_init_0 : decode cX4_init 0 = .ok (.aload_n 0, 1) := by decide +kernel
theorem dX4_init_1 : decode cX4_init 1 = .ok (.invokespecial 3, 3) := by decide +kernel
theorem dX4_init_4 : decode cX4_init 4 = .ok (.aload_n 0, 1) := by decide +kernel
theorem dX4_init_5 : decode cX4_init 5 = .ok (.new 9, 3) := by decide +kernel
theorem dX4_init_8 : decode cX4_init 8 = .ok (.dup, 1) := by decide +kernel
theorem dX4_init_9 : decode cX4_init 9 = .ok (.invokespecial 11, 3) := by decide +kernel
theorem dX4_init_12 : decode cX4_init 12 = .ok (.putfield 12, 3) := by decide +kernel
theorem dX4_init_15 : decode cX4_init 15 = .ok (.aload_n 0, 1) := by decide +kernel
theorem dX4_init_16 : decode cX4_init 16 = .ok (.new 18, 3) := by decide +kernel
theorem dX4_init_19 : decode cX4_init 19 = .ok (.dup, 1) := by decide +kernel
theorem dX4_init_20 : decode cX4_init 20 = .ok (.invokespecial 20, 3) := by decide +kernel
theorem dX4_init_23 : decode cX4_init 23 = .ok (.putfield 21, 3) := by decide +kernel
theorem dX4_init_26 : decode cX4_init 26 = .ok (.aload_n 0, 1) := by decide +kernel
theorem dX4_init_27 : decode cX4_init 27 = .ok (.iconst 0, 1) := by decide +kernel
theorem dX4_init_28 : decode cX4_init 28 = .ok (.putfield 25, 3) := by decide +kernel
theorem dX4_init_31 : decode cX4_init 31 = .ok (.aload_n 0, 1) := by decide +kernel
theorem dX4_init_32 : decode cX4_init 32 = .ok (.iconst 0, 1) := by decide +kernel
theorem dX4_init_33 : decode cX4_init 33 = .ok (.putfield 29, 3) := by decide +kernel
theorem dX4_init_36 : decode cX4_init 36 = .ok (.aload_n 0, 1) := by decide +kernel
theorem dX4_init_37 : decode cX4_init 37 = .ok (.iconst 0, 1) := by decide +kernel
theorem dX4_init_38 : decode cX4_init 38 = .ok (.putfield 32, 3) := by decide +kernel
theorem dX4_init_41 : decode cX4_init 41 = .ok (.aload_n 0, 1) := by decide +kernel
theorem dX4_init_42 : decode cX4_init 42 = .ok (.iconst 0, 1) := by decide +kernel
theorem dX4_init_43 : decode cX4_init 43 = .ok (.putfield 35, 3) := by decide +kernel
theorem dX4_init_46 : decode cX4_init 46 = .ok (.aload_n 0, 1) := by decide +kernel
theorem dX4_init_47 : decode cX4_init 47 = .ok (.iconst 0, 1) := by decide +kernel
theorem dX4_init_48 : decode cX4_init 48 = .ok (.putfield 38, 3) := by decide +kernel
theorem dX4_init_51 : decode cX4_init 51 = .ok (.aload_n 0, 1) := by decide +kernel
theorem dX4_init_52 : decode cX4_init 52 = .ok (.iconst 0, 1) := by decide +kernel
theorem dX4_init_53 : decode cX4_init 53 = .ok (.putfield 41, 3) := by decide +kernel
theorem dX4_init_56 : decode cX4_init 56 = .ok (.return_, 1) := by decide +kernel
theorem dX4_read_0 : decode cX4_read 0 = .ok (.aload_n 0, 1) := by decide +kernel
theorem dX4_read_1 : decode cX4_read 1 = .ok (.getfield 21, 3) := by decide +kernel
theorem dX4_read_4 : decode cX4_read 4 = .ok (.invokevirtual 44, 3) := by decide +kernel
theorem dX4_read_7 : decode cX4_read 7 = .ok (.aload_n 0, 1) := by decide +kernel
theorem dX4_read_8 : decode cX4_read 8 = .ok (.iconst 0, 1) := by decide +kernel
theorem dX4_read_9 : decode cX4_read 9 = .ok (.putfield 32, 3) := by decide +kernel
theorem dX4_read_12 : decode cX4_read 12 = .ok (.aload_n 0, 1) := by decide +kernel
theorem dX4_read_13 : decode cX4_read 13 = .ok (.invokevirtual 47, 3) := by decide +kernel
theorem dX4_read_16 : decode cX4_read 16 = .ok (.aload_n 0, 1) := by decide +kernel
theorem dX4_read_17 : decode cX4_read 17 = .ok (.invokevirtual 50, 3) := by decide +kernel
theorem dX4_read_20 : decode cX4_read 20 = .ok (.ifCond .eq 21, 3) := by decide +kernel
theorem dX4_read_23 : decode cX4_read 23 = .ok (.aload_n 0, 1) := by decide +kernel
theorem dX4_read_24 : decode cX4_read 24 = .ok (.invokevirtual 54, 3) := by decide +kernel
theorem dX4_read_27 : decode cX4_read 27 = .ok (.ifCond .eq 14, 3) := by decide +kernel
theorem dX4_read_30 : decode cX4_read 30 = .ok (.aload_n 0, 1) := by decide +kernel
theorem dX4_read_31 : decode cX4_read 31 = .ok (.invokevirtual 57, 3) := by decide +kernel
theorem dX4_read_34 : decode cX4_read 34 = .ok (.ifCond .eq 7, 3) := by decide +kernel
theorem dX4_read_37 : decode cX4_read 37 = .ok (.iconst 1, 1) := by decide +kernel
theorem dX4_read_38 : decode cX4_read 38 = .ok (.goto 4, 3) := by decide +kernel
theorem dX4_read_41 : decode cX4_read 41 = .ok (.iconst 0, 1) := by decide +kernel
theorem dX4_read_42 : decode cX4_read 42 = .ok (.ireturn, 1) := by decide +kernel
theorem dX4_readWind_0 : decode cX4_readWind 0 = .ok (.aload_n 0, 1) := by decide +kernel
theorem dX4_readWind_1 : decode cX4_readWind 1 = .ok (.ldc 60, 2) := by decide +kernel
theorem dX4_readWind_3 : decode cX4_readWind 3 = .ok (.invokevirtual 62, 3) := by decide +kernel
theorem dX4_readWind_6 : decode cX4_readWind 6 = .ok (.ifCond .ne 9, 3) := by decide +kernel
theorem dX4_readWind_9 : decode cX4_readWind 9 = .ok (.aload_n 0, 1) := by decide +kernel
theorem dX4_readWind_10 : decode cX4_readWind 10 = .ok (.iconst 1, 1) := by decide +kernel
theorem dX4_readWind_11 : decode cX4_readWind 11 = .ok (.invokevirtual 66, 3) := by decide +kernel
theorem dX4_readWind_14 : decode cX4_readWind 14 = .ok (.ireturn, 1) := by decide +kernel
theorem dX4_readWind_15 : decode cX4_readWind 15 = .ok (.aload_n 0, 1) := by decide +kernel
theorem dX4_readWind_16 : decode cX4_readWind 16 = .ok (.invokevirtual 47, 3) := by decide +kernel
theorem dX4_readWind_19 : decode cX4_readWind 19 = .ok (.iconst 0, 1) := by decide +kernel
theorem dX4_readWind_20 : decode cX4_readWind 20 = .ok (.istore_n 1, 1) := by decide +kernel
theorem dX4_readWind_21 : decode cX4_readWind 21 = .ok (.iload_n 1, 1) := by decide +kernel
theorem dX4_readWind_22 : decode cX4_readWind 22 = .ok (.bipush 12, 2) := by decide +kernel
theorem dX4_readWind_24 : decode cX4_readWind 24 = .ok (.if_icmp .ge 34, 3) := by decide +kernel
theorem dX4_readWind_27 : decode cX4_readWind 27 = .ok (.aload_n 0, 1) := by decide +kernel
theorem dX4_readWind_28 : decode cX4_readWind 28 = .ok (.iconst 0, 1) := by decide +kernel
theorem dX4_readWind_29 : decode cX4_readWind 29 = .ok (.bipush 100, 2) := by decide +kernel
theorem dX4_readWind_31 : decode cX4_readWind 31 = .ok (.invokevirtual 70, 3) := by decide +kernel
theorem dX4_readWind_34 : decode cX4_readWind 34 = .ok (.ifCond .ne 5, 3) := by decide +kernel
theorem dX4_readWind_37 : decode cX4_readWind 37 = .ok (.iconst 0, 1) := by decide +kernel
theorem dX4_readWind_38 : decode cX4_readWind 38 = .ok (.ireturn, 1) := by decide +kernel
theorem dX4_readWind_39 : decode cX4_readWind 39 = .ok (.aload_n 0, 1) := by decide +kernel
theorem dX4_readWind_40 : decode cX4_readWind 40 = .ok (.getfield 21, 3) := by decide +kernel
theorem dX4_readWind_43 : decode cX4_readWind 43 = .ok (.getfield 74, 3) := by decide +kernel
theorem dX4_readWind_46 : decode cX4_readWind 46 = .ok (.iload_n 1, 1) := by decide +kernel
theorem dX4_readWind_47 : decode cX4_readWind 47 = .ok (.aload_n 0, 1) := by decide +kernel
theorem dX4_readWind_48 : decode cX4_readWind 48 = .ok (.getfield 38, 3) := by decide +kernel
theorem dX4_readWind_51 : decode cX4_readWind 51 = .ok (.iastore, 1) := by decide +kernel
theorem dX4_readWind_52 : decode cX4_readWind 52 = .ok (.iinc 1 1, 3) := by decide +kernel
theorem dX4_readWind_55 : decode cX4_readWind 55 = .ok (.goto (-34), 3) := by decide +kernel
theorem dX4_readWind_58 : decode cX4_readWind 58 = .ok (.aload_n 0, 1) := by decide +kernel
theorem dX4_readWind_59 : decode cX4_readWind 59 = .ok (.invokevirtual 77, 3) := by decide +kernel
theorem dX4_readWind_62 : decode cX4_readWind 62 = .ok (.ireturn, 1) := by decide +kernel
theorem dX4_readDesks_0 : decode cX4_readDesks 0 = .ok (.aload_n 0, 1) := by decide +kernel
theorem dX4_readDesks_1 : decode cX4_readDesks 1 = .ok (.ldc 80, 2) := by decide +kernel
theorem dX4_readDesks_3 : decode cX4_readDesks 3 = .ok (.invokevirtual 62, 3) := by decide +kernel
theorem dX4_readDesks_6 : decode cX4_readDesks 6 = .ok (.ifCond .ne 9, 3) := by decide +kernel
theorem dX4_readDesks_9 : decode cX4_readDesks 9 = .ok (.aload_n 0, 1) := by decide +kernel
theorem dX4_readDesks_10 : decode cX4_readDesks 10 = .ok (.iconst 1, 1) := by decide +kernel
theorem dX4_readDesks_11 : decode cX4_readDesks 11 = .ok (.invokevirtual 66, 3) := by decide +kernel
theorem dX4_readDesks_14 : decode cX4_readDesks 14 = .ok (.ireturn, 1) := by decide +kernel
theorem dX4_readDesks_15 : decode cX4_readDesks 15 = .ok (.iconst 0, 1) := by decide +kernel
theorem dX4_readDesks_16 : decode cX4_readDesks 16 = .ok (.istore_n 1, 1) := by decide +kernel
theorem dX4_readDesks_17 : decode cX4_readDesks 17 = .ok (.iload_n 1, 1) := by decide +kernel
theorem dX4_readDesks_18 : decode cX4_readDesks 18 = .ok (.iconst 4, 1) := by decide +kernel
theorem dX4_readDesks_19 : decode cX4_readDesks 19 = .ok (.if_icmp .gt 38, 3) := by decide +kernel
theorem dX4_readDesks_22 : decode cX4_readDesks 22 = .ok (.aload_n 0, 1) := by decide +kernel
theorem dX4_readDesks_23 : decode cX4_readDesks 23 = .ok (.ldc 80, 2) := by decide +kernel
theorem dX4_readDesks_25 : decode cX4_readDesks 25 = .ok (.invokevirtual 62, 3) := by decide +kernel
theorem dX4_readDesks_28 : decode cX4_readDesks 28 = .ok (.ifCond .eq 29, 3) := by decide +kernel
theorem dX4_readDesks_31 : decode cX4_readDesks 31 = .ok (.iload_n 1, 1) := by decide +kernel
theorem dX4_readDesks_32 : decode cX4_readDesks 32 = .ok (.iconst 4, 1) := by decide +kernel
theorem dX4_readDesks_33 : decode cX4_readDesks 33 = .ok (.if_icmp .ne 9, 3) := by decide +kernel
theorem dX4_readDesks_36 : decode cX4_readDesks 36 = .ok (.aload_n 0, 1) := by decide +kernel
theorem dX4_readDesks_37 : decode cX4_readDesks 37 = .ok (.iconst 3, 1) := by decide +kernel
theorem dX4_readDesks_38 : decode cX4_readDesks 38 = .ok (.invokevirtual 66, 3) := by decide +kernel
theorem dX4_readDesks_41 : decode cX4_readDesks 41 = .ok (.ireturn, 1) := by decide +kernel
theorem dX4_readDesks_42 : decode cX4_readDesks 42 = .ok (.aload_n 0, 1) := by decide +kernel
theorem dX4_readDesks_43 : decode cX4_readDesks 43 = .ok (.invokevirtual 82, 3) := by decide +kernel
theorem dX4_readDesks_46 : decode cX4_readDesks 46 = .ok (.ifCond .ne 5, 3) := by decide +kernel
theorem dX4_readDesks_49 : decode cX4_readDesks 49 = .ok (.iconst 0, 1) := by decide +kernel
theorem dX4_readDesks_50 : decode cX4_readDesks 50 = .ok (.ireturn, 1) := by decide +kernel
theorem dX4_readDesks_51 : decode cX4_readDesks 51 = .ok (.iinc 1 1, 3) := by decide +kernel
theorem dX4_readDesks_54 : decode cX4_readDesks 54 = .ok (.goto (-37), 3) := by decide +kernel
theorem dX4_readDesks_57 : decode cX4_readDesks 57 = .ok (.iconst 1, 1) := by decide +kernel
theorem dX4_readDesks_58 : decode cX4_readDesks 58 = .ok (.ireturn, 1) := by decide +kernel
theorem dX4_readDesk_0 : decode cX4_readDesk 0 = .ok (.aload_n 0, 1) := by decide +kernel
theorem dX4_readDesk_1 : decode cX4_readDesk 1 = .ok (.invokevirtual 47, 3) := by decide +kernel
theorem dX4_readDesk_4 : decode cX4_readDesk 4 = .ok (.aload_n 0, 1) := by decide +kernel
theorem dX4_readDesk_5 : decode cX4_readDesk 5 = .ok (.iconst 1, 1) := by decide +kernel
theorem dX4_readDesk_6 : decode cX4_readDesk 6 = .ok (.bipush 9, 2) := by decide +kernel
theorem dX4_readDesk_8 : decode cX4_readDesk 8 = .ok (.invokevirtual 70, 3) := by decide +kernel
theorem dX4_readDesk_11 : decode cX4_readDesk 11 = .ok (.ifCond .ne 5, 3) := by decide +kernel
theorem dX4_readDesk_14 : decode cX4_readDesk 14 = .ok (.iconst 0, 1) := by decide +kernel
theorem dX4_readDesk_15 : decode cX4_readDesk 15 = .ok (.ireturn, 1) := by decide +kernel
theorem dX4_readDesk_16 : decode cX4_readDesk 16 = .ok (.aload_n 0, 1) := by decide +kernel
theorem dX4_readDesk_17 : decode cX4_readDesk 17 = .ok (.getfield 38, 3) := by decide +kernel
theorem dX4_readDesk_20 : decode cX4_readDesk 20 = .ok (.istore_n 1, 1) := by decide +kernel
theorem dX4_readDesk_21 : decode cX4_readDesk 21 = .ok (.aload_n 0, 1) := by decide +kernel
theorem dX4_readDesk_22 : decode cX4_readDesk 22 = .ok (.iconst 0, 1) := by decide +kernel
theorem dX4_readDesk_23 : decode cX4_readDesk 23 = .ok (.iconst 3, 1) := by decide +kernel
theorem dX4_readDesk_24 : decode cX4_readDesk 24 = .ok (.invokevirtual 70, 3) := by decide +kernel
theorem dX4_readDesk_27 : decode cX4_readDesk 27 = .ok (.ifCond .ne 5, 3) := by decide +kernel
theorem dX4_readDesk_30 : decode cX4_readDesk 30 = .ok (.iconst 0, 1) := by decide +kernel
theorem dX4_readDesk_31 : decode cX4_readDesk 31 = .ok (.ireturn, 1) := by decide +kernel
theorem dX4_readDesk_32 : decode cX4_readDesk 32 = .ok (.aload_n 0, 1) := by decide +kernel
theorem dX4_readDesk_33 : decode cX4_readDesk 33 = .ok (.getfield 21, 3) := by decide +kernel
theorem dX4_readDesk_36 : decode cX4_readDesk 36 = .ok (.iload_n 1, 1) := by decide +kernel
theorem dX4_readDesk_37 : decode cX4_readDesk 37 = .ok (.aload_n 0, 1) := by decide +kernel
theorem dX4_readDesk_38 : decode cX4_readDesk 38 = .ok (.getfield 38, 3) := by decide +kernel
theorem dX4_readDesk_41 : decode cX4_readDesk 41 = .ok (.invokevirtual 85, 3) := by decide +kernel
theorem dX4_readDesk_44 : decode cX4_readDesk 44 = .ok (.aload_n 0, 1) := by decide +kernel
theorem dX4_readDesk_45 : decode cX4_readDesk 45 = .ok (.invokevirtual 77, 3) := by decide +kernel
theorem dX4_readDesk_48 : decode cX4_readDesk 48 = .ok (.ireturn, 1) := by decide +kernel
theorem dX4_readSheets_0 : decode cX4_readSheets 0 = .ok (.iconst 0, 1) := by decide +kernel
theorem dX4_readSheets_1 : decode cX4_readSheets 1 = .ok (.istore_n 1, 1) := by decide +kernel
theorem dX4_readSheets_2 : decode cX4_readSheets 2 = .ok (.iload_n 1, 1) := by decide +kernel
theorem dX4_readSheets_3 : decode cX4_readSheets 3 = .ok (.bipush 12, 2) := by decide +kernel
theorem dX4_readSheets_5 : decode cX4_readSheets 5 = .ok (.if_icmp .gt 39, 3) := by decide +kernel
theorem dX4_readSheets_8 : decode cX4_readSheets 8 = .ok (.aload_n 0, 1) := by decide +kernel
theorem dX4_readSheets_9 : decode cX4_readSheets 9 = .ok (.ldc 89, 2) := by decide +kernel
theorem dX4_readSheets_11 : decode cX4_readSheets 11 = .ok (.invokevirtual 62, 3) := by decide +kernel
theorem dX4_readSheets_14 : decode cX4_readSheets 14 = .ok (.ifCond .eq 30, 3) := by decide +kernel
theorem dX4_readSheets_17 : decode cX4_readSheets 17 = .ok (.iload_n 1, 1) := by decide +kernel
theorem dX4_readSheets_18 : decode cX4_readSheets 18 = .ok (.bipush 12, 2) := by decide +kernel
theorem dX4_readSheets_20 : decode cX4_readSheets 20 = .ok (.if_icmp .ne 9, 3) := by decide +kernel
theorem dX4_readSheets_23 : decode cX4_readSheets 23 = .ok (.aload_n 0, 1) := by decide +kernel
theorem dX4_readSheets_24 : decode cX4_readSheets 24 = .ok (.iconst 3, 1) := by decide +kernel
theorem dX4_readSheets_25 : decode cX4_readSheets 25 = .ok (.invokevirtual 66, 3) := by decide +kernel
theorem dX4_readSheets_28 : decode cX4_readSheets 28 = .ok (.ireturn, 1) := by decide +kernel
theorem dX4_readSheets_29 : decode cX4_readSheets 29 = .ok (.aload_n 0, 1) := by decide +kernel
theorem dX4_readSheets_30 : decode cX4_readSheets 30 = .ok (.invokevirtual 91, 3) := by decide +kernel
theorem dX4_readSheets_33 : decode cX4_readSheets 33 = .ok (.ifCond .ne 5, 3) := by decide +kernel
theorem dX4_readSheets_36 : decode cX4_readSheets 36 = .ok (.iconst 0, 1) := by decide +kernel
theorem dX4_readSheets_37 : decode cX4_readSheets 37 = .ok (.ireturn, 1) := by decide +kernel
theorem dX4_readSheets_38 : decode cX4_readSheets 38 = .ok (.iinc 1 1, 3) := by decide +kernel
theorem dX4_readSheets_41 : decode cX4_readSheets 41 = .ok (.goto (-39), 3) := by decide +kernel
theorem dX4_readSheets_44 : decode cX4_readSheets 44 = .ok (.aload_n 0, 1) := by decide +kernel
theorem dX4_readSheets_45 : decode cX4_readSheets 45 = .ok (.getfield 25, 3) := by decide +kernel
theorem dX4_readSheets_48 : decode cX4_readSheets 48 = .ok (.ifCond .eq 11, 3) := by decide +kernel
theorem dX4_readSheets_51 : decode cX4_readSheets 51 = .ok (.aload_n 0, 1) := by decide +kernel
theorem dX4_readSheets_52 : decode cX4_readSheets 52 = .ok (.iconst 1, 1) := by decide +kernel
theorem dX4_readSheets_53 : decode cX4_readSheets 53 = .ok (.invokevirtual 66, 3) := by decide +kernel
theorem dX4_readSheets_56 : decode cX4_readSheets 56 = .ok (.ifCond .eq 7, 3) := by decide +kernel
theorem dX4_readSheets_59 : decode cX4_readSheets 59 = .ok (.iconst 1, 1) := by decide +kernel
theorem dX4_readSheets_60 : decode cX4_readSheets 60 = .ok (.goto 4, 3) := by decide +kernel
theorem dX4_readSheets_63 : decode cX4_readSheets 63 = .ok (.iconst 0, 1) := by decide +kernel
theorem dX4_readSheets_64 : decode cX4_readSheets 64 = .ok (.ireturn, 1) := by decide +kernel
theorem dX4_readSheet_0 : decode cX4_readSheet 0 = .ok (.aload_n 0, 1) := by decide +kernel
theorem dX4_readSheet_1 : decode cX4_readSheet 1 = .ok (.invokevirtual 47, 3) := by decide +kernel
theorem dX4_readSheet_4 : decode cX4_readSheet 4 = .ok (.aload_n 0, 1) := by decide +kernel
theorem dX4_readSheet_5 : decode cX4_readSheet 5 = .ok (.invokevirtual 94, 3) := by decide +kernel
theorem dX4_readSheet_8 : decode cX4_readSheet 8 = .ok (.istore_n 1, 1) := by decide +kernel
theorem dX4_readSheet_9 : decode cX4_readSheet 9 = .ok (.iload_n 1, 1) := by decide +kernel
theorem dX4_readSheet_10 : decode cX4_readSheet 10 = .ok (.ifCond .ne 9, 3) := by decide +kernel
theorem dX4_readSheet_13 : decode cX4_readSheet 13 = .ok (.aload_n 0, 1) := by decide +kernel
theorem dX4_readSheet_14 : decode cX4_readSheet 14 = .ok (.iconst 1, 1) := by decide +kernel
theorem dX4_readSheet_15 : decode cX4_readSheet 15 = .ok (.invokevirtual 66, 3) := by decide +kernel
theorem dX4_readSheet_18 : decode cX4_readSheet 18 = .ok (.ireturn, 1) := by decide +kernel
