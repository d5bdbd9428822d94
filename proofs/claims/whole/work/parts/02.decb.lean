theorem dX4_readSheet_19 : decode cX4_readSheet 19 = .ok (.aload_n 0, 1) := by decide +kernel
theorem dX4_readSheet_20 : decode cX4_readSheet 20 = .ok (.invokevirtual 47, 3) := by decide +kernel
theorem dX4_readSheet_23 : decode cX4_readSheet 23 = .ok (.aload_n 0, 1) := by decide +kernel
theorem dX4_readSheet_24 : decode cX4_readSheet 24 = .ok (.getfield 25, 3) := by decide +kernel
theorem dX4_readSheet_27 : decode cX4_readSheet 27 = .ok (.iconst 2, 1) := by decide +kernel
theorem dX4_readSheet_28 : decode cX4_readSheet 28 = .ok (.if_icmp .ne 37, 3) := by decide +kernel
theorem dX4_readSheet_31 : decode cX4_readSheet 31 = .ok (.aload_n 0, 1) := by decide +kernel
theorem dX4_readSheet_32 : decode cX4_readSheet 32 = .ok (.getfield 21, 3) := by decide +kernel
theorem dX4_readSheet_35 : decode cX4_readSheet 35 = .ok (.aload_n 0, 1) := by decide +kernel
theorem dX4_readSheet_36 : decode cX4_readSheet 36 = .ok (.getfield 35, 3) := by decide +kernel
theorem dX4_readSheet_39 : decode cX4_readSheet 39 = .ok (.invokevirtual 98, 3) := by decide +kernel
theorem dX4_readSheet_42 : decode cX4_readSheet 42 = .ok (.ifCond .eq 23, 3) := by decide +kernel
theorem dX4_readSheet_45 : decode cX4_readSheet 45 = .ok (.aload_n 0, 1) := by decide +kernel
theorem dX4_readSheet_46 : decode cX4_readSheet 46 = .ok (.getfield 21, 3) := by decide +kernel
theorem dX4_readSheet_49 : decode cX4_readSheet 49 = .ok (.aload_n 0, 1) := by decide +kernel
theorem dX4_readSheet_50 : decode cX4_readSheet 50 = .ok (.getfield 35, 3) := by decide +kernel
theorem dX4_readSheet_53 : decode cX4_readSheet 53 = .ok (.invokevirtual 101, 3) := by decide +kernel
theorem dX4_readSheet_56 : decode cX4_readSheet 56 = .ok (.ifCond .ne 9, 3) := by decide +kernel
theorem dX4_readSheet_59 : decode cX4_readSheet 59 = .ok (.aload_n 0, 1) := by decide +kernel
theorem dX4_readSheet_60 : decode cX4_readSheet 60 = .ok (.iconst 2, 1) := by decide +kernel
theorem dX4_readSheet_61 : decode cX4_readSheet 61 = .ok (.invokevirtual 66, 3) := by decide +kernel
theorem dX4_readSheet_64 : decode cX4_readSheet 64 = .ok (.ireturn, 1) := by decide +kernel
theorem dX4_readSheet_65 : decode cX4_readSheet 65 = .ok (.aload_n 0, 1) := by decide +kernel
theorem dX4_readSheet_66 : decode cX4_readSheet 66 = .ok (.iconst 0, 1) := by decide +kernel
theorem dX4_readSheet_67 : decode cX4_readSheet 67 = .ok (.aload_n 0, 1) := by decide +kernel
theorem dX4_readSheet_68 : decode cX4_readSheet 68 = .ok (.getfield 21, 3) := by decide +kernel
theorem dX4_readSheet_71 : decode cX4_readSheet 71 = .ok (.getfield 104, 3) := by decide +kernel
theorem dX4_readSheet_74 : decode cX4_readSheet 74 = .ok (.iconst 1, 1) := by decide +kernel
theorem dX4_readSheet_75 : decode cX4_readSheet 75 = .ok (.isub, 1) := by decide +kernel
theorem dX4_readSheet_76 : decode cX4_readSheet 76 = .ok (.invokevirtual 70, 3) := by decide +kernel
theorem dX4_readSheet_79 : decode cX4_readSheet 79 = .ok (.ifCond .ne 5, 3) := by decide +kernel
theorem dX4_readSheet_82 : decode cX4_readSheet 82 = .ok (.iconst 0, 1) := by decide +kernel
theorem dX4_readSheet_83 : decode cX4_readSheet 83 = .ok (.ireturn, 1) := by decide +kernel
theorem dX4_readSheet_84 : decode cX4_readSheet 84 = .ok (.aload_n 0, 1) := by decide +kernel
theorem dX4_readSheet_85 : decode cX4_readSheet 85 = .ok (.getfield 38, 3) := by decide +kernel
theorem dX4_readSheet_88 : decode cX4_readSheet 88 = .ok (.istore_n 2, 1) := by decide +kernel
theorem dX4_readSheet_89 : decode cX4_readSheet 89 = .ok (.aload_n 0, 1) := by decide +kernel
theorem dX4_readSheet_90 : decode cX4_readSheet 90 = .ok (.iconst 0, 1) := by decide +kernel
theorem dX4_readSheet_91 : decode cX4_readSheet 91 = .ok (.bipush 99, 2) := by decide +kernel
theorem dX4_readSheet_93 : decode cX4_readSheet 93 = .ok (.invokevirtual 70, 3) := by decide +kernel
theorem dX4_readSheet_96 : decode cX4_readSheet 96 = .ok (.ifCond .ne 5, 3) := by decide +kernel
theorem dX4_readSheet_99 : decode cX4_readSheet 99 = .ok (.iconst 0, 1) := by decide +kernel
theorem dX4_readSheet_100 : decode cX4_readSheet 100 = .ok (.ireturn, 1) := by decide +kernel
theorem dX4_readSheet_101 : decode cX4_readSheet 101 = .ok (.aload_n 0, 1) := by decide +kernel
theorem dX4_readSheet_102 : decode cX4_readSheet 102 = .ok (.getfield 38, 3) := by decide +kernel
theorem dX4_readSheet_105 : decode cX4_readSheet 105 = .ok (.istore_n 3, 1) := by decide +kernel
theorem dX4_readSheet_106 : decode cX4_readSheet 106 = .ok (.aload_n 0, 1) := by decide +kernel
theorem dX4_readSheet_107 : decode cX4_readSheet 107 = .ok (.iconst 0, 1) := by decide +kernel
theorem dX4_readSheet_108 : decode cX4_readSheet 108 = .ok (.bipush 12, 2) := by decide +kernel
theorem dX4_readSheet_110 : decode cX4_readSheet 110 = .ok (.invokevirtual 70, 3) := by decide +kernel
theorem dX4_readSheet_113 : decode cX4_readSheet 113 = .ok (.ifCond .ne 5, 3) := by decide +kernel
theorem dX4_readSheet_116 : decode cX4_readSheet 116 = .ok (.iconst 0, 1) := by decide +kernel
theorem dX4_readSheet_117 : decode cX4_readSheet 117 = .ok (.ireturn, 1) := by decide +kernel
theorem dX4_readSheet_118 : decode cX4_readSheet 118 = .ok (.aload_n 0, 1) := by decide +kernel
theorem dX4_readSheet_119 : decode cX4_readSheet 119 = .ok (.getfield 21, 3) := by decide +kernel
theorem dX4_readSheet_122 : decode cX4_readSheet 122 = .ok (.iload_n 1, 1) := by decide +kernel
theorem dX4_readSheet_123 : decode cX4_readSheet 123 = .ok (.iload_n 2, 1) := by decide +kernel
theorem dX4_readSheet_124 : decode cX4_readSheet 124 = .ok (.iload_n 3, 1) := by decide +kernel
theorem dX4_readSheet_125 : decode cX4_readSheet 125 = .ok (.aload_n 0, 1) := by decide +kernel
theorem dX4_readSheet_126 : decode cX4_readSheet 126 = .ok (.getfield 38, 3) := by decide +kernel
theorem dX4_readSheet_129 : decode cX4_readSheet 129 = .ok (.invokevirtual 107, 3) := by decide +kernel
theorem dX4_readSheet_132 : decode cX4_readSheet 132 = .ok (.pop, 1) := by decide +kernel
theorem dX4_readSheet_133 : decode cX4_readSheet 133 = .ok (.aload_n 0, 1) := by decide +kernel
theorem dX4_readSheet_134 : decode cX4_readSheet 134 = .ok (.invokevirtual 77, 3) := by decide +kernel
theorem dX4_readSheet_137 : decode cX4_readSheet 137 = .ok (.ireturn, 1) := by decide +kernel
theorem dX4_sortTold_0 : decode cX4_sortTold 0 = .ok (.aload_n 0, 1) := by decide +kernel
theorem dX4_sortTold_1 : decode cX4_sortTold 1 = .ok (.ldc 111, 2) := by decide +kernel
theorem dX4_sortTold_3 : decode cX4_sortTold 3 = .ok (.invokevirtual 62, 3) := by decide +kernel
theorem dX4_sortTold_6 : decode cX4_sortTold 6 = .ok (.ifCond .eq 7, 3) := by decide +kernel
theorem dX4_sortTold_9 : decode cX4_sortTold 9 = .ok (.iconst 2, 1) := by decide +kernel
theorem dX4_sortTold_10 : decode cX4_sortTold 10 = .ok (.goto 56, 3) := by decide +kernel
theorem dX4_sortTold_13 : decode cX4_sortTold 13 = .ok (.aload_n 0, 1) := by decide +kernel
theorem dX4_sortTold_14 : decode cX4_sortTold 14 = .ok (.ldc 113, 2) := by decide +kernel
theorem dX4_sortTold_16 : decode cX4_sortTold 16 = .ok (.invokevirtual 62, 3) := by decide +kernel
theorem dX4_sortTold_19 : decode cX4_sortTold 19 = .ok (.ifCond .eq 7, 3) := by decide +kernel
theorem dX4_sortTold_22 : decode cX4_sortTold 22 = .ok (.iconst 3, 1) := by decide +kernel
theorem dX4_sortTold_23 : decode cX4_sortTold 23 = .ok (.goto 43, 3) := by decide +kernel
theorem dX4_sortTold_26 : decode cX4_sortTold 26 = .ok (.aload_n 0, 1) := by decide +kernel
theorem dX4_sortTold_27 : decode cX4_sortTold 27 = .ok (.ldc 115, 2) := by decide +kernel
theorem dX4_sortTold_29 : decode cX4_sortTold 29 = .ok (.invokevirtual 62, 3) := by decide +kernel
theorem dX4_sortTold_32 : decode cX4_sortTold 32 = .ok (.ifCond .eq 7, 3) := by decide +kernel
theorem dX4_sortTold_35 : decode cX4_sortTold 35 = .ok (.iconst 1, 1) := by decide +kernel
theorem dX4_sortTold_36 : decode cX4_sortTold 36 = .ok (.goto 30, 3) := by decide +kernel
theorem dX4_sortTold_39 : decode cX4_sortTold 39 = .ok (.aload_n 0, 1) := by decide +kernel
theorem dX4_sortTold_40 : decode cX4_sortTold 40 = .ok (.ldc 117, 2) := by decide +kernel
theorem dX4_sortTold_42 : decode cX4_sortTold 42 = .ok (.invokevirtual 62, 3) := by decide +kernel
theorem dX4_sortTold_45 : decode cX4_sortTold 45 = .ok (.ifCond .eq 7, 3) := by decide +kernel
theorem dX4_sortTold_48 : decode cX4_sortTold 48 = .ok (.iconst 4, 1) := by decide +kernel
theorem dX4_sortTold_49 : decode cX4_sortTold 49 = .ok (.goto 17, 3) := by decide +kernel
theorem dX4_sortTold_52 : decode cX4_sortTold 52 = .ok (.aload_n 0, 1) := by decide +kernel
theorem dX4_sortTold_53 : decode cX4_sortTold 53 = .ok (.ldc 119, 2) := by decide +kernel
theorem dX4_sortTold_55 : decode cX4_sortTold 55 = .ok (.invokevirtual 62, 3) := by decide +kernel
theorem dX4_sortTold_58 : decode cX4_sortTold 58 = .ok (.ifCond .eq 7, 3) := by decide +kernel
theorem dX4_sortTold_61 : decode cX4_sortTold 61 = .ok (.iconst 5, 1) := by decide +kernel
theorem dX4_sortTold_62 : decode cX4_sortTold 62 = .ok (.goto 4, 3) := by decide +kernel
theorem dX4_sortTold_65 : decode cX4_sortTold 65 = .ok (.iconst 0, 1) := by decide +kernel
theorem dX4_sortTold_66 : decode cX4_sortTold 66 = .ok (.ireturn, 1) := by decide +kernel
theorem dX4_takeNumber_0 : decode cX4_takeNumber 0 = .ok (.aload_n 0, 1) := by decide +kernel
theorem dX4_takeNumber_1 : decode cX4_takeNumber 1 = .ok (.getfield 25, 3) := by decide +kernel
theorem dX4_takeNumber_4 : decode cX4_takeNumber 4 = .ok (.iconst 2, 1) := by decide +kernel
theorem dX4_takeNumber_5 : decode cX4_takeNumber 5 = .ok (.if_icmp .eq 9, 3) := by decide +kernel
theorem dX4_takeNumber_8 : decode cX4_takeNumber 8 = .ok (.aload_n 0, 1) := by decide +kernel
theorem dX4_takeNumber_9 : decode cX4_takeNumber 9 = .ok (.iconst 1, 1) := by decide +kernel
theorem dX4_takeNumber_10 : decode cX4_takeNumber 10 = .ok (.invokevirtual 66, 3) := by decide +kernel
theorem dX4_takeNumber_13 : decode cX4_takeNumber 13 = .ok (.ireturn, 1) := by decide +kernel
theorem dX4_takeNumber_14 : decode cX4_takeNumber 14 = .ok (.aload_n 0, 1) := by decide +kernel
theorem dX4_takeNumber_15 : decode cX4_takeNumber 15 = .ok (.getfield 35, 3) := by decide +kernel
theorem dX4_takeNumber_18 : decode cX4_takeNumber 18 = .ok (.iload_n 1, 1) := by decide +kernel
theorem dX4_takeNumber_19 : decode cX4_takeNumber 19 = .ok (.if_icmp .lt 11, 3) := by decide +kernel
theorem dX4_takeNumber_22 : decode cX4_takeNumber 22 = .ok (.aload_n 0, 1) := by decide +kernel
theorem dX4_takeNumber_23 : decode cX4_takeNumber 23 = .ok (.getfield 35, 3) := by decide +kernel
theorem dX4_takeNumber_26 : decode cX4_takeNumber 26 = .ok (.iload_n 2, 1) := by decide +kernel
theorem dX4_takeNumber_27 : decode cX4_takeNumber 27 = .ok (.if_icmp .le 9, 3) := by decide +kernel
theorem dX4_takeNumber_30 : decode cX4_takeNumber 30 = .ok (.aload_n 0, 1) := by decide +kernel
theorem dX4_takeNumber_31 : decode cX4_takeNumber 31 = .ok (.iconst 2, 1) := by decide +kernel
theorem dX4_takeNumber_32 : decode cX4_takeNumber 32 = .ok (.invokevirtual 66, 3) := by decide +kernel
theorem dX4_takeNumber_35 : decode cX4_takeNumber 35 = .ok (.ireturn, 1) := by decide +kernel
theorem dX4_takeNumber_36 : decode cX4_takeNumber 36 = .ok (.aload_n 0, 1) := by decide +kernel
theorem dX4_takeNumber_37 : decode cX4_takeNumber 37 = .ok (.aload_n 0, 1) := by decide +kernel
theorem dX4_takeNumber_38 : decode cX4_takeNumber 38 = .ok (.getfield 35, 3) := by decide +kernel
theorem dX4_takeNumber_41 : decode cX4_takeNumber 41 = .ok (.putfield 38, 3) := by decide +kernel
theorem dX4_takeNumber_44 : decode cX4_takeNumber 44 = .ok (.aload_n 0, 1) := by decide +kernel
theorem dX4_takeNumber_45 : decode cX4_takeNumber 45 = .ok (.invokevirtual 47, 3) := by decide +kernel
theorem dX4_takeNumber_48 : decode cX4_takeNumber 48 = .ok (.iconst 1, 1) := by decide +kernel
theorem dX4_takeNumber_49 : decode cX4_takeNumber 49 = .ok (.ireturn, 1) := by decide +kernel
theorem dX4_takeSemicolon_0 : decode cX4_takeSemicolon 0 = .ok (.aload_n 0, 1) := by decide +kernel
theorem dX4_takeSemicolon_1 : decode cX4_takeSemicolon 1 = .ok (.getfield 25, 3) := by decide +kernel
theorem dX4_takeSemicolon_4 : decode cX4_takeSemicolon 4 = .ok (.iconst 3, 1) := by decide +kernel
theorem dX4_takeSemicolon_5 : decode cX4_takeSemicolon 5 = .ok (.if_icmp .eq 9, 3) := by decide +kernel
theorem dX4_takeSemicolon_8 : decode cX4_takeSemicolon 8 = .ok (.aload_n 0, 1) := by decide +kernel
theorem dX4_takeSemicolon_9 : decode cX4_takeSemicolon 9 = .ok (.iconst 1, 1) := by decide +kernel
theorem dX4_takeSemicolon_10 : decode cX4_takeSemicolon 10 = .ok (.invokevirtual 66, 3) := by decide +kernel
theorem dX4_takeSemicolon_13 : decode cX4_takeSemicolon 13 = .ok (.ireturn, 1) := by decide +kernel
theorem dX4_takeSemicolon_14 : decode cX4_takeSemicolon 14 = .ok (.aload_n 0, 1) := by decide +kernel
theorem dX4_takeSemicolon_15 : decode cX4_takeSemicolon 15 = .ok (.invokevirtual 47, 3) := by decide +kernel
theorem dX4_takeSemicolon_18 : decode cX4_takeSemicolon 18 = .ok (.iconst 1, 1) := by decide +kernel
theorem dX4_takeSemicolon_19 : decode cX4_takeSemicolon 19 = .ok (.ireturn, 1) := by decide +kernel
theorem dX4_fail_0 : decode cX4_fail 0 = .ok (.aload_n 0, 1) := by decide +kernel
theorem dX4_fail_1 : decode cX4_fail 1 = .ok (.iload_n 1, 1) := by decide +kernel
theorem dX4_fail_2 : decode cX4_fail 2 = .ok (.putfield 41, 3) := by decide +kernel
theorem dX4_fail_5 : decode cX4_fail 5 = .ok (.iconst 0, 1) := by decide +kernel
theorem dX4_fail_6 : decode cX4_fail 6 = .ok (.ireturn, 1) := by decide +kernel
theorem dX4_isWord_0 : decode cX4_isWord 0 = .ok (.aload_n 0, 1) := by decide +kernel
theorem dX4_isWord_1 : decode cX4_isWord 1 = .ok (.getfield 25, 3) := by decide +kernel
theorem dX4_isWord_4 : decode cX4_isWord 4 = .ok (.iconst 1, 1) := by decide +kernel
theorem dX4_isWord_5 : decode cX4_isWord 5 = .ok (.if_icmp .ne 19, 3) := by decide +kernel
theorem dX4_isWord_8 : decode cX4_isWord 8 = .ok (.aload_n 0, 1) := by decide +kernel
theorem dX4_isWord_9 : decode cX4_isWord 9 = .ok (.getfield 32, 3) := by decide +kernel
theorem dX4_isWord_12 : decode cX4_isWord 12 = .ok (.aload_n 0, 1) := by decide +kernel
theorem dX4_isWord_13 : decode cX4_isWord 13 = .ok (.getfield 29, 3) := by decide +kernel
theorem dX4_isWord_16 : decode cX4_isWord 16 = .ok (.isub, 1) := by decide +kernel
theorem dX4_isWord_17 : decode cX4_isWord 17 = .ok (.aload_n 1, 1) := by decide +kernel
theorem dX4_isWord_18 : decode cX4_isWord 18 = .ok (.invokevirtual 121, 3) := by decide +kernel
theorem dX4_isWord_21 : decode cX4_isWord 21 = .ok (.if_icmp .eq 5, 3) := by decide +kernel
theorem dX4_isWord_24 : decode cX4_isWord 24 = .ok (.iconst 0, 1) := by decide +kernel
theorem dX4_isWord_25 : decode cX4_isWord 25 = .ok (.ireturn, 1) := by decide +kernel
theorem dX4_isWord_26 : decode cX4_isWord 26 = .ok (.iconst 0, 1) := by decide +kernel
theorem dX4_isWord_27 : decode cX4_isWord 27 = .ok (.istore_n 2, 1) := by decide +kernel
theorem dX4_isWord_28 : decode cX4_isWord 28 = .ok (.iload_n 2, 1) := by decide +kernel
theorem dX4_isWord_29 : decode cX4_isWord 29 = .ok (.aload_n 1, 1) := by decide +kernel
theorem dX4_isWord_30 : decode cX4_isWord 30 = .ok (.invokevirtual 121, 3) := by decide +kernel
theorem dX4_isWord_33 : decode cX4_isWord 33 = .ok (.if_icmp .ge 32, 3) := by decide +kernel
theorem dX4_isWord_36 : decode cX4_isWord 36 = .ok (.aload_n 0, 1) := by decide +kernel
theorem dX4_isWord_37 : decode cX4_isWord 37 = .ok (.getfield 12, 3) := by decide +kernel
theorem dX4_isWord_40 : decode cX4_isWord 40 = .ok (.aload_n 0, 1) := by decide +kernel
theorem dX4_isWord_41 : decode cX4_isWord 41 = .ok (.getfield 29, 3) := by decide +kernel
theorem dX4_isWord_44 : decode cX4_isWord 44 = .ok (.iload_n 2, 1) := by decide +kernel
theorem dX4_isWord_45 : decode cX4_isWord 45 = .ok (.iadd, 1) := by decide +kernel
theorem dX4_isWord_46 : decode cX4_isWord 46 = .ok (.invokevirtual 126, 3) := by decide +kernel
theorem dX4_isWord_49 : decode cX4_isWord 49 = .ok (.aload_n 1, 1) := by decide +kernel
theorem dX4_isWord_50 : decode cX4_isWord 50 = .ok (.iload_n 2, 1) := by decide +kernel
theorem dX4_isWord_51 : decode cX4_isWord 51 = .ok (.invokevirtual 130, 3) := by decide +kernel
theorem dX4_isWord_54 : decode cX4_isWord 54 = .ok (.if_icmp .eq 5, 3) := by decide +kernel
theorem dX4_isWord_57 : decode cX4_isWord 57 = .ok (.iconst 0, 1) := by decide +kernel
theorem dX4_isWord_58 : decode cX4_isWord 58 = .ok (.ireturn, 1) := by decide +kernel
theorem dX4_isWord_59 : decode cX4_isWord 59 = .ok (.iinc 2 1, 3) := by decide +kernel
theorem dX4_isWord_62 : decode cX4_isWord 62 = .ok (.goto (-34), 3) := by decide +kernel
theorem dX4_isWord_65 : decode cX4_isWord 65 = .ok (.iconst 1, 1) := by decide +kernel
theorem dX4_isWord_66 : decode cX4_isWord 66 = .ok (.ireturn, 1) := by decide +kernel
theorem dX4_step_0 : decode cX4_step 0 = .ok (.aload_n 0, 1) := by decide +kernel
theorem dX4_step_1 : decode cX4_step 1 = .ok (.getfield 32, 3) := by decide +kernel
theorem dX4_step_4 : decode cX4_step 4 = .ok (.aload_n 0, 1) := by decide +kernel
theorem dX4_step_5 : decode cX4_step 5 = .ok (.getfield 12, 3) := by decide +kernel
theorem dX4_step_8 : decode cX4_step 8 = .ok (.getfield 134, 3) := by decide +kernel
theorem dX4_step_11 : decode cX4_step 11 = .ok (.if_icmp .ge 33, 3) := by decide +kernel
theorem dX4_step_14 : decode cX4_step 14 = .ok (.aload_n 0, 1) := by decide +kernel
theorem dX4_step_15 : decode cX4_step 15 = .ok (.getfield 12, 3) := by decide +kernel
theorem dX4_step_18 : decode cX4_step 18 = .ok (.aload_n 0, 1) := by decide +kernel
theorem dX4_step_19 : decode cX4_step 19 = .ok (.getfield 32, 3) := by decide +kernel
theorem dX4_step_22 : decode cX4_step 22 = .ok (.invokevirtual 126, 3) := by decide +kernel
theorem dX4_step_25 : decode cX4_step 25 = .ok (.invokestatic 136, 3) := by decide +kernel
theorem dX4_step_28 : decode cX4_step 28 = .ok (.ifCond .eq 16, 3) := by decide +kernel
theorem dX4_step_31 : decode cX4_step 31 = .ok (.aload_n 0, 1) := by decide +kernel
theorem dX4_step_32 : decode cX4_step 32 = .ok (.dup, 1) := by decide +kernel
theorem dX4_step_33 : decode cX4_step 33 = .ok (.getfield 32, 3) := by decide +kernel
theorem dX4_step_36 : decode cX4_step 36 = .ok (.iconst 1, 1) := by decide +kernel
theorem dX4_step_37 : decode cX4_step 37 = .ok (.iadd, 1) := by decide +kernel
theorem dX4_step_38 : decode cX4_step 38 = .ok (.putfield 32, 3) := by decide +kernel
theorem dX4_step_41 : decode cX4_step 41 = .ok (.goto (-41), 3) := by decide +kernel
theorem dX4_step_44 : decode cX4_step 44 = .ok (.aload_n 0, 1) := by decide +kernel
theorem dX4_step_45 : decode cX4_step 45 = .ok (.aload_n 0, 1) := by decide +kernel
theorem dX4_step_46 : decode cX4_step 46 = .ok (.getfield 32, 3) := by decide +kernel
theorem dX4_step_49 : decode cX4_step 49 = .ok (.putfield 29, 3) := by decide +kernel
theorem dX4_step_52 : decode cX4_step 52 = .ok (.aload_n 0, 1) := by decide +kernel
theorem dX4_step_53 : decode cX4_step 53 = .ok (.iconst 0, 1) := by decide +kernel
theorem dX4_step_54 : decode cX4_step 54 = .ok (.putfield 35, 3) := by decide +kernel
theorem dX4_step_57 : decode cX4_step 57 = .ok (.aload_n 0, 1) := by decide +kernel
theorem dX4_step_58 : decode cX4_step 58 = .ok (.getfield 32, 3) := by decide +kernel
theorem dX4_step_61 : decode cX4_step 61 = .ok (.aload_n 0, 1) := by decide +kernel
theorem dX4_step_62 : decode cX4_step 62 = .ok (.getfield 12, 3) := by decide +kernel
theorem dX4_step_65 : decode cX4_step 65 = .ok (.getfield 134, 3) := by decide +kernel
theorem dX4_step_68 : decode cX4_step 68 = .ok (.if_icmp .lt 11, 3) := by decide +kernel
theorem dX4_step_71 : decode cX4_step 71 = .ok (.aload_n 0, 1) := by decide +kernel
theorem dX4_step_72 : decode cX4_step 72 = .ok (.iconst 0, 1) := by decide +kernel
theorem dX4_step_73 : decode cX4_step 73 = .ok (.putfield 25, 3) := by decide +kernel
theorem dX4_step_76 : decode cX4_step 76 = .ok (.goto 216, 3) := by decide +kernel
theorem dX4_step_79 : decode cX4_step 79 = .ok (.aload_n 0, 1) := by decide +kernel
theorem dX4_step_80 : decode cX4_step 80 = .ok (.getfield 12, 3) := by decide +kernel
theorem dX4_step_83 : decode cX4_step 83 = .ok (.aload_n 0, 1) := by decide +kernel
theorem dX4_step_84 : decode cX4_step 84 = .ok (.getfield 32, 3) := by decide +kernel
theorem dX4_step_87 : decode cX4_step 87 = .ok (.invokevirtual 126, 3) := by decide +kernel
theorem dX4_step_90 : decode cX4_step 90 = .ok (.invokestatic 139, 3) := by decide +kernel
theorem dX4_step_93 : decode cX4_step 93 = .ok (.ifCond .eq 52, 3) := by decide +kernel
theorem dX4_step_96 : decode cX4_step 96 = .ok (.aload_n 0, 1) := by decide +kernel
theorem dX4_step_97 : decode cX4_step 97 = .ok (.iconst 1, 1) := by decide +kernel
theorem dX4_step_98 : decode cX4_step 98 = .ok (.putfield 25, 3) := by decide +kernel
theorem dX4_step_101 : decode cX4_step 101 = .ok (.aload_n 0, 1) := by decide +kernel
theorem dX4_step_102 : decode cX4_step 102 = .ok (.getfield 32, 3) := by decide +kernel
theorem dX4_step_105 : decode cX4_step 105 = .ok (.aload_n 0, 1) := by decide +kernel
theorem dX4_step_106 : decode cX4_step 106 = .ok (.getfield 12, 3) := by decide +kernel
theorem dX4_step_109 : decode cX4_step 109 = .ok (.getfield 134, 3) := by decide +kernel
theorem dX4_step_112 : decode cX4_step 112 = .ok (.if_icmp .ge 180, 3) := by decide +kernel
theorem dX4_step_115 : decode cX4_step 115 = .ok (.aload_n 0, 1) := by decide +kernel
theorem dX4_step_116 : decode cX4_step 116 = .ok (.getfield 12, 3) := by decide +kernel
theorem dX4_step_119 : decode cX4_step 119 = .ok (.aload_n 0, 1) := by decide +kernel
theorem dX4_step_120 : decode cX4_step 120 = .ok (.getfield 32, 3) := by decide +kernel
theorem dX4_step_123 : decode cX4_step 123 = .ok (.invokevirtual 126, 3) := by decide +kernel
theorem dX4_step_126 : decode cX4_step 126 = .ok (.invokestatic 139, 3) := by decide +kernel
theorem dX4_step_129 : decode cX4_step 129 = .ok (.ifCond .eq 163, 3) := by decide +kernel
theorem dX4_step_132 : decode cX4_step 132 = .ok (.aload_n 0, 1) := by decide +kernel
theorem dX4_step_133 : decode cX4_step 133 = .ok (.dup, 1) := by decide +kernel
theorem dX4_step_134 : decode cX4_step 134 = .ok (.getfield 32, 3) := by decide +kernel
theorem dX4_step_137 : decode cX4_step 137 = .ok (.iconst 1, 1) := by decide +kernel
theorem dX4_step_138 : decode cX4_step 138 = .ok (.iadd, 1) := by decide +kernel
theorem dX4_step_139 : decode cX4_step 139 = .ok (.putfield 32, 3) := by decide +kernel
theorem dX4_step_142 : decode cX4_step 142 = .ok (.goto (-41), 3) := by decide +kernel
theorem dX4_step_145 : decode cX4_step 145 = .ok (.aload_n 0, 1) := by decide +kernel
theorem dX4_step_146 : decode cX4_step 146 = .ok (.getfield 12, 3) := by decide +kernel
theorem dX4_step_149 : decode cX4_step 149 = .ok (.aload_n 0, 1) := by decide +kernel
theorem dX4_step_150 : decode cX4_step 150 = .ok (.getfield 32, 3) := by decide +kernel
theorem dX4_step_153 : decode cX4_step 153 = .ok (.invokevirtual 126, 3) := by decide +kernel
theorem dX4_step_156 : decode cX4_step 156 = .ok (.invokestatic 142, 3) := by decide +kernel
theorem dX4_step_159 : decode cX4_step 159 = .ok (.ifCond .eq 98, 3) := by decide +kernel
theorem dX4_step_162 : decode cX4_step 162 = .ok (.aload_n 0, 1) := by decide +kernel
theorem dX4_step_163 : decode cX4_step 163 = .ok (.getfield 32, 3) := by decide +kernel
theorem dX4_step_166 : decode cX4_step 166 = .ok (.aload_n 0, 1) := by decide +kernel
theorem dX4_step_167 : decode cX4_step 167 = .ok (.getfield 12, 3) := by decide +kernel
theorem dX4_step_170 : decode cX4_step 170 = .ok (.getfield 134, 3) := by decide +kernel
theorem dX4_step_173 : decode cX4_step 173 = .ok (.if_icmp .ge 59, 3) := by decide +kernel
theorem dX4_step_176 : decode cX4_step 176 = .ok (.aload_n 0, 1) := by decide +kernel
theorem dX4_step_177 : decode cX4_step 177 = .ok (.getfield 12, 3) := by decide +kernel
theorem dX4_step_180 : decode cX4_step 180 = .ok (.aload_n 0, 1) := by decide +kernel
theorem dX4_step_181 : decode cX4_step 181 = .ok (.getfield 32, 3) := by decide +kernel
theorem dX4_step_184 : decode cX4_step 184 = .ok (.invokevirtual 126, 3) := by decide +kernel
theorem dX4_step_187 : decode cX4_step 187 = .ok (.invokestatic 142, 3) := by decide +kernel
theorem dX4_step_190 : decode cX4_step 190 = .ok (.ifCond .eq 42, 3) := by decide +kernel
theorem dX4_step_193 : decode cX4_step 193 = .ok (.aload_n 0, 1) := by decide +kernel
theorem dX4_step_194 : decode cX4_step 194 = .ok (.aload_n 0, 1) := by decide +kernel
theorem dX4_step_195 : decode cX4_step 195 = .ok (.getfield 35, 3) := by decide +kernel
theorem dX4_step_198 : decode cX4_step 198 = .ok (.bipush 10, 2) := by decide +kernel
theorem dX4_step_200 : decode cX4_step 200 = .ok (.imul, 1) := by decide +kernel
theorem dX4_step_201 : decode cX4_step 201 = .ok (.aload_n 0, 1) := by decide +kernel
theorem dX4_step_202 : decode cX4_step 202 = .ok (.getfield 12, 3) := by decide +kernel
theorem dX4_step_205 : decode cX4_step 205 = .ok (.aload_n 0, 1) := by decide +kernel
theorem dX4_step_206 : decode cX4_step 206 = .ok (.getfield 32, 3) := by decide +kernel
theorem dX4_step_209 : decode cX4_step 209 = .ok (.invokevirtual 126, 3) := by decide +kernel
theorem dX4_step_212 : decode cX4_step 212 = .ok (.bipush 48, 2) := by decide +kernel
theorem dX4_step_214 : decode cX4_step 214 = .ok (.isub, 1) := by decide +kernel
theorem dX4_step_215 : decode cX4_step 215 = .ok (.iadd, 1) := by decide +kernel
theorem dX4_step_216 : decode cX4_step 216 = .ok (.putfield 35, 3) := by decide +kernel
theorem dX4_step_219 : decode cX4_step 219 = .ok (.aload_n 0, 1) := by decide +kernel
theorem dX4_step_220 : decode cX4_step 220 = .ok (.dup, 1) := by decide +kernel
theorem dX4_step_221 : decode cX4_step 221 = .ok (.getfield 32, 3) := by decide +kernel
theorem dX4_step_224 : decode cX4_step 224 = .ok (.iconst 1, 1) := by decide +kernel
theorem dX4_step_225 : decode cX4_step 225 = .ok (.iadd, 1) := by decide +kernel
theorem dX4_step_226 : decode cX4_step 226 = .ok (.putfield 32, 3) := by decide +kernel
theorem dX4_step_229 : decode cX4_step 229 = .ok (.goto (-67), 3) := by decide +kernel
theorem dX4_step_232 : decode cX4_step 232 = .ok (.aload_n 0, 1) := by decide +kernel
theorem dX4_step_233 : decode cX4_step 233 = .ok (.aload_n 0, 1) := by decide +kernel
theorem dX4_step_234 : decode cX4_step 234 = .ok (.getfield 32, 3) := by decide +kernel
theorem dX4_step_237 : decode cX4_step 237 = .ok (.aload_n 0, 1) := by decide +kernel
theorem dX4_step_238 : decode cX4_step 238 = .ok (.getfield 29, 3) := by decide +kernel
theorem dX4_step_241 : decode cX4_step 241 = .ok (.isub, 1) := by decide +kernel
theorem dX4_step_242 : decode cX4_step 242 = .ok (.iconst 3, 1) := by decide +kernel
theorem dX4_step_243 : decode cX4_step 243 = .ok (.if_icmp .gt 7, 3) := by decide +kernel
theorem dX4_step_246 : decode cX4_step 246 = .ok (.iconst 2, 1) := by decide +kernel
theorem dX4_step_247 : decode cX4_step 247 = .ok (.goto 4, 3) := by decide +kernel
theorem dX4_step_250 : decode cX4_step 250 = .ok (.iconst 4, 1) := by decide +kernel
theorem dX4_step_251 : decode cX4_step 251 = .ok (.putfield 25, 3) := by decide +kernel
theorem dX4_step_254 : decode cX4_step 254 = .ok (.goto 38, 3) := by decide +kernel
theorem dX4_step_257 : decode cX4_step 257 = .ok (.aload_n 0, 1) := by decide +kernel
theorem dX4_step_258 : decode cX4_step 258 = .ok (.aload_n 0, 1) := by decide +kernel
theorem dX4_step_259 : decode cX4_step 259 = .ok (.getfield 12, 3) := by decide +kernel
theorem dX4_step_262 : decode cX4_step 262 = .ok (.aload_n 0, 1) := by decide +kernel
theorem dX4_step_263 : decode cX4_step 263 = .ok (.getfield 32, 3) := by decide +kernel
theorem dX4_step_266 : decode cX4_step 266 = .ok (.invokevirtual 126, 3) := by decide +kernel
theorem dX4_step_269 : decode cX4_step 269 = .ok (.bipush 59, 2) := by decide +kernel
theorem dX4_step_271 : decode cX4_step 271 = .ok (.if_icmp .ne 7, 3) := by decide +kernel
theorem dX4_step_274 : decode cX4_step 274 = .ok (.iconst 3, 1) := by decide +kernel
theorem dX4_step_275 : decode cX4_step 275 = .ok (.goto 4, 3) := by decide +kernel
theorem dX4_step_278 : decode cX4_step 278 = .ok (.iconst 4, 1) := by decide +kernel
theorem dX4_step_279 : decode cX4_step 279 = .ok (.putfield 25, 3) := by decide +kernel
theorem dX4_step_282 : decode cX4_step 282 = .ok (.aload_n 0, 1) := by decide +kernel
theorem dX4_step_283 : decode cX4_step 283 = .ok (.dup, 1) := by decide +kernel
theorem dX4_step_284 : decode cX4_step 284 = .ok (.getfield 32, 3) := by decide +kernel
theorem dX4_step_287 : decode cX4_step 287 = .ok (.iconst 1, 1) := by decide +kernel
theorem dX4_step_288 : decode cX4_step 288 = .ok (.iadd, 1) := by decide +kernel
theorem dX4_step_289 : decode cX4_step 289 = .ok (.putfield 32, 3) := by decide +kernel
theorem dX4_step_292 : decode cX4_step 292 = .ok (.return_, 1) := by decide +kernel
theorem dX4_isBlank_0 : decode cX4_isBlank 0 = .ok (.iload_n 0, 1) := by decide +kernel
theorem dX4_isBlank_1 : decode cX4_isBlank 1 = .ok (.bipush 32, 2) := by decide +kernel
theorem dX4_isBlank_3 : decode cX4_isBlank 3 = .ok (.if_icmp .eq 9, 3) := by decide +kernel
theorem dX4_isBlank_6 : decode cX4_isBlank 6 = .ok (.iload_n 0, 1) := by decide +kernel
theorem dX4_isBlank_7 : decode cX4_isBlank 7 = .ok (.bipush 10, 2) := by decide +kernel
theorem dX4_isBlank_9 : decode cX4_isBlank 9 = .ok (.if_icmp .ne 7, 3) := by decide +kernel
theorem dX4_isBlank_12 : decode cX4_isBlank 12 = .ok (.iconst 1, 1) := by decide +kernel
theorem dX4_isBlank_13 : decode cX4_isBlank 13 = .ok (.goto 4, 3) := by decide +kernel
theorem dX4_isBlank_16 : decode cX4_isBlank 16 = .ok (.iconst 0, 1) := by decide +kernel
theorem dX4_isBlank_17 : decode cX4_isBlank 17 = .ok (.ireturn, 1) := by decide +kernel
theorem dX4_isLetter_0 : decode cX4_isLetter 0 = .ok (.iload_n 0, 1) := by decide +kernel
theorem dX4_isLetter_1 : decode cX4_isLetter 1 = .ok (.bipush 97, 2) := by decide +kernel
theorem dX4_isLetter_3 : decode cX4_isLetter 3 = .ok (.if_icmp .lt 13, 3) := by decide +kernel
theorem dX4_isLetter_6 : decode cX4_isLetter 6 = .ok (.iload_n 0, 1) := by decide +kernel
theorem dX4_isLetter_7 : decode cX4_isLetter 7 = .ok (.bipush 122, 2) := by decide +kernel
theorem dX4_isLetter_9 : decode cX4_isLetter 9 = .ok (.if_icmp .gt 7, 3) := by decide +kernel
theorem dX4_isLetter_12 : decode cX4_isLetter 12 = .ok (.iconst 1, 1) := by decide +kernel
theorem dX4_isLetter_13 : decode cX4_isLetter 13 = .ok (.goto 4, 3) := by decide +kernel
theorem dX4_isLetter_16 : decode cX4_isLetter 16 = .ok (.iconst 0, 1) := by decide +kernel
theorem dX4_isLetter_17 : decode cX4_isLetter 17 = .ok (.ireturn, 1) := by decide +kernel
theorem dX4_isFigure_0 : decode cX4_isFigure 0 = .ok (.iload_n 0, 1) := by decide +kernel
theorem dX4_isFigure_1 : decode cX4_isFigure 1 = .ok (.bipush 48, 2) := by decide +kernel
theorem dX4_isFigure_3 : decode cX4_isFigure 3 = .ok (.if_icmp .lt 13, 3) := by decide +kernel
theorem dX4_isFigure_6 : decode cX4_isFigure 6 = .ok (.iload_n 0, 1) := by decide +kernel
theorem dX4_isFigure_7 : decode cX4_isFigure 7 = .ok (.bipush 57, 2) := by decide +kernel
theorem dX4_isFigure_9 : decode cX4_isFigure 9 = .ok (.if_icmp .gt 7, 3) := by decide +kernel
theorem dX4_isFigure_12 : decode cX4_isFigure 12 = .ok (.iconst 1, 1) := by decide +kernel
theorem dX4_isFigure_13 : decode cX4_isFigure 13 = .ok (.goto 4, 3) := by decide +kernel
theorem dX4_isFigure_16 : decode cX4_isFigure 16 = .ok (.iconst 0, 1) := by decide +kernel
theorem dX4_isFigure_17 : decode cX4_isFigure 17 = .ok (.ireturn, 1) := by decide +kernel
theorem dX5_init_0 : decode cX5_init 0 = .ok (.aload_n 0, 1) := by decide +kernel
theorem dX5_init_1 : decode cX5_init 1 = .ok (.invokespecial 3, 3) := by decide +kernel
theorem dX5_init_4 : decode cX5_init 4 = .ok (.aload_n 0, 1) := by decide +kernel
theorem dX5_init_5 : decode cX5_init 5 = .ok (.bipush 40, 2) := by decide +kernel
theorem dX5_init_7 : decode cX5_init 7 = .ok (.newarray .int, 2) := by decide +kernel
theorem dX5_init_9 : decode cX5_init 9 = .ok (.putfield 9, 3) := by decide +kernel
theorem dX5_init_12 : decode cX5_init 12 = .ok (.aload_n 0, 1) := by decide +kernel
theorem dX5_init_13 : decode cX5_init 13 = .ok (.iconst (-1), 1) := by decide +kernel
theorem dX5_init_14 : decode cX5_init 14 = .ok (.putfield 15, 3) := by decide +kernel
theorem dX5_init_17 : decode cX5_init 17 = .ok (.aload_n 0, 1) := by decide +kernel
theorem dX5_init_18 : decode cX5_init 18 = .ok (.iconst 0, 1) := by decide +kernel
theorem dX5_init_19 : decode cX5_init 19 = .ok (.putfield 19, 3) := by decide +kernel
theorem dX5_init_22 : decode cX5_init 22 = .ok (.return_, 1) := by decide +kernel
theorem dX5_isMissing_0 : decode cX5_isMissing 0 = .ok (.aload_n 0, 1) := by decide +kernel
theorem dX5_isMissing_1 : decode cX5_isMissing 1 = .ok (.getfield 15, 3) := by decide +kernel
theorem dX5_isMissing_4 : decode cX5_isMissing 4 = .ok (.iconst (-1), 1) := by decide +kernel
theorem dX5_isMissing_5 : decode cX5_isMissing 5 = .ok (.if_icmp .ne 7, 3) := by decide +kernel
theorem dX5_isMissing_8 : decode cX5_isMissing 8 = .ok (.iconst 1, 1) := by decide +kernel
theorem dX5_isMissing_9 : decode cX5_isMissing 9 = .ok (.goto 4, 3) := by decide +kernel
theorem dX5_isMissing_12 : decode cX5_isMissing 12 = .ok (.iconst 0, 1) := by decide +kernel
theorem dX5_isMissing_13 : decode cX5_isMissing 13 = .ok (.ireturn, 1) := by decide +kernel
theorem dX5_begin_0 : decode cX5_begin 0 = .ok (.aload_n 0, 1) := by decide +kernel
theorem dX5_begin_1 : decode cX5_begin 1 = .ok (.iload_n 1, 1) := by decide +kernel
theorem dX5_begin_2 : decode cX5_begin 2 = .ok (.putfield 15, 3) := by decide +kernel
theorem dX5_begin_5 : decode cX5_begin 5 = .ok (.aload_n 0, 1) := by decide +kernel
theorem dX5_begin_6 : decode cX5_begin 6 = .ok (.iload_n 2, 1) := by decide +kernel
theorem dX5_begin_7 : decode cX5_begin 7 = .ok (.putfield 19, 3) := by decide +kernel
theorem dX5_begin_10 : decode cX5_begin 10 = .ok (.iconst 0, 1) := by decide +kernel
theorem dX5_begin_11 : decode cX5_begin 11 = .ok (.istore_n 3, 1) := by decide +kernel
theorem dX5_begin_12 : decode cX5_begin 12 = .ok (.iload_n 3, 1) := by decide +kernel
theorem dX5_begin_13 : decode cX5_begin 13 = .ok (.bipush 40, 2) := by decide +kernel
theorem dX5_begin_15 : decode cX5_begin 15 = .ok (.if_icmp .ge 16, 3) := by decide +kernel
theorem dX5_begin_18 : decode cX5_begin 18 = .ok (.aload_n 0, 1) := by decide +kernel
theorem dX5_begin_19 : decode cX5_begin 19 = .ok (.getfield 9, 3) := by decide +kernel
theorem dX5_begin_22 : decode cX5_begin 22 = .ok (.iload_n 3, 1) := by decide +kernel
theorem dX5_begin_23 : decode cX5_begin 23 = .ok (.iconst 0, 1) := by decide +kernel
theorem dX5_begin_24 : decode cX5_begin 24 = .ok (.iastore, 1) := by decide +kernel
theorem dX5_begin_25 : decode cX5_begin 25 = .ok (.iinc 3 1, 3) := by decide +kernel
theorem dX5_begin_28 : decode cX5_begin 28 = .ok (.goto (-16), 3) := by decide +kernel
theorem dX5_begin_31 : decode cX5_begin 31 = .ok (.return_, 1) := by decide +kernel
theorem dX5_end_0 : decode cX5_end 0 = .ok (.aload_n 0, 1) := by decide +kernel
theorem dX5_end_1 : decode cX5_end 1 = .ok (.iconst (-1), 1) := by decide +kernel
theorem dX5_end_2 : decode cX5_end 2 = .ok (.putfield 15, 3) := by decide +kernel
theorem dX5_end_5 : decode cX5_end 5 = .ok (.aload_n 0, 1) := by decide +kernel
theorem dX5_end_6 : decode cX5_end 6 = .ok (.iconst 0, 1) := by decide +kernel
theorem dX5_end_7 : decode cX5_end 7 = .ok (.putfield 19, 3) := by decide +kernel
theorem dX5_end_10 : decode cX5_end 10 = .ok (.return_, 1) := by decide +kernel
theorem dX5_hasPlaces_0 : decode cX5_hasPlaces 0 = .ok (.iload_n 1, 1) := by decide +kernel
theorem dX5_hasPlaces_1 : decode cX5_hasPlaces 1 = .ok (.ifCond .lt 29, 3) := by decide +kernel
theorem dX5_hasPlaces_4 : decode cX5_hasPlaces 4 = .ok (.iload_n 2, 1) := by decide +kernel
theorem dX5_hasPlaces_5 : decode cX5_hasPlaces 5 = .ok (.ifCond .lt 25, 3) := by decide +kernel
theorem dX5_hasPlaces_8 : decode cX5_hasPlaces 8 = .ok (.iload_n 1, 1) := by decide +kernel
theorem dX5_hasPlaces_9 : decode cX5_hasPlaces 9 = .ok (.aload_n 0, 1) := by decide +kernel
theorem dX5_hasPlaces_10 : decode cX5_hasPlaces 10 = .ok (.getfield 19, 3) := by decide +kernel
theorem dX5_hasPlaces_13 : decode cX5_hasPlaces 13 = .ok (.if_icmp .gt 17, 3) := by decide +kernel
theorem dX5_hasPlaces_16 : decode cX5_hasPlaces 16 = .ok (.iload_n 2, 1) := by decide +kernel
theorem dX5_hasPlaces_17 : decode cX5_hasPlaces 17 = .ok (.aload_n 0, 1) := by decide +kernel
theorem dX5_hasPlaces_18 : decode cX5_hasPlaces 18 = .ok (.getfield 19, 3) := by decide +kernel
theorem dX5_hasPlaces_21 : decode cX5_hasPlaces 21 = .ok (.iload_n 1, 1) := by decide +kernel
theorem dX5_hasPlaces_22 : decode cX5_hasPlaces 22 = .ok (.isub, 1) := by decide +kernel
theorem dX5_hasPlaces_23 : decode cX5_hasPlaces 23 = .ok (.if_icmp .gt 7, 3) := by decide +kernel
theorem dX5_hasPlaces_26 : decode cX5_hasPlaces 26 = .ok (.iconst 1, 1) := by decide +kernel
theorem dX5_hasPlaces_27 : decode cX5_hasPlaces 27 = .ok (.goto 4, 3) := by decide +kernel
theorem dX5_hasPlaces_30 : decode cX5_hasPlaces 30 = .ok (.iconst 0, 1) := by decide +kernel
theorem dX5_hasPlaces_31 : decode cX5_hasPlaces 31 = .ok (.ireturn, 1) := by decide +kernel
theorem dX5_put_0 : decode cX5_put 0 = .ok (.aload_n 0, 1) := by decide +kernel
theorem dX5_put_1 : decode cX5_put 1 = .ok (.getfield 15, 3) := by decide +kernel
theorem dX5_put_4 : decode cX5_put 4 = .ok (.ifCond .ne 8, 3) := by decide +kernel
theorem dX5_put_7 : decode cX5_put 7 = .ok (.iload_n 2, 1) := by decide +kernel
theorem dX5_put_8 : decode cX5_put 8 = .ok (.i2b, 1) := by decide +kernel
theorem dX5_put_9 : decode cX5_put 9 = .ok (.goto 17, 3) := by decide +kernel
theorem dX5_put_12 : decode cX5_put 12 = .ok (.aload_n 0, 1) := by decide +kernel
theorem dX5_put_13 : decode cX5_put 13 = .ok (.getfield 15, 3) := by decide +kernel
theorem dX5_put_16 : decode cX5_put 16 = .ok (.iconst 1, 1) := by decide +kernel
theorem dX5_put_17 : decode cX5_put 17 = .ok (.if_icmp .ne 8, 3) := by decide +kernel
theorem dX5_put_20 : decode cX5_put 20 = .ok (.iload_n 2, 1) := by decide +kernel
theorem dX5_put_21 : decode cX5_put 21 = .ok (.i2s, 1) := by decide +kernel
theorem dX5_put_22 : decode cX5_put 22 = .ok (.goto 4, 3) := by decide +kernel
theorem dX5_put_25 : decode cX5_put 25 = .ok (.iload_n 2, 1) := by decide +kernel
theorem dX5_put_26 : decode cX5_put 26 = .ok (.istore_n 3, 1) := by decide +kernel
theorem dX5_put_27 : decode cX5_put 27 = .ok (.aload_n 0, 1) := by decide +kernel
theorem dX5_put_28 : decode cX5_put 28 = .ok (.getfield 9, 3) := by decide +kernel
theorem dX5_put_31 : decode cX5_put 31 = .ok (.iload_n 1, 1) := by decide +kernel
theorem dX5_put_32 : decode cX5_put 32 = .ok (.iload_n 3, 1) := by decide +kernel
theorem dX5_put_33 : decode cX5_put 33 = .ok (.iastore, 1) := by decide +kernel
theorem dX5_put_34 : decode cX5_put 34 = .ok (.iload_n 3, 1) := by decide +kernel
theorem dX5_put_35 : decode cX5_put 35 = .ok (.ireturn, 1) := by decide +kernel
theorem dX6_init_0 : decode cX6_init 0 = .ok (.aload_n 0, 1) := by decide +kernel
theorem dX6_init_1 : decode cX6_init 1 = .ok (.invokespecial 3, 3) := by decide +kernel
theorem dX6_init_4 : decode cX6_init 4 = .ok (.aload_n 0, 1) := by decide +kernel
theorem dX6_init_5 : decode cX6_init 5 = .ok (.bipush 7, 2) := by decide +kernel
theorem dX6_init_7 : decode cX6_init 7 = .ok (.newarray .int, 2) := by decide +kernel
theorem dX6_init_9 : decode cX6_init 9 = .ok (.putfield 9, 3) := by decide +kernel
theorem dX6_init_12 : decode cX6_init 12 = .ok (.aload_n 0, 1) := by decide +kernel
theorem dX6_init_13 : decode cX6_init 13 = .ok (.iconst 0, 1) := by decide +kernel
theorem dX6_init_14 : decode cX6_init 14 = .ok (.putfield 15, 3) := by decide +kernel
theorem dX6_init_17 : decode cX6_init 17 = .ok (.return_, 1) := by decide +kernel
theorem dX6_arrange_0 : decode cX6_arrange 0 = .ok (.bipush 7, 2) := by decide +kernel
theorem dX6_arrange_2 : decode cX6_arrange 2 = .ok (.aload_n 1, 1) := by decide +kernel
theorem dX6_arrange_3 : decode cX6_arrange 3 = .ok (.getfield 19, 3) := by decide +kernel
theorem dX6_arrange_6 : decode cX6_arrange 6 = .ok (.iload_n 2, 1) := by decide +kernel
theorem dX6_arrange_7 : decode cX6_arrange 7 = .ok (.iaload, 1) := by decide +kernel
theorem dX6_arrange_8 : decode cX6_arrange 8 = .ok (.invokestatic 24, 3) := by decide +kernel
theorem dX6_arrange_11 : decode cX6_arrange 11 = .ok (.istore 4, 2) := by decide +kernel
theorem dX6_arrange_13 : decode cX6_arrange 13 = .ok (.iconst 0, 1) := by decide +kernel
theorem dX6_arrange_14 : decode cX6_arrange 14 = .ok (.iload_n 3, 1) := by decide +kernel
theorem dX6_arrange_15 : decode cX6_arrange 15 = .ok (.iload 4, 2) := by decide +kernel
theorem dX6_arrange_17 : decode cX6_arrange 17 = .ok (.aload_n 1, 1) := by decide +kernel
theorem dX6_arrange_18 : decode cX6_arrange 18 = .ok (.getfield 30, 3) := by decide +kernel
theorem dX6_arrange_21 : decode cX6_arrange 21 = .ok (.iload_n 2, 1) := by decide +kernel
theorem dX6_arrange_22 : decode cX6_arrange 22 = .ok (.iaload, 1) := by decide +kernel
theorem dX6_arrange_23 : decode cX6_arrange 23 = .ok (.isub, 1) := by decide +kernel
theorem dX6_arrange_24 : decode cX6_arrange 24 = .ok (.invokestatic 24, 3) := by decide +kernel
theorem dX6_arrange_27 : decode cX6_arrange 27 = .ok (.invokestatic 33, 3) := by decide +kernel
theorem dX6_arrange_30 : decode cX6_arrange 30 = .ok (.istore 5, 2) := by decide +kernel
theorem dX6_arrange_32 : decode cX6_arrange 32 = .ok (.aload_n 1, 1) := by decide +kernel
theorem dX6_arrange_33 : decode cX6_arrange 33 = .ok (.iload_n 2, 1) := by decide +kernel
theorem dX6_arrange_34 : decode cX6_arrange 34 = .ok (.invokevirtual 36, 3) := by decide +kernel
theorem dX6_arrange_37 : decode cX6_arrange 37 = .ok (.istore 6, 2) := by decide +kernel
theorem dX6_arrange_39 : decode cX6_arrange 39 = .ok (.aload_n 0, 1) := by decide +kernel
theorem dX6_arrange_40 : decode cX6_arrange 40 = .ok (.aload_n 0, 1) := by decide +kernel
theorem dX6_arrange_41 : decode cX6_arrange 41 = .ok (.aload_n 1, 1) := by decide +kernel
theorem dX6_arrange_42 : decode cX6_arrange 42 = .ok (.iconst 0, 1) := by decide +kernel
theorem dX6_arrange_43 : decode cX6_arrange 43 = .ok (.iload 6, 2) := by decide +kernel
theorem dX6_arrange_45 : decode cX6_arrange 45 = .ok (.iload 5, 2) := by decide +kernel
theorem dX6_arrange_47 : decode cX6_arrange 47 = .ok (.invokevirtual 40, 3) := by decide +kernel
theorem dX6_arrange_50 : decode cX6_arrange 50 = .ok (.putfield 15, 3) := by decide +kernel
theorem dX6_arrange_53 : decode cX6_arrange 53 = .ok (.iconst 0, 1) := by decide +kernel
theorem dX6_arrange_54 : decode cX6_arrange 54 = .ok (.istore 7, 2) := by decide +kernel
theorem dX6_arrange_56 : decode cX6_arrange 56 = .ok (.iload 7, 2) := by decide +kernel
theorem dX6_arrange_58 : decode cX6_arrange 58 = .ok (.iload 4, 2) := by decide +kernel
theorem dX6_arrange_60 : decode cX6_arrange 60 = .ok (.if_icmp .ge 43, 3) := by decide +kernel
theorem dX6_arrange_63 : decode cX6_arrange 63 = .ok (.aload_n 0, 1) := by decide +kernel
theorem dX6_arrange_64 : decode cX6_arrange 64 = .ok (.getfield 9, 3) := by decide +kernel
theorem dX6_arrange_67 : decode cX6_arrange 67 = .ok (.iload 7, 2) := by decide +kernel
theorem dX6_arrange_69 : decode cX6_arrange 69 = .ok (.aload_n 0, 1) := by decide +kernel
theorem dX6_arrange_70 : decode cX6_arrange 70 = .ok (.aload_n 1, 1) := by decide +kernel
theorem dX6_arrange_71 : decode cX6_arrange 71 = .ok (.iload 7, 2) := by decide +kernel
theorem dX6_arrange_73 : decode cX6_arrange 73 = .ok (.iload 6, 2) := by decide +kernel
theorem dX6_arrange_75 : decode cX6_arrange 75 = .ok (.iload 5, 2) := by decide +kernel
theorem dX6_arrange_77 : decode cX6_arrange 77 = .ok (.invokevirtual 44, 3) := by decide +kernel
theorem dX6_arrange_80 : decode cX6_arrange 80 = .ok (.iastore, 1) := by decide +kernel
theorem dX6_arrange_81 : decode cX6_arrange 81 = .ok (.iload 6, 2) := by decide +kernel
theorem dX6_arrange_83 : decode cX6_arrange 83 = .ok (.iconst 1, 1) := by decide +kernel
theorem dX6_arrange_84 : decode cX6_arrange 84 = .ok (.aload_n 0, 1) := by decide +kernel
theorem dX6_arrange_85 : decode cX6_arrange 85 = .ok (.getfield 9, 3) := by decide +kernel
theorem dX6_arrange_88 : decode cX6_arrange 88 = .ok (.iload 7, 2) := by decide +kernel
theorem dX6_arrange_90 : decode cX6_arrange 90 = .ok (.iaload, 1) := by decide +kernel
theorem dX6_arrange_91 : decode cX6_arrange 91 = .ok (.ishl, 1) := by decide +kernel
theorem dX6_arrange_92 : decode cX6_arrange 92 = .ok (.iconst (-1), 1) := by decide +kernel
theorem dX6_arrange_93 : decode cX6_arrange 93 = .ok (.ixor, 1) := by decide +kernel
theorem dX6_arrange_94 : decode cX6_arrange 94 = .ok (.iand, 1) := by decide +kernel
theorem dX6_arrange_95 : decode cX6_arrange 95 = .ok (.istore 6, 2) := by decide +kernel
theorem dX6_arrange_97 : decode cX6_arrange 97 = .ok (.iinc 7 1, 3) := by decide +kernel
theorem dX6_arrange_100 : decode cX6_arrange 100 = .ok (.goto (-44), 3) := by decide +kernel
theorem dX6_arrange_103 : decode cX6_arrange 103 = .ok (.return_, 1) := by decide +kernel
theorem dX6_firstThatKeepsLost_0 : decode cX6_firstThatKeepsLost 0 = .ok (.iconst 0, 1) := by decide +kernel
theorem dX6_firstThatKeepsLost_1 : decode cX6_firstThatKeepsLost 1 = .ok (.istore 5, 2) := by decide +kernel
theorem dX6_firstThatKeepsLost_3 : decode cX6_firstThatKeepsLost 3 = .ok (.iload 5, 2) := by decide +kernel
theorem dX6_firstThatKeepsLost_5 : decode cX6_firstThatKeepsLost 5 = .ok (.aload_n 1, 1) := by decide +kernel
theorem dX6_firstThatKeepsLost_6 : decode cX6_firstThatKeepsLost 6 = .ok (.getfield 47, 3) := by decide +kernel
theorem dX6_firstThatKeepsLost_9 : decode cX6_firstThatKeepsLost 9 = .ok (.if_icmp .ge 54, 3) := by decide +kernel
theorem dX6_firstThatKeepsLost_12 : decode cX6_firstThatKeepsLost 12 = .ok (.iload_n 3, 1) := by decide +kernel
theorem dX6_firstThatKeepsLost_13 : decode cX6_firstThatKeepsLost 13 = .ok (.iload 5, 2) := by decide +kernel
theorem dX6_firstThatKeepsLost_15 : decode cX6_firstThatKeepsLost 15 = .ok (.ishr, 1) := by decide +kernel
theorem dX6_firstThatKeepsLost_16 : decode cX6_firstThatKeepsLost 16 = .ok (.iconst 1, 1) := by decide +kernel
theorem dX6_firstThatKeepsLost_17 : decode cX6_firstThatKeepsLost 17 = .ok (.iand, 1) := by decide +kernel
theorem dX6_firstThatKeepsLost_18 : decode cX6_firstThatKeepsLost 18 = .ok (.ifCond .eq 39, 3) := by decide +kernel
theorem dX6_firstThatKeepsLost_21 : decode cX6_firstThatKeepsLost 21 = .ok (.aload_n 0, 1) := by decide +kernel
theorem dX6_firstThatKeepsLost_22 : decode cX6_firstThatKeepsLost 22 = .ok (.getfield 9, 3) := by decide +kernel
theorem dX6_firstThatKeepsLost_25 : decode cX6_firstThatKeepsLost 25 = .ok (.iload_n 2, 1) := by decide +kernel
theorem dX6_firstThatKeepsLost_26 : decode cX6_firstThatKeepsLost 26 = .ok (.iload 5, 2) := by decide +kernel
theorem dX6_firstThatKeepsLost_28 : decode cX6_firstThatKeepsLost 28 = .ok (.iastore, 1) := by decide +kernel
theorem dX6_firstThatKeepsLost_29 : decode cX6_firstThatKeepsLost 29 = .ok (.aload_n 0, 1) := by decide +kernel
theorem dX6_firstThatKeepsLost_30 : decode cX6_firstThatKeepsLost 30 = .ok (.aload_n 1, 1) := by decide +kernel
theorem dX6_firstThatKeepsLost_31 : decode cX6_firstThatKeepsLost 31 = .ok (.iload_n 2, 1) := by decide +kernel
theorem dX6_firstThatKeepsLost_32 : decode cX6_firstThatKeepsLost 32 = .ok (.iconst 1, 1) := by decide +kernel
theorem dX6_firstThatKeepsLost_33 : decode cX6_firstThatKeepsLost 33 = .ok (.iadd, 1) := by decide +kernel
theorem dX6_firstThatKeepsLost_34 : decode cX6_firstThatKeepsLost 34 = .ok (.iload_n 3, 1) := by decide +kernel
theorem dX6_firstThatKeepsLost_35 : decode cX6_firstThatKeepsLost 35 = .ok (.iconst 1, 1) := by decide +kernel
theorem dX6_firstThatKeepsLost_36 : decode cX6_firstThatKeepsLost 36 = .ok (.iload 5, 2) := by decide +kernel
theorem dX6_firstThatKeepsLost_38 : decode cX6_firstThatKeepsLost 38 = .ok (.ishl, 1) := by decide +kernel
theorem dX6_firstThatKeepsLost_39 : decode cX6_firstThatKeepsLost 39 = .ok (.iconst (-1), 1) := by decide +kernel
theorem dX6_firstThatKeepsLost_40 : decode cX6_firstThatKeepsLost 40 = .ok (.ixor, 1) := by decide +kernel
theorem dX6_firstThatKeepsLost_41 : decode cX6_firstThatKeepsLost 41 = .ok (.iand, 1) := by decide +kernel
theorem dX6_firstThatKeepsLost_42 : decode cX6_firstThatKeepsLost 42 = .ok (.iload 4, 2) := by decide +kernel
theorem dX6_firstThatKeepsLost_44 : decode cX6_firstThatKeepsLost 44 = .ok (.invokevirtual 40, 3) := by decide +kernel
theorem dX6_firstThatKeepsLost_47 : decode cX6_firstThatKeepsLost 47 = .ok (.aload_n 0, 1) := by decide +kernel
theorem dX6_firstThatKeepsLost_48 : decode cX6_firstThatKeepsLost 48 = .ok (.getfield 15, 3) := by decide +kernel
theorem dX6_firstThatKeepsLost_51 : decode cX6_firstThatKeepsLost 51 = .ok (.if_icmp .ne 6, 3) := by decide +kernel
theorem dX6_firstThatKeepsLost_54 : decode cX6_firstThatKeepsLost 54 = .ok (.iload 5, 2) := by decide +kernel
theorem dX6_firstThatKeepsLost_56 : decode cX6_firstThatKeepsLost 56 = .ok (.ireturn, 1) := by decide +kernel
theorem dX6_firstThatKeepsLost_57 : decode cX6_firstThatKeepsLost 57 = .ok (.iinc 5 1, 3) := by decide +kernel
theorem dX6_firstThatKeepsLost_60 : decode cX6_firstThatKeepsLost 60 = .ok (.goto (-57), 3) := by decide +kernel
theorem dX6_firstThatKeepsLost_63 : decode cX6_firstThatKeepsLost 63 = .ok (.iconst 0, 1) := by decide +kernel
theorem dX6_firstThatKeepsLost_64 : decode cX6_firstThatKeepsLost 64 = .ok (.ireturn, 1) := by decide +kernel
theorem dX6_leastLost_0 : decode cX6_leastLost 0 = .ok (.iconst 0, 1) := by decide +kernel
theorem dX6_leastLost_1 : decode cX6_leastLost 1 = .ok (.istore 5, 2) := by decide +kernel
theorem dX6_leastLost_3 : decode cX6_leastLost 3 = .ok (.iload_n 3, 1) := by decide +kernel
theorem dX6_leastLost_4 : decode cX6_leastLost 4 = .ok (.istore 6, 2) := by decide +kernel
theorem dX6_leastLost_6 : decode cX6_leastLost 6 = .ok (.iconst 0, 1) := by decide +kernel
theorem dX6_leastLost_7 : decode cX6_leastLost 7 = .ok (.istore 7, 2) := by decide +kernel
theorem dX6_leastLost_9 : decode cX6_leastLost 9 = .ok (.iload 7, 2) := by decide +kernel
theorem dX6_leastLost_11 : decode cX6_leastLost 11 = .ok (.iload 4, 2) := by decide +kernel
theorem dX6_leastLost_13 : decode cX6_leastLost 13 = .ok (.if_icmp .ge 58, 3) := by decide +kernel
theorem dX6_leastLost_16 : decode cX6_leastLost 16 = .ok (.iload 6, 2) := by decide +kernel
theorem dX6_leastLost_18 : decode cX6_leastLost 18 = .ok (.ifCond .eq 53, 3) := by decide +kernel
theorem dX6_leastLost_21 : decode cX6_leastLost 21 = .ok (.aload_n 1, 1) := by decide +kernel
theorem dX6_leastLost_22 : decode cX6_leastLost 22 = .ok (.iload 6, 2) := by decide +kernel
theorem dX6_leastLost_24 : decode cX6_leastLost 24 = .ok (.invokestatic 50, 3) := by decide +kernel
theorem dX6_leastLost_27 : decode cX6_leastLost 27 = .ok (.istore 8, 2) := by decide +kernel
theorem dX6_leastLost_29 : decode cX6_leastLost 29 = .ok (.aload_n 1, 1) := by decide +kernel
theorem dX6_leastLost_30 : decode cX6_leastLost 30 = .ok (.getfield 54, 3) := by decide +kernel
theorem dX6_leastLost_33 : decode cX6_leastLost 33 = .ok (.iload 8, 2) := by decide +kernel
theorem dX6_leastLost_35 : decode cX6_leastLost 35 = .ok (.iaload, 1) := by decide +kernel
theorem dX6_leastLost_36 : decode cX6_leastLost 36 = .ok (.iconst 5, 1) := by decide +kernel
theorem dX6_leastLost_37 : decode cX6_leastLost 37 = .ok (.if_icmp .ne 5, 3) := by decide +kernel
theorem dX6_leastLost_40 : decode cX6_leastLost 40 = .ok (.iconst 0, 1) := by decide +kernel
theorem dX6_leastLost_41 : decode cX6_leastLost 41 = .ok (.ireturn, 1) := by decide +kernel
theorem dX6_leastLost_42 : decode cX6_leastLost 42 = .ok (.iload 5, 2) := by decide +kernel
theorem dX6_leastLost_44 : decode cX6_leastLost 44 = .ok (.aload_n 1, 1) := by decide +kernel
theorem dX6_leastLost_45 : decode cX6_leastLost 45 = .ok (.getfield 57, 3) := by decide +kernel
theorem dX6_leastLost_48 : decode cX6_leastLost 48 = .ok (.iload 8, 2) := by decide +kernel
theorem dX6_leastLost_50 : decode cX6_leastLost 50 = .ok (.iaload, 1) := by decide +kernel
theorem dX6_leastLost_51 : decode cX6_leastLost 51 = .ok (.iadd, 1) := by decide +kernel
theorem dX6_leastLost_52 : decode cX6_leastLost 52 = .ok (.istore 5, 2) := by decide +kernel
theorem dX6_leastLost_54 : decode cX6_leastLost 54 = .ok (.iload 6, 2) := by decide +kernel
theorem dX6_leastLost_56 : decode cX6_leastLost 56 = .ok (.iconst 1, 1) := by decide +kernel
theorem dX6_leastLost_57 : decode cX6_leastLost 57 = .ok (.iload 8, 2) := by decide +kernel
theorem dX6_leastLost_59 : decode cX6_leastLost 59 = .ok (.ishl, 1) := by decide +kernel
theorem dX6_leastLost_60 : decode cX6_leastLost 60 = .ok (.iconst (-1), 1) := by decide +kernel
theorem dX6_leastLost_61 : decode cX6_leastLost 61 = .ok (.ixor, 1) := by decide +kernel
theorem dX6_leastLost_62 : decode cX6_leastLost 62 = .ok (.iand, 1) := by decide +kernel
theorem dX6_leastLost_63 : decode cX6_leastLost 63 = .ok (.istore 6, 2) := by decide +kernel
theorem dX6_leastLost_65 : decode cX6_leastLost 65 = .ok (.iinc 7 1, 3) := by decide +kernel
theorem dX6_leastLost_68 : decode cX6_leastLost 68 = .ok (.goto (-59), 3) := by decide +kernel
theorem dX6_leastLost_71 : decode cX6_leastLost 71 = .ok (.iload_n 2, 1) := by decide +kernel
theorem dX6_leastLost_72 : decode cX6_leastLost 72 = .ok (.iconst 1, 1) := by decide +kernel
theorem dX6_leastLost_73 : decode cX6_leastLost 73 = .ok (.isub, 1) := by decide +kernel
theorem dX6_leastLost_74 : decode cX6_leastLost 74 = .ok (.istore 8, 2) := by decide +kernel
theorem dX6_leastLost_76 : decode cX6_leastLost 76 = .ok (.iload 8, 2) := by decide +kernel
theorem dX6_leastLost_78 : decode cX6_leastLost 78 = .ok (.ifCond .lt 55, 3) := by decide +kernel
theorem dX6_leastLost_81 : decode cX6_leastLost 81 = .ok (.iload 7, 2) := by decide +kernel
theorem dX6_leastLost_83 : decode cX6_leastLost 83 = .ok (.iload 4, 2) := by decide +kernel
theorem dX6_leastLost_85 : decode cX6_leastLost 85 = .ok (.if_icmp .ge 48, 3) := by decide +kernel
theorem dX6_leastLost_88 : decode cX6_leastLost 88 = .ok (.aload_n 1, 1) := by decide +kernel
theorem dX6_leastLost_89 : decode cX6_leastLost 89 = .ok (.getfield 54, 3) := by decide +kernel
theorem dX6_leastLost_92 : decode cX6_leastLost 92 = .ok (.aload_n 0, 1) := by decide +kernel
theorem dX6_leastLost_93 : decode cX6_leastLost 93 = .ok (.getfield 9, 3) := by decide +kernel
theorem dX6_leastLost_96 : decode cX6_leastLost 96 = .ok (.iload 8, 2) := by decide +kernel
theorem dX6_leastLost_98 : decode cX6_leastLost 98 = .ok (.iaload, 1) := by decide +kernel
theorem dX6_leastLost_99 : decode cX6_leastLost 99 = .ok (.iaload, 1) := by decide +kernel
theorem dX6_leastLost_100 : decode cX6_leastLost 100 = .ok (.iconst 5, 1) := by decide +kernel
theorem dX6_leastLost_101 : decode cX6_leastLost 101 = .ok (.if_icmp .ne 6, 3) := by decide +kernel
theorem dX6_leastLost_104 : decode cX6_leastLost 104 = .ok (.iload 5, 2) := by decide +kernel
theorem dX6_leastLost_106 : decode cX6_leastLost 106 = .ok (.ireturn, 1) := by decide +kernel
theorem dX6_leastLost_107 : decode cX6_leastLost 107 = .ok (.iload 5, 2) := by decide +kernel
theorem dX6_leastLost_109 : decode cX6_leastLost 109 = .ok (.aload_n 1, 1) := by decide +kernel
theorem dX6_leastLost_110 : decode cX6_leastLost 110 = .ok (.getfield 57, 3) := by decide +kernel
theorem dX6_leastLost_113 : decode cX6_leastLost 113 = .ok (.aload_n 0, 1) := by decide +kernel
theorem dX6_leastLost_114 : decode cX6_leastLost 114 = .ok (.getfield 9, 3) := by decide +kernel
theorem dX6_leastLost_117 : decode cX6_leastLost 117 = .ok (.iload 8, 2) := by decide +kernel
theorem dX6_leastLost_119 : decode cX6_leastLost 119 = .ok (.iaload, 1) := by decide +kernel
theorem dX6_leastLost_120 : decode cX6_leastLost 120 = .ok (.iaload, 1) := by decide +kernel
theorem dX6_leastLost_121 : decode cX6_leastLost 121 = .ok (.iadd, 1) := by decide +kernel
theorem dX6_leastLost_122 : decode cX6_leastLost 122 = .ok (.istore 5, 2) := by decide +kernel
theorem dX6_leastLost_124 : decode cX6_leastLost 124 = .ok (.iinc 7 1, 3) := by decide +kernel
theorem dX6_leastLost_127 : decode cX6_leastLost 127 = .ok (.iinc 8 (-1), 3) := by decide +kernel
theorem dX6_leastLost_130 : decode cX6_leastLost 130 = .ok (.goto (-54), 3) := by decide +kernel
theorem dX6_leastLost_133 : decode cX6_leastLost 133 = .ok (.iload 5, 2) := by decide +kernel
theorem dX6_leastLost_135 : decode cX6_leastLost 135 = .ok (.ireturn, 1) := by decide +kernel
theorem dX6_cheapest_0 : decode cX6_cheapest 0 = .ok (.iconst (-1), 1) := by decide +kernel
theorem dX6_cheapest_1 : decode cX6_cheapest 1 = .ok (.istore_n 2, 1) := by decide +kernel
theorem dX6_cheapest_2 : decode cX6_cheapest 2 = .ok (.iconst 0, 1) := by decide +kernel
theorem dX6_cheapest_3 : decode cX6_cheapest 3 = .ok (.istore_n 3, 1) := by decide +kernel
theorem dX6_cheapest_4 : decode cX6_cheapest 4 = .ok (.iload_n 3, 1) := by decide +kernel
theorem dX6_cheapest_5 : decode cX6_cheapest 5 = .ok (.aload_n 0, 1) := by decide +kernel
theorem dX6_cheapest_6 : decode cX6_cheapest 6 = .ok (.getfield 47, 3) := by decide +kernel
theorem dX6_cheapest_9 : decode cX6_cheapest 9 = .ok (.if_icmp .ge 50, 3) := by decide +kernel
theorem dX6_cheapest_12 : decode cX6_cheapest 12 = .ok (.iload_n 1, 1) := by decide +kernel
theorem dX6_cheapest_13 : decode cX6_cheapest 13 = .ok (.iload_n 3, 1) := by decide +kernel
theorem dX6_cheapest_14 : decode cX6_cheapest 14 = .ok (.ishr, 1) := by decide +kernel
theorem dX6_cheapest_15 : decode cX6_cheapest 15 = .ok (.iconst 1, 1) := by decide +kernel
theorem dX6_cheapest_16 : decode cX6_cheapest 16 = .ok (.iand, 1) := by decide +kernel
theorem dX6_cheapest_17 : decode cX6_cheapest 17 = .ok (.ifCond .eq 36, 3) := by decide +kernel
theorem dX6_cheapest_20 : decode cX6_cheapest 20 = .ok (.aload_n 0, 1) := by decide +kernel
theorem dX6_cheapest_21 : decode cX6_cheapest 21 = .ok (.getfield 54, 3) := by decide +kernel
theorem dX6_cheapest_24 : decode cX6_cheapest 24 = .ok (.iload_n 3, 1) := by decide +kernel
theorem dX6_cheapest_25 : decode cX6_cheapest 25 = .ok (.iaload, 1) := by decide +kernel
theorem dX6_cheapest_26 : decode cX6_cheapest 26 = .ok (.iconst 5, 1) := by decide +kernel
theorem dX6_cheapest_27 : decode cX6_cheapest 27 = .ok (.if_icmp .ne 5, 3) := by decide +kernel
theorem dX6_cheapest_30 : decode cX6_cheapest 30 = .ok (.iload_n 3, 1) := by decide +kernel
theorem dX6_cheapest_31 : decode cX6_cheapest 31 = .ok (.ireturn, 1) := by decide +kernel
theorem dX6_cheapest_32 : decode cX6_cheapest 32 = .ok (.iload_n 2, 1) := by decide +kernel
theorem dX6_cheapest_33 : decode cX6_cheapest 33 = .ok (.ifCond .lt 18, 3) := by decide +kernel
theorem dX6_cheapest_36 : decode cX6_cheapest 36 = .ok (.aload_n 0, 1) := by decide +kernel
theorem dX6_cheapest_37 : decode cX6_cheapest 37 = .ok (.getfield 57, 3) := by decide +kernel
theorem dX6_cheapest_40 : decode cX6_cheapest 40 = .ok (.iload_n 3, 1) := by decide +kernel
theorem dX6_cheapest_41 : decode cX6_cheapest 41 = .ok (.iaload, 1) := by decide +kernel
theorem dX6_cheapest_42 : decode cX6_cheapest 42 = .ok (.aload_n 0, 1) := by decide +kernel
theorem dX6_cheapest_43 : decode cX6_cheapest 43 = .ok (.getfield 57, 3) := by decide +kernel
theorem dX6_cheapest_46 : decode cX6_cheapest 46 = .ok (.iload_n 2, 1) := by decide +kernel
theorem dX6_cheapest_47 : decode cX6_cheapest 47 = .ok (.iaload, 1) := by decide +kernel
theorem dX6_cheapest_48 : decode cX6_cheapest 48 = .ok (.if_icmp .ge 5, 3) := by decide +kernel
theorem dX6_cheapest_51 : decode cX6_cheapest 51 = .ok (.iload_n 3, 1) := by decide +kernel
theorem dX6_cheapest_52 : decode cX6_cheapest 52 = .ok (.istore_n 2, 1) := by decide +kernel
theorem dX6_cheapest_53 : decode cX6_cheapest 53 = .ok (.iinc 3 1, 3) := by decide +kernel
theorem dX6_cheapest_56 : decode cX6_cheapest 56 = .ok (.goto (-52), 3) := by decide +kernel
theorem dX6_cheapest_59 : decode cX6_cheapest 59 = .ok (.iconst 0, 1) := by decide +kernel
theorem dX6_cheapest_60 : decode cX6_cheapest 60 = .ok (.iload_n 2, 1) := by decide +kernel
theorem dX6_cheapest_61 : decode cX6_cheapest 61 = .ok (.invokestatic 33, 3) := by decide +kernel
theorem dX6_cheapest_64 : decode cX6_cheapest 64 = .ok (.ireturn, 1) := by decide +kernel
theorem dX7_init_0 : decode cX7_init 0 = .ok (.aload_n 0, 1) := by decide +kernel
theorem dX7_init_1 : decode cX7_init 1 = .ok (.invokespecial 3, 3) := by decide +kernel
theorem dX7_init_4 : decode cX7_init 4 = .ok (.aload_n 0, 1) := by decide +kernel
theorem dX7_init_5 : decode cX7_init 5 = .ok (.sipush 500, 3) := by decide +kernel
theorem dX7_init_8 : decode cX7_init 8 = .ok (.newarray .byte, 2) := by decide +kernel
theorem dX7_init_10 : decode cX7_init 10 = .ok (.putfield 9, 3) := by decide +kernel
theorem dX7_init_13 : decode cX7_init 13 = .ok (.aload_n 0, 1) := by decide +kernel
theorem dX7_init_14 : decode cX7_init 14 = .ok (.iconst 0, 1) := by decide +kernel
theorem dX7_init_15 : decode cX7_init 15 = .ok (.putfield 15, 3) := by decide +kernel
theorem dX7_init_18 : decode cX7_init 18 = .ok (.return_, 1) := by decide +kernel
theorem dX7_hasRoom_0 : decode cX7_hasRoom 0 = .ok (.iload_n 1, 1) := by decide +kernel
theorem dX7_hasRoom_1 : decode cX7_hasRoom 1 = .ok (.sipush 500, 3) := by decide +kernel
theorem dX7_hasRoom_4 : decode cX7_hasRoom 4 = .ok (.aload_n 0, 1) := by decide +kernel
theorem dX7_hasRoom_5 : decode cX7_hasRoom 5 = .ok (.getfield 15, 3) := by decide +kernel
theorem dX7_hasRoom_8 : decode cX7_hasRoom 8 = .ok (.isub, 1) := by decide +kernel
theorem dX7_hasRoom_9 : decode cX7_hasRoom 9 = .ok (.if_icmp .gt 7, 3) := by decide +kernel
theorem dX7_hasRoom_12 : decode cX7_hasRoom 12 = .ok (.iconst 1, 1) := by decide +kernel
theorem dX7_hasRoom_13 : decode cX7_hasRoom 13 = .ok (.goto 4, 3) := by decide +kernel
theorem dX7_hasRoom_16 : decode cX7_hasRoom 16 = .ok (.iconst 0, 1) := by decide +kernel
theorem dX7_hasRoom_17 : decode cX7_hasRoom 17 = .ok (.ireturn, 1) := by decide +kernel
theorem dX7_join_0 : decode cX7_join 0 = .ok (.iload_n 3, 1) := by decide +kernel
theorem dX7_join_1 : decode cX7_join 1 = .ok (.iconst 1, 1) := by decide +kernel
theorem dX7_join_2 : decode cX7_join 2 = .ok (.isub, 1) := by decide +kernel
theorem dX7_join_3 : decode cX7_join 3 = .ok (.istore 4, 2) := by decide +kernel
theorem dX7_join_5 : decode cX7_join 5 = .ok (.iload 4, 2) := by decide +kernel
theorem dX7_join_7 : decode cX7_join 7 = .ok (.ifCond .lt 37, 3) := by decide +kernel
theorem dX7_join_10 : decode cX7_join 10 = .ok (.aload_n 0, 1) := by decide +kernel
theorem dX7_join_11 : decode cX7_join 11 = .ok (.getfield 9, 3) := by decide +kernel
theorem dX7_join_14 : decode cX7_join 14 = .ok (.aload_n 0, 1) := by decide +kernel
theorem dX7_join_15 : decode cX7_join 15 = .ok (.getfield 15, 3) := by decide +kernel
theorem dX7_join_18 : decode cX7_join 18 = .ok (.lload_n 1, 1) := by decide +kernel
theorem dX7_join_19 : decode cX7_join 19 = .ok (.bipush 8, 2) := by decide +kernel
theorem dX7_join_21 : decode cX7_join 21 = .ok (.iload 4, 2) := by decide +kernel
theorem dX7_join_23 : decode cX7_join 23 = .ok (.imul, 1) := by decide +kernel
theorem dX7_join_24 : decode cX7_join 24 = .ok (.lshr, 1) := by decide +kernel
theorem dX7_join_25 : decode cX7_join 25 = .ok (.l2i, 1) := by decide +kernel
theorem dX7_join_26 : decode cX7_join 26 = .ok (.i2b, 1) := by decide +kernel
theorem dX7_join_27 : decode cX7_join 27 = .ok (.bastore, 1) := by decide +kernel
theorem dX7_join_28 : decode cX7_join 28 = .ok (.aload_n 0, 1) := by decide +kernel
theorem dX7_join_29 : decode cX7_join 29 = .ok (.dup, 1) := by decide +kernel
theorem dX7_join_30 : decode cX7_join 30 = .ok (.getfield 15, 3) := by decide +kernel
theorem dX7_join_33 : decode cX7_join 33 = .ok (.iconst 1, 1) := by decide +kernel
theorem dX7_join_34 : decode cX7_join 34 = .ok (.iadd, 1) := by decide +kernel
theorem dX7_join_35 : decode cX7_join 35 = .ok (.putfield 15, 3) := by decide +kernel
theorem dX7_join_38 : decode cX7_join 38 = .ok (.iinc 4 (-1), 3) := by decide +kernel
theorem dX7_join_41 : decode cX7_join 41 = .ok (.goto (-36), 3) := by decide +kernel
theorem dX7_join_44 : decode cX7_join 44 = .ok (.return_, 1) := by decide +kernel
theorem dX7_at_0 : decode cX7_at 0 = .ok (.iload_n 1, 1) := by decide +kernel
theorem dX7_at_1 : decode cX7_at 1 = .ok (.ifCond .lt 20, 3) := by decide +kernel
theorem dX7_at_4 : decode cX7_at 4 = .ok (.iload_n 1, 1) := by decide +kernel
theorem dX7_at_5 : decode cX7_at 5 = .ok (.aload_n 0, 1) := by decide +kernel
theorem dX7_at_6 : decode cX7_at 6 = .ok (.getfield 15, 3) := by decide +kernel
theorem dX7_at_9 : decode cX7_at 9 = .ok (.if_icmp .ge 12, 3) := by decide +kernel
theorem dX7_at_12 : decode cX7_at 12 = .ok (.aload_n 0, 1) := by decide +kernel
theorem dX7_at_13 : decode cX7_at 13 = .ok (.getfield 9, 3) := by decide +kernel
theorem dX7_at_16 : decode cX7_at 16 = .ok (.iload_n 1, 1) := by decide +kernel
theorem dX7_at_17 : decode cX7_at 17 = .ok (.baload, 1) := by decide +kernel
theorem dX7_at_18 : decode cX7_at 18 = .ok (.goto 5, 3) := by decide +kernel
theorem dX7_at_21 : decode cX7_at 21 = .ok (.bipush 32, 2) := by decide +kernel
theorem dX7_at_23 : decode cX7_at 23 = .ok (.ireturn, 1) := by decide +kernel
theorem dX8_init_0 : decode cX8_init 0 = .ok (.aload_n 0, 1) := by decide +kernel
theorem dX8_init_1 : decode cX8_init 1 = .ok (.invokespecial 1, 3) := by decide +kernel
theorem dX8_init_4 : decode cX8_init 4 = .ok (.aload_n 0, 1) := by decide +kernel
theorem dX8_init_5 : decode cX8_init 5 = .ok (.bipush 8, 2) := by decide +kernel
theorem dX8_init_7 : decode cX8_init 7 = .ok (.anewarray 9, 3) := by decide +kernel
theorem dX8_init_10 : decode cX8_init 10 = .ok (.putfield 11, 3) := by decide +kernel
theorem dX8_init_13 : decode cX8_init 13 = .ok (.aload_n 0, 1) := by decide +kernel
theorem dX8_init_14 : decode cX8_init 14 = .ok (.new 15, 3) := by decide +kernel
theorem dX8_init_17 : decode cX8_init 17 = .ok (.dup, 1) := by decide +kernel
theorem dX8_init_18 : decode cX8_init 18 = .ok (.invokespecial 17, 3) := by decide +kernel
theorem dX8_init_21 : decode cX8_init 21 = .ok (.putfield 18, 3) := by decide +kernel
theorem dX8_init_24 : decode cX8_init 24 = .ok (.aload_n 0, 1) := by decide +kernel
theorem dX8_init_25 : decode cX8_init 25 = .ok (.new 22, 3) := by decide +kernel
theorem dX8_init_28 : decode cX8_init 28 = .ok (.dup, 1) := by decide +kernel
theorem dX8_init_29 : decode cX8_init 29 = .ok (.invokespecial 24, 3) := by decide +kernel
theorem dX8_init_32 : decode cX8_init 32 = .ok (.putfield 25, 3) := by decide +kernel
theorem dX8_init_35 : decode cX8_init 35 = .ok (.aload_n 0, 1) := by decide +kernel
theorem dX8_init_36 : decode cX8_init 36 = .ok (.new 29, 3) := by decide +kernel
theorem dX8_init_39 : decode cX8_init 39 = .ok (.dup, 1) := by decide +kernel
theorem dX8_init_40 : decode cX8_init 40 = .ok (.invokespecial 31, 3) := by decide +kernel
theorem dX8_init_43 : decode cX8_init 43 = .ok (.putfield 32, 3) := by decide +kernel
theorem dX8_init_46 : decode cX8_init 46 = .ok (.aload_n 0, 1) := by decide +kernel
theorem dX8_init_47 : decode cX8_init 47 = .ok (.iconst 2, 1) := by decide +kernel
theorem dX8_init_48 : decode cX8_init 48 = .ok (.anewarray 22, 3) := by decide +kernel
theorem dX8_init_51 : decode cX8_init 51 = .ok (.putfield 36, 3) := by decide +kernel
theorem dX8_init_54 : decode cX8_init 54 = .ok (.aload_n 0, 1) := by decide +kernel
theorem dX8_init_55 : decode cX8_init 55 = .ok (.new 40, 3) := by decide +kernel
theorem dX8_init_58 : decode cX8_init 58 = .ok (.dup, 1) := by decide +kernel
theorem dX8_init_59 : decode cX8_init 59 = .ok (.invokespecial 42, 3) := by decide +kernel
theorem dX8_init_62 : decode cX8_init 62 = .ok (.putfield 43, 3) := by decide +kernel
theorem dX8_init_65 : decode cX8_init 65 = .ok (.aload_n 0, 1) := by decide +kernel
theorem dX8_init_66 : decode cX8_init 66 = .ok (.new 47, 3) := by decide +kernel
theorem dX8_init_69 : decode cX8_init 69 = .ok (.dup, 1) := by decide +kernel
theorem dX8_init_70 : decode cX8_init 70 = .ok (.invokespecial 49, 3) := by decide +kernel
theorem dX8_init_73 : decode cX8_init 73 = .ok (.putfield 50, 3) := by decide +kernel
theorem dX8_init_76 : decode cX8_init 76 = .ok (.aload_n 0, 1) := by decide +kernel
theorem dX8_init_77 : decode cX8_init 77 = .ok (.new 54, 3) := by decide +kernel
theorem dX8_init_80 : decode cX8_init 80 = .ok (.dup, 1) := by decide +kernel
theorem dX8_init_81 : decode cX8_init 81 = .ok (.invokespecial 56, 3) := by decide +kernel
theorem dX8_init_84 : decode cX8_init 84 = .ok (.putfield 57, 3) := by decide +kernel
theorem dX8_init_87 : decode cX8_init 87 = .ok (.aload_n 0, 1) := by decide +kernel
theorem dX8_init_88 : decode cX8_init 88 = .ok (.iconst 0, 1) := by decide +kernel
theorem dX8_init_89 : decode cX8_init 89 = .ok (.putfield 61, 3) := by decide +kernel
theorem dX8_init_92 : decode cX8_init 92 = .ok (.aload_n 0, 1) := by decide +kernel
theorem dX8_init_93 : decode cX8_init 93 = .ok (.iconst 0, 1) := by decide +kernel
theorem dX8_init_94 : decode cX8_init 94 = .ok (.putfield 65, 3) := by decide +kernel
theorem dX8_init_97 : decode cX8_init 97 = .ok (.iconst 0, 1) := by decide +kernel
theorem dX8_init_98 : decode cX8_init 98 = .ok (.istore_n 1, 1) := by decide +kernel
theorem dX8_init_99 : decode cX8_init 99 = .ok (.iload_n 1, 1) := by decide +kernel
theorem dX8_init_100 : decode cX8_init 100 = .ok (.bipush 8, 2) := by decide +kernel
theorem dX8_init_102 : decode cX8_init 102 = .ok (.if_icmp .ge 22, 3) := by decide +kernel
theorem dX8_init_105 : decode cX8_init 105 = .ok (.aload_n 0, 1) := by decide +kernel
theorem dX8_init_106 : decode cX8_init 106 = .ok (.getfield 11, 3) := by decide +kernel
theorem dX8_init_109 : decode cX8_init 109 = .ok (.iload_n 1, 1) := by decide +kernel
theorem dX8_init_110 : decode cX8_init 110 = .ok (.new 9, 3) := by decide +kernel
theorem dX8_init_113 : decode cX8_init 113 = .ok (.dup, 1) := by decide +kernel
theorem dX8_init_114 : decode cX8_init 114 = .ok (.invokespecial 68, 3) := by decide +kernel
theorem dX8_init_117 : decode cX8_init 117 = .ok (.aastore, 1) := by decide +kernel
theorem dX8_init_118 : decode cX8_init 118 = .ok (.iinc 1 1, 3) := by decide +kernel
theorem dX8_init_121 : decode cX8_init 121 = .ok (.goto (-22), 3) := by decide +kernel
theorem dX8_init_124 : decode cX8_init 124 = .ok (.iconst 0, 1) := by decide +kernel
theorem dX8_init_125 : decode cX8_init 125 = .ok (.istore_n 1, 1) := by decide +kernel
theorem dX8_init_126 : decode cX8_init 126 = .ok (.iload_n 1, 1) := by decide +kernel
theorem dX8_init_127 : decode cX8_init 127 = .ok (.iconst 2, 1) := by decide +kernel
theorem dX8_init_128 : decode cX8_init 128 = .ok (.if_icmp .ge 22, 3) := by decide +kernel
theorem dX8_init_131 : decode cX8_init 131 = .ok (.aload_n 0, 1) := by decide +kernel
theorem dX8_init_132 : decode cX8_init 132 = .ok (.getfield 36, 3) := by decide +kernel
theorem dX8_init_135 : decode cX8_init 135 = .ok (.iload_n 1, 1) := by decide +kernel
theorem dX8_init_136 : decode cX8_init 136 = .ok (.new 22, 3) := by decide +kernel
theorem dX8_init_139 : decode cX8_init 139 = .ok (.dup, 1) := by decide +kernel
theorem dX8_init_140 : decode cX8_init 140 = .ok (.invokespecial 24, 3) := by decide +kernel
theorem dX8_init_143 : decode cX8_init 143 = .ok (.aastore, 1) := by decide +kernel
theorem dX8_init_144 : decode cX8_init 144 = .ok (.iinc 1 1, 3) := by decide +kernel
theorem dX8_init_147 : decode cX8_init 147 = .ok (.goto (-21), 3) := by decide +kernel
theorem dX8_init_150 : decode cX8_init 150 = .ok (.return_, 1) := by decide +kernel
theorem dX8_row_0 : decode cX8_row 0 = .ok (.iload_n 1, 1) := by decide +kernel
theorem dX8_row_1 : decode cX8_row 1 = .ok (.invokestatic 69, 3) := by decide +kernel
theorem dX8_row_4 : decode cX8_row 4 = .ok (.ifCond .eq 18, 3) := by decide +kernel
theorem dX8_row_7 : decode cX8_row 7 = .ok (.iload_n 2, 1) := by decide +kernel
theorem dX8_row_8 : decode cX8_row 8 = .ok (.ifCond .lt 14, 3) := by decide +kernel
theorem dX8_row_11 : decode cX8_row 11 = .ok (.iload_n 2, 1) := by decide +kernel
theorem dX8_row_12 : decode cX8_row 12 = .ok (.iconst 3, 1) := by decide +kernel
theorem dX8_row_13 : decode cX8_row 13 = .ok (.if_icmp .ge 9, 3) := by decide +kernel
theorem dX8_row_16 : decode cX8_row 16 = .ok (.iload_n 3, 1) := by decide +kernel
theorem dX8_row_17 : decode cX8_row 17 = .ok (.bipush 40, 2) := by decide +kernel
theorem dX8_row_19 : decode cX8_row 19 = .ok (.if_icmp .le 6, 3) := by decide +kernel
theorem dX8_row_22 : decode cX8_row 22 = .ok (.ldc 73, 2) := by decide +kernel
theorem dX8_row_24 : decode cX8_row 24 = .ok (.ireturn, 1) := by decide +kernel
theorem dX8_row_25 : decode cX8_row 25 = .ok (.iload_n 3, 1) := by decide +kernel
theorem dX8_row_26 : decode cX8_row 26 = .ok (.ifCond .ge 9, 3) := by decide +kernel
theorem dX8_row_29 : decode cX8_row 29 = .ok (.aload_n 0, 1) := by decide +kernel
theorem dX8_row_30 : decode cX8_row 30 = .ok (.iconst 4, 1) := by decide +kernel
theorem dX8_row_31 : decode cX8_row 31 = .ok (.invokevirtual 74, 3) := by decide +kernel
theorem dX8_row_34 : decode cX8_row 34 = .ok (.ireturn, 1) := by decide +kernel
theorem dX8_row_35 : decode cX8_row 35 = .ok (.aload_n 0, 1) := by decide +kernel
theorem dX8_row_36 : decode cX8_row 36 = .ok (.getfield 11, 3) := by decide +kernel
theorem dX8_row_39 : decode cX8_row 39 = .ok (.iload_n 1, 1) := by decide +kernel
theorem dX8_row_40 : decode cX8_row 40 = .ok (.aaload, 1) := by decide +kernel
theorem dX8_row_41 : decode cX8_row 41 = .ok (.iload_n 2, 1) := by decide +kernel
theorem dX8_row_42 : decode cX8_row 42 = .ok (.iload_n 3, 1) := by decide +kernel
theorem dX8_row_43 : decode cX8_row 43 = .ok (.invokevirtual 78, 3) := by decide +kernel
theorem dX8_row_46 : decode cX8_row 46 = .ok (.aload_n 0, 1) := by decide +kernel
theorem dX8_row_47 : decode cX8_row 47 = .ok (.iload_n 3, 1) := by decide +kernel
theorem dX8_row_48 : decode cX8_row 48 = .ok (.invokevirtual 82, 3) := by decide +kernel
theorem dX8_row_51 : decode cX8_row 51 = .ok (.ireturn, 1) := by decide +kernel
theorem dX8_set_0 : decode cX8_set 0 = .ok (.iload_n 1, 1) := by decide +kernel
theorem dX8_set_1 : decode cX8_set 1 = .ok (.invokestatic 69, 3) := by decide +kernel
theorem dX8_set_4 : decode cX8_set 4 = .ok (.ifCond .ne 6, 3) := by decide +kernel
theorem dX8_set_7 : decode cX8_set 7 = .ok (.ldc 73, 2) := by decide +kernel
theorem dX8_set_9 : decode cX8_set 9 = .ok (.ireturn, 1) := by decide +kernel
theorem dX8_set_10 : decode cX8_set 10 = .ok (.aload_n 0, 1) := by decide +kernel
theorem dX8_set_11 : decode cX8_set 11 = .ok (.getfield 11, 3) := by decide +kernel
theorem dX8_set_14 : decode cX8_set 14 = .ok (.iload_n 1, 1) := by decide +kernel
theorem dX8_set_15 : decode cX8_set 15 = .ok (.aaload, 1) := by decide +kernel
theorem dX8_set_16 : decode cX8_set 16 = .ok (.astore 4, 2) := by decide +kernel
theorem dX8_set_18 : decode cX8_set 18 = .ok (.aload 4, 2) := by decide +kernel
theorem dX8_set_20 : decode cX8_set 20 = .ok (.invokevirtual 85, 3) := by decide +kernel
theorem dX8_set_23 : decode cX8_set 23 = .ok (.ifCond .eq 9, 3) := by decide +kernel
theorem dX8_set_26 : decode cX8_set 26 = .ok (.aload_n 0, 1) := by decide +kernel
theorem dX8_set_27 : decode cX8_set 27 = .ok (.iconst 1, 1) := by decide +kernel
theorem dX8_set_28 : decode cX8_set 28 = .ok (.invokevirtual 74, 3) := by decide +kernel
theorem dX8_set_31 : decode cX8_set 31 = .ok (.ireturn, 1) := by decide +kernel
theorem dX8_set_32 : decode cX8_set 32 = .ok (.aload 4, 2) := by decide +kernel
theorem dX8_set_34 : decode cX8_set 34 = .ok (.iload_n 2, 1) := by decide +kernel
theorem dX8_set_35 : decode cX8_set 35 = .ok (.iconst 1, 1) := by decide +kernel
theorem dX8_set_36 : decode cX8_set 36 = .ok (.invokevirtual 89, 3) := by decide +kernel
theorem dX8_set_39 : decode cX8_set 39 = .ok (.ifCond .ne 9, 3) := by decide +kernel
theorem dX8_set_42 : decode cX8_set 42 = .ok (.aload_n 0, 1) := by decide +kernel
theorem dX8_set_43 : decode cX8_set 43 = .ok (.iconst 2, 1) := by decide +kernel
theorem dX8_set_44 : decode cX8_set 44 = .ok (.invokevirtual 74, 3) := by decide +kernel
theorem dX8_set_47 : decode cX8_set 47 = .ok (.ireturn, 1) := by decide +kernel
theorem dX8_set_48 : decode cX8_set 48 = .ok (.aload_n 0, 1) := by decide +kernel
theorem dX8_set_49 : decode cX8_set 49 = .ok (.aload 4, 2) := by decide +kernel
theorem dX8_set_51 : decode cX8_set 51 = .ok (.iload_n 2, 1) := by decide +kernel
theorem dX8_set_52 : decode cX8_set 52 = .ok (.iload_n 3, 1) := by decide +kernel
theorem dX8_set_53 : decode cX8_set 53 = .ok (.invokevirtual 93, 3) := by decide +kernel
theorem dX8_set_56 : decode cX8_set 56 = .ok (.invokevirtual 82, 3) := by decide +kernel
theorem dX8_set_59 : decode cX8_set 59 = .ok (.ireturn, 1) := by decide +kernel
theorem dX8_copy_0 : decode cX8_copy 0 = .ok (.iload_n 1, 1) := by decide +kernel
theorem dX8_copy_1 : decode cX8_copy 1 = .ok (.invokestatic 69, 3) := by decide +kernel
theorem dX8_copy_4 : decode cX8_copy 4 = .ok (.ifCond .eq 10, 3) := by decide +kernel
theorem dX8_copy_7 : decode cX8_copy 7 = .ok (.iload_n 3, 1) := by decide +kernel
theorem dX8_copy_8 : decode cX8_copy 8 = .ok (.invokestatic 69, 3) := by decide +kernel
theorem dX8_copy_11 : decode cX8_copy 11 = .ok (.ifCond .ne 6, 3) := by decide +kernel
theorem dX8_copy_14 : decode cX8_copy 14 = .ok (.ldc 73, 2) := by decide +kernel
theorem dX8_copy_16 : decode cX8_copy 16 = .ok (.ireturn, 1) := by decide +kernel
theorem dX8_copy_17 : decode cX8_copy 17 = .ok (.aload_n 0, 1) := by decide +kernel
theorem dX8_copy_18 : decode cX8_copy 18 = .ok (.getfield 11, 3) := by decide +kernel
theorem dX8_copy_21 : decode cX8_copy 21 = .ok (.iload_n 1, 1) := by decide +kernel
theorem dX8_copy_22 : decode cX8_copy 22 = .ok (.aaload, 1) := by decide +kernel
theorem dX8_copy_23 : decode cX8_copy 23 = .ok (.astore 6, 2) := by decide +kernel
theorem dX8_copy_25 : decode cX8_copy 25 = .ok (.aload_n 0, 1) := by decide +kernel
theorem dX8_copy_26 : decode cX8_copy 26 = .ok (.getfield 11, 3) := by decide +kernel
theorem dX8_copy_29 : decode cX8_copy 29 = .ok (.iload_n 3, 1) := by decide +kernel
theorem dX8_copy_30 : decode cX8_copy 30 = .ok (.aaload, 1) := by decide +kernel
theorem dX8_copy_31 : decode cX8_copy 31 = .ok (.astore 7, 2) := by decide +kernel
theorem dX8_copy_33 : decode cX8_copy 33 = .ok (.aload 6, 2) := by decide +kernel
theorem dX8_copy_35 : decode cX8_copy 35 = .ok (.invokevirtual 85, 3) := by decide +kernel
theorem dX8_copy_38 : decode cX8_copy 38 = .ok (.ifCond .ne 11, 3) := by decide +kernel
theorem dX8_copy_41 : decode cX8_copy 41 = .ok (.aload 7, 2) := by decide +kernel
theorem dX8_copy_43 : decode cX8_copy 43 = .ok (.invokevirtual 85, 3) := by decide +kernel
theorem dX8_copy_46 : decode cX8_copy 46 = .ok (.ifCond .eq 9, 3) := by decide +kernel
theorem dX8_copy_49 : decode cX8_copy 49 = .ok (.aload_n 0, 1) := by decide +kernel
theorem dX8_copy_50 : decode cX8_copy 50 = .ok (.iconst 1, 1) := by decide +kernel
theorem dX8_copy_51 : decode cX8_copy 51 = .ok (.invokevirtual 74, 3) := by decide +kernel
theorem dX8_copy_54 : decode cX8_copy 54 = .ok (.ireturn, 1) := by decide +kernel
theorem dX8_copy_55 : decode cX8_copy 55 = .ok (.aload 6, 2) := by decide +kernel
theorem dX8_copy_57 : decode cX8_copy 57 = .ok (.getfield 97, 3) := by decide +kernel
theorem dX8_copy_60 : decode cX8_copy 60 = .ok (.aload 7, 2) := by decide +kernel
theorem dX8_copy_62 : decode cX8_copy 62 = .ok (.getfield 97, 3) := by decide +kernel
theorem dX8_copy_65 : decode cX8_copy 65 = .ok (.if_icmp .eq 9, 3) := by decide +kernel
theorem dX8_copy_68 : decode cX8_copy 68 = .ok (.aload_n 0, 1) := by decide +kernel
theorem dX8_copy_69 : decode cX8_copy 69 = .ok (.iconst 5, 1) := by decide +kernel
theorem dX8_copy_70 : decode cX8_copy 70 = .ok (.invokevirtual 74, 3) := by decide +kernel
theorem dX8_copy_73 : decode cX8_copy 73 = .ok (.ireturn, 1) := by decide +kernel
theorem dX8_copy_74 : decode cX8_copy 74 = .ok (.aload 6, 2) := by decide +kernel
theorem dX8_copy_76 : decode cX8_copy 76 = .ok (.iload_n 2, 1) := by decide +kernel
theorem dX8_copy_77 : decode cX8_copy 77 = .ok (.iload 5, 2) := by decide +kernel
theorem dX8_copy_79 : decode cX8_copy 79 = .ok (.invokevirtual 89, 3) := by decide +kernel
theorem dX8_copy_82 : decode cX8_copy 82 = .ok (.ifCond .eq 15, 3) := by decide +kernel
theorem dX8_copy_85 : decode cX8_copy 85 = .ok (.aload 7, 2) := by decide +kernel
theorem dX8_copy_87 : decode cX8_copy 87 = .ok (.iload 4, 2) := by decide +kernel
theorem dX8_copy_89 : decode cX8_copy 89 = .ok (.iload 5, 2) := by decide +kernel
theorem dX8_copy_91 : decode cX8_copy 91 = .ok (.invokevirtual 89, 3) := by decide +kernel
theorem dX8_copy_94 : decode cX8_copy 94 = .ok (.ifCond .ne 9, 3) := by decide +kernel
theorem dX8_copy_97 : decode cX8_copy 97 = .ok (.aload_n 0, 1) := by decide +kernel
theorem dX8_copy_98 : decode cX8_copy 98 = .ok (.iconst 2, 1) := by decide +kernel
theorem dX8_copy_99 : decode cX8_copy 99 = .ok (.invokevirtual 74, 3) := by decide +kernel
theorem dX8_copy_102 : decode cX8_copy 102 = .ok (.ireturn, 1) := by decide +kernel
theorem dX8_copy_103 : decode cX8_copy 103 = .ok (.aload 6, 2) := by decide +kernel
theorem dX8_copy_105 : decode cX8_copy 105 = .ok (.getfield 100, 3) := by decide +kernel
theorem dX8_copy_108 : decode cX8_copy 108 = .ok (.iload_n 2, 1) := by decide +kernel
theorem dX8_copy_109 : decode cX8_copy 109 = .ok (.aload 7, 2) := by decide +kernel
theorem dX8_copy_111 : decode cX8_copy 111 = .ok (.getfield 100, 3) := by decide +kernel
theorem dX8_copy_114 : decode cX8_copy 114 = .ok (.iload 4, 2) := by decide +kernel
theorem dX8_copy_116 : decode cX8_copy 116 = .ok (.iload 5, 2) := by decide +kernel
theorem dX8_copy_118 : decode cX8_copy 118 = .ok (.invokestatic 104, 3) := by decide +kernel
theorem dX8_copy_121 : decode cX8_copy 121 = .ok (.aload_n 0, 1) := by decide +kernel
theorem dX8_copy_122 : decode cX8_copy 122 = .ok (.iload 5, 2) := by decide +kernel
theorem dX8_copy_124 : decode cX8_copy 124 = .ok (.invokevirtual 82, 3) := by decide +kernel
theorem dX8_copy_127 : decode cX8_copy 127 = .ok (.ireturn, 1) := by decide +kernel
theorem dX8_drop_0 : decode cX8_drop 0 = .ok (.iload_n 1, 1) := by decide +kernel
theorem dX8_drop_1 : decode cX8_drop 1 = .ok (.invokestatic 69, 3) := by decide +kernel
theorem dX8_drop_4 : decode cX8_drop 4 = .ok (.ifCond .ne 6, 3) := by decide +kernel
theorem dX8_drop_7 : decode cX8_drop 7 = .ok (.ldc 73, 2) := by decide +kernel
theorem dX8_drop_9 : decode cX8_drop 9 = .ok (.ireturn, 1) := by decide +kernel
theorem dX8_drop_10 : decode cX8_drop 10 = .ok (.aload_n 0, 1) := by decide +kernel
theorem dX8_drop_11 : decode cX8_drop 11 = .ok (.getfield 11, 3) := by decide +kernel
theorem dX8_drop_14 : decode cX8_drop 14 = .ok (.iload_n 1, 1) := by decide +kernel
theorem dX8_drop_15 : decode cX8_drop 15 = .ok (.aaload, 1) := by decide +kernel
theorem dX8_drop_16 : decode cX8_drop 16 = .ok (.astore_n 2, 1) := by decide +kernel
theorem dX8_drop_17 : decode cX8_drop 17 = .ok (.aload_n 2, 1) := by decide +kernel
theorem dX8_drop_18 : decode cX8_drop 18 = .ok (.invokevirtual 85, 3) := by decide +kernel
theorem dX8_drop_21 : decode cX8_drop 21 = .ok (.ifCond .eq 9, 3) := by decide +kernel
theorem dX8_drop_24 : decode cX8_drop 24 = .ok (.aload_n 0, 1) := by decide +kernel
theorem dX8_drop_25 : decode cX8_drop 25 = .ok (.iconst 1, 1) := by decide +kernel
theorem dX8_drop_26 : decode cX8_drop 26 = .ok (.invokevirtual 74, 3) := by decide +kernel
theorem dX8_drop_29 : decode cX8_drop 29 = .ok (.ireturn, 1) := by decide +kernel
theorem dX8_drop_30 : decode cX8_drop 30 = .ok (.aload_n 2, 1) := by decide +kernel
theorem dX8_drop_31 : decode cX8_drop 31 = .ok (.getfield 110, 3) := by decide +kernel
theorem dX8_drop_34 : decode cX8_drop 34 = .ok (.istore_n 3, 1) := by decide +kernel
theorem dX8_drop_35 : decode cX8_drop 35 = .ok (.aload_n 2, 1) := by decide +kernel
theorem dX8_drop_36 : decode cX8_drop 36 = .ok (.invokevirtual 113, 3) := by decide +kernel
theorem dX8_drop_39 : decode cX8_drop 39 = .ok (.aload_n 0, 1) := by decide +kernel
theorem dX8_drop_40 : decode cX8_drop 40 = .ok (.iload_n 3, 1) := by decide +kernel
theorem dX8_drop_41 : decode cX8_drop 41 = .ok (.invokevirtual 82, 3) := by decide +kernel
theorem dX8_drop_44 : decode cX8_drop 44 = .ok (.ireturn, 1) := by decide +kernel
theorem dX8_feed_0 : decode cX8_feed 0 = .ok (.iload_n 3, 1) := by decide +kernel
theorem dX8_feed_1 : decode cX8_feed 1 = .ok (.iconst 1, 1) := by decide +kernel
theorem dX8_feed_2 : decode cX8_feed 2 = .ok (.if_icmp .lt 9, 3) := by decide +kernel
theorem dX8_feed_5 : decode cX8_feed 5 = .ok (.iload_n 3, 1) := by decide +kernel
theorem dX8_feed_6 : decode cX8_feed 6 = .ok (.bipush 8, 2) := by decide +kernel
theorem dX8_feed_8 : decode cX8_feed 8 = .ok (.if_icmp .le 6, 3) := by decide +kernel
theorem dX8_feed_11 : decode cX8_feed 11 = .ok (.ldc 73, 2) := by decide +kernel
theorem dX8_feed_13 : decode cX8_feed 13 = .ok (.ireturn, 1) := by decide +kernel
theorem dX8_feed_14 : decode cX8_feed 14 = .ok (.aload_n 0, 1) := by decide +kernel
theorem dX8_feed_15 : decode cX8_feed 15 = .ok (.getfield 18, 3) := by decide +kernel
theorem dX8_feed_18 : decode cX8_feed 18 = .ok (.getfield 116, 3) := by decide +kernel
theorem dX8_feed_21 : decode cX8_feed 21 = .ok (.iload_n 3, 1) := by decide +kernel
theorem dX8_feed_22 : decode cX8_feed 22 = .ok (.invokevirtual 120, 3) := by decide +kernel
theorem dX8_feed_25 : decode cX8_feed 25 = .ok (.ifCond .ne 6, 3) := by decide +kernel
theorem dX8_feed_28 : decode cX8_feed 28 = .ok (.ldc 125, 2) := by decide +kernel
theorem dX8_feed_30 : decode cX8_feed 30 = .ok (.ireturn, 1) := by decide +kernel
theorem dX8_feed_31 : decode cX8_feed 31 = .ok (.aload_n 0, 1) := by decide +kernel
theorem dX8_feed_32 : decode cX8_feed 32 = .ok (.getfield 18, 3) := by decide +kernel
theorem dX8_feed_35 : decode cX8_feed 35 = .ok (.getfield 116, 3) := by decide +kernel
theorem dX8_feed_38 : decode cX8_feed 38 = .ok (.lload_n 1, 1) := by decide +kernel
theorem dX8_feed_39 : decode cX8_feed 39 = .ok (.iload_n 3, 1) := by decide +kernel
theorem dX8_feed_40 : decode cX8_feed 40 = .ok (.invokevirtual 126, 3) := by decide +kernel
theorem dX8_feed_43 : decode cX8_feed 43 = .ok (.aload_n 0, 1) := by decide +kernel
theorem dX8_feed_44 : decode cX8_feed 44 = .ok (.getfield 18, 3) := by decide +kernel
theorem dX8_feed_47 : decode cX8_feed 47 = .ok (.getfield 116, 3) := by decide +kernel
theorem dX8_feed_50 : decode cX8_feed 50 = .ok (.getfield 130, 3) := by decide +kernel
theorem dX8_feed_53 : decode cX8_feed 53 = .ok (.ireturn, 1) := by decide +kernel
theorem dX8_office_0 : decode cX8_office 0 = .ok (.aload_n 0, 1) := by decide +kernel
theorem dX8_office_1 : decode cX8_office 1 = .ok (.getfield 18, 3) := by decide +kernel
theorem dX8_office_4 : decode cX8_office 4 = .ok (.invokevirtual 131, 3) := by decide +kernel
theorem dX8_office_7 : decode cX8_office 7 = .ok (.istore_n 1, 1) := by decide +kernel
theorem dX8_office_8 : decode cX8_office 8 = .ok (.aload_n 0, 1) := by decide +kernel
theorem dX8_office_9 : decode cX8_office 9 = .ok (.getfield 18, 3) := by decide +kernel
theorem dX8_office_12 : decode cX8_office 12 = .ok (.getfield 116, 3) := by decide +kernel
theorem dX8_office_15 : decode cX8_office 15 = .ok (.iconst 0, 1) := by decide +kernel
theorem dX8_office_16 : decode cX8_office 16 = .ok (.putfield 130, 3) := by decide +kernel
theorem dX8_office_19 : decode cX8_office 19 = .ok (.iload_n 1, 1) := by decide +kernel
theorem dX8_office_20 : decode cX8_office 20 = .ok (.ifCond .ne 25, 3) := by decide +kernel
theorem dX8_office_23 : decode cX8_office 23 = .ok (.aload_n 0, 1) := by decide +kernel
theorem dX8_office_24 : decode cX8_office 24 = .ok (.aload_n 0, 1) := by decide +kernel
theorem dX8_office_25 : decode cX8_office 25 = .ok (.getfield 18, 3) := by decide +kernel
theorem dX8_office_28 : decode cX8_office 28 = .ok (.getfield 134, 3) := by decide +kernel
theorem dX8_office_31 : decode cX8_office 31 = .ok (.putfield 61, 3) := by decide +kernel
theorem dX8_office_34 : decode cX8_office 34 = .ok (.ldc 137, 2) := by decide +kernel
theorem dX8_office_36 : decode cX8_office 36 = .ok (.aload_n 0, 1) := by decide +kernel
theorem dX8_office_37 : decode cX8_office 37 = .ok (.getfield 18, 3) := by decide +kernel
theorem dX8_office_40 : decode cX8_office 40 = .ok (.getfield 138, 3) := by decide +kernel
theorem dX8_office_43 : decode cX8_office 43 = .ok (.isub, 1) := by decide +kernel
theorem dX8_office_44 : decode cX8_office 44 = .ok (.ireturn, 1) := by decide +kernel
theorem dX8_office_45 : decode cX8_office 45 = .ok (.aload_n 0, 1) := by decide +kernel
theorem dX8_office_46 : decode cX8_office 46 = .ok (.getfield 25, 3) := by decide +kernel
theorem dX8_office_49 : decode cX8_office 49 = .ok (.aload_n 0, 1) := by decide +kernel
theorem dX8_office_50 : decode cX8_office 50 = .ok (.getfield 18, 3) := by decide +kernel
theorem dX8_office_53 : decode cX8_office 53 = .ok (.getfield 141, 3) := by decide +kernel
theorem dX8_office_56 : decode cX8_office 56 = .ok (.invokevirtual 144, 3) := by decide +kernel
theorem dX8_office_59 : decode cX8_office 59 = .ok (.aload_n 0, 1) := by decide +kernel
theorem dX8_office_60 : decode cX8_office 60 = .ok (.getfield 32, 3) := by decide +kernel
theorem dX8_office_63 : decode cX8_office 63 = .ok (.invokevirtual 148, 3) := by decide +kernel
theorem dX8_office_66 : decode cX8_office 66 = .ok (.aload_n 0, 1) := by decide +kernel
theorem dX8_office_67 : decode cX8_office 67 = .ok (.getfield 25, 3) := by decide +kernel
theorem dX8_office_70 : decode cX8_office 70 = .ok (.getfield 151, 3) := by decide +kernel
theorem dX8_office_73 : decode cX8_office 73 = .ok (.ireturn, 1) := by decide +kernel
theorem dX8_fault_0 : decode cX8_fault 0 = .ok (.aload_n 0, 1) := by decide +kernel
theorem dX8_fault_1 : decode cX8_fault 1 = .ok (.getfield 61, 3) := by decide +kernel
theorem dX8_fault_4 : decode cX8_fault 4 = .ok (.ireturn, 1) := by decide +kernel
theorem dX8_lift_0 : decode cX8_lift 0 = .ok (.aload_n 0, 1) := by decide +kernel
theorem dX8_lift_1 : decode cX8_lift 1 = .ok (.getfield 25, 3) := by decide +kernel
theorem dX8_lift_4 : decode cX8_lift 4 = .ok (.iload_n 1, 1) := by decide +kernel
theorem dX8_lift_5 : decode cX8_lift 5 = .ok (.invokevirtual 154, 3) := by decide +kernel
theorem dX8_lift_8 : decode cX8_lift 8 = .ok (.ifCond .ne 6, 3) := by decide +kernel
theorem dX8_lift_11 : decode cX8_lift 11 = .ok (.ldc 73, 2) := by decide +kernel
theorem dX8_lift_13 : decode cX8_lift 13 = .ok (.ireturn, 1) := by decide +kernel
theorem dX8_lift_14 : decode cX8_lift 14 = .ok (.aload_n 0, 1) := by decide +kernel
theorem dX8_lift_15 : decode cX8_lift 15 = .ok (.getfield 25, 3) := by decide +kernel
theorem dX8_lift_18 : decode cX8_lift 18 = .ok (.iload_n 1, 1) := by decide +kernel
theorem dX8_lift_19 : decode cX8_lift 19 = .ok (.invokevirtual 157, 3) := by decide +kernel
theorem dX8_lift_22 : decode cX8_lift 22 = .ok (.istore_n 2, 1) := by decide +kernel
theorem dX8_lift_23 : decode cX8_lift 23 = .ok (.iload_n 2, 1) := by decide +kernel
theorem dX8_lift_24 : decode cX8_lift 24 = .ok (.ifCond .ge 6, 3) := by decide +kernel
theorem dX8_lift_27 : decode cX8_lift 27 = .ok (.ldc 160, 2) := by decide +kernel
theorem dX8_lift_29 : decode cX8_lift 29 = .ok (.ireturn, 1) := by decide +kernel
theorem dX8_lift_30 : decode cX8_lift 30 = .ok (.aload_n 0, 1) := by decide +kernel
theorem dX8_lift_31 : decode cX8_lift 31 = .ok (.getfield 32, 3) := by decide +kernel
theorem dX8_lift_34 : decode cX8_lift 34 = .ok (.aload_n 0, 1) := by decide +kernel
theorem dX8_lift_35 : decode cX8_lift 35 = .ok (.getfield 25, 3) := by decide +kernel
theorem dX8_lift_38 : decode cX8_lift 38 = .ok (.invokevirtual 161, 3) := by decide +kernel
theorem dX8_lift_41 : decode cX8_lift 41 = .ok (.aload_n 0, 1) := by decide +kernel
theorem dX8_lift_42 : decode cX8_lift 42 = .ok (.getfield 25, 3) := by decide +kernel
theorem dX8_lift_45 : decode cX8_lift 45 = .ok (.iload_n 1, 1) := by decide +kernel
theorem dX8_lift_46 : decode cX8_lift 46 = .ok (.invokevirtual 164, 3) := by decide +kernel
theorem dX8_lift_49 : decode cX8_lift 49 = .ok (.istore_n 3, 1) := by decide +kernel
theorem dX8_lift_50 : decode cX8_lift 50 = .ok (.aload_n 0, 1) := by decide +kernel
theorem dX8_lift_51 : decode cX8_lift 51 = .ok (.getfield 25, 3) := by decide +kernel
theorem dX8_lift_54 : decode cX8_lift 54 = .ok (.iload_n 1, 1) := by decide +kernel
theorem dX8_lift_55 : decode cX8_lift 55 = .ok (.invokevirtual 167, 3) := by decide +kernel
theorem dX8_lift_58 : decode cX8_lift 58 = .ok (.aload_n 0, 1) := by decide +kernel
theorem dX8_lift_59 : decode cX8_lift 59 = .ok (.getfield 25, 3) := by decide +kernel
theorem dX8_lift_62 : decode cX8_lift 62 = .ok (.iload_n 1, 1) := by decide +kernel
theorem dX8_lift_63 : decode cX8_lift 63 = .ok (.iload_n 2, 1) := by decide +kernel
theorem dX8_lift_64 : decode cX8_lift 64 = .ok (.invokevirtual 171, 3) := by decide +kernel
theorem dX8_lift_67 : decode cX8_lift 67 = .ok (.aload_n 0, 1) := by decide +kernel
theorem dX8_lift_68 : decode cX8_lift 68 = .ok (.getfield 25, 3) := by decide +kernel
theorem dX8_lift_71 : decode cX8_lift 71 = .ok (.getfield 174, 3) := by decide +kernel
theorem dX8_lift_74 : decode cX8_lift 74 = .ok (.aload_n 0, 1) := by decide +kernel
theorem dX8_lift_75 : decode cX8_lift 75 = .ok (.getfield 25, 3) := by decide +kernel
theorem dX8_lift_78 : decode cX8_lift 78 = .ok (.getfield 177, 3) := by decide +kernel
theorem dX8_lift_81 : decode cX8_lift 81 = .ok (.iload_n 1, 1) := by decide +kernel
theorem dX8_lift_82 : decode cX8_lift 82 = .ok (.iaload, 1) := by decide +kernel
theorem dX8_lift_83 : decode cX8_lift 83 = .ok (.if_icmp .gt 18, 3) := by decide +kernel
theorem dX8_lift_86 : decode cX8_lift 86 = .ok (.aload_n 0, 1) := by decide +kernel
theorem dX8_lift_87 : decode cX8_lift 87 = .ok (.getfield 25, 3) := by decide +kernel
theorem dX8_lift_90 : decode cX8_lift 90 = .ok (.dup, 1) := by decide +kernel
theorem dX8_lift_91 : decode cX8_lift 91 = .ok (.getfield 180, 3) := by decide +kernel
theorem dX8_lift_94 : decode cX8_lift 94 = .ok (.iconst 1, 1) := by decide +kernel
theorem dX8_lift_95 : decode cX8_lift 95 = .ok (.iload_n 1, 1) := by decide +kernel
theorem dX8_lift_96 : decode cX8_lift 96 = .ok (.ishl, 1) := by decide +kernel
theorem dX8_lift_97 : decode cX8_lift 97 = .ok (.ior, 1) := by decide +kernel
theorem dX8_lift_98 : decode cX8_lift 98 = .ok (.putfield 180, 3) := by decide +kernel
theorem dX8_lift_101 : decode cX8_lift 101 = .ok (.iload_n 3, 1) := by decide +kernel
theorem dX8_lift_102 : decode cX8_lift 102 = .ok (.ireturn, 1) := by decide +kernel
theorem dX8_lay_0 : decode cX8_lay 0 = .ok (.aload_n 0, 1) := by decide +kernel
theorem dX8_lay_1 : decode cX8_lay 1 = .ok (.getfield 25, 3) := by decide +kernel
theorem dX8_lay_4 : decode cX8_lay 4 = .ok (.iload_n 1, 1) := by decide +kernel
theorem dX8_lay_5 : decode cX8_lay 5 = .ok (.invokevirtual 154, 3) := by decide +kernel
theorem dX8_lay_8 : decode cX8_lay 8 = .ok (.ifCond .eq 14, 3) := by decide +kernel
theorem dX8_lay_11 : decode cX8_lay 11 = .ok (.aload_n 0, 1) := by decide +kernel
theorem dX8_lay_12 : decode cX8_lay 12 = .ok (.getfield 25, 3) := by decide +kernel
theorem dX8_lay_15 : decode cX8_lay 15 = .ok (.iload_n 2, 1) := by decide +kernel
theorem dX8_lay_16 : decode cX8_lay 16 = .ok (.invokevirtual 183, 3) := by decide +kernel
theorem dX8_lay_19 : decode cX8_lay 19 = .ok (.ifCond .ne 6, 3) := by decide +kernel
theorem dX8_lay_22 : decode cX8_lay 22 = .ok (.ldc 73, 2) := by decide +kernel
theorem dX8_lay_24 : decode cX8_lay 24 = .ok (.ireturn, 1) := by decide +kernel
theorem dX8_lay_25 : decode cX8_lay 25 = .ok (.aload_n 0, 1) := by decide +kernel
theorem dX8_lay_26 : decode cX8_lay 26 = .ok (.getfield 25, 3) := by decide +kernel
theorem dX8_lay_29 : decode cX8_lay 29 = .ok (.iload_n 1, 1) := by decide +kernel
theorem dX8_lay_30 : decode cX8_lay 30 = .ok (.invokevirtual 157, 3) := by decide +kernel
theorem dX8_lay_33 : decode cX8_lay 33 = .ok (.istore_n 3, 1) := by decide +kernel
theorem dX8_lay_34 : decode cX8_lay 34 = .ok (.iload_n 3, 1) := by decide +kernel
theorem dX8_lay_35 : decode cX8_lay 35 = .ok (.ifCond .lt 8, 3) := by decide +kernel
theorem dX8_lay_38 : decode cX8_lay 38 = .ok (.iload_n 3, 1) := by decide +kernel
theorem dX8_lay_39 : decode cX8_lay 39 = .ok (.iload_n 2, 1) := by decide +kernel
theorem dX8_lay_40 : decode cX8_lay 40 = .ok (.if_icmp .ne 6, 3) := by decide +kernel
theorem dX8_lay_43 : decode cX8_lay 43 = .ok (.ldc 160, 2) := by decide +kernel
theorem dX8_lay_45 : decode cX8_lay 45 = .ok (.ireturn, 1) := by decide +kernel
theorem dX8_lay_46 : decode cX8_lay 46 = .ok (.aload_n 0, 1) := by decide +kernel
theorem dX8_lay_47 : decode cX8_lay 47 = .ok (.getfield 25, 3) := by decide +kernel
theorem dX8_lay_50 : decode cX8_lay 50 = .ok (.iload_n 2, 1) := by decide +kernel
theorem dX8_lay_51 : decode cX8_lay 51 = .ok (.invokevirtual 186, 3) := by decide +kernel
theorem dX8_lay_54 : decode cX8_lay 54 = .ok (.ifCond .ne 6, 3) := by decide +kernel
theorem dX8_lay_57 : decode cX8_lay 57 = .ok (.ldc 125, 2) := by decide +kernel
theorem dX8_lay_59 : decode cX8_lay 59 = .ok (.ireturn, 1) := by decide +kernel
theorem dX8_lay_60 : decode cX8_lay 60 = .ok (.aload_n 0, 1) := by decide +kernel
theorem dX8_lay_61 : decode cX8_lay 61 = .ok (.getfield 32, 3) := by decide +kernel
theorem dX8_lay_64 : decode cX8_lay 64 = .ok (.aload_n 0, 1) := by decide +kernel
theorem dX8_lay_65 : decode cX8_lay 65 = .ok (.getfield 25, 3) := by decide +kernel
theorem dX8_lay_68 : decode cX8_lay 68 = .ok (.invokevirtual 161, 3) := by decide +kernel
theorem dX8_lay_71 : decode cX8_lay 71 = .ok (.aload_n 0, 1) := by decide +kernel
theorem dX8_lay_72 : decode cX8_lay 72 = .ok (.getfield 25, 3) := by decide +kernel
theorem dX8_lay_75 : decode cX8_lay 75 = .ok (.iload_n 1, 1) := by decide +kernel
theorem dX8_lay_76 : decode cX8_lay 76 = .ok (.invokevirtual 167, 3) := by decide +kernel
theorem dX8_lay_79 : decode cX8_lay 79 = .ok (.aload_n 0, 1) := by decide +kernel
theorem dX8_lay_80 : decode cX8_lay 80 = .ok (.getfield 25, 3) := by decide +kernel
theorem dX8_lay_83 : decode cX8_lay 83 = .ok (.iload_n 1, 1) := by decide +kernel
theorem dX8_lay_84 : decode cX8_lay 84 = .ok (.iload_n 2, 1) := by decide +kernel
theorem dX8_lay_85 : decode cX8_lay 85 = .ok (.invokevirtual 171, 3) := by decide +kernel
theorem dX8_lay_88 : decode cX8_lay 88 = .ok (.aload_n 0, 1) := by decide +kernel
theorem dX8_lay_89 : decode cX8_lay 89 = .ok (.getfield 25, 3) := by decide +kernel
theorem dX8_lay_92 : decode cX8_lay 92 = .ok (.getfield 187, 3) := by decide +kernel
theorem dX8_lay_95 : decode cX8_lay 95 = .ok (.iload_n 2, 1) := by decide +kernel
theorem dX8_lay_96 : decode cX8_lay 96 = .ok (.iaload, 1) := by decide +kernel
theorem dX8_lay_97 : decode cX8_lay 97 = .ok (.ireturn, 1) := by decide +kernel
theorem dX8_blank_0 : decode cX8_blank 0 = .ok (.aload_n 0, 1) := by decide +kernel
theorem dX8_blank_1 : decode cX8_blank 1 = .ok (.getfield 25, 3) := by decide +kernel
theorem dX8_blank_4 : decode cX8_blank 4 = .ok (.iload_n 1, 1) := by decide +kernel
theorem dX8_blank_5 : decode cX8_blank 5 = .ok (.invokevirtual 183, 3) := by decide +kernel
theorem dX8_blank_8 : decode cX8_blank 8 = .ok (.ifCond .ne 6, 3) := by decide +kernel
theorem dX8_blank_11 : decode cX8_blank 11 = .ok (.ldc 73, 2) := by decide +kernel
theorem dX8_blank_13 : decode cX8_blank 13 = .ok (.ireturn, 1) := by decide +kernel
theorem dX8_blank_14 : decode cX8_blank 14 = .ok (.aload_n 0, 1) := by decide +kernel
theorem dX8_blank_15 : decode cX8_blank 15 = .ok (.getfield 25, 3) := by decide +kernel
theorem dX8_blank_18 : decode cX8_blank 18 = .ok (.iload_n 1, 1) := by decide +kernel
theorem dX8_blank_19 : decode cX8_blank 19 = .ok (.invokevirtual 186, 3) := by decide +kernel
theorem dX8_blank_22 : decode cX8_blank 22 = .ok (.ifCond .eq 15, 3) := by decide +kernel
theorem dX8_blank_25 : decode cX8_blank 25 = .ok (.aload_n 0, 1) := by decide +kernel
theorem dX8_blank_26 : decode cX8_blank 26 = .ok (.getfield 25, 3) := by decide +kernel
theorem dX8_blank_29 : decode cX8_blank 29 = .ok (.getfield 190, 3) := by decide +kernel
theorem dX8_blank_32 : decode cX8_blank 32 = .ok (.bipush 16, 2) := by decide +kernel
theorem dX8_blank_34 : decode cX8_blank 34 = .ok (.if_icmp .lt 6, 3) := by decide +kernel
theorem dX8_blank_37 : decode cX8_blank 37 = .ok (.ldc 125, 2) := by decide +kernel
theorem dX8_blank_39 : decode cX8_blank 39 = .ok (.ireturn, 1) := by decide +kernel
theorem dX8_blank_40 : decode cX8_blank 40 = .ok (.aload_n 0, 1) := by decide +kernel
theorem dX8_blank_41 : decode cX8_blank 41 = .ok (.getfield 32, 3) := by decide +kernel
theorem dX8_blank_44 : decode cX8_blank 44 = .ok (.aload_n 0, 1) := by decide +kernel
theorem dX8_blank_45 : decode cX8_blank 45 = .ok (.getfield 25, 3) := by decide +kernel
theorem dX8_blank_48 : decode cX8_blank 48 = .ok (.invokevirtual 161, 3) := by decide +kernel
theorem dX8_blank_51 : decode cX8_blank 51 = .ok (.aload_n 0, 1) := by decide +kernel
theorem dX8_blank_52 : decode cX8_blank 52 = .ok (.getfield 25, 3) := by decide +kernel
theorem dX8_blank_55 : decode cX8_blank 55 = .ok (.iconst 4, 1) := by decide +kernel
theorem dX8_blank_56 : decode cX8_blank 56 = .ok (.iload_n 1, 1) := by decide +kernel
theorem dX8_blank_57 : decode cX8_blank 57 = .ok (.iconst 0, 1) := by decide +kernel
theorem dX8_blank_58 : decode cX8_blank 58 = .ok (.bipush 12, 2) := by decide +kernel
theorem dX8_blank_60 : decode cX8_blank 60 = .ok (.invokevirtual 193, 3) := by decide +kernel
theorem dX8_blank_63 : decode cX8_blank 63 = .ok (.ireturn, 1) := by decide +kernel
theorem dX8_quarter_0 : decode cX8_quarter 0 = .ok (.aload_n 0, 1) := by decide +kernel
theorem dX8_quarter_1 : decode cX8_quarter 1 = .ok (.getfield 25, 3) := by decide +kernel
theorem dX8_quarter_4 : decode cX8_quarter 4 = .ok (.invokevirtual 197, 3) := by decide +kernel
theorem dX8_quarter_7 : decode cX8_quarter 7 = .ok (.ifCond .ne 6, 3) := by decide +kernel
theorem dX8_quarter_10 : decode cX8_quarter 10 = .ok (.ldc 160, 2) := by decide +kernel
theorem dX8_quarter_12 : decode cX8_quarter 12 = .ok (.ireturn, 1) := by decide +kernel
theorem dX8_quarter_13 : decode cX8_quarter 13 = .ok (.iload_n 1, 1) := by decide +kernel
theorem dX8_quarter_14 : decode cX8_quarter 14 = .ok (.iconst 1, 1) := by decide +kernel
theorem dX8_quarter_15 : decode cX8_quarter 15 = .ok (.if_icmp .lt 9, 3) := by decide +kernel
theorem dX8_quarter_18 : decode cX8_quarter 18 = .ok (.iload_n 1, 1) := by decide +kernel
theorem dX8_quarter_19 : decode cX8_quarter 19 = .ok (.ldc 200, 2) := by decide +kernel
theorem dX8_quarter_21 : decode cX8_quarter 21 = .ok (.if_icmp .le 6, 3) := by decide +kernel
theorem dX8_quarter_24 : decode cX8_quarter 24 = .ok (.ldc 73, 2) := by decide +kernel
theorem dX8_quarter_26 : decode cX8_quarter 26 = .ok (.ireturn, 1) := by decide +kernel
theorem dX8_quarter_27 : decode cX8_quarter 27 = .ok (.aload_n 0, 1) := by decide +kernel
theorem dX8_quarter_28 : decode cX8_quarter 28 = .ok (.getfield 25, 3) := by decide +kernel
theorem dX8_quarter_31 : decode cX8_quarter 31 = .ok (.getfield 174, 3) := by decide +kernel
theorem dX8_quarter_34 : decode cX8_quarter 34 = .ok (.bipush 12, 2) := by decide +kernel
theorem dX8_quarter_36 : decode cX8_quarter 36 = .ok (.if_icmp .lt 6, 3) := by decide +kernel
theorem dX8_quarter_39 : decode cX8_quarter 39 = .ok (.ldc 160, 2) := by decide +kernel
theorem dX8_quarter_41 : decode cX8_quarter 41 = .ok (.ireturn, 1) := by decide +kernel
theorem dX8_quarter_42 : decode cX8_quarter 42 = .ok (.aload_n 0, 1) := by decide +kernel
theorem dX8_quarter_43 : decode cX8_quarter 43 = .ok (.getfield 32, 3) := by decide +kernel
theorem dX8_quarter_46 : decode cX8_quarter 46 = .ok (.aload_n 0, 1) := by decide +kernel
theorem dX8_quarter_47 : decode cX8_quarter 47 = .ok (.getfield 25, 3) := by decide +kernel
theorem dX8_quarter_50 : decode cX8_quarter 50 = .ok (.invokevirtual 161, 3) := by decide +kernel
theorem dX8_quarter_53 : decode cX8_quarter 53 = .ok (.iload_n 1, 1) := by decide +kernel
theorem dX8_quarter_54 : decode cX8_quarter 54 = .ok (.i2l, 1) := by decide +kernel
theorem dX8_quarter_55 : decode cX8_quarter 55 = .ok (.ldc2_w 201, 3) := by decide +kernel
theorem dX8_quarter_58 : decode cX8_quarter 58 = .ok (.lmul, 1) := by decide +kernel
theorem dX8_quarter_59 : decode cX8_quarter 59 = .ok (.ldc2_w 203, 3) := by decide +kernel
theorem dX8_quarter_62 : decode cX8_quarter 62 = .ok (.lrem, 1) := by decide +kernel
theorem dX8_quarter_63 : decode cX8_quarter 63 = .ok (.ldc2_w 205, 3) := by decide +kernel
theorem dX8_quarter_66 : decode cX8_quarter 66 = .ok (.lrem, 1) := by decide +kernel
theorem dX8_quarter_67 : decode cX8_quarter 67 = .ok (.lstore_n 2, 1) := by decide +kernel
theorem dX8_quarter_68 : decode cX8_quarter 68 = .ok (.lload_n 2, 1) := by decide +kernel
theorem dX8_quarter_69 : decode cX8_quarter 69 = .ok (.aload_n 0, 1) := by decide +kernel
theorem dX8_quarter_70 : decode cX8_quarter 70 = .ok (.getfield 25, 3) := by decide +kernel
theorem dX8_quarter_73 : decode cX8_quarter 73 = .ok (.getfield 207, 3) := by decide +kernel
theorem dX8_quarter_76 : decode cX8_quarter 76 = .ok (.aload_n 0, 1) := by decide +kernel
theorem dX8_quarter_77 : decode cX8_quarter 77 = .ok (.getfield 25, 3) := by decide +kernel
theorem dX8_quarter_80 : decode cX8_quarter 80 = .ok (.getfield 174, 3) := by decide +kernel
theorem dX8_quarter_83 : decode cX8_quarter 83 = .ok (.iaload, 1) := by decide +kernel
theorem dX8_quarter_84 : decode cX8_quarter 84 = .ok (.i2l, 1) := by decide +kernel
theorem dX8_quarter_85 : decode cX8_quarter 85 = .ok (.lcmp, 1) := by decide +kernel
theorem dX8_quarter_86 : decode cX8_quarter 86 = .ok (.ifCond .ge 13, 3) := by decide +kernel
theorem dX8_quarter_89 : decode cX8_quarter 89 = .ok (.aload_n 0, 1) := by decide +kernel
theorem dX8_quarter_90 : decode cX8_quarter 90 = .ok (.getfield 25, 3) := by decide +kernel
theorem dX8_quarter_93 : decode cX8_quarter 93 = .ok (.invokevirtual 210, 3) := by decide +kernel
theorem dX8_quarter_96 : decode cX8_quarter 96 = .ok (.goto 4, 3) := by decide +kernel
theorem dX8_quarter_99 : decode cX8_quarter 99 = .ok (.iconst 0, 1) := by decide +kernel
theorem dX8_quarter_100 : decode cX8_quarter 100 = .ok (.istore 4, 2) := by decide +kernel
theorem dX8_quarter_102 : decode cX8_quarter 102 = .ok (.aload_n 0, 1) := by decide +kernel
theorem dX8_quarter_103 : decode cX8_quarter 103 = .ok (.getfield 25, 3) := by decide +kernel
theorem dX8_quarter_106 : decode cX8_quarter 106 = .ok (.dup, 1) := by decide +kernel
theorem dX8_quarter_107 : decode cX8_quarter 107 = .ok (.getfield 174, 3) := by decide +kernel
theorem dX8_quarter_110 : decode cX8_quarter 110 = .ok (.iconst 1, 1) := by decide +kernel
theorem dX8_quarter_111 : decode cX8_quarter 111 = .ok (.iadd, 1) := by decide +kernel
theorem dX8_quarter_112 : decode cX8_quarter 112 = .ok (.putfield 174, 3) := by decide +kernel
theorem dX8_quarter_115 : decode cX8_quarter 115 = .ok (.iload 4, 2) := by decide +kernel
theorem dX8_quarter_117 : decode cX8_quarter 117 = .ok (.ireturn, 1) := by decide +kernel
theorem dX8_undo_0 : decode cX8_undo 0 = .ok (.aload_n 0, 1) := by decide +kernel
theorem dX8_undo_1 : decode cX8_undo 1 = .ok (.getfield 32, 3) := by decide +kernel
theorem dX8_undo_4 : decode cX8_undo 4 = .ok (.getfield 214, 3) := by decide +kernel
theorem dX8_undo_7 : decode cX8_undo 7 = .ok (.ifCond .ne 6, 3) := by decide +kernel
theorem dX8_undo_10 : decode cX8_undo 10 = .ok (.ldc 160, 2) := by decide +kernel
theorem dX8_undo_12 : decode cX8_undo 12 = .ok (.ireturn, 1) := by decide +kernel
theorem dX8_undo_13 : decode cX8_undo 13 = .ok (.aload_n 0, 1) := by decide +kernel
theorem dX8_undo_14 : decode cX8_undo 14 = .ok (.getfield 32, 3) := by decide +kernel
theorem dX8_undo_17 : decode cX8_undo 17 = .ok (.aload_n 0, 1) := by decide +kernel
theorem dX8_undo_18 : decode cX8_undo 18 = .ok (.getfield 25, 3) := by decide +kernel
theorem dX8_undo_21 : decode cX8_undo 21 = .ok (.invokevirtual 217, 3) := by decide +kernel
theorem dX8_undo_24 : decode cX8_undo 24 = .ok (.aload_n 0, 1) := by decide +kernel
theorem dX8_undo_25 : decode cX8_undo 25 = .ok (.getfield 32, 3) := by decide +kernel
theorem dX8_undo_28 : decode cX8_undo 28 = .ok (.getfield 214, 3) := by decide +kernel
theorem dX8_undo_31 : decode cX8_undo 31 = .ok (.ireturn, 1) := by decide +kernel
theorem dX8_sheet_0 : decode cX8_sheet 0 = .ok (.aload_n 0, 1) := by decide +kernel
theorem dX8_sheet_1 : decode cX8_sheet 1 = .ok (.getfield 25, 3) := by decide +kernel
theorem dX8_sheet_4 : decode cX8_sheet 4 = .ok (.iload_n 1, 1) := by decide +kernel
theorem dX8_sheet_5 : decode cX8_sheet 5 = .ok (.invokevirtual 154, 3) := by decide +kernel
theorem dX8_sheet_8 : decode cX8_sheet 8 = .ok (.ifCond .ne 6, 3) := by decide +kernel
theorem dX8_sheet_11 : decode cX8_sheet 11 = .ok (.ldc 73, 2) := by decide +kernel
theorem dX8_sheet_13 : decode cX8_sheet 13 = .ok (.ireturn, 1) := by decide +kernel
theorem dX8_sheet_14 : decode cX8_sheet 14 = .ok (.iload_n 2, 1) := by decide +kernel
theorem dX8_sheet_15 : decode cX8_sheet 15 = .ok (.tableswitch 141 0 5 #[37, 47, 57, 82, 107, 124], 37) := by decide +kernel
theorem dX8_sheet_52 : decode cX8_sheet 52 = .ok (.aload_n 0, 1) := by decide +kernel
theorem dX8_sheet_53 : decode cX8_sheet 53 = .ok (.getfield 25, 3) := by decide +kernel
theorem dX8_sheet_56 : decode cX8_sheet 56 = .ok (.getfield 220, 3) := by decide +kernel
theorem dX8_sheet_59 : decode cX8_sheet 59 = .ok (.iload_n 1, 1) := by decide +kernel
theorem dX8_sheet_60 : decode cX8_sheet 60 = .ok (.iaload, 1) := by decide +kernel
theorem dX8_sheet_61 : decode cX8_sheet 61 = .ok (.ireturn, 1) := by decide +kernel
theorem dX8_sheet_62 : decode cX8_sheet 62 = .ok (.aload_n 0, 1) := by decide +kernel
theorem dX8_sheet_63 : decode cX8_sheet 63 = .ok (.getfield 25, 3) := by decide +kernel
theorem dX8_sheet_66 : decode cX8_sheet 66 = .ok (.getfield 177, 3) := by decide +kernel
theorem dX8_sheet_69 : decode cX8_sheet 69 = .ok (.iload_n 1, 1) := by decide +kernel
theorem dX8_sheet_70 : decode cX8_sheet 70 = .ok (.iaload, 1) := by decide +kernel
theorem dX8_sheet_71 : decode cX8_sheet 71 = .ok (.ireturn, 1) := by decide +kernel
theorem dX8_sheet_72 : decode cX8_sheet 72 = .ok (.aload_n 0, 1) := by decide +kernel
theorem dX8_sheet_73 : decode cX8_sheet 73 = .ok (.getfield 25, 3) := by decide +kernel
theorem dX8_sheet_76 : decode cX8_sheet 76 = .ok (.iload_n 1, 1) := by decide +kernel
theorem dX8_sheet_77 : decode cX8_sheet 77 = .ok (.invokevirtual 223, 3) := by decide +kernel
theorem dX8_sheet_80 : decode cX8_sheet 80 = .ok (.ifCond .eq 8, 3) := by decide +kernel
theorem dX8_sheet_83 : decode cX8_sheet 83 = .ok (.ldc 226, 2) := by decide +kernel
theorem dX8_sheet_85 : decode cX8_sheet 85 = .ok (.goto 11, 3) := by decide +kernel
theorem dX8_sheet_88 : decode cX8_sheet 88 = .ok (.aload_n 0, 1) := by decide +kernel
theorem dX8_sheet_89 : decode cX8_sheet 89 = .ok (.getfield 25, 3) := by decide +kernel
theorem dX8_sheet_92 : decode cX8_sheet 92 = .ok (.iload_n 1, 1) := by decide +kernel
theorem dX8_sheet_93 : decode cX8_sheet 93 = .ok (.invokevirtual 157, 3) := by decide +kernel
theorem dX8_sheet_96 : decode cX8_sheet 96 = .ok (.ireturn, 1) := by decide +kernel
theorem dX8_sheet_97 : decode cX8_sheet 97 = .ok (.aload_n 0, 1) := by decide +kernel
theorem dX8_sheet_98 : decode cX8_sheet 98 = .ok (.getfield 25, 3) := by decide +kernel
theorem dX8_sheet_101 : decode cX8_sheet 101 = .ok (.iload_n 1, 1) := by decide +kernel
theorem dX8_sheet_102 : decode cX8_sheet 102 = .ok (.invokevirtual 223, 3) := by decide +kernel
theorem dX8_sheet_105 : decode cX8_sheet 105 = .ok (.ifCond .eq 8, 3) := by decide +kernel
theorem dX8_sheet_108 : decode cX8_sheet 108 = .ok (.ldc 226, 2) := by decide +kernel
theorem dX8_sheet_110 : decode cX8_sheet 110 = .ok (.goto 11, 3) := by decide +kernel
theorem dX8_sheet_113 : decode cX8_sheet 113 = .ok (.aload_n 0, 1) := by decide +kernel
theorem dX8_sheet_114 : decode cX8_sheet 114 = .ok (.getfield 25, 3) := by decide +kernel
theorem dX8_sheet_117 : decode cX8_sheet 117 = .ok (.iload_n 1, 1) := by decide +kernel
theorem dX8_sheet_118 : decode cX8_sheet 118 = .ok (.invokevirtual 164, 3) := by decide +kernel
theorem dX8_sheet_121 : decode cX8_sheet 121 = .ok (.ireturn, 1) := by decide +kernel
theorem dX8_sheet_122 : decode cX8_sheet 122 = .ok (.aload_n 0, 1) := by decide +kernel
theorem dX8_sheet_123 : decode cX8_sheet 123 = .ok (.getfield 25, 3) := by decide +kernel
theorem dX8_sheet_126 : decode cX8_sheet 126 = .ok (.iload_n 1, 1) := by decide +kernel
theorem dX8_sheet_127 : decode cX8_sheet 127 = .ok (.invokevirtual 227, 3) := by decide +kernel
theorem dX8_sheet_130 : decode cX8_sheet 130 = .ok (.ifCond .eq 7, 3) := by decide +kernel
theorem dX8_sheet_133 : decode cX8_sheet 133 = .ok (.iconst 1, 1) := by decide +kernel
theorem dX8_sheet_134 : decode cX8_sheet 134 = .ok (.goto 4, 3) := by decide +kernel
theorem dX8_sheet_137 : decode cX8_sheet 137 = .ok (.iconst 0, 1) := by decide +kernel
theorem dX8_sheet_138 : decode cX8_sheet 138 = .ok (.ireturn, 1) := by decide +kernel
theorem dX8_sheet_139 : decode cX8_sheet 139 = .ok (.aload_n 0, 1) := by decide +kernel
theorem dX8_sheet_140 : decode cX8_sheet 140 = .ok (.getfield 25, 3) := by decide +kernel
theorem dX8_sheet_143 : decode cX8_sheet 143 = .ok (.iload_n 1, 1) := by decide +kernel
theorem dX8_sheet_144 : decode cX8_sheet 144 = .ok (.invokevirtual 230, 3) := by decide +kernel
theorem dX8_sheet_147 : decode cX8_sheet 147 = .ok (.ifCond .eq 7, 3) := by decide +kernel
theorem dX8_sheet_150 : decode cX8_sheet 150 = .ok (.iconst 1, 1) := by decide +kernel
theorem dX8_sheet_151 : decode cX8_sheet 151 = .ok (.goto 4, 3) := by decide +kernel
theorem dX8_sheet_154 : decode cX8_sheet 154 = .ok (.iconst 0, 1) := by decide +kernel
theorem dX8_sheet_155 : decode cX8_sheet 155 = .ok (.ireturn, 1) := by decide +kernel
theorem dX8_sheet_156 : decode cX8_sheet 156 = .ok (.ldc 73, 2) := by decide +kernel
theorem dX8_sheet_158 : decode cX8_sheet 158 = .ok (.ireturn, 1) := by decide +kernel
theorem dX8_desk_0 : decode cX8_desk 0 = .ok (.aload_n 0, 1) := by decide +kernel
theorem dX8_desk_1 : decode cX8_desk 1 = .ok (.getfield 25, 3) := by decide +kernel
theorem dX8_desk_4 : decode cX8_desk 4 = .ok (.iload_n 1, 1) := by decide +kernel
theorem dX8_desk_5 : decode cX8_desk 5 = .ok (.invokevirtual 183, 3) := by decide +kernel
theorem dX8_desk_8 : decode cX8_desk 8 = .ok (.ifCond .ne 6, 3) := by decide +kernel
theorem dX8_desk_11 : decode cX8_desk 11 = .ok (.ldc 73, 2) := by decide +kernel
theorem dX8_desk_13 : decode cX8_desk 13 = .ok (.ireturn, 1) := by decide +kernel
theorem dX8_desk_14 : decode cX8_desk 14 = .ok (.iload_n 2, 1) := by decide +kernel
theorem dX8_desk_15 : decode cX8_desk 15 = .ok (.bipush 10, 2) := by decide +kernel
theorem dX8_desk_17 : decode cX8_desk 17 = .ok (.if_icmp .lt 36, 3) := by decide +kernel
theorem dX8_desk_20 : decode cX8_desk 20 = .ok (.iload_n 2, 1) := by decide +kernel
theorem dX8_desk_21 : decode cX8_desk 21 = .ok (.bipush 10, 2) := by decide +kernel
theorem dX8_desk_23 : decode cX8_desk 23 = .ok (.isub, 1) := by decide +kernel
theorem dX8_desk_24 : decode cX8_desk 24 = .ok (.istore_n 3, 1) := by decide +kernel
theorem dX8_desk_25 : decode cX8_desk 25 = .ok (.iload_n 3, 1) := by decide +kernel
theorem dX8_desk_26 : decode cX8_desk 26 = .ok (.aload_n 0, 1) := by decide +kernel
theorem dX8_desk_27 : decode cX8_desk 27 = .ok (.getfield 25, 3) := by decide +kernel
theorem dX8_desk_30 : decode cX8_desk 30 = .ok (.getfield 187, 3) := by decide +kernel
theorem dX8_desk_33 : decode cX8_desk 33 = .ok (.iload_n 1, 1) := by decide +kernel
theorem dX8_desk_34 : decode cX8_desk 34 = .ok (.iaload, 1) := by decide +kernel
theorem dX8_desk_35 : decode cX8_desk 35 = .ok (.if_icmp .ge 15, 3) := by decide +kernel
theorem dX8_desk_38 : decode cX8_desk 38 = .ok (.aload_n 0, 1) := by decide +kernel
theorem dX8_desk_39 : decode cX8_desk 39 = .ok (.getfield 25, 3) := by decide +kernel
theorem dX8_desk_42 : decode cX8_desk 42 = .ok (.iload_n 1, 1) := by decide +kernel
theorem dX8_desk_43 : decode cX8_desk 43 = .ok (.iload_n 3, 1) := by decide +kernel
theorem dX8_desk_44 : decode cX8_desk 44 = .ok (.invokevirtual 233, 3) := by decide +kernel
theorem dX8_desk_47 : decode cX8_desk 47 = .ok (.goto 5, 3) := by decide +kernel
theorem dX8_desk_50 : decode cX8_desk 50 = .ok (.ldc 226, 2) := by decide +kernel
theorem dX8_desk_52 : decode cX8_desk 52 = .ok (.ireturn, 1) := by decide +kernel
theorem dX8_desk_53 : decode cX8_desk 53 = .ok (.iload_n 2, 1) := by decide +kernel
theorem dX8_desk_54 : decode cX8_desk 54 = .ok (.tableswitch 56 0 2 #[26, 36, 46], 26) := by decide +kernel
theorem dX8_desk_80 : decode cX8_desk 80 = .ok (.aload_n 0, 1) := by decide +kernel
theorem dX8_desk_81 : decode cX8_desk 81 = .ok (.getfield 25, 3) := by decide +kernel
theorem dX8_desk_84 : decode cX8_desk 84 = .ok (.getfield 236, 3) := by decide +kernel
theorem dX8_desk_87 : decode cX8_desk 87 = .ok (.iload_n 1, 1) := by decide +kernel
theorem dX8_desk_88 : decode cX8_desk 88 = .ok (.iaload, 1) := by decide +kernel
theorem dX8_desk_89 : decode cX8_desk 89 = .ok (.ireturn, 1) := by decide +kernel
theorem dX8_desk_90 : decode cX8_desk 90 = .ok (.aload_n 0, 1) := by decide +kernel
theorem dX8_desk_91 : decode cX8_desk 91 = .ok (.getfield 25, 3) := by decide +kernel
theorem dX8_desk_94 : decode cX8_desk 94 = .ok (.getfield 239, 3) := by decide +kernel
theorem dX8_desk_97 : decode cX8_desk 97 = .ok (.iload_n 1, 1) := by decide +kernel
theorem dX8_desk_98 : decode cX8_desk 98 = .ok (.iaload, 1) := by decide +kernel
theorem dX8_desk_99 : decode cX8_desk 99 = .ok (.ireturn, 1) := by decide +kernel
theorem dX8_desk_100 : decode cX8_desk 100 = .ok (.aload_n 0, 1) := by decide +kernel
theorem dX8_desk_101 : decode cX8_desk 101 = .ok (.getfield 25, 3) := by decide +kernel
theorem dX8_desk_104 : decode cX8_desk 104 = .ok (.getfield 187, 3) := by decide +kernel
theorem dX8_desk_107 : decode cX8_desk 107 = .ok (.iload_n 1, 1) := by decide +kernel
theorem dX8_desk_108 : decode cX8_desk 108 = .ok (.iaload, 1) := by decide +kernel
theorem dX8_desk_109 : decode cX8_desk 109 = .ok (.ireturn, 1) := by decide +kernel
theorem dX8_desk_110 : decode cX8_desk 110 = .ok (.ldc 73, 2) := by decide +kernel
theorem dX8_desk_112 : decode cX8_desk 112 = .ok (.ireturn, 1) := by decide +kernel
theorem dX8_taken_0 : decode cX8_taken 0 = .ok (.aload_n 0, 1) := by decide +kernel
theorem dX8_taken_1 : decode cX8_taken 1 = .ok (.getfield 25, 3) := by decide +kernel
theorem dX8_taken_4 : decode cX8_taken 4 = .ok (.invokevirtual 197, 3) := by decide +kernel
theorem dX8_taken_7 : decode cX8_taken 7 = .ok (.ifCond .ne 6, 3) := by decide +kernel
theorem dX8_taken_10 : decode cX8_taken 10 = .ok (.ldc 160, 2) := by decide +kernel
theorem dX8_taken_12 : decode cX8_taken 12 = .ok (.ireturn, 1) := by decide +kernel
theorem dX8_taken_13 : decode cX8_taken 13 = .ok (.iload_n 1, 1) := by decide +kernel
theorem dX8_taken_14 : decode cX8_taken 14 = .ok (.invokestatic 242, 3) := by decide +kernel
theorem dX8_taken_17 : decode cX8_taken 17 = .ok (.ifCond .eq 12, 3) := by decide +kernel
theorem dX8_taken_20 : decode cX8_taken 20 = .ok (.iload_n 2, 1) := by decide +kernel
theorem dX8_taken_21 : decode cX8_taken 21 = .ok (.ifCond .lt 8, 3) := by decide +kernel
theorem dX8_taken_24 : decode cX8_taken 24 = .ok (.iload_n 2, 1) := by decide +kernel
theorem dX8_taken_25 : decode cX8_taken 25 = .ok (.iconst 1, 1) := by decide +kernel
theorem dX8_taken_26 : decode cX8_taken 26 = .ok (.if_icmp .le 6, 3) := by decide +kernel
theorem dX8_taken_29 : decode cX8_taken 29 = .ok (.ldc 73, 2) := by decide +kernel
theorem dX8_taken_31 : decode cX8_taken 31 = .ok (.ireturn, 1) := by decide +kernel
theorem dX8_taken_32 : decode cX8_taken 32 = .ok (.aload_n 0, 1) := by decide +kernel
theorem dX8_taken_33 : decode cX8_taken 33 = .ok (.getfield 25, 3) := by decide +kernel
theorem dX8_taken_36 : decode cX8_taken 36 = .ok (.iload_n 1, 1) := by decide +kernel
theorem dX8_taken_37 : decode cX8_taken 37 = .ok (.invokevirtual 245, 3) := by decide +kernel
theorem dX8_taken_40 : decode cX8_taken 40 = .ok (.istore_n 3, 1) := by decide +kernel
theorem dX8_taken_41 : decode cX8_taken 41 = .ok (.iload_n 2, 1) := by decide +kernel
theorem dX8_taken_42 : decode cX8_taken 42 = .ok (.ifCond .ne 7, 3) := by decide +kernel
theorem dX8_taken_45 : decode cX8_taken 45 = .ok (.iload_n 3, 1) := by decide +kernel
theorem dX8_taken_46 : decode cX8_taken 46 = .ok (.goto 11, 3) := by decide +kernel
theorem dX8_taken_49 : decode cX8_taken 49 = .ok (.aload_n 0, 1) := by decide +kernel
theorem dX8_taken_50 : decode cX8_taken 50 = .ok (.getfield 25, 3) := by decide +kernel
theorem dX8_taken_53 : decode cX8_taken 53 = .ok (.iload_n 3, 1) := by decide +kernel
theorem dX8_taken_54 : decode cX8_taken 54 = .ok (.invokevirtual 248, 3) := by decide +kernel
theorem dX8_taken_57 : decode cX8_taken 57 = .ok (.ireturn, 1) := by decide +kernel
theorem dX8_mean_0 : decode cX8_mean 0 = .ok (.aload_n 0, 1) := by decide +kernel
theorem dX8_mean_1 : decode cX8_mean 1 = .ok (.getfield 25, 3) := by decide +kernel
theorem dX8_mean_4 : decode cX8_mean 4 = .ok (.invokevirtual 197, 3) := by decide +kernel
theorem dX8_mean_7 : decode cX8_mean 7 = .ok (.ifCond .ne 6, 3) := by decide +kernel
theorem dX8_mean_10 : decode cX8_mean 10 = .ok (.ldc 160, 2) := by decide +kernel
theorem dX8_mean_12 : decode cX8_mean 12 = .ok (.ireturn, 1) := by decide +kernel
theorem dX8_mean_13 : decode cX8_mean 13 = .ok (.iload_n 1, 1) := by decide +kernel
theorem dX8_mean_14 : decode cX8_mean 14 = .ok (.iconst 1, 1) := by decide +kernel
theorem dX8_mean_15 : decode cX8_mean 15 = .ok (.if_icmp .lt 31, 3) := by decide +kernel
theorem dX8_mean_18 : decode cX8_mean 18 = .ok (.iload_n 1, 1) := by decide +kernel
theorem dX8_mean_19 : decode cX8_mean 19 = .ok (.iconst 3, 1) := by decide +kernel
theorem dX8_mean_20 : decode cX8_mean 20 = .ok (.if_icmp .gt 26, 3) := by decide +kernel
theorem dX8_mean_23 : decode cX8_mean 23 = .ok (.iload_n 1, 1) := by decide +kernel
theorem dX8_mean_24 : decode cX8_mean 24 = .ok (.bipush 12, 2) := by decide +kernel
theorem dX8_mean_26 : decode cX8_mean 26 = .ok (.aload_n 0, 1) := by decide +kernel
theorem dX8_mean_27 : decode cX8_mean 27 = .ok (.getfield 25, 3) := by decide +kernel
theorem dX8_mean_30 : decode cX8_mean 30 = .ok (.getfield 174, 3) := by decide +kernel
theorem dX8_mean_33 : decode cX8_mean 33 = .ok (.isub, 1) := by decide +kernel
theorem dX8_mean_34 : decode cX8_mean 34 = .ok (.if_icmp .gt 12, 3) := by decide +kernel
theorem dX8_mean_37 : decode cX8_mean 37 = .ok (.iload_n 2, 1) := by decide +kernel
theorem dX8_mean_38 : decode cX8_mean 38 = .ok (.ifCond .lt 8, 3) := by decide +kernel
theorem dX8_mean_41 : decode cX8_mean 41 = .ok (.iload_n 2, 1) := by decide +kernel
theorem dX8_mean_42 : decode cX8_mean 42 = .ok (.iconst 1, 1) := by decide +kernel
theorem dX8_mean_43 : decode cX8_mean 43 = .ok (.if_icmp .le 6, 3) := by decide +kernel
theorem dX8_mean_46 : decode cX8_mean 46 = .ok (.ldc 73, 2) := by decide +kernel
theorem dX8_mean_48 : decode cX8_mean 48 = .ok (.ireturn, 1) := by decide +kernel
theorem dX8_mean_49 : decode cX8_mean 49 = .ok (.aload_n 0, 1) := by decide +kernel
