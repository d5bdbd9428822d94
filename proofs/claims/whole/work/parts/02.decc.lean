theorem dX8_mean_50 : decode cX8_mean 50 = .ok (.getfield 43, 3) := by decide +kernel
theorem dX8_mean_53 : decode cX8_mean 53 = .ok (.aload_n 0, 1) := by decide +kernel
theorem dX8_mean_54 : decode cX8_mean 54 = .ok (.getfield 25, 3) := by decide +kernel
theorem dX8_mean_57 : decode cX8_mean 57 = .ok (.iload_n 1, 1) := by decide +kernel
theorem dX8_mean_58 : decode cX8_mean 58 = .ok (.invokevirtual 251, 3) := by decide +kernel
theorem dX8_mean_61 : decode cX8_mean 61 = .ok (.iload_n 2, 1) := by decide +kernel
theorem dX8_mean_62 : decode cX8_mean 62 = .ok (.ifCond .ne 13, 3) := by decide +kernel
theorem dX8_mean_65 : decode cX8_mean 65 = .ok (.aload_n 0, 1) := by decide +kernel
theorem dX8_mean_66 : decode cX8_mean 66 = .ok (.getfield 43, 3) := by decide +kernel
theorem dX8_mean_69 : decode cX8_mean 69 = .ok (.getfield 255, 3) := by decide +kernel
theorem dX8_mean_72 : decode cX8_mean 72 = .ok (.goto 10, 3) := by decide +kernel
theorem dX8_mean_75 : decode cX8_mean 75 = .ok (.aload_n 0, 1) := by decide +kernel
theorem dX8_mean_76 : decode cX8_mean 76 = .ok (.getfield 43, 3) := by decide +kernel
theorem dX8_mean_79 : decode cX8_mean 79 = .ok (.getfield 258, 3) := by decide +kernel
theorem dX8_mean_82 : decode cX8_mean 82 = .ok (.ireturn, 1) := by decide +kernel
theorem dX8_order_0 : decode cX8_order 0 = .ok (.aload_n 0, 1) := by decide +kernel
theorem dX8_order_1 : decode cX8_order 1 = .ok (.getfield 25, 3) := by decide +kernel
theorem dX8_order_4 : decode cX8_order 4 = .ok (.iload_n 1, 1) := by decide +kernel
theorem dX8_order_5 : decode cX8_order 5 = .ok (.invokevirtual 183, 3) := by decide +kernel
theorem dX8_order_8 : decode cX8_order 8 = .ok (.ifCond .eq 15, 3) := by decide +kernel
theorem dX8_order_11 : decode cX8_order 11 = .ok (.iload_n 2, 1) := by decide +kernel
theorem dX8_order_12 : decode cX8_order 12 = .ok (.invokestatic 242, 3) := by decide +kernel
theorem dX8_order_15 : decode cX8_order 15 = .ok (.ifCond .eq 8, 3) := by decide +kernel
theorem dX8_order_18 : decode cX8_order 18 = .ok (.iload_n 3, 1) := by decide +kernel
theorem dX8_order_19 : decode cX8_order 19 = .ok (.iconst (-1), 1) := by decide +kernel
theorem dX8_order_20 : decode cX8_order 20 = .ok (.if_icmp .ge 6, 3) := by decide +kernel
theorem dX8_order_23 : decode cX8_order 23 = .ok (.ldc 73, 2) := by decide +kernel
theorem dX8_order_25 : decode cX8_order 25 = .ok (.ireturn, 1) := by decide +kernel
theorem dX8_order_26 : decode cX8_order 26 = .ok (.aload_n 0, 1) := by decide +kernel
theorem dX8_order_27 : decode cX8_order 27 = .ok (.getfield 25, 3) := by decide +kernel
theorem dX8_order_30 : decode cX8_order 30 = .ok (.getfield 187, 3) := by decide +kernel
theorem dX8_order_33 : decode cX8_order 33 = .ok (.iload_n 1, 1) := by decide +kernel
theorem dX8_order_34 : decode cX8_order 34 = .ok (.iaload, 1) := by decide +kernel
theorem dX8_order_35 : decode cX8_order 35 = .ok (.istore 4, 2) := by decide +kernel
theorem dX8_order_37 : decode cX8_order 37 = .ok (.iload 4, 2) := by decide +kernel
theorem dX8_order_39 : decode cX8_order 39 = .ok (.bipush 7, 2) := by decide +kernel
theorem dX8_order_41 : decode cX8_order 41 = .ok (.if_icmp .gt 9, 3) := by decide +kernel
theorem dX8_order_44 : decode cX8_order 44 = .ok (.iload_n 3, 1) := by decide +kernel
theorem dX8_order_45 : decode cX8_order 45 = .ok (.iload 4, 2) := by decide +kernel
theorem dX8_order_47 : decode cX8_order 47 = .ok (.if_icmp .lt 6, 3) := by decide +kernel
theorem dX8_order_50 : decode cX8_order 50 = .ok (.ldc 226, 2) := by decide +kernel
theorem dX8_order_52 : decode cX8_order 52 = .ok (.ireturn, 1) := by decide +kernel
theorem dX8_order_53 : decode cX8_order 53 = .ok (.aload_n 0, 1) := by decide +kernel
theorem dX8_order_54 : decode cX8_order 54 = .ok (.getfield 50, 3) := by decide +kernel
theorem dX8_order_57 : decode cX8_order 57 = .ok (.aload_n 0, 1) := by decide +kernel
theorem dX8_order_58 : decode cX8_order 58 = .ok (.getfield 25, 3) := by decide +kernel
theorem dX8_order_61 : decode cX8_order 61 = .ok (.iload_n 1, 1) := by decide +kernel
theorem dX8_order_62 : decode cX8_order 62 = .ok (.iload_n 2, 1) := by decide +kernel
theorem dX8_order_63 : decode cX8_order 63 = .ok (.invokevirtual 261, 3) := by decide +kernel
theorem dX8_order_66 : decode cX8_order 66 = .ok (.iload_n 3, 1) := by decide +kernel
theorem dX8_order_67 : decode cX8_order 67 = .ok (.ifCond .ge 13, 3) := by decide +kernel
theorem dX8_order_70 : decode cX8_order 70 = .ok (.aload_n 0, 1) := by decide +kernel
theorem dX8_order_71 : decode cX8_order 71 = .ok (.getfield 50, 3) := by decide +kernel
theorem dX8_order_74 : decode cX8_order 74 = .ok (.getfield 265, 3) := by decide +kernel
theorem dX8_order_77 : decode cX8_order 77 = .ok (.goto 12, 3) := by decide +kernel
theorem dX8_order_80 : decode cX8_order 80 = .ok (.aload_n 0, 1) := by decide +kernel
theorem dX8_order_81 : decode cX8_order 81 = .ok (.getfield 50, 3) := by decide +kernel
theorem dX8_order_84 : decode cX8_order 84 = .ok (.getfield 268, 3) := by decide +kernel
theorem dX8_order_87 : decode cX8_order 87 = .ok (.iload_n 3, 1) := by decide +kernel
theorem dX8_order_88 : decode cX8_order 88 = .ok (.iaload, 1) := by decide +kernel
theorem dX8_order_89 : decode cX8_order 89 = .ok (.ireturn, 1) := by decide +kernel
theorem dX8_cover_0 : decode cX8_cover 0 = .ok (.aload_n 0, 1) := by decide +kernel
theorem dX8_cover_1 : decode cX8_cover 1 = .ok (.getfield 25, 3) := by decide +kernel
theorem dX8_cover_4 : decode cX8_cover 4 = .ok (.iload_n 1, 1) := by decide +kernel
theorem dX8_cover_5 : decode cX8_cover 5 = .ok (.invokevirtual 183, 3) := by decide +kernel
theorem dX8_cover_8 : decode cX8_cover 8 = .ok (.ifCond .eq 10, 3) := by decide +kernel
theorem dX8_cover_11 : decode cX8_cover 11 = .ok (.iload_n 2, 1) := by decide +kernel
theorem dX8_cover_12 : decode cX8_cover 12 = .ok (.invokestatic 242, 3) := by decide +kernel
theorem dX8_cover_15 : decode cX8_cover 15 = .ok (.ifCond .ne 6, 3) := by decide +kernel
theorem dX8_cover_18 : decode cX8_cover 18 = .ok (.ldc 73, 2) := by decide +kernel
theorem dX8_cover_20 : decode cX8_cover 20 = .ok (.ireturn, 1) := by decide +kernel
theorem dX8_cover_21 : decode cX8_cover 21 = .ok (.aload_n 0, 1) := by decide +kernel
theorem dX8_cover_22 : decode cX8_cover 22 = .ok (.getfield 25, 3) := by decide +kernel
theorem dX8_cover_25 : decode cX8_cover 25 = .ok (.getfield 236, 3) := by decide +kernel
theorem dX8_cover_28 : decode cX8_cover 28 = .ok (.iload_n 1, 1) := by decide +kernel
theorem dX8_cover_29 : decode cX8_cover 29 = .ok (.iaload, 1) := by decide +kernel
theorem dX8_cover_30 : decode cX8_cover 30 = .ok (.aload_n 0, 1) := by decide +kernel
theorem dX8_cover_31 : decode cX8_cover 31 = .ok (.getfield 25, 3) := by decide +kernel
theorem dX8_cover_34 : decode cX8_cover 34 = .ok (.getfield 187, 3) := by decide +kernel
theorem dX8_cover_37 : decode cX8_cover 37 = .ok (.iload_n 1, 1) := by decide +kernel
theorem dX8_cover_38 : decode cX8_cover 38 = .ok (.iaload, 1) := by decide +kernel
theorem dX8_cover_39 : decode cX8_cover 39 = .ok (.isub, 1) := by decide +kernel
theorem dX8_cover_40 : decode cX8_cover 40 = .ok (.istore_n 3, 1) := by decide +kernel
theorem dX8_cover_41 : decode cX8_cover 41 = .ok (.iconst 0, 1) := by decide +kernel
theorem dX8_cover_42 : decode cX8_cover 42 = .ok (.istore 4, 2) := by decide +kernel
theorem dX8_cover_44 : decode cX8_cover 44 = .ok (.iload 4, 2) := by decide +kernel
theorem dX8_cover_46 : decode cX8_cover 46 = .ok (.iload_n 3, 1) := by decide +kernel
theorem dX8_cover_47 : decode cX8_cover 47 = .ok (.if_icmp .gt 31, 3) := by decide +kernel
theorem dX8_cover_50 : decode cX8_cover 50 = .ok (.aload_n 0, 1) := by decide +kernel
theorem dX8_cover_51 : decode cX8_cover 51 = .ok (.getfield 25, 3) := by decide +kernel
theorem dX8_cover_54 : decode cX8_cover 54 = .ok (.iload_n 1, 1) := by decide +kernel
theorem dX8_cover_55 : decode cX8_cover 55 = .ok (.iconst 0, 1) := by decide +kernel
theorem dX8_cover_56 : decode cX8_cover 56 = .ok (.iload_n 2, 1) := by decide +kernel
theorem dX8_cover_57 : decode cX8_cover 57 = .ok (.iload 4, 2) := by decide +kernel
theorem dX8_cover_59 : decode cX8_cover 59 = .ok (.isub, 1) := by decide +kernel
theorem dX8_cover_60 : decode cX8_cover 60 = .ok (.invokestatic 271, 3) := by decide +kernel
theorem dX8_cover_63 : decode cX8_cover 63 = .ok (.invokevirtual 276, 3) := by decide +kernel
theorem dX8_cover_66 : decode cX8_cover 66 = .ok (.ifCond .ne 6, 3) := by decide +kernel
theorem dX8_cover_69 : decode cX8_cover 69 = .ok (.iload 4, 2) := by decide +kernel
theorem dX8_cover_71 : decode cX8_cover 71 = .ok (.ireturn, 1) := by decide +kernel
theorem dX8_cover_72 : decode cX8_cover 72 = .ok (.iinc 4 1, 3) := by decide +kernel
theorem dX8_cover_75 : decode cX8_cover 75 = .ok (.goto (-31), 3) := by decide +kernel
theorem dX8_cover_78 : decode cX8_cover 78 = .ok (.ldc 226, 2) := by decide +kernel
theorem dX8_cover_80 : decode cX8_cover 80 = .ok (.ireturn, 1) := by decide +kernel
theorem dX8_lend_0 : decode cX8_lend 0 = .ok (.aload_n 0, 1) := by decide +kernel
theorem dX8_lend_1 : decode cX8_lend 1 = .ok (.getfield 25, 3) := by decide +kernel
theorem dX8_lend_4 : decode cX8_lend 4 = .ok (.iload_n 1, 1) := by decide +kernel
theorem dX8_lend_5 : decode cX8_lend 5 = .ok (.invokevirtual 183, 3) := by decide +kernel
theorem dX8_lend_8 : decode cX8_lend 8 = .ok (.ifCond .eq 19, 3) := by decide +kernel
theorem dX8_lend_11 : decode cX8_lend 11 = .ok (.aload_n 0, 1) := by decide +kernel
theorem dX8_lend_12 : decode cX8_lend 12 = .ok (.getfield 25, 3) := by decide +kernel
theorem dX8_lend_15 : decode cX8_lend 15 = .ok (.iload_n 2, 1) := by decide +kernel
theorem dX8_lend_16 : decode cX8_lend 16 = .ok (.invokevirtual 183, 3) := by decide +kernel
theorem dX8_lend_19 : decode cX8_lend 19 = .ok (.ifCond .eq 8, 3) := by decide +kernel
theorem dX8_lend_22 : decode cX8_lend 22 = .ok (.iload_n 1, 1) := by decide +kernel
theorem dX8_lend_23 : decode cX8_lend 23 = .ok (.iload_n 2, 1) := by decide +kernel
theorem dX8_lend_24 : decode cX8_lend 24 = .ok (.if_icmp .ne 6, 3) := by decide +kernel
theorem dX8_lend_27 : decode cX8_lend 27 = .ok (.ldc 73, 2) := by decide +kernel
theorem dX8_lend_29 : decode cX8_lend 29 = .ok (.ireturn, 1) := by decide +kernel
theorem dX8_lend_30 : decode cX8_lend 30 = .ok (.aload_n 0, 1) := by decide +kernel
theorem dX8_lend_31 : decode cX8_lend 31 = .ok (.getfield 25, 3) := by decide +kernel
theorem dX8_lend_34 : decode cX8_lend 34 = .ok (.getfield 187, 3) := by decide +kernel
theorem dX8_lend_37 : decode cX8_lend 37 = .ok (.iload_n 1, 1) := by decide +kernel
theorem dX8_lend_38 : decode cX8_lend 38 = .ok (.iaload, 1) := by decide +kernel
theorem dX8_lend_39 : decode cX8_lend 39 = .ok (.ifCond .eq 15, 3) := by decide +kernel
theorem dX8_lend_42 : decode cX8_lend 42 = .ok (.aload_n 0, 1) := by decide +kernel
theorem dX8_lend_43 : decode cX8_lend 43 = .ok (.getfield 25, 3) := by decide +kernel
theorem dX8_lend_46 : decode cX8_lend 46 = .ok (.getfield 187, 3) := by decide +kernel
theorem dX8_lend_49 : decode cX8_lend 49 = .ok (.iload_n 2, 1) := by decide +kernel
theorem dX8_lend_50 : decode cX8_lend 50 = .ok (.iaload, 1) := by decide +kernel
theorem dX8_lend_51 : decode cX8_lend 51 = .ok (.ifCond .ne 6, 3) := by decide +kernel
theorem dX8_lend_54 : decode cX8_lend 54 = .ok (.ldc 226, 2) := by decide +kernel
theorem dX8_lend_56 : decode cX8_lend 56 = .ok (.ireturn, 1) := by decide +kernel
theorem dX8_lend_57 : decode cX8_lend 57 = .ok (.aload_n 0, 1) := by decide +kernel
theorem dX8_lend_58 : decode cX8_lend 58 = .ok (.getfield 25, 3) := by decide +kernel
theorem dX8_lend_61 : decode cX8_lend 61 = .ok (.iload_n 1, 1) := by decide +kernel
theorem dX8_lend_62 : decode cX8_lend 62 = .ok (.iconst 1, 1) := by decide +kernel
theorem dX8_lend_63 : decode cX8_lend 63 = .ok (.invokevirtual 276, 3) := by decide +kernel
theorem dX8_lend_66 : decode cX8_lend 66 = .ok (.aload_n 0, 1) := by decide +kernel
theorem dX8_lend_67 : decode cX8_lend 67 = .ok (.getfield 25, 3) := by decide +kernel
theorem dX8_lend_70 : decode cX8_lend 70 = .ok (.iload_n 2, 1) := by decide +kernel
theorem dX8_lend_71 : decode cX8_lend 71 = .ok (.iconst 1, 1) := by decide +kernel
theorem dX8_lend_72 : decode cX8_lend 72 = .ok (.invokevirtual 276, 3) := by decide +kernel
theorem dX8_lend_75 : decode cX8_lend 75 = .ok (.iadd, 1) := by decide +kernel
theorem dX8_lend_76 : decode cX8_lend 76 = .ok (.istore_n 3, 1) := by decide +kernel
theorem dX8_lend_77 : decode cX8_lend 77 = .ok (.aload_n 0, 1) := by decide +kernel
theorem dX8_lend_78 : decode cX8_lend 78 = .ok (.getfield 25, 3) := by decide +kernel
theorem dX8_lend_81 : decode cX8_lend 81 = .ok (.aload_n 0, 1) := by decide +kernel
theorem dX8_lend_82 : decode cX8_lend 82 = .ok (.getfield 25, 3) := by decide +kernel
theorem dX8_lend_85 : decode cX8_lend 85 = .ok (.iload_n 2, 1) := by decide +kernel
theorem dX8_lend_86 : decode cX8_lend 86 = .ok (.invokevirtual 279, 3) := by decide +kernel
theorem dX8_lend_89 : decode cX8_lend 89 = .ok (.iload_n 1, 1) := by decide +kernel
theorem dX8_lend_90 : decode cX8_lend 90 = .ok (.invokevirtual 282, 3) := by decide +kernel
theorem dX8_lend_93 : decode cX8_lend 93 = .ok (.aload_n 0, 1) := by decide +kernel
theorem dX8_lend_94 : decode cX8_lend 94 = .ok (.getfield 25, 3) := by decide +kernel
theorem dX8_lend_97 : decode cX8_lend 97 = .ok (.aload_n 0, 1) := by decide +kernel
theorem dX8_lend_98 : decode cX8_lend 98 = .ok (.getfield 25, 3) := by decide +kernel
theorem dX8_lend_101 : decode cX8_lend 101 = .ok (.iload_n 1, 1) := by decide +kernel
theorem dX8_lend_102 : decode cX8_lend 102 = .ok (.invokevirtual 279, 3) := by decide +kernel
theorem dX8_lend_105 : decode cX8_lend 105 = .ok (.iload_n 2, 1) := by decide +kernel
theorem dX8_lend_106 : decode cX8_lend 106 = .ok (.invokevirtual 282, 3) := by decide +kernel
theorem dX8_lend_109 : decode cX8_lend 109 = .ok (.iadd, 1) := by decide +kernel
theorem dX8_lend_110 : decode cX8_lend 110 = .ok (.istore 4, 2) := by decide +kernel
theorem dX8_lend_112 : decode cX8_lend 112 = .ok (.iload_n 3, 1) := by decide +kernel
theorem dX8_lend_113 : decode cX8_lend 113 = .ok (.iload 4, 2) := by decide +kernel
theorem dX8_lend_115 : decode cX8_lend 115 = .ok (.isub, 1) := by decide +kernel
theorem dX8_lend_116 : decode cX8_lend 116 = .ok (.ireturn, 1) := by decide +kernel
theorem dX8_beach_0 : decode cX8_beach 0 = .ok (.aload_n 0, 1) := by decide +kernel
theorem dX8_beach_1 : decode cX8_beach 1 = .ok (.getfield 25, 3) := by decide +kernel
theorem dX8_beach_4 : decode cX8_beach 4 = .ok (.invokevirtual 197, 3) := by decide +kernel
theorem dX8_beach_7 : decode cX8_beach 7 = .ok (.ifCond .ne 6, 3) := by decide +kernel
theorem dX8_beach_10 : decode cX8_beach 10 = .ok (.ldc 160, 2) := by decide +kernel
theorem dX8_beach_12 : decode cX8_beach 12 = .ok (.ireturn, 1) := by decide +kernel
theorem dX8_beach_13 : decode cX8_beach 13 = .ok (.iload_n 1, 1) := by decide +kernel
theorem dX8_beach_14 : decode cX8_beach 14 = .ok (.invokestatic 69, 3) := by decide +kernel
theorem dX8_beach_17 : decode cX8_beach 17 = .ok (.ifCond .eq 21, 3) := by decide +kernel
theorem dX8_beach_20 : decode cX8_beach 20 = .ok (.iload_n 3, 1) := by decide +kernel
theorem dX8_beach_21 : decode cX8_beach 21 = .ok (.ifCond .lt 17, 3) := by decide +kernel
theorem dX8_beach_24 : decode cX8_beach 24 = .ok (.iload_n 3, 1) := by decide +kernel
theorem dX8_beach_25 : decode cX8_beach 25 = .ok (.bipush 16, 2) := by decide +kernel
theorem dX8_beach_27 : decode cX8_beach 27 = .ok (.if_icmp .gt 11, 3) := by decide +kernel
theorem dX8_beach_30 : decode cX8_beach 30 = .ok (.iload 4, 2) := by decide +kernel
theorem dX8_beach_32 : decode cX8_beach 32 = .ok (.invokestatic 242, 3) := by decide +kernel
theorem dX8_beach_35 : decode cX8_beach 35 = .ok (.ifCond .ne 6, 3) := by decide +kernel
theorem dX8_beach_38 : decode cX8_beach 38 = .ok (.ldc 73, 2) := by decide +kernel
theorem dX8_beach_40 : decode cX8_beach 40 = .ok (.ireturn, 1) := by decide +kernel
theorem dX8_beach_41 : decode cX8_beach 41 = .ok (.aload_n 0, 1) := by decide +kernel
theorem dX8_beach_42 : decode cX8_beach 42 = .ok (.getfield 11, 3) := by decide +kernel
theorem dX8_beach_45 : decode cX8_beach 45 = .ok (.iload_n 1, 1) := by decide +kernel
theorem dX8_beach_46 : decode cX8_beach 46 = .ok (.aaload, 1) := by decide +kernel
theorem dX8_beach_47 : decode cX8_beach 47 = .ok (.astore 5, 2) := by decide +kernel
theorem dX8_beach_49 : decode cX8_beach 49 = .ok (.aload 5, 2) := by decide +kernel
theorem dX8_beach_51 : decode cX8_beach 51 = .ok (.invokevirtual 85, 3) := by decide +kernel
theorem dX8_beach_54 : decode cX8_beach 54 = .ok (.ifCond .eq 9, 3) := by decide +kernel
theorem dX8_beach_57 : decode cX8_beach 57 = .ok (.aload_n 0, 1) := by decide +kernel
theorem dX8_beach_58 : decode cX8_beach 58 = .ok (.iconst 1, 1) := by decide +kernel
theorem dX8_beach_59 : decode cX8_beach 59 = .ok (.invokevirtual 74, 3) := by decide +kernel
theorem dX8_beach_62 : decode cX8_beach 62 = .ok (.ireturn, 1) := by decide +kernel
theorem dX8_beach_63 : decode cX8_beach 63 = .ok (.aload 5, 2) := by decide +kernel
theorem dX8_beach_65 : decode cX8_beach 65 = .ok (.iload_n 2, 1) := by decide +kernel
theorem dX8_beach_66 : decode cX8_beach 66 = .ok (.iload_n 3, 1) := by decide +kernel
theorem dX8_beach_67 : decode cX8_beach 67 = .ok (.invokevirtual 89, 3) := by decide +kernel
theorem dX8_beach_70 : decode cX8_beach 70 = .ok (.ifCond .ne 9, 3) := by decide +kernel
theorem dX8_beach_73 : decode cX8_beach 73 = .ok (.aload_n 0, 1) := by decide +kernel
theorem dX8_beach_74 : decode cX8_beach 74 = .ok (.iconst 2, 1) := by decide +kernel
theorem dX8_beach_75 : decode cX8_beach 75 = .ok (.invokevirtual 74, 3) := by decide +kernel
theorem dX8_beach_78 : decode cX8_beach 78 = .ok (.ireturn, 1) := by decide +kernel
theorem dX8_beach_79 : decode cX8_beach 79 = .ok (.iload_n 2, 1) := by decide +kernel
theorem dX8_beach_80 : decode cX8_beach 80 = .ok (.istore 6, 2) := by decide +kernel
theorem dX8_beach_82 : decode cX8_beach 82 = .ok (.iload 6, 2) := by decide +kernel
theorem dX8_beach_84 : decode cX8_beach 84 = .ok (.iload_n 2, 1) := by decide +kernel
theorem dX8_beach_85 : decode cX8_beach 85 = .ok (.iload_n 3, 1) := by decide +kernel
theorem dX8_beach_86 : decode cX8_beach 86 = .ok (.iadd, 1) := by decide +kernel
theorem dX8_beach_87 : decode cX8_beach 87 = .ok (.if_icmp .ge 30, 3) := by decide +kernel
theorem dX8_beach_90 : decode cX8_beach 90 = .ok (.aload_n 0, 1) := by decide +kernel
theorem dX8_beach_91 : decode cX8_beach 91 = .ok (.getfield 25, 3) := by decide +kernel
theorem dX8_beach_94 : decode cX8_beach 94 = .ok (.aload 5, 2) := by decide +kernel
theorem dX8_beach_96 : decode cX8_beach 96 = .ok (.getfield 100, 3) := by decide +kernel
theorem dX8_beach_99 : decode cX8_beach 99 = .ok (.iload 6, 2) := by decide +kernel
theorem dX8_beach_101 : decode cX8_beach 101 = .ok (.iaload, 1) := by decide +kernel
theorem dX8_beach_102 : decode cX8_beach 102 = .ok (.invokevirtual 154, 3) := by decide +kernel
theorem dX8_beach_105 : decode cX8_beach 105 = .ok (.ifCond .ne 6, 3) := by decide +kernel
theorem dX8_beach_108 : decode cX8_beach 108 = .ok (.ldc 73, 2) := by decide +kernel
theorem dX8_beach_110 : decode cX8_beach 110 = .ok (.ireturn, 1) := by decide +kernel
theorem dX8_beach_111 : decode cX8_beach 111 = .ok (.iinc 6 1, 3) := by decide +kernel
theorem dX8_beach_114 : decode cX8_beach 114 = .ok (.goto (-32), 3) := by decide +kernel
theorem dX8_beach_117 : decode cX8_beach 117 = .ok (.aload_n 0, 1) := by decide +kernel
theorem dX8_beach_118 : decode cX8_beach 118 = .ok (.aload_n 0, 1) := by decide +kernel
theorem dX8_beach_119 : decode cX8_beach 119 = .ok (.aload 5, 2) := by decide +kernel
theorem dX8_beach_121 : decode cX8_beach 121 = .ok (.iload_n 2, 1) := by decide +kernel
theorem dX8_beach_122 : decode cX8_beach 122 = .ok (.iload_n 3, 1) := by decide +kernel
theorem dX8_beach_123 : decode cX8_beach 123 = .ok (.iload 4, 2) := by decide +kernel
theorem dX8_beach_125 : decode cX8_beach 125 = .ok (.invokevirtual 285, 3) := by decide +kernel
theorem dX8_beach_128 : decode cX8_beach 128 = .ok (.ifCond .eq 7, 3) := by decide +kernel
theorem dX8_beach_131 : decode cX8_beach 131 = .ok (.iconst 1, 1) := by decide +kernel
theorem dX8_beach_132 : decode cX8_beach 132 = .ok (.goto 4, 3) := by decide +kernel
theorem dX8_beach_135 : decode cX8_beach 135 = .ok (.iconst 0, 1) := by decide +kernel
theorem dX8_beach_136 : decode cX8_beach 136 = .ok (.invokevirtual 82, 3) := by decide +kernel
theorem dX8_beach_139 : decode cX8_beach 139 = .ok (.ireturn, 1) := by decide +kernel
theorem dX8_window_0 : decode cX8_window 0 = .ok (.aload_n 0, 1) := by decide +kernel
theorem dX8_window_1 : decode cX8_window 1 = .ok (.getfield 25, 3) := by decide +kernel
theorem dX8_window_4 : decode cX8_window 4 = .ok (.invokevirtual 197, 3) := by decide +kernel
theorem dX8_window_7 : decode cX8_window 7 = .ok (.ifCond .ne 6, 3) := by decide +kernel
theorem dX8_window_10 : decode cX8_window 10 = .ok (.ldc 160, 2) := by decide +kernel
theorem dX8_window_12 : decode cX8_window 12 = .ok (.ireturn, 1) := by decide +kernel
theorem dX8_window_13 : decode cX8_window 13 = .ok (.iconst 0, 1) := by decide +kernel
theorem dX8_window_14 : decode cX8_window 14 = .ok (.istore_n 1, 1) := by decide +kernel
theorem dX8_window_15 : decode cX8_window 15 = .ok (.iconst 0, 1) := by decide +kernel
theorem dX8_window_16 : decode cX8_window 16 = .ok (.istore_n 2, 1) := by decide +kernel
theorem dX8_window_17 : decode cX8_window 17 = .ok (.iload_n 2, 1) := by decide +kernel
theorem dX8_window_18 : decode cX8_window 18 = .ok (.aload_n 0, 1) := by decide +kernel
theorem dX8_window_19 : decode cX8_window 19 = .ok (.getfield 25, 3) := by decide +kernel
theorem dX8_window_22 : decode cX8_window 22 = .ok (.getfield 151, 3) := by decide +kernel
theorem dX8_window_25 : decode cX8_window 25 = .ok (.if_icmp .ge 30, 3) := by decide +kernel
theorem dX8_window_28 : decode cX8_window 28 = .ok (.iload_n 1, 1) := by decide +kernel
theorem dX8_window_29 : decode cX8_window 29 = .ok (.aload_n 0, 1) := by decide +kernel
theorem dX8_window_30 : decode cX8_window 30 = .ok (.getfield 25, 3) := by decide +kernel
theorem dX8_window_33 : decode cX8_window 33 = .ok (.iload_n 2, 1) := by decide +kernel
theorem dX8_window_34 : decode cX8_window 34 = .ok (.iconst 1, 1) := by decide +kernel
theorem dX8_window_35 : decode cX8_window 35 = .ok (.invokevirtual 276, 3) := by decide +kernel
theorem dX8_window_38 : decode cX8_window 38 = .ok (.aload_n 0, 1) := by decide +kernel
theorem dX8_window_39 : decode cX8_window 39 = .ok (.getfield 25, 3) := by decide +kernel
theorem dX8_window_42 : decode cX8_window 42 = .ok (.iload_n 2, 1) := by decide +kernel
theorem dX8_window_43 : decode cX8_window 43 = .ok (.invokevirtual 289, 3) := by decide +kernel
theorem dX8_window_46 : decode cX8_window 46 = .ok (.iadd, 1) := by decide +kernel
theorem dX8_window_47 : decode cX8_window 47 = .ok (.iadd, 1) := by decide +kernel
theorem dX8_window_48 : decode cX8_window 48 = .ok (.istore_n 1, 1) := by decide +kernel
theorem dX8_window_49 : decode cX8_window 49 = .ok (.iinc 2 1, 3) := by decide +kernel
theorem dX8_window_52 : decode cX8_window 52 = .ok (.goto (-35), 3) := by decide +kernel
theorem dX8_window_55 : decode cX8_window 55 = .ok (.iload_n 1, 1) := by decide +kernel
theorem dX8_window_56 : decode cX8_window 56 = .ok (.ireturn, 1) := by decide +kernel
theorem dX8_missed_0 : decode cX8_missed 0 = .ok (.aload_n 0, 1) := by decide +kernel
theorem dX8_missed_1 : decode cX8_missed 1 = .ok (.getfield 25, 3) := by decide +kernel
theorem dX8_missed_4 : decode cX8_missed 4 = .ok (.invokevirtual 197, 3) := by decide +kernel
theorem dX8_missed_7 : decode cX8_missed 7 = .ok (.ifCond .ne 6, 3) := by decide +kernel
theorem dX8_missed_10 : decode cX8_missed 10 = .ok (.ldc 160, 2) := by decide +kernel
theorem dX8_missed_12 : decode cX8_missed 12 = .ok (.ireturn, 1) := by decide +kernel
theorem dX8_missed_13 : decode cX8_missed 13 = .ok (.iload_n 1, 1) := by decide +kernel
theorem dX8_missed_14 : decode cX8_missed 14 = .ok (.lookupswitch 49 #[(0, 26), (1, 34)], 26) := by decide +kernel
theorem dX8_missed_40 : decode cX8_missed 40 = .ok (.aload_n 0, 1) := by decide +kernel
theorem dX8_missed_41 : decode cX8_missed 41 = .ok (.getfield 25, 3) := by decide +kernel
theorem dX8_missed_44 : decode cX8_missed 44 = .ok (.invokevirtual 292, 3) := by decide +kernel
theorem dX8_missed_47 : decode cX8_missed 47 = .ok (.ireturn, 1) := by decide +kernel
theorem dX8_missed_48 : decode cX8_missed 48 = .ok (.aload_n 0, 1) := by decide +kernel
theorem dX8_missed_49 : decode cX8_missed 49 = .ok (.getfield 25, 3) := by decide +kernel
theorem dX8_missed_52 : decode cX8_missed 52 = .ok (.aload_n 0, 1) := by decide +kernel
theorem dX8_missed_53 : decode cX8_missed 53 = .ok (.getfield 25, 3) := by decide +kernel
theorem dX8_missed_56 : decode cX8_missed 56 = .ok (.invokevirtual 295, 3) := by decide +kernel
theorem dX8_missed_59 : decode cX8_missed 59 = .ok (.invokevirtual 248, 3) := by decide +kernel
theorem dX8_missed_62 : decode cX8_missed 62 = .ok (.ireturn, 1) := by decide +kernel
theorem dX8_missed_63 : decode cX8_missed 63 = .ok (.ldc 73, 2) := by decide +kernel
theorem dX8_missed_65 : decode cX8_missed 65 = .ok (.ireturn, 1) := by decide +kernel
theorem dX8_image_0 : decode cX8_image 0 = .ok (.iload_n 1, 1) := by decide +kernel
theorem dX8_image_1 : decode cX8_image 1 = .ok (.invokestatic 298, 3) := by decide +kernel
theorem dX8_image_4 : decode cX8_image 4 = .ok (.ifCond .ne 6, 3) := by decide +kernel
theorem dX8_image_7 : decode cX8_image 7 = .ok (.ldc 73, 2) := by decide +kernel
theorem dX8_image_9 : decode cX8_image 9 = .ok (.ireturn, 1) := by decide +kernel
theorem dX8_image_10 : decode cX8_image 10 = .ok (.aload_n 0, 1) := by decide +kernel
theorem dX8_image_11 : decode cX8_image 11 = .ok (.getfield 25, 3) := by decide +kernel
theorem dX8_image_14 : decode cX8_image 14 = .ok (.invokevirtual 197, 3) := by decide +kernel
theorem dX8_image_17 : decode cX8_image 17 = .ok (.ifCond .ne 6, 3) := by decide +kernel
theorem dX8_image_20 : decode cX8_image 20 = .ok (.ldc 160, 2) := by decide +kernel
theorem dX8_image_22 : decode cX8_image 22 = .ok (.ireturn, 1) := by decide +kernel
theorem dX8_image_23 : decode cX8_image 23 = .ok (.aload_n 0, 1) := by decide +kernel
theorem dX8_image_24 : decode cX8_image 24 = .ok (.getfield 36, 3) := by decide +kernel
theorem dX8_image_27 : decode cX8_image 27 = .ok (.iload_n 1, 1) := by decide +kernel
theorem dX8_image_28 : decode cX8_image 28 = .ok (.aaload, 1) := by decide +kernel
theorem dX8_image_29 : decode cX8_image 29 = .ok (.aload_n 0, 1) := by decide +kernel
theorem dX8_image_30 : decode cX8_image 30 = .ok (.getfield 25, 3) := by decide +kernel
theorem dX8_image_33 : decode cX8_image 33 = .ok (.invokevirtual 144, 3) := by decide +kernel
theorem dX8_image_36 : decode cX8_image 36 = .ok (.iconst 1, 1) := by decide +kernel
theorem dX8_image_37 : decode cX8_image 37 = .ok (.ireturn, 1) := by decide +kernel
theorem dX8_restore_0 : decode cX8_restore 0 = .ok (.iload_n 1, 1) := by decide +kernel
theorem dX8_restore_1 : decode cX8_restore 1 = .ok (.invokestatic 298, 3) := by decide +kernel
theorem dX8_restore_4 : decode cX8_restore 4 = .ok (.ifCond .ne 6, 3) := by decide +kernel
theorem dX8_restore_7 : decode cX8_restore 7 = .ok (.ldc 73, 2) := by decide +kernel
theorem dX8_restore_9 : decode cX8_restore 9 = .ok (.ireturn, 1) := by decide +kernel
theorem dX8_restore_10 : decode cX8_restore 10 = .ok (.aload_n 0, 1) := by decide +kernel
theorem dX8_restore_11 : decode cX8_restore 11 = .ok (.getfield 36, 3) := by decide +kernel
theorem dX8_restore_14 : decode cX8_restore 14 = .ok (.iload_n 1, 1) := by decide +kernel
theorem dX8_restore_15 : decode cX8_restore 15 = .ok (.aaload, 1) := by decide +kernel
theorem dX8_restore_16 : decode cX8_restore 16 = .ok (.invokevirtual 197, 3) := by decide +kernel
theorem dX8_restore_19 : decode cX8_restore 19 = .ok (.ifCond .ne 6, 3) := by decide +kernel
theorem dX8_restore_22 : decode cX8_restore 22 = .ok (.ldc 160, 2) := by decide +kernel
theorem dX8_restore_24 : decode cX8_restore 24 = .ok (.ireturn, 1) := by decide +kernel
theorem dX8_restore_25 : decode cX8_restore 25 = .ok (.aload_n 0, 1) := by decide +kernel
theorem dX8_restore_26 : decode cX8_restore 26 = .ok (.getfield 25, 3) := by decide +kernel
theorem dX8_restore_29 : decode cX8_restore 29 = .ok (.aload_n 0, 1) := by decide +kernel
theorem dX8_restore_30 : decode cX8_restore 30 = .ok (.getfield 36, 3) := by decide +kernel
theorem dX8_restore_33 : decode cX8_restore 33 = .ok (.iload_n 1, 1) := by decide +kernel
theorem dX8_restore_34 : decode cX8_restore 34 = .ok (.aaload, 1) := by decide +kernel
theorem dX8_restore_35 : decode cX8_restore 35 = .ok (.invokevirtual 144, 3) := by decide +kernel
theorem dX8_restore_38 : decode cX8_restore 38 = .ok (.aload_n 0, 1) := by decide +kernel
theorem dX8_restore_39 : decode cX8_restore 39 = .ok (.getfield 32, 3) := by decide +kernel
theorem dX8_restore_42 : decode cX8_restore 42 = .ok (.invokevirtual 148, 3) := by decide +kernel
theorem dX8_restore_45 : decode cX8_restore 45 = .ok (.iconst 1, 1) := by decide +kernel
theorem dX8_restore_46 : decode cX8_restore 46 = .ok (.ireturn, 1) := by decide +kernel
theorem dX8_kind_0 : decode cX8_kind 0 = .ok (.aload_n 0, 1) := by decide +kernel
theorem dX8_kind_1 : decode cX8_kind 1 = .ok (.getfield 25, 3) := by decide +kernel
theorem dX8_kind_4 : decode cX8_kind 4 = .ok (.iload_n 1, 1) := by decide +kernel
theorem dX8_kind_5 : decode cX8_kind 5 = .ok (.invokevirtual 154, 3) := by decide +kernel
theorem dX8_kind_8 : decode cX8_kind 8 = .ok (.ifCond .eq 15, 3) := by decide +kernel
theorem dX8_kind_11 : decode cX8_kind 11 = .ok (.aload_n 0, 1) := by decide +kernel
theorem dX8_kind_12 : decode cX8_kind 12 = .ok (.getfield 25, 3) := by decide +kernel
theorem dX8_kind_15 : decode cX8_kind 15 = .ok (.getfield 301, 3) := by decide +kernel
theorem dX8_kind_18 : decode cX8_kind 18 = .ok (.iload_n 1, 1) := by decide +kernel
theorem dX8_kind_19 : decode cX8_kind 19 = .ok (.iaload, 1) := by decide +kernel
theorem dX8_kind_20 : decode cX8_kind 20 = .ok (.goto 5, 3) := by decide +kernel
theorem dX8_kind_23 : decode cX8_kind 23 = .ok (.ldc 73, 2) := by decide +kernel
theorem dX8_kind_25 : decode cX8_kind 25 = .ok (.ireturn, 1) := by decide +kernel
theorem dX8_as_0 : decode cX8_as 0 = .ok (.aload_n 0, 1) := by decide +kernel
theorem dX8_as_1 : decode cX8_as 1 = .ok (.getfield 25, 3) := by decide +kernel
theorem dX8_as_4 : decode cX8_as 4 = .ok (.iload_n 1, 1) := by decide +kernel
theorem dX8_as_5 : decode cX8_as 5 = .ok (.invokevirtual 154, 3) := by decide +kernel
theorem dX8_as_8 : decode cX8_as 8 = .ok (.ifCond .eq 10, 3) := by decide +kernel
theorem dX8_as_11 : decode cX8_as 11 = .ok (.iload_n 2, 1) := by decide +kernel
theorem dX8_as_12 : decode cX8_as 12 = .ok (.invokestatic 304, 3) := by decide +kernel
theorem dX8_as_15 : decode cX8_as 15 = .ok (.ifCond .ne 6, 3) := by decide +kernel
theorem dX8_as_18 : decode cX8_as 18 = .ok (.ldc 73, 2) := by decide +kernel
theorem dX8_as_20 : decode cX8_as 20 = .ok (.ireturn, 1) := by decide +kernel
theorem dX8_as_21 : decode cX8_as 21 = .ok (.aload_n 0, 1) := by decide +kernel
theorem dX8_as_22 : decode cX8_as 22 = .ok (.getfield 25, 3) := by decide +kernel
theorem dX8_as_25 : decode cX8_as 25 = .ok (.getfield 301, 3) := by decide +kernel
theorem dX8_as_28 : decode cX8_as 28 = .ok (.iload_n 1, 1) := by decide +kernel
theorem dX8_as_29 : decode cX8_as 29 = .ok (.iaload, 1) := by decide +kernel
theorem dX8_as_30 : decode cX8_as 30 = .ok (.iload_n 2, 1) := by decide +kernel
theorem dX8_as_31 : decode cX8_as 31 = .ok (.invokestatic 307, 3) := by decide +kernel
theorem dX8_as_34 : decode cX8_as 34 = .ok (.ifCond .ne 9, 3) := by decide +kernel
theorem dX8_as_37 : decode cX8_as 37 = .ok (.aload_n 0, 1) := by decide +kernel
theorem dX8_as_38 : decode cX8_as 38 = .ok (.iconst 3, 1) := by decide +kernel
theorem dX8_as_39 : decode cX8_as 39 = .ok (.invokevirtual 74, 3) := by decide +kernel
theorem dX8_as_42 : decode cX8_as 42 = .ok (.ireturn, 1) := by decide +kernel
theorem dX8_as_43 : decode cX8_as 43 = .ok (.aload_n 0, 1) := by decide +kernel
theorem dX8_as_44 : decode cX8_as 44 = .ok (.iload_n 1, 1) := by decide +kernel
theorem dX8_as_45 : decode cX8_as 45 = .ok (.invokevirtual 82, 3) := by decide +kernel
theorem dX8_as_48 : decode cX8_as 48 = .ok (.ireturn, 1) := by decide +kernel
theorem dX8_ask_0 : decode cX8_ask 0 = .ok (.aload_n 0, 1) := by decide +kernel
theorem dX8_ask_1 : decode cX8_ask 1 = .ok (.getfield 25, 3) := by decide +kernel
theorem dX8_ask_4 : decode cX8_ask 4 = .ok (.iload_n 1, 1) := by decide +kernel
theorem dX8_ask_5 : decode cX8_ask 5 = .ok (.invokevirtual 154, 3) := by decide +kernel
theorem dX8_ask_8 : decode cX8_ask 8 = .ok (.ifCond .eq 12, 3) := by decide +kernel
theorem dX8_ask_11 : decode cX8_ask 11 = .ok (.iload_n 2, 1) := by decide +kernel
theorem dX8_ask_12 : decode cX8_ask 12 = .ok (.ifCond .lt 8, 3) := by decide +kernel
theorem dX8_ask_15 : decode cX8_ask 15 = .ok (.iload_n 2, 1) := by decide +kernel
theorem dX8_ask_16 : decode cX8_ask 16 = .ok (.iconst 1, 1) := by decide +kernel
theorem dX8_ask_17 : decode cX8_ask 17 = .ok (.if_icmp .le 6, 3) := by decide +kernel
theorem dX8_ask_20 : decode cX8_ask 20 = .ok (.ldc 73, 2) := by decide +kernel
theorem dX8_ask_22 : decode cX8_ask 22 = .ok (.ireturn, 1) := by decide +kernel
theorem dX8_ask_23 : decode cX8_ask 23 = .ok (.aload_n 0, 1) := by decide +kernel
theorem dX8_ask_24 : decode cX8_ask 24 = .ok (.getfield 57, 3) := by decide +kernel
theorem dX8_ask_27 : decode cX8_ask 27 = .ok (.aload_n 0, 1) := by decide +kernel
theorem dX8_ask_28 : decode cX8_ask 28 = .ok (.getfield 25, 3) := by decide +kernel
theorem dX8_ask_31 : decode cX8_ask 31 = .ok (.iload_n 1, 1) := by decide +kernel
theorem dX8_ask_32 : decode cX8_ask 32 = .ok (.iload_n 2, 1) := by decide +kernel
theorem dX8_ask_33 : decode cX8_ask 33 = .ok (.invokevirtual 310, 3) := by decide +kernel
theorem dX8_ask_36 : decode cX8_ask 36 = .ok (.ireturn, 1) := by decide +kernel
theorem dX8_trace_0 : decode cX8_trace 0 = .ok (.iload_n 1, 1) := by decide +kernel
theorem dX8_trace_1 : decode cX8_trace 1 = .ok (.ifCond .lt 26, 3) := by decide +kernel
theorem dX8_trace_4 : decode cX8_trace 4 = .ok (.iload_n 1, 1) := by decide +kernel
theorem dX8_trace_5 : decode cX8_trace 5 = .ok (.aload_n 0, 1) := by decide +kernel
theorem dX8_trace_6 : decode cX8_trace 6 = .ok (.getfield 57, 3) := by decide +kernel
theorem dX8_trace_9 : decode cX8_trace 9 = .ok (.getfield 313, 3) := by decide +kernel
theorem dX8_trace_12 : decode cX8_trace 12 = .ok (.if_icmp .ge 15, 3) := by decide +kernel
theorem dX8_trace_15 : decode cX8_trace 15 = .ok (.aload_n 0, 1) := by decide +kernel
theorem dX8_trace_16 : decode cX8_trace 16 = .ok (.getfield 57, 3) := by decide +kernel
theorem dX8_trace_19 : decode cX8_trace 19 = .ok (.getfield 316, 3) := by decide +kernel
theorem dX8_trace_22 : decode cX8_trace 22 = .ok (.iload_n 1, 1) := by decide +kernel
theorem dX8_trace_23 : decode cX8_trace 23 = .ok (.iaload, 1) := by decide +kernel
theorem dX8_trace_24 : decode cX8_trace 24 = .ok (.goto 5, 3) := by decide +kernel
theorem dX8_trace_27 : decode cX8_trace 27 = .ok (.ldc 226, 2) := by decide +kernel
theorem dX8_trace_29 : decode cX8_trace 29 = .ok (.ireturn, 1) := by decide +kernel
theorem dX8_count_0 : decode cX8_count 0 = .ok (.iload_n 1, 1) := by decide +kernel
theorem dX8_count_1 : decode cX8_count 1 = .ok (.tableswitch 102 0 6 #[43, 48, 56, 64, 72, 80, 91], 43) := by decide +kernel
theorem dX8_count_44 : decode cX8_count 44 = .ok (.aload_n 0, 1) := by decide +kernel
theorem dX8_count_45 : decode cX8_count 45 = .ok (.invokevirtual 319, 3) := by decide +kernel
theorem dX8_count_48 : decode cX8_count 48 = .ok (.ireturn, 1) := by decide +kernel
theorem dX8_count_49 : decode cX8_count 49 = .ok (.aload_n 0, 1) := by decide +kernel
theorem dX8_count_50 : decode cX8_count 50 = .ok (.getfield 25, 3) := by decide +kernel
theorem dX8_count_53 : decode cX8_count 53 = .ok (.getfield 151, 3) := by decide +kernel
theorem dX8_count_56 : decode cX8_count 56 = .ok (.ireturn, 1) := by decide +kernel
theorem dX8_count_57 : decode cX8_count 57 = .ok (.aload_n 0, 1) := by decide +kernel
theorem dX8_count_58 : decode cX8_count 58 = .ok (.getfield 25, 3) := by decide +kernel
theorem dX8_count_61 : decode cX8_count 61 = .ok (.getfield 190, 3) := by decide +kernel
theorem dX8_count_64 : decode cX8_count 64 = .ok (.ireturn, 1) := by decide +kernel
theorem dX8_count_65 : decode cX8_count 65 = .ok (.aload_n 0, 1) := by decide +kernel
theorem dX8_count_66 : decode cX8_count 66 = .ok (.getfield 25, 3) := by decide +kernel
theorem dX8_count_69 : decode cX8_count 69 = .ok (.getfield 174, 3) := by decide +kernel
theorem dX8_count_72 : decode cX8_count 72 = .ok (.ireturn, 1) := by decide +kernel
theorem dX8_count_73 : decode cX8_count 73 = .ok (.aload_n 0, 1) := by decide +kernel
theorem dX8_count_74 : decode cX8_count 74 = .ok (.getfield 32, 3) := by decide +kernel
theorem dX8_count_77 : decode cX8_count 77 = .ok (.getfield 214, 3) := by decide +kernel
theorem dX8_count_80 : decode cX8_count 80 = .ok (.ireturn, 1) := by decide +kernel
theorem dX8_count_81 : decode cX8_count 81 = .ok (.aload_n 0, 1) := by decide +kernel
theorem dX8_count_82 : decode cX8_count 82 = .ok (.getfield 25, 3) := by decide +kernel
theorem dX8_count_85 : decode cX8_count 85 = .ok (.invokevirtual 295, 3) := by decide +kernel
theorem dX8_count_88 : decode cX8_count 88 = .ok (.invokestatic 322, 3) := by decide +kernel
theorem dX8_count_91 : decode cX8_count 91 = .ok (.ireturn, 1) := by decide +kernel
theorem dX8_count_92 : decode cX8_count 92 = .ok (.aload_n 0, 1) := by decide +kernel
theorem dX8_count_93 : decode cX8_count 93 = .ok (.getfield 18, 3) := by decide +kernel
theorem dX8_count_96 : decode cX8_count 96 = .ok (.getfield 116, 3) := by decide +kernel
theorem dX8_count_99 : decode cX8_count 99 = .ok (.getfield 130, 3) := by decide +kernel
theorem dX8_count_102 : decode cX8_count 102 = .ok (.ireturn, 1) := by decide +kernel
theorem dX8_count_103 : decode cX8_count 103 = .ok (.ldc 73, 2) := by decide +kernel
theorem dX8_count_105 : decode cX8_count 105 = .ok (.ireturn, 1) := by decide +kernel
theorem dX8_status_0 : decode cX8_status 0 = .ok (.aload_n 0, 1) := by decide +kernel
theorem dX8_status_1 : decode cX8_status 1 = .ok (.getfield 65, 3) := by decide +kernel
theorem dX8_status_4 : decode cX8_status 4 = .ok (.ireturn, 1) := by decide +kernel
theorem dX8_isRow_0 : decode cX8_isRow 0 = .ok (.iload_n 0, 1) := by decide +kernel
theorem dX8_isRow_1 : decode cX8_isRow 1 = .ok (.ifCond .lt 13, 3) := by decide +kernel
theorem dX8_isRow_4 : decode cX8_isRow 4 = .ok (.iload_n 0, 1) := by decide +kernel
theorem dX8_isRow_5 : decode cX8_isRow 5 = .ok (.bipush 8, 2) := by decide +kernel
theorem dX8_isRow_7 : decode cX8_isRow 7 = .ok (.if_icmp .ge 7, 3) := by decide +kernel
theorem dX8_isRow_10 : decode cX8_isRow 10 = .ok (.iconst 1, 1) := by decide +kernel
theorem dX8_isRow_11 : decode cX8_isRow 11 = .ok (.goto 4, 3) := by decide +kernel
theorem dX8_isRow_14 : decode cX8_isRow 14 = .ok (.iconst 0, 1) := by decide +kernel
theorem dX8_isRow_15 : decode cX8_isRow 15 = .ok (.ireturn, 1) := by decide +kernel
theorem dX8_isGusts_0 : decode cX8_isGusts 0 = .ok (.iload_n 0, 1) := by decide +kernel
theorem dX8_isGusts_1 : decode cX8_isGusts 1 = .ok (.ifCond .lt 13, 3) := by decide +kernel
theorem dX8_isGusts_4 : decode cX8_isGusts 4 = .ok (.iload_n 0, 1) := by decide +kernel
theorem dX8_isGusts_5 : decode cX8_isGusts 5 = .ok (.bipush 9, 2) := by decide +kernel
theorem dX8_isGusts_7 : decode cX8_isGusts 7 = .ok (.if_icmp .gt 7, 3) := by decide +kernel
theorem dX8_isGusts_10 : decode cX8_isGusts 10 = .ok (.iconst 1, 1) := by decide +kernel
theorem dX8_isGusts_11 : decode cX8_isGusts 11 = .ok (.goto 4, 3) := by decide +kernel
theorem dX8_isGusts_14 : decode cX8_isGusts 14 = .ok (.iconst 0, 1) := by decide +kernel
theorem dX8_isGusts_15 : decode cX8_isGusts 15 = .ok (.ireturn, 1) := by decide +kernel
theorem dX8_isImage_0 : decode cX8_isImage 0 = .ok (.iload_n 0, 1) := by decide +kernel
theorem dX8_isImage_1 : decode cX8_isImage 1 = .ok (.ifCond .lt 12, 3) := by decide +kernel
theorem dX8_isImage_4 : decode cX8_isImage 4 = .ok (.iload_n 0, 1) := by decide +kernel
theorem dX8_isImage_5 : decode cX8_isImage 5 = .ok (.iconst 2, 1) := by decide +kernel
theorem dX8_isImage_6 : decode cX8_isImage 6 = .ok (.if_icmp .ge 7, 3) := by decide +kernel
theorem dX8_isImage_9 : decode cX8_isImage 9 = .ok (.iconst 1, 1) := by decide +kernel
theorem dX8_isImage_10 : decode cX8_isImage 10 = .ok (.goto 4, 3) := by decide +kernel
theorem dX8_isImage_13 : decode cX8_isImage 13 = .ok (.iconst 0, 1) := by decide +kernel
theorem dX8_isImage_14 : decode cX8_isImage 14 = .ok (.ireturn, 1) := by decide +kernel
theorem dX8_found_0 : decode cX8_found 0 = .ok (.aload_n 0, 1) := by decide +kernel
theorem dX8_found_1 : decode cX8_found 1 = .ok (.iload_n 1, 1) := by decide +kernel
theorem dX8_found_2 : decode cX8_found 2 = .ok (.putfield 65, 3) := by decide +kernel
theorem dX8_found_5 : decode cX8_found 5 = .ok (.ldc_w 327, 3) := by decide +kernel
theorem dX8_found_8 : decode cX8_found 8 = .ok (.iload_n 1, 1) := by decide +kernel
theorem dX8_found_9 : decode cX8_found 9 = .ok (.isub, 1) := by decide +kernel
theorem dX8_found_10 : decode cX8_found 10 = .ok (.ireturn, 1) := by decide +kernel
theorem dX8_well_0 : decode cX8_well 0 = .ok (.aload_n 0, 1) := by decide +kernel
theorem dX8_well_1 : decode cX8_well 1 = .ok (.iconst 0, 1) := by decide +kernel
theorem dX8_well_2 : decode cX8_well 2 = .ok (.putfield 65, 3) := by decide +kernel
theorem dX8_well_5 : decode cX8_well 5 = .ok (.iload_n 1, 1) := by decide +kernel
theorem dX8_well_6 : decode cX8_well 6 = .ok (.ireturn, 1) := by decide +kernel
theorem dX8_standingRows_0 : decode cX8_standingRows 0 = .ok (.iconst 0, 1) := by decide +kernel
theorem dX8_standingRows_1 : decode cX8_standingRows 1 = .ok (.istore_n 1, 1) := by decide +kernel
theorem dX8_standingRows_2 : decode cX8_standingRows 2 = .ok (.iconst 0, 1) := by decide +kernel
theorem dX8_standingRows_3 : decode cX8_standingRows 3 = .ok (.istore_n 2, 1) := by decide +kernel
theorem dX8_standingRows_4 : decode cX8_standingRows 4 = .ok (.iload_n 2, 1) := by decide +kernel
theorem dX8_standingRows_5 : decode cX8_standingRows 5 = .ok (.bipush 8, 2) := by decide +kernel
theorem dX8_standingRows_7 : decode cX8_standingRows 7 = .ok (.if_icmp .ge 24, 3) := by decide +kernel
theorem dX8_standingRows_10 : decode cX8_standingRows 10 = .ok (.aload_n 0, 1) := by decide +kernel
theorem dX8_standingRows_11 : decode cX8_standingRows 11 = .ok (.getfield 11, 3) := by decide +kernel
theorem dX8_standingRows_14 : decode cX8_standingRows 14 = .ok (.iload_n 2, 1) := by decide +kernel
theorem dX8_standingRows_15 : decode cX8_standingRows 15 = .ok (.aaload, 1) := by decide +kernel
theorem dX8_standingRows_16 : decode cX8_standingRows 16 = .ok (.invokevirtual 85, 3) := by decide +kernel
theorem dX8_standingRows_19 : decode cX8_standingRows 19 = .ok (.ifCond .ne 6, 3) := by decide +kernel
theorem dX8_standingRows_22 : decode cX8_standingRows 22 = .ok (.iinc 1 1, 3) := by decide +kernel
theorem dX8_standingRows_25 : decode cX8_standingRows 25 = .ok (.iinc 2 1, 3) := by decide +kernel
theorem dX8_standingRows_28 : decode cX8_standingRows 28 = .ok (.goto (-24), 3) := by decide +kernel
theorem dX8_standingRows_31 : decode cX8_standingRows 31 = .ok (.iload_n 1, 1) := by decide +kernel
theorem dX8_standingRows_32 : decode cX8_standingRows 32 = .ok (.ireturn, 1) := by decide +kernel
theorem dX8_fits_0 : decode cX8_fits 0 = .ok (.iload_n 2, 1) := by decide +kernel
theorem dX8_fits_1 : decode cX8_fits 1 = .ok (.istore 5, 2) := by decide +kernel
theorem dX8_fits_3 : decode cX8_fits 3 = .ok (.iconst 0, 1) := by decide +kernel
theorem dX8_fits_4 : decode cX8_fits 4 = .ok (.istore 6, 2) := by decide +kernel
theorem dX8_fits_6 : decode cX8_fits 6 = .ok (.iload 6, 2) := by decide +kernel
theorem dX8_fits_8 : decode cX8_fits 8 = .ok (.iload 4, 2) := by decide +kernel
theorem dX8_fits_10 : decode cX8_fits 10 = .ok (.if_icmp .ge 83, 3) := by decide +kernel
theorem dX8_fits_13 : decode cX8_fits 13 = .ok (.aload_n 0, 1) := by decide +kernel
theorem dX8_fits_14 : decode cX8_fits 14 = .ok (.getfield 25, 3) := by decide +kernel
theorem dX8_fits_17 : decode cX8_fits 17 = .ok (.iload 6, 2) := by decide +kernel
theorem dX8_fits_19 : decode cX8_fits 19 = .ok (.invokevirtual 328, 3) := by decide +kernel
theorem dX8_fits_22 : decode cX8_fits 22 = .ok (.istore 7, 2) := by decide +kernel
theorem dX8_fits_24 : decode cX8_fits 24 = .ok (.iload 7, 2) := by decide +kernel
theorem dX8_fits_26 : decode cX8_fits 26 = .ok (.invokestatic 322, 3) := by decide +kernel
theorem dX8_fits_29 : decode cX8_fits 29 = .ok (.istore 8, 2) := by decide +kernel
theorem dX8_fits_31 : decode cX8_fits 31 = .ok (.iload 8, 2) := by decide +kernel
theorem dX8_fits_33 : decode cX8_fits 33 = .ok (.ifCond .le 54, 3) := by decide +kernel
theorem dX8_fits_36 : decode cX8_fits 36 = .ok (.iload 5, 2) := by decide +kernel
theorem dX8_fits_38 : decode cX8_fits 38 = .ok (.iload_n 2, 1) := by decide +kernel
theorem dX8_fits_39 : decode cX8_fits 39 = .ok (.iload_n 3, 1) := by decide +kernel
theorem dX8_fits_40 : decode cX8_fits 40 = .ok (.iadd, 1) := by decide +kernel
theorem dX8_fits_41 : decode cX8_fits 41 = .ok (.if_icmp .ge 15, 3) := by decide +kernel
theorem dX8_fits_44 : decode cX8_fits 44 = .ok (.iconst 1, 1) := by decide +kernel
theorem dX8_fits_45 : decode cX8_fits 45 = .ok (.aload_n 1, 1) := by decide +kernel
theorem dX8_fits_46 : decode cX8_fits 46 = .ok (.getfield 100, 3) := by decide +kernel
theorem dX8_fits_49 : decode cX8_fits 49 = .ok (.iload 5, 2) := by decide +kernel
theorem dX8_fits_51 : decode cX8_fits 51 = .ok (.iaload, 1) := by decide +kernel
theorem dX8_fits_52 : decode cX8_fits 52 = .ok (.ishl, 1) := by decide +kernel
theorem dX8_fits_53 : decode cX8_fits 53 = .ok (.goto 4, 3) := by decide +kernel
theorem dX8_fits_56 : decode cX8_fits 56 = .ok (.iconst 0, 1) := by decide +kernel
theorem dX8_fits_57 : decode cX8_fits 57 = .ok (.istore 9, 2) := by decide +kernel
theorem dX8_fits_59 : decode cX8_fits 59 = .ok (.iload 7, 2) := by decide +kernel
theorem dX8_fits_61 : decode cX8_fits 61 = .ok (.iload 9, 2) := by decide +kernel
theorem dX8_fits_63 : decode cX8_fits 63 = .ok (.iand, 1) := by decide +kernel
theorem dX8_fits_64 : decode cX8_fits 64 = .ok (.ifCond .ne 5, 3) := by decide +kernel
theorem dX8_fits_67 : decode cX8_fits 67 = .ok (.iconst 0, 1) := by decide +kernel
theorem dX8_fits_68 : decode cX8_fits 68 = .ok (.ireturn, 1) := by decide +kernel
theorem dX8_fits_69 : decode cX8_fits 69 = .ok (.iload 7, 2) := by decide +kernel
theorem dX8_fits_71 : decode cX8_fits 71 = .ok (.iload 9, 2) := by decide +kernel
theorem dX8_fits_73 : decode cX8_fits 73 = .ok (.iconst (-1), 1) := by decide +kernel
theorem dX8_fits_74 : decode cX8_fits 74 = .ok (.ixor, 1) := by decide +kernel
theorem dX8_fits_75 : decode cX8_fits 75 = .ok (.iand, 1) := by decide +kernel
theorem dX8_fits_76 : decode cX8_fits 76 = .ok (.istore 7, 2) := by decide +kernel
theorem dX8_fits_78 : decode cX8_fits 78 = .ok (.iinc 5 1, 3) := by decide +kernel
theorem dX8_fits_81 : decode cX8_fits 81 = .ok (.iinc 8 (-1), 3) := by decide +kernel
theorem dX8_fits_84 : decode cX8_fits 84 = .ok (.goto (-53), 3) := by decide +kernel
theorem dX8_fits_87 : decode cX8_fits 87 = .ok (.iinc 6 1, 3) := by decide +kernel
theorem dX8_fits_90 : decode cX8_fits 90 = .ok (.goto (-84), 3) := by decide +kernel
theorem dX8_fits_93 : decode cX8_fits 93 = .ok (.iload 5, 2) := by decide +kernel
theorem dX8_fits_95 : decode cX8_fits 95 = .ok (.iload_n 2, 1) := by decide +kernel
theorem dX8_fits_96 : decode cX8_fits 96 = .ok (.iload_n 3, 1) := by decide +kernel
theorem dX8_fits_97 : decode cX8_fits 97 = .ok (.iadd, 1) := by decide +kernel
theorem dX8_fits_98 : decode cX8_fits 98 = .ok (.if_icmp .ne 7, 3) := by decide +kernel
theorem dX8_fits_101 : decode cX8_fits 101 = .ok (.iconst 1, 1) := by decide +kernel
theorem dX8_fits_102 : decode cX8_fits 102 = .ok (.goto 4, 3) := by decide +kernel
theorem dX8_fits_105 : decode cX8_fits 105 = .ok (.iconst 0, 1) := by decide +kernel
theorem dX8_fits_106 : decode cX8_fits 106 = .ok (.ireturn, 1) := by decide +kernel
theorem dX9_init_0 : decode cX9_init 0 = .ok (.aload_n 0, 1) := by decide +kernel
theorem dX9_init_1 : decode cX9_init 1 = .ok (.invokespecial 1, 3) := by decide +kernel
theorem dX9_init_4 : decode cX9_init 4 = .ok (.aload_n 0, 1) := by decide +kernel
theorem dX9_init_5 : decode cX9_init 5 = .ok (.bipush 8, 2) := by decide +kernel
theorem dX9_init_7 : decode cX9_init 7 = .ok (.newarray .int, 2) := by decide +kernel
theorem dX9_init_9 : decode cX9_init 9 = .ok (.dup, 1) := by decide +kernel
theorem dX9_init_10 : decode cX9_init 10 = .ok (.iconst 0, 1) := by decide +kernel
theorem dX9_init_11 : decode cX9_init 11 = .ok (.iconst (-1), 1) := by decide +kernel
theorem dX9_init_12 : decode cX9_init 12 = .ok (.iastore, 1) := by decide +kernel
theorem dX9_init_13 : decode cX9_init 13 = .ok (.dup, 1) := by decide +kernel
theorem dX9_init_14 : decode cX9_init 14 = .ok (.iconst 1, 1) := by decide +kernel
theorem dX9_init_15 : decode cX9_init 15 = .ok (.iconst (-1), 1) := by decide +kernel
theorem dX9_init_16 : decode cX9_init 16 = .ok (.iastore, 1) := by decide +kernel
theorem dX9_init_17 : decode cX9_init 17 = .ok (.dup, 1) := by decide +kernel
theorem dX9_init_18 : decode cX9_init 18 = .ok (.iconst 2, 1) := by decide +kernel
theorem dX9_init_19 : decode cX9_init 19 = .ok (.iconst (-1), 1) := by decide +kernel
theorem dX9_init_20 : decode cX9_init 20 = .ok (.iastore, 1) := by decide +kernel
theorem dX9_init_21 : decode cX9_init 21 = .ok (.dup, 1) := by decide +kernel
theorem dX9_init_22 : decode cX9_init 22 = .ok (.iconst 3, 1) := by decide +kernel
theorem dX9_init_23 : decode cX9_init 23 = .ok (.iconst (-1), 1) := by decide +kernel
theorem dX9_init_24 : decode cX9_init 24 = .ok (.iastore, 1) := by decide +kernel
theorem dX9_init_25 : decode cX9_init 25 = .ok (.dup, 1) := by decide +kernel
theorem dX9_init_26 : decode cX9_init 26 = .ok (.iconst 4, 1) := by decide +kernel
theorem dX9_init_27 : decode cX9_init 27 = .ok (.iconst (-1), 1) := by decide +kernel
theorem dX9_init_28 : decode cX9_init 28 = .ok (.iastore, 1) := by decide +kernel
theorem dX9_init_29 : decode cX9_init 29 = .ok (.dup, 1) := by decide +kernel
theorem dX9_init_30 : decode cX9_init 30 = .ok (.iconst 5, 1) := by decide +kernel
theorem dX9_init_31 : decode cX9_init 31 = .ok (.iconst (-1), 1) := by decide +kernel
theorem dX9_init_32 : decode cX9_init 32 = .ok (.iastore, 1) := by decide +kernel
theorem dX9_init_33 : decode cX9_init 33 = .ok (.dup, 1) := by decide +kernel
theorem dX9_init_34 : decode cX9_init 34 = .ok (.bipush 6, 2) := by decide +kernel
theorem dX9_init_36 : decode cX9_init 36 = .ok (.iconst (-1), 1) := by decide +kernel
theorem dX9_init_37 : decode cX9_init 37 = .ok (.iastore, 1) := by decide +kernel
theorem dX9_init_38 : decode cX9_init 38 = .ok (.dup, 1) := by decide +kernel
theorem dX9_init_39 : decode cX9_init 39 = .ok (.bipush 7, 2) := by decide +kernel
theorem dX9_init_41 : decode cX9_init 41 = .ok (.iconst (-1), 1) := by decide +kernel
theorem dX9_init_42 : decode cX9_init 42 = .ok (.iastore, 1) := by decide +kernel
theorem dX9_init_43 : decode cX9_init 43 = .ok (.putfield 7, 3) := by decide +kernel
theorem dX9_init_46 : decode cX9_init 46 = .ok (.aload_n 0, 1) := by decide +kernel
theorem dX9_init_47 : decode cX9_init 47 = .ok (.bipush 8, 2) := by decide +kernel
theorem dX9_init_49 : decode cX9_init 49 = .ok (.newarray .int, 2) := by decide +kernel
theorem dX9_init_51 : decode cX9_init 51 = .ok (.putfield 13, 3) := by decide +kernel
theorem dX9_init_54 : decode cX9_init 54 = .ok (.aload_n 0, 1) := by decide +kernel
theorem dX9_init_55 : decode cX9_init 55 = .ok (.sipush 320, 3) := by decide +kernel
theorem dX9_init_58 : decode cX9_init 58 = .ok (.newarray .int, 2) := by decide +kernel
theorem dX9_init_60 : decode cX9_init 60 = .ok (.putfield 16, 3) := by decide +kernel
theorem dX9_init_63 : decode cX9_init 63 = .ok (.aload_n 0, 1) := by decide +kernel
theorem dX9_init_64 : decode cX9_init 64 = .ok (.bipush 127, 2) := by decide +kernel
theorem dX9_init_66 : decode cX9_init 66 = .ok (.newarray .int, 2) := by decide +kernel
theorem dX9_init_68 : decode cX9_init 68 = .ok (.putfield 19, 3) := by decide +kernel
theorem dX9_init_71 : decode cX9_init 71 = .ok (.aload_n 0, 1) := by decide +kernel
theorem dX9_init_72 : decode cX9_init 72 = .ok (.bipush 127, 2) := by decide +kernel
theorem dX9_init_74 : decode cX9_init 74 = .ok (.newarray .int, 2) := by decide +kernel
theorem dX9_init_76 : decode cX9_init 76 = .ok (.putfield 22, 3) := by decide +kernel
theorem dX9_init_79 : decode cX9_init 79 = .ok (.aload_n 0, 1) := by decide +kernel
theorem dX9_init_80 : decode cX9_init 80 = .ok (.sipush 3048, 3) := by decide +kernel
theorem dX9_init_83 : decode cX9_init 83 = .ok (.newarray .int, 2) := by decide +kernel
theorem dX9_init_85 : decode cX9_init 85 = .ok (.putfield 25, 3) := by decide +kernel
theorem dX9_init_88 : decode cX9_init 88 = .ok (.aload_n 0, 1) := by decide +kernel
theorem dX9_init_89 : decode cX9_init 89 = .ok (.sipush 500, 3) := by decide +kernel
theorem dX9_init_92 : decode cX9_init 92 = .ok (.newarray .int, 2) := by decide +kernel
theorem dX9_init_94 : decode cX9_init 94 = .ok (.putfield 28, 3) := by decide +kernel
theorem dX9_init_97 : decode cX9_init 97 = .ok (.aload_n 0, 1) := by decide +kernel
theorem dX9_init_98 : decode cX9_init 98 = .ok (.iconst 4, 1) := by decide +kernel
theorem dX9_init_99 : decode cX9_init 99 = .ok (.newarray .int, 2) := by decide +kernel
theorem dX9_init_101 : decode cX9_init 101 = .ok (.putfield 31, 3) := by decide +kernel
theorem dX9_init_104 : decode cX9_init 104 = .ok (.aload_n 0, 1) := by decide +kernel
theorem dX9_init_105 : decode cX9_init 105 = .ok (.iconst 4, 1) := by decide +kernel
theorem dX9_init_106 : decode cX9_init 106 = .ok (.newarray .long, 2) := by decide +kernel
theorem dX9_init_108 : decode cX9_init 108 = .ok (.putfield 34, 3) := by decide +kernel
theorem dX9_init_111 : decode cX9_init 111 = .ok (.aload_n 0, 1) := by decide +kernel
theorem dX9_init_112 : decode cX9_init 112 = .ok (.bipush 7, 2) := by decide +kernel
theorem dX9_init_114 : decode cX9_init 114 = .ok (.newarray .int, 2) := by decide +kernel
theorem dX9_init_116 : decode cX9_init 116 = .ok (.putfield 38, 3) := by decide +kernel
theorem dX9_init_119 : decode cX9_init 119 = .ok (.aload_n 0, 1) := by decide +kernel
theorem dX9_init_120 : decode cX9_init 120 = .ok (.bipush 7, 2) := by decide +kernel
theorem dX9_init_122 : decode cX9_init 122 = .ok (.newarray .int, 2) := by decide +kernel
theorem dX9_init_124 : decode cX9_init 124 = .ok (.putfield 41, 3) := by decide +kernel
theorem dX9_init_127 : decode cX9_init 127 = .ok (.aload_n 0, 1) := by decide +kernel
theorem dX9_init_128 : decode cX9_init 128 = .ok (.iconst 2, 1) := by decide +kernel
theorem dX9_init_129 : decode cX9_init 129 = .ok (.newarray .boolean, 2) := by decide +kernel
theorem dX9_init_131 : decode cX9_init 131 = .ok (.putfield 44, 3) := by decide +kernel
theorem dX9_init_134 : decode cX9_init 134 = .ok (.aload_n 0, 1) := by decide +kernel
theorem dX9_init_135 : decode cX9_init 135 = .ok (.sipush 254, 3) := by decide +kernel
theorem dX9_init_138 : decode cX9_init 138 = .ok (.newarray .int, 2) := by decide +kernel
theorem dX9_init_140 : decode cX9_init 140 = .ok (.putfield 48, 3) := by decide +kernel
theorem dX9_init_143 : decode cX9_init 143 = .ok (.aload_n 0, 1) := by decide +kernel
theorem dX9_init_144 : decode cX9_init 144 = .ok (.bipush 16, 2) := by decide +kernel
theorem dX9_init_146 : decode cX9_init 146 = .ok (.newarray .int, 2) := by decide +kernel
theorem dX9_init_148 : decode cX9_init 148 = .ok (.putfield 51, 3) := by decide +kernel
theorem dX9_init_151 : decode cX9_init 151 = .ok (.return_, 1) := by decide +kernel
theorem dX9_in_0 : decode cX9_in 0 = .ok (.lload_n 0, 1) := by decide +kernel
theorem dX9_in_1 : decode cX9_in 1 = .ok (.lload_n 2, 1) := by decide +kernel
theorem dX9_in_2 : decode cX9_in 2 = .ok (.lcmp, 1) := by decide +kernel
theorem dX9_in_3 : decode cX9_in 3 = .ok (.ifCond .lt 14, 3) := by decide +kernel
theorem dX9_in_6 : decode cX9_in 6 = .ok (.lload_n 0, 1) := by decide +kernel
theorem dX9_in_7 : decode cX9_in 7 = .ok (.lload 4, 2) := by decide +kernel
theorem dX9_in_9 : decode cX9_in 9 = .ok (.lcmp, 1) := by decide +kernel
theorem dX9_in_10 : decode cX9_in 10 = .ok (.ifCond .gt 7, 3) := by decide +kernel
theorem dX9_in_13 : decode cX9_in 13 = .ok (.iconst 1, 1) := by decide +kernel
theorem dX9_in_14 : decode cX9_in 14 = .ok (.goto 4, 3) := by decide +kernel
theorem dX9_in_17 : decode cX9_in 17 = .ok (.iconst 0, 1) := by decide +kernel
theorem dX9_in_18 : decode cX9_in 18 = .ok (.ireturn, 1) := by decide +kernel
theorem dX9_finding_0 : decode cX9_finding 0 = .ok (.aload_n 0, 1) := by decide +kernel
theorem dX9_finding_1 : decode cX9_finding 1 = .ok (.iload_n 1, 1) := by decide +kernel
theorem dX9_finding_2 : decode cX9_finding 2 = .ok (.putfield 58, 3) := by decide +kernel
theorem dX9_finding_5 : decode cX9_finding 5 = .ok (.ldc 61, 2) := by decide +kernel
theorem dX9_finding_7 : decode cX9_finding 7 = .ok (.iload_n 1, 1) := by decide +kernel
theorem dX9_finding_8 : decode cX9_finding 8 = .ok (.isub, 1) := by decide +kernel
theorem dX9_finding_9 : decode cX9_finding 9 = .ok (.ireturn, 1) := by decide +kernel
theorem dX9_isRow_0 : decode cX9_isRow 0 = .ok (.iload_n 0, 1) := by decide +kernel
theorem dX9_isRow_1 : decode cX9_isRow 1 = .ok (.i2l, 1) := by decide +kernel
theorem dX9_isRow_2 : decode cX9_isRow 2 = .ok (.lconst 0, 1) := by decide +kernel
theorem dX9_isRow_3 : decode cX9_isRow 3 = .ok (.ldc2_w 62, 3) := by decide +kernel
theorem dX9_isRow_6 : decode cX9_isRow 6 = .ok (.invokestatic 64, 3) := by decide +kernel
theorem dX9_isRow_9 : decode cX9_isRow 9 = .ok (.ireturn, 1) := by decide +kernel
theorem dX9_row_0 : decode cX9_row 0 = .ok (.aload_n 0, 1) := by decide +kernel
theorem dX9_row_1 : decode cX9_row 1 = .ok (.iconst 0, 1) := by decide +kernel
theorem dX9_row_2 : decode cX9_row 2 = .ok (.putfield 54, 3) := by decide +kernel
theorem dX9_row_5 : decode cX9_row 5 = .ok (.iload_n 1, 1) := by decide +kernel
theorem dX9_row_6 : decode cX9_row 6 = .ok (.invokestatic 68, 3) := by decide +kernel
theorem dX9_row_9 : decode cX9_row 9 = .ok (.ifCond .eq 21, 3) := by decide +kernel
theorem dX9_row_12 : decode cX9_row 12 = .ok (.iload_n 2, 1) := by decide +kernel
theorem dX9_row_13 : decode cX9_row 13 = .ok (.i2l, 1) := by decide +kernel
theorem dX9_row_14 : decode cX9_row 14 = .ok (.lconst 0, 1) := by decide +kernel
theorem dX9_row_15 : decode cX9_row 15 = .ok (.ldc2_w 72, 3) := by decide +kernel
theorem dX9_row_18 : decode cX9_row 18 = .ok (.invokestatic 64, 3) := by decide +kernel
theorem dX9_row_21 : decode cX9_row 21 = .ok (.ifCond .eq 9, 3) := by decide +kernel
theorem dX9_row_24 : decode cX9_row 24 = .ok (.iload_n 3, 1) := by decide +kernel
theorem dX9_row_25 : decode cX9_row 25 = .ok (.bipush 40, 2) := by decide +kernel
theorem dX9_row_27 : decode cX9_row 27 = .ok (.if_icmp .le 6, 3) := by decide +kernel
theorem dX9_row_30 : decode cX9_row 30 = .ok (.ldc 74, 2) := by decide +kernel
theorem dX9_row_32 : decode cX9_row 32 = .ok (.ireturn, 1) := by decide +kernel
theorem dX9_row_33 : decode cX9_row 33 = .ok (.aload_n 0, 1) := by decide +kernel
theorem dX9_row_34 : decode cX9_row 34 = .ok (.iconst 0, 1) := by decide +kernel
theorem dX9_row_35 : decode cX9_row 35 = .ok (.putfield 58, 3) := by decide +kernel
theorem dX9_row_38 : decode cX9_row 38 = .ok (.iload_n 3, 1) := by decide +kernel
theorem dX9_row_39 : decode cX9_row 39 = .ok (.ifCond .ge 9, 3) := by decide +kernel
theorem dX9_row_42 : decode cX9_row 42 = .ok (.aload_n 0, 1) := by decide +kernel
theorem dX9_row_43 : decode cX9_row 43 = .ok (.iconst 4, 1) := by decide +kernel
theorem dX9_row_44 : decode cX9_row 44 = .ok (.invokevirtual 75, 3) := by decide +kernel
theorem dX9_row_47 : decode cX9_row 47 = .ok (.ireturn, 1) := by decide +kernel
theorem dX9_row_48 : decode cX9_row 48 = .ok (.aload_n 0, 1) := by decide +kernel
theorem dX9_row_49 : decode cX9_row 49 = .ok (.getfield 7, 3) := by decide +kernel
theorem dX9_row_52 : decode cX9_row 52 = .ok (.iload_n 1, 1) := by decide +kernel
theorem dX9_row_53 : decode cX9_row 53 = .ok (.iload_n 2, 1) := by decide +kernel
theorem dX9_row_54 : decode cX9_row 54 = .ok (.iastore, 1) := by decide +kernel
theorem dX9_row_55 : decode cX9_row 55 = .ok (.aload_n 0, 1) := by decide +kernel
theorem dX9_row_56 : decode cX9_row 56 = .ok (.getfield 13, 3) := by decide +kernel
theorem dX9_row_59 : decode cX9_row 59 = .ok (.iload_n 1, 1) := by decide +kernel
theorem dX9_row_60 : decode cX9_row 60 = .ok (.iload_n 3, 1) := by decide +kernel
theorem dX9_row_61 : decode cX9_row 61 = .ok (.iastore, 1) := by decide +kernel
theorem dX9_row_62 : decode cX9_row 62 = .ok (.iconst 0, 1) := by decide +kernel
theorem dX9_row_63 : decode cX9_row 63 = .ok (.istore 4, 2) := by decide +kernel
theorem dX9_row_65 : decode cX9_row 65 = .ok (.iload 4, 2) := by decide +kernel
theorem dX9_row_67 : decode cX9_row 67 = .ok (.bipush 40, 2) := by decide +kernel
theorem dX9_row_69 : decode cX9_row 69 = .ok (.if_icmp .ge 22, 3) := by decide +kernel
theorem dX9_row_72 : decode cX9_row 72 = .ok (.aload_n 0, 1) := by decide +kernel
theorem dX9_row_73 : decode cX9_row 73 = .ok (.getfield 16, 3) := by decide +kernel
theorem dX9_row_76 : decode cX9_row 76 = .ok (.bipush 40, 2) := by decide +kernel
theorem dX9_row_78 : decode cX9_row 78 = .ok (.iload_n 1, 1) := by decide +kernel
theorem dX9_row_79 : decode cX9_row 79 = .ok (.imul, 1) := by decide +kernel
theorem dX9_row_80 : decode cX9_row 80 = .ok (.iload 4, 2) := by decide +kernel
theorem dX9_row_82 : decode cX9_row 82 = .ok (.iadd, 1) := by decide +kernel
theorem dX9_row_83 : decode cX9_row 83 = .ok (.iconst 0, 1) := by decide +kernel
theorem dX9_row_84 : decode cX9_row 84 = .ok (.iastore, 1) := by decide +kernel
theorem dX9_row_85 : decode cX9_row 85 = .ok (.iinc 4 1, 3) := by decide +kernel
theorem dX9_row_88 : decode cX9_row 88 = .ok (.goto (-23), 3) := by decide +kernel
theorem dX9_row_91 : decode cX9_row 91 = .ok (.iload_n 3, 1) := by decide +kernel
theorem dX9_row_92 : decode cX9_row 92 = .ok (.ireturn, 1) := by decide +kernel
theorem dX9_set_0 : decode cX9_set 0 = .ok (.aload_n 0, 1) := by decide +kernel
theorem dX9_set_1 : decode cX9_set 1 = .ok (.iconst 0, 1) := by decide +kernel
theorem dX9_set_2 : decode cX9_set 2 = .ok (.putfield 54, 3) := by decide +kernel
theorem dX9_set_5 : decode cX9_set 5 = .ok (.iload_n 1, 1) := by decide +kernel
theorem dX9_set_6 : decode cX9_set 6 = .ok (.invokestatic 68, 3) := by decide +kernel
theorem dX9_set_9 : decode cX9_set 9 = .ok (.ifCond .ne 6, 3) := by decide +kernel
theorem dX9_set_12 : decode cX9_set 12 = .ok (.ldc 74, 2) := by decide +kernel
theorem dX9_set_14 : decode cX9_set 14 = .ok (.ireturn, 1) := by decide +kernel
theorem dX9_set_15 : decode cX9_set 15 = .ok (.aload_n 0, 1) := by decide +kernel
theorem dX9_set_16 : decode cX9_set 16 = .ok (.iconst 0, 1) := by decide +kernel
theorem dX9_set_17 : decode cX9_set 17 = .ok (.putfield 58, 3) := by decide +kernel
theorem dX9_set_20 : decode cX9_set 20 = .ok (.aload_n 0, 1) := by decide +kernel
theorem dX9_set_21 : decode cX9_set 21 = .ok (.getfield 7, 3) := by decide +kernel
theorem dX9_set_24 : decode cX9_set 24 = .ok (.iload_n 1, 1) := by decide +kernel
theorem dX9_set_25 : decode cX9_set 25 = .ok (.iaload, 1) := by decide +kernel
theorem dX9_set_26 : decode cX9_set 26 = .ok (.ifCond .ge 9, 3) := by decide +kernel
theorem dX9_set_29 : decode cX9_set 29 = .ok (.aload_n 0, 1) := by decide +kernel
theorem dX9_set_30 : decode cX9_set 30 = .ok (.iconst 1, 1) := by decide +kernel
theorem dX9_set_31 : decode cX9_set 31 = .ok (.invokevirtual 75, 3) := by decide +kernel
theorem dX9_set_34 : decode cX9_set 34 = .ok (.ireturn, 1) := by decide +kernel
theorem dX9_set_35 : decode cX9_set 35 = .ok (.iload_n 2, 1) := by decide +kernel
theorem dX9_set_36 : decode cX9_set 36 = .ok (.i2l, 1) := by decide +kernel
theorem dX9_set_37 : decode cX9_set 37 = .ok (.lconst 0, 1) := by decide +kernel
theorem dX9_set_38 : decode cX9_set 38 = .ok (.aload_n 0, 1) := by decide +kernel
theorem dX9_set_39 : decode cX9_set 39 = .ok (.getfield 13, 3) := by decide +kernel
theorem dX9_set_42 : decode cX9_set 42 = .ok (.iload_n 1, 1) := by decide +kernel
theorem dX9_set_43 : decode cX9_set 43 = .ok (.iaload, 1) := by decide +kernel
theorem dX9_set_44 : decode cX9_set 44 = .ok (.iconst 1, 1) := by decide +kernel
theorem dX9_set_45 : decode cX9_set 45 = .ok (.isub, 1) := by decide +kernel
theorem dX9_set_46 : decode cX9_set 46 = .ok (.i2l, 1) := by decide +kernel
theorem dX9_set_47 : decode cX9_set 47 = .ok (.invokestatic 64, 3) := by decide +kernel
theorem dX9_set_50 : decode cX9_set 50 = .ok (.ifCond .ne 9, 3) := by decide +kernel
theorem dX9_set_53 : decode cX9_set 53 = .ok (.aload_n 0, 1) := by decide +kernel
theorem dX9_set_54 : decode cX9_set 54 = .ok (.iconst 2, 1) := by decide +kernel
theorem dX9_set_55 : decode cX9_set 55 = .ok (.invokevirtual 75, 3) := by decide +kernel
theorem dX9_set_58 : decode cX9_set 58 = .ok (.ireturn, 1) := by decide +kernel
theorem dX9_set_59 : decode cX9_set 59 = .ok (.aload_n 0, 1) := by decide +kernel
theorem dX9_set_60 : decode cX9_set 60 = .ok (.getfield 16, 3) := by decide +kernel
theorem dX9_set_63 : decode cX9_set 63 = .ok (.bipush 40, 2) := by decide +kernel
theorem dX9_set_65 : decode cX9_set 65 = .ok (.iload_n 1, 1) := by decide +kernel
theorem dX9_set_66 : decode cX9_set 66 = .ok (.imul, 1) := by decide +kernel
theorem dX9_set_67 : decode cX9_set 67 = .ok (.iload_n 2, 1) := by decide +kernel
theorem dX9_set_68 : decode cX9_set 68 = .ok (.iadd, 1) := by decide +kernel
theorem dX9_set_69 : decode cX9_set 69 = .ok (.aload_n 0, 1) := by decide +kernel
theorem dX9_set_70 : decode cX9_set 70 = .ok (.getfield 7, 3) := by decide +kernel
theorem dX9_set_73 : decode cX9_set 73 = .ok (.iload_n 1, 1) := by decide +kernel
theorem dX9_set_74 : decode cX9_set 74 = .ok (.iaload, 1) := by decide +kernel
theorem dX9_set_75 : decode cX9_set 75 = .ok (.ifCond .ne 8, 3) := by decide +kernel
theorem dX9_set_78 : decode cX9_set 78 = .ok (.iload_n 3, 1) := by decide +kernel
theorem dX9_set_79 : decode cX9_set 79 = .ok (.i2b, 1) := by decide +kernel
theorem dX9_set_80 : decode cX9_set 80 = .ok (.goto 19, 3) := by decide +kernel
theorem dX9_set_83 : decode cX9_set 83 = .ok (.aload_n 0, 1) := by decide +kernel
theorem dX9_set_84 : decode cX9_set 84 = .ok (.getfield 7, 3) := by decide +kernel
theorem dX9_set_87 : decode cX9_set 87 = .ok (.iload_n 1, 1) := by decide +kernel
theorem dX9_set_88 : decode cX9_set 88 = .ok (.iaload, 1) := by decide +kernel
theorem dX9_set_89 : decode cX9_set 89 = .ok (.iconst 1, 1) := by decide +kernel
theorem dX9_set_90 : decode cX9_set 90 = .ok (.if_icmp .ne 8, 3) := by decide +kernel
theorem dX9_set_93 : decode cX9_set 93 = .ok (.iload_n 3, 1) := by decide +kernel
theorem dX9_set_94 : decode cX9_set 94 = .ok (.i2s, 1) := by decide +kernel
theorem dX9_set_95 : decode cX9_set 95 = .ok (.goto 4, 3) := by decide +kernel
theorem dX9_set_98 : decode cX9_set 98 = .ok (.iload_n 3, 1) := by decide +kernel
theorem dX9_set_99 : decode cX9_set 99 = .ok (.iastore, 1) := by decide +kernel
theorem dX9_set_100 : decode cX9_set 100 = .ok (.aload_n 0, 1) := by decide +kernel
theorem dX9_set_101 : decode cX9_set 101 = .ok (.getfield 16, 3) := by decide +kernel
theorem dX9_set_104 : decode cX9_set 104 = .ok (.bipush 40, 2) := by decide +kernel
theorem dX9_set_106 : decode cX9_set 106 = .ok (.iload_n 1, 1) := by decide +kernel
theorem dX9_set_107 : decode cX9_set 107 = .ok (.imul, 1) := by decide +kernel
theorem dX9_set_108 : decode cX9_set 108 = .ok (.iload_n 2, 1) := by decide +kernel
theorem dX9_set_109 : decode cX9_set 109 = .ok (.iadd, 1) := by decide +kernel
theorem dX9_set_110 : decode cX9_set 110 = .ok (.iaload, 1) := by decide +kernel
theorem dX9_set_111 : decode cX9_set 111 = .ok (.ireturn, 1) := by decide +kernel
theorem dX9_copy_0 : decode cX9_copy 0 = .ok (.aload_n 0, 1) := by decide +kernel
theorem dX9_copy_1 : decode cX9_copy 1 = .ok (.iconst 0, 1) := by decide +kernel
theorem dX9_copy_2 : decode cX9_copy 2 = .ok (.putfield 54, 3) := by decide +kernel
theorem dX9_copy_5 : decode cX9_copy 5 = .ok (.iload_n 1, 1) := by decide +kernel
theorem dX9_copy_6 : decode cX9_copy 6 = .ok (.invokestatic 68, 3) := by decide +kernel
theorem dX9_copy_9 : decode cX9_copy 9 = .ok (.ifCond .eq 10, 3) := by decide +kernel
theorem dX9_copy_12 : decode cX9_copy 12 = .ok (.iload_n 3, 1) := by decide +kernel
theorem dX9_copy_13 : decode cX9_copy 13 = .ok (.invokestatic 68, 3) := by decide +kernel
theorem dX9_copy_16 : decode cX9_copy 16 = .ok (.ifCond .ne 6, 3) := by decide +kernel
theorem dX9_copy_19 : decode cX9_copy 19 = .ok (.ldc 74, 2) := by decide +kernel
theorem dX9_copy_21 : decode cX9_copy 21 = .ok (.ireturn, 1) := by decide +kernel
theorem dX9_copy_22 : decode cX9_copy 22 = .ok (.aload_n 0, 1) := by decide +kernel
theorem dX9_copy_23 : decode cX9_copy 23 = .ok (.iconst 0, 1) := by decide +kernel
theorem dX9_copy_24 : decode cX9_copy 24 = .ok (.putfield 58, 3) := by decide +kernel
theorem dX9_copy_27 : decode cX9_copy 27 = .ok (.aload_n 0, 1) := by decide +kernel
theorem dX9_copy_28 : decode cX9_copy 28 = .ok (.getfield 7, 3) := by decide +kernel
theorem dX9_copy_31 : decode cX9_copy 31 = .ok (.iload_n 1, 1) := by decide +kernel
theorem dX9_copy_32 : decode cX9_copy 32 = .ok (.iaload, 1) := by decide +kernel
theorem dX9_copy_33 : decode cX9_copy 33 = .ok (.ifCond .lt 12, 3) := by decide +kernel
theorem dX9_copy_36 : decode cX9_copy 36 = .ok (.aload_n 0, 1) := by decide +kernel
theorem dX9_copy_37 : decode cX9_copy 37 = .ok (.getfield 7, 3) := by decide +kernel
theorem dX9_copy_40 : decode cX9_copy 40 = .ok (.iload_n 3, 1) := by decide +kernel
theorem dX9_copy_41 : decode cX9_copy 41 = .ok (.iaload, 1) := by decide +kernel
theorem dX9_copy_42 : decode cX9_copy 42 = .ok (.ifCond .ge 9, 3) := by decide +kernel
theorem dX9_copy_45 : decode cX9_copy 45 = .ok (.aload_n 0, 1) := by decide +kernel
theorem dX9_copy_46 : decode cX9_copy 46 = .ok (.iconst 1, 1) := by decide +kernel
theorem dX9_copy_47 : decode cX9_copy 47 = .ok (.invokevirtual 75, 3) := by decide +kernel
theorem dX9_copy_50 : decode cX9_copy 50 = .ok (.ireturn, 1) := by decide +kernel
theorem dX9_copy_51 : decode cX9_copy 51 = .ok (.aload_n 0, 1) := by decide +kernel
theorem dX9_copy_52 : decode cX9_copy 52 = .ok (.getfield 7, 3) := by decide +kernel
theorem dX9_copy_55 : decode cX9_copy 55 = .ok (.iload_n 1, 1) := by decide +kernel
theorem dX9_copy_56 : decode cX9_copy 56 = .ok (.iaload, 1) := by decide +kernel
theorem dX9_copy_57 : decode cX9_copy 57 = .ok (.aload_n 0, 1) := by decide +kernel
theorem dX9_copy_58 : decode cX9_copy 58 = .ok (.getfield 7, 3) := by decide +kernel
theorem dX9_copy_61 : decode cX9_copy 61 = .ok (.iload_n 3, 1) := by decide +kernel
theorem dX9_copy_62 : decode cX9_copy 62 = .ok (.iaload, 1) := by decide +kernel
theorem dX9_copy_63 : decode cX9_copy 63 = .ok (.if_icmp .eq 9, 3) := by decide +kernel
theorem dX9_copy_66 : decode cX9_copy 66 = .ok (.aload_n 0, 1) := by decide +kernel
theorem dX9_copy_67 : decode cX9_copy 67 = .ok (.iconst 5, 1) := by decide +kernel
theorem dX9_copy_68 : decode cX9_copy 68 = .ok (.invokevirtual 75, 3) := by decide +kernel
theorem dX9_copy_71 : decode cX9_copy 71 = .ok (.ireturn, 1) := by decide +kernel
theorem dX9_copy_72 : decode cX9_copy 72 = .ok (.iload_n 2, 1) := by decide +kernel
theorem dX9_copy_73 : decode cX9_copy 73 = .ok (.ifCond .lt 48, 3) := by decide +kernel
theorem dX9_copy_76 : decode cX9_copy 76 = .ok (.iload 4, 2) := by decide +kernel
theorem dX9_copy_78 : decode cX9_copy 78 = .ok (.ifCond .lt 43, 3) := by decide +kernel
theorem dX9_copy_81 : decode cX9_copy 81 = .ok (.iload 5, 2) := by decide +kernel
theorem dX9_copy_83 : decode cX9_copy 83 = .ok (.ifCond .lt 38, 3) := by decide +kernel
theorem dX9_copy_86 : decode cX9_copy 86 = .ok (.iload_n 2, 1) := by decide +kernel
theorem dX9_copy_87 : decode cX9_copy 87 = .ok (.i2l, 1) := by decide +kernel
theorem dX9_copy_88 : decode cX9_copy 88 = .ok (.iload 5, 2) := by decide +kernel
theorem dX9_copy_90 : decode cX9_copy 90 = .ok (.i2l, 1) := by decide +kernel
theorem dX9_copy_91 : decode cX9_copy 91 = .ok (.ladd, 1) := by decide +kernel
theorem dX9_copy_92 : decode cX9_copy 92 = .ok (.aload_n 0, 1) := by decide +kernel
theorem dX9_copy_93 : decode cX9_copy 93 = .ok (.getfield 13, 3) := by decide +kernel
theorem dX9_copy_96 : decode cX9_copy 96 = .ok (.iload_n 1, 1) := by decide +kernel
theorem dX9_copy_97 : decode cX9_copy 97 = .ok (.iaload, 1) := by decide +kernel
theorem dX9_copy_98 : decode cX9_copy 98 = .ok (.i2l, 1) := by decide +kernel
theorem dX9_copy_99 : decode cX9_copy 99 = .ok (.lcmp, 1) := by decide +kernel
theorem dX9_copy_100 : decode cX9_copy 100 = .ok (.ifCond .gt 21, 3) := by decide +kernel
theorem dX9_copy_103 : decode cX9_copy 103 = .ok (.iload 4, 2) := by decide +kernel
theorem dX9_copy_105 : decode cX9_copy 105 = .ok (.i2l, 1) := by decide +kernel
theorem dX9_copy_106 : decode cX9_copy 106 = .ok (.iload 5, 2) := by decide +kernel
theorem dX9_copy_108 : decode cX9_copy 108 = .ok (.i2l, 1) := by decide +kernel
theorem dX9_copy_109 : decode cX9_copy 109 = .ok (.ladd, 1) := by decide +kernel
theorem dX9_copy_110 : decode cX9_copy 110 = .ok (.aload_n 0, 1) := by decide +kernel
theorem dX9_copy_111 : decode cX9_copy 111 = .ok (.getfield 13, 3) := by decide +kernel
theorem dX9_copy_114 : decode cX9_copy 114 = .ok (.iload_n 3, 1) := by decide +kernel
theorem dX9_copy_115 : decode cX9_copy 115 = .ok (.iaload, 1) := by decide +kernel
theorem dX9_copy_116 : decode cX9_copy 116 = .ok (.i2l, 1) := by decide +kernel
theorem dX9_copy_117 : decode cX9_copy 117 = .ok (.lcmp, 1) := by decide +kernel
theorem dX9_copy_118 : decode cX9_copy 118 = .ok (.ifCond .le 9, 3) := by decide +kernel
theorem dX9_copy_121 : decode cX9_copy 121 = .ok (.aload_n 0, 1) := by decide +kernel
theorem dX9_copy_122 : decode cX9_copy 122 = .ok (.iconst 2, 1) := by decide +kernel
theorem dX9_copy_123 : decode cX9_copy 123 = .ok (.invokevirtual 75, 3) := by decide +kernel
theorem dX9_copy_126 : decode cX9_copy 126 = .ok (.ireturn, 1) := by decide +kernel
theorem dX9_copy_127 : decode cX9_copy 127 = .ok (.iload_n 2, 1) := by decide +kernel
theorem dX9_copy_128 : decode cX9_copy 128 = .ok (.iload 4, 2) := by decide +kernel
theorem dX9_copy_130 : decode cX9_copy 130 = .ok (.if_icmp .lt 7, 3) := by decide +kernel
theorem dX9_copy_133 : decode cX9_copy 133 = .ok (.iconst 1, 1) := by decide +kernel
theorem dX9_copy_134 : decode cX9_copy 134 = .ok (.goto 4, 3) := by decide +kernel
theorem dX9_copy_137 : decode cX9_copy 137 = .ok (.iconst 0, 1) := by decide +kernel
theorem dX9_copy_138 : decode cX9_copy 138 = .ok (.istore 6, 2) := by decide +kernel
theorem dX9_copy_140 : decode cX9_copy 140 = .ok (.iconst 0, 1) := by decide +kernel
theorem dX9_copy_141 : decode cX9_copy 141 = .ok (.istore 7, 2) := by decide +kernel
theorem dX9_copy_143 : decode cX9_copy 143 = .ok (.iload 7, 2) := by decide +kernel
theorem dX9_copy_145 : decode cX9_copy 145 = .ok (.iload 5, 2) := by decide +kernel
theorem dX9_copy_147 : decode cX9_copy 147 = .ok (.if_icmp .ge 57, 3) := by decide +kernel
theorem dX9_copy_150 : decode cX9_copy 150 = .ok (.iload 6, 2) := by decide +kernel
theorem dX9_copy_152 : decode cX9_copy 152 = .ok (.ifCond .eq 8, 3) := by decide +kernel
theorem dX9_copy_155 : decode cX9_copy 155 = .ok (.iload 7, 2) := by decide +kernel
theorem dX9_copy_157 : decode cX9_copy 157 = .ok (.goto 10, 3) := by decide +kernel
theorem dX9_copy_160 : decode cX9_copy 160 = .ok (.iload 5, 2) := by decide +kernel
theorem dX9_copy_162 : decode cX9_copy 162 = .ok (.iconst 1, 1) := by decide +kernel
theorem dX9_copy_163 : decode cX9_copy 163 = .ok (.isub, 1) := by decide +kernel
theorem dX9_copy_164 : decode cX9_copy 164 = .ok (.iload 7, 2) := by decide +kernel
theorem dX9_copy_166 : decode cX9_copy 166 = .ok (.isub, 1) := by decide +kernel
theorem dX9_copy_167 : decode cX9_copy 167 = .ok (.istore 8, 2) := by decide +kernel
theorem dX9_copy_169 : decode cX9_copy 169 = .ok (.aload_n 0, 1) := by decide +kernel
theorem dX9_copy_170 : decode cX9_copy 170 = .ok (.getfield 16, 3) := by decide +kernel
theorem dX9_copy_173 : decode cX9_copy 173 = .ok (.bipush 40, 2) := by decide +kernel
theorem dX9_copy_175 : decode cX9_copy 175 = .ok (.iload_n 3, 1) := by decide +kernel
theorem dX9_copy_176 : decode cX9_copy 176 = .ok (.imul, 1) := by decide +kernel
theorem dX9_copy_177 : decode cX9_copy 177 = .ok (.iload 4, 2) := by decide +kernel
theorem dX9_copy_179 : decode cX9_copy 179 = .ok (.iadd, 1) := by decide +kernel
theorem dX9_copy_180 : decode cX9_copy 180 = .ok (.iload 8, 2) := by decide +kernel
theorem dX9_copy_182 : decode cX9_copy 182 = .ok (.iadd, 1) := by decide +kernel
theorem dX9_copy_183 : decode cX9_copy 183 = .ok (.aload_n 0, 1) := by decide +kernel
theorem dX9_copy_184 : decode cX9_copy 184 = .ok (.getfield 16, 3) := by decide +kernel
theorem dX9_copy_187 : decode cX9_copy 187 = .ok (.bipush 40, 2) := by decide +kernel
theorem dX9_copy_189 : decode cX9_copy 189 = .ok (.iload_n 1, 1) := by decide +kernel
theorem dX9_copy_190 : decode cX9_copy 190 = .ok (.imul, 1) := by decide +kernel
theorem dX9_copy_191 : decode cX9_copy 191 = .ok (.iload_n 2, 1) := by decide +kernel
theorem dX9_copy_192 : decode cX9_copy 192 = .ok (.iadd, 1) := by decide +kernel
theorem dX9_copy_193 : decode cX9_copy 193 = .ok (.iload 8, 2) := by decide +kernel
theorem dX9_copy_195 : decode cX9_copy 195 = .ok (.iadd, 1) := by decide +kernel
theorem dX9_copy_196 : decode cX9_copy 196 = .ok (.iaload, 1) := by decide +kernel
theorem dX9_copy_197 : decode cX9_copy 197 = .ok (.iastore, 1) := by decide +kernel
theorem dX9_copy_198 : decode cX9_copy 198 = .ok (.iinc 7 1, 3) := by decide +kernel
theorem dX9_copy_201 : decode cX9_copy 201 = .ok (.goto (-58), 3) := by decide +kernel
theorem dX9_copy_204 : decode cX9_copy 204 = .ok (.iload 5, 2) := by decide +kernel
theorem dX9_copy_206 : decode cX9_copy 206 = .ok (.ireturn, 1) := by decide +kernel
theorem dX9_drop_0 : decode cX9_drop 0 = .ok (.aload_n 0, 1) := by decide +kernel
theorem dX9_drop_1 : decode cX9_drop 1 = .ok (.iconst 0, 1) := by decide +kernel
theorem dX9_drop_2 : decode cX9_drop 2 = .ok (.putfield 54, 3) := by decide +kernel
theorem dX9_drop_5 : decode cX9_drop 5 = .ok (.iload_n 1, 1) := by decide +kernel
theorem dX9_drop_6 : decode cX9_drop 6 = .ok (.invokestatic 68, 3) := by decide +kernel
theorem dX9_drop_9 : decode cX9_drop 9 = .ok (.ifCond .ne 6, 3) := by decide +kernel
theorem dX9_drop_12 : decode cX9_drop 12 = .ok (.ldc 74, 2) := by decide +kernel
theorem dX9_drop_14 : decode cX9_drop 14 = .ok (.ireturn, 1) := by decide +kernel
theorem dX9_drop_15 : decode cX9_drop 15 = .ok (.aload_n 0, 1) := by decide +kernel
theorem dX9_drop_16 : decode cX9_drop 16 = .ok (.iconst 0, 1) := by decide +kernel
theorem dX9_drop_17 : decode cX9_drop 17 = .ok (.putfield 58, 3) := by decide +kernel
theorem dX9_drop_20 : decode cX9_drop 20 = .ok (.aload_n 0, 1) := by decide +kernel
theorem dX9_drop_21 : decode cX9_drop 21 = .ok (.getfield 7, 3) := by decide +kernel
theorem dX9_drop_24 : decode cX9_drop 24 = .ok (.iload_n 1, 1) := by decide +kernel
theorem dX9_drop_25 : decode cX9_drop 25 = .ok (.iaload, 1) := by decide +kernel
theorem dX9_drop_26 : decode cX9_drop 26 = .ok (.ifCond .ge 9, 3) := by decide +kernel
theorem dX9_drop_29 : decode cX9_drop 29 = .ok (.aload_n 0, 1) := by decide +kernel
theorem dX9_drop_30 : decode cX9_drop 30 = .ok (.iconst 1, 1) := by decide +kernel
theorem dX9_drop_31 : decode cX9_drop 31 = .ok (.invokevirtual 75, 3) := by decide +kernel
theorem dX9_drop_34 : decode cX9_drop 34 = .ok (.ireturn, 1) := by decide +kernel
theorem dX9_drop_35 : decode cX9_drop 35 = .ok (.aload_n 0, 1) := by decide +kernel
theorem dX9_drop_36 : decode cX9_drop 36 = .ok (.getfield 7, 3) := by decide +kernel
theorem dX9_drop_39 : decode cX9_drop 39 = .ok (.iload_n 1, 1) := by decide +kernel
theorem dX9_drop_40 : decode cX9_drop 40 = .ok (.iconst (-1), 1) := by decide +kernel
theorem dX9_drop_41 : decode cX9_drop 41 = .ok (.iastore, 1) := by decide +kernel
theorem dX9_drop_42 : decode cX9_drop 42 = .ok (.aload_n 0, 1) := by decide +kernel
theorem dX9_drop_43 : decode cX9_drop 43 = .ok (.getfield 13, 3) := by decide +kernel
theorem dX9_drop_46 : decode cX9_drop 46 = .ok (.iload_n 1, 1) := by decide +kernel
theorem dX9_drop_47 : decode cX9_drop 47 = .ok (.iaload, 1) := by decide +kernel
theorem dX9_drop_48 : decode cX9_drop 48 = .ok (.ireturn, 1) := by decide +kernel
theorem dX9_feed_0 : decode cX9_feed 0 = .ok (.aload_n 0, 1) := by decide +kernel
theorem dX9_feed_1 : decode cX9_feed 1 = .ok (.iconst 0, 1) := by decide +kernel
theorem dX9_feed_2 : decode cX9_feed 2 = .ok (.putfield 54, 3) := by decide +kernel
theorem dX9_feed_5 : decode cX9_feed 5 = .ok (.iload_n 3, 1) := by decide +kernel
theorem dX9_feed_6 : decode cX9_feed 6 = .ok (.i2l, 1) := by decide +kernel
theorem dX9_feed_7 : decode cX9_feed 7 = .ok (.lconst 1, 1) := by decide +kernel
theorem dX9_feed_8 : decode cX9_feed 8 = .ok (.ldc2_w 79, 3) := by decide +kernel
theorem dX9_feed_11 : decode cX9_feed 11 = .ok (.invokestatic 64, 3) := by decide +kernel
theorem dX9_feed_14 : decode cX9_feed 14 = .ok (.ifCond .ne 6, 3) := by decide +kernel
theorem dX9_feed_17 : decode cX9_feed 17 = .ok (.ldc 74, 2) := by decide +kernel
theorem dX9_feed_19 : decode cX9_feed 19 = .ok (.ireturn, 1) := by decide +kernel
theorem dX9_feed_20 : decode cX9_feed 20 = .ok (.aload_n 0, 1) := by decide +kernel
theorem dX9_feed_21 : decode cX9_feed 21 = .ok (.getfield 81, 3) := by decide +kernel
theorem dX9_feed_24 : decode cX9_feed 24 = .ok (.iload_n 3, 1) := by decide +kernel
theorem dX9_feed_25 : decode cX9_feed 25 = .ok (.iadd, 1) := by decide +kernel
theorem dX9_feed_26 : decode cX9_feed 26 = .ok (.sipush 500, 3) := by decide +kernel
theorem dX9_feed_29 : decode cX9_feed 29 = .ok (.if_icmp .le 6, 3) := by decide +kernel
theorem dX9_feed_32 : decode cX9_feed 32 = .ok (.ldc 84, 2) := by decide +kernel
theorem dX9_feed_34 : decode cX9_feed 34 = .ok (.ireturn, 1) := by decide +kernel
theorem dX9_feed_35 : decode cX9_feed 35 = .ok (.iload_n 3, 1) := by decide +kernel
theorem dX9_feed_36 : decode cX9_feed 36 = .ok (.iconst 1, 1) := by decide +kernel
theorem dX9_feed_37 : decode cX9_feed 37 = .ok (.isub, 1) := by decide +kernel
theorem dX9_feed_38 : decode cX9_feed 38 = .ok (.istore 4, 2) := by decide +kernel
theorem dX9_feed_40 : decode cX9_feed 40 = .ok (.iload 4, 2) := by decide +kernel
theorem dX9_feed_42 : decode cX9_feed 42 = .ok (.ifCond .lt 40, 3) := by decide +kernel
theorem dX9_feed_45 : decode cX9_feed 45 = .ok (.aload_n 0, 1) := by decide +kernel
theorem dX9_feed_46 : decode cX9_feed 46 = .ok (.getfield 28, 3) := by decide +kernel
theorem dX9_feed_49 : decode cX9_feed 49 = .ok (.aload_n 0, 1) := by decide +kernel
theorem dX9_feed_50 : decode cX9_feed 50 = .ok (.getfield 81, 3) := by decide +kernel
theorem dX9_feed_53 : decode cX9_feed 53 = .ok (.lload_n 1, 1) := by decide +kernel
theorem dX9_feed_54 : decode cX9_feed 54 = .ok (.bipush 8, 2) := by decide +kernel
theorem dX9_feed_56 : decode cX9_feed 56 = .ok (.iload 4, 2) := by decide +kernel
theorem dX9_feed_58 : decode cX9_feed 58 = .ok (.imul, 1) := by decide +kernel
theorem dX9_feed_59 : decode cX9_feed 59 = .ok (.lshr, 1) := by decide +kernel
theorem dX9_feed_60 : decode cX9_feed 60 = .ok (.ldc2_w 85, 3) := by decide +kernel
theorem dX9_feed_63 : decode cX9_feed 63 = .ok (.land, 1) := by decide +kernel
theorem dX9_feed_64 : decode cX9_feed 64 = .ok (.l2i, 1) := by decide +kernel
theorem dX9_feed_65 : decode cX9_feed 65 = .ok (.iastore, 1) := by decide +kernel
theorem dX9_feed_66 : decode cX9_feed 66 = .ok (.aload_n 0, 1) := by decide +kernel
theorem dX9_feed_67 : decode cX9_feed 67 = .ok (.dup, 1) := by decide +kernel
theorem dX9_feed_68 : decode cX9_feed 68 = .ok (.getfield 81, 3) := by decide +kernel
theorem dX9_feed_71 : decode cX9_feed 71 = .ok (.iconst 1, 1) := by decide +kernel
theorem dX9_feed_72 : decode cX9_feed 72 = .ok (.iadd, 1) := by decide +kernel
theorem dX9_feed_73 : decode cX9_feed 73 = .ok (.putfield 81, 3) := by decide +kernel
theorem dX9_feed_76 : decode cX9_feed 76 = .ok (.iinc 4 (-1), 3) := by decide +kernel
theorem dX9_feed_79 : decode cX9_feed 79 = .ok (.goto (-39), 3) := by decide +kernel
theorem dX9_feed_82 : decode cX9_feed 82 = .ok (.aload_n 0, 1) := by decide +kernel
theorem dX9_feed_83 : decode cX9_feed 83 = .ok (.getfield 81, 3) := by decide +kernel
theorem dX9_feed_86 : decode cX9_feed 86 = .ok (.ireturn, 1) := by decide +kernel
theorem dX9_byteAt_0 : decode cX9_byteAt 0 = .ok (.iload_n 1, 1) := by decide +kernel
theorem dX9_byteAt_1 : decode cX9_byteAt 1 = .ok (.aload_n 0, 1) := by decide +kernel
theorem dX9_byteAt_2 : decode cX9_byteAt 2 = .ok (.getfield 87, 3) := by decide +kernel
theorem dX9_byteAt_5 : decode cX9_byteAt 5 = .ok (.if_icmp .ge 12, 3) := by decide +kernel
theorem dX9_byteAt_8 : decode cX9_byteAt 8 = .ok (.aload_n 0, 1) := by decide +kernel
theorem dX9_byteAt_9 : decode cX9_byteAt 9 = .ok (.getfield 28, 3) := by decide +kernel
theorem dX9_byteAt_12 : decode cX9_byteAt 12 = .ok (.iload_n 1, 1) := by decide +kernel
theorem dX9_byteAt_13 : decode cX9_byteAt 13 = .ok (.iaload, 1) := by decide +kernel
theorem dX9_byteAt_14 : decode cX9_byteAt 14 = .ok (.goto 5, 3) := by decide +kernel
theorem dX9_byteAt_17 : decode cX9_byteAt 17 = .ok (.ldc 90, 2) := by decide +kernel
theorem dX9_byteAt_19 : decode cX9_byteAt 19 = .ok (.ireturn, 1) := by decide +kernel
theorem dX9_isLetter_0 : decode cX9_isLetter 0 = .ok (.iload_n 0, 1) := by decide +kernel
theorem dX9_isLetter_1 : decode cX9_isLetter 1 = .ok (.bipush 97, 2) := by decide +kernel
theorem dX9_isLetter_3 : decode cX9_isLetter 3 = .ok (.if_icmp .lt 13, 3) := by decide +kernel
theorem dX9_isLetter_6 : decode cX9_isLetter 6 = .ok (.iload_n 0, 1) := by decide +kernel
theorem dX9_isLetter_7 : decode cX9_isLetter 7 = .ok (.bipush 122, 2) := by decide +kernel
theorem dX9_isLetter_9 : decode cX9_isLetter 9 = .ok (.if_icmp .gt 7, 3) := by decide +kernel
theorem dX9_isLetter_12 : decode cX9_isLetter 12 = .ok (.iconst 1, 1) := by decide +kernel
theorem dX9_isLetter_13 : decode cX9_isLetter 13 = .ok (.goto 4, 3) := by decide +kernel
theorem dX9_isLetter_16 : decode cX9_isLetter 16 = .ok (.iconst 0, 1) := by decide +kernel
theorem dX9_isLetter_17 : decode cX9_isLetter 17 = .ok (.ireturn, 1) := by decide +kernel
theorem dX9_isFigure_0 : decode cX9_isFigure 0 = .ok (.iload_n 0, 1) := by decide +kernel
theorem dX9_isFigure_1 : decode cX9_isFigure 1 = .ok (.bipush 48, 2) := by decide +kernel
theorem dX9_isFigure_3 : decode cX9_isFigure 3 = .ok (.if_icmp .lt 13, 3) := by decide +kernel
theorem dX9_isFigure_6 : decode cX9_isFigure 6 = .ok (.iload_n 0, 1) := by decide +kernel
theorem dX9_isFigure_7 : decode cX9_isFigure 7 = .ok (.bipush 57, 2) := by decide +kernel
theorem dX9_isFigure_9 : decode cX9_isFigure 9 = .ok (.if_icmp .gt 7, 3) := by decide +kernel
theorem dX9_isFigure_12 : decode cX9_isFigure 12 = .ok (.iconst 1, 1) := by decide +kernel
theorem dX9_isFigure_13 : decode cX9_isFigure 13 = .ok (.goto 4, 3) := by decide +kernel
theorem dX9_isFigure_16 : decode cX9_isFigure 16 = .ok (.iconst 0, 1) := by decide +kernel
theorem dX9_isFigure_17 : decode cX9_isFigure 17 = .ok (.ireturn, 1) := by decide +kernel
theorem dX9_next_0 : decode cX9_next 0 = .ok (.aload_n 0, 1) := by decide +kernel
theorem dX9_next_1 : decode cX9_next 1 = .ok (.aload_n 0, 1) := by decide +kernel
theorem dX9_next_2 : decode cX9_next 2 = .ok (.getfield 91, 3) := by decide +kernel
theorem dX9_next_5 : decode cX9_next 5 = .ok (.invokevirtual 94, 3) := by decide +kernel
theorem dX9_next_8 : decode cX9_next 8 = .ok (.bipush 32, 2) := by decide +kernel
theorem dX9_next_10 : decode cX9_next 10 = .ok (.if_icmp .eq 16, 3) := by decide +kernel
theorem dX9_next_13 : decode cX9_next 13 = .ok (.aload_n 0, 1) := by decide +kernel
theorem dX9_next_14 : decode cX9_next 14 = .ok (.aload_n 0, 1) := by decide +kernel
theorem dX9_next_15 : decode cX9_next 15 = .ok (.getfield 91, 3) := by decide +kernel
theorem dX9_next_18 : decode cX9_next 18 = .ok (.invokevirtual 94, 3) := by decide +kernel
theorem dX9_next_21 : decode cX9_next 21 = .ok (.bipush 10, 2) := by decide +kernel
theorem dX9_next_23 : decode cX9_next 23 = .ok (.if_icmp .ne 16, 3) := by decide +kernel
theorem dX9_next_26 : decode cX9_next 26 = .ok (.aload_n 0, 1) := by decide +kernel
theorem dX9_next_27 : decode cX9_next 27 = .ok (.dup, 1) := by decide +kernel
theorem dX9_next_28 : decode cX9_next 28 = .ok (.getfield 91, 3) := by decide +kernel
theorem dX9_next_31 : decode cX9_next 31 = .ok (.iconst 1, 1) := by decide +kernel
theorem dX9_next_32 : decode cX9_next 32 = .ok (.iadd, 1) := by decide +kernel
theorem dX9_next_33 : decode cX9_next 33 = .ok (.putfield 91, 3) := by decide +kernel
theorem dX9_next_36 : decode cX9_next 36 = .ok (.goto (-36), 3) := by decide +kernel
theorem dX9_next_39 : decode cX9_next 39 = .ok (.aload_n 0, 1) := by decide +kernel
theorem dX9_next_40 : decode cX9_next 40 = .ok (.aload_n 0, 1) := by decide +kernel
theorem dX9_next_41 : decode cX9_next 41 = .ok (.getfield 91, 3) := by decide +kernel
theorem dX9_next_44 : decode cX9_next 44 = .ok (.putfield 97, 3) := by decide +kernel
theorem dX9_next_47 : decode cX9_next 47 = .ok (.aload_n 0, 1) := by decide +kernel
theorem dX9_next_48 : decode cX9_next 48 = .ok (.aload_n 0, 1) := by decide +kernel
theorem dX9_next_49 : decode cX9_next 49 = .ok (.getfield 91, 3) := by decide +kernel
theorem dX9_next_52 : decode cX9_next 52 = .ok (.invokevirtual 94, 3) := by decide +kernel
theorem dX9_next_55 : decode cX9_next 55 = .ok (.istore_n 1, 1) := by decide +kernel
theorem dX9_next_56 : decode cX9_next 56 = .ok (.iload_n 1, 1) := by decide +kernel
theorem dX9_next_57 : decode cX9_next 57 = .ok (.ldc 90, 2) := by decide +kernel
theorem dX9_next_59 : decode cX9_next 59 = .ok (.if_icmp .ne 11, 3) := by decide +kernel
theorem dX9_next_62 : decode cX9_next 62 = .ok (.aload_n 0, 1) := by decide +kernel
theorem dX9_next_63 : decode cX9_next 63 = .ok (.iconst 1, 1) := by decide +kernel
theorem dX9_next_64 : decode cX9_next 64 = .ok (.putfield 100, 3) := by decide +kernel
theorem dX9_next_67 : decode cX9_next 67 = .ok (.goto 129, 3) := by decide +kernel
theorem dX9_next_70 : decode cX9_next 70 = .ok (.iload_n 1, 1) := by decide +kernel
theorem dX9_next_71 : decode cX9_next 71 = .ok (.invokestatic 103, 3) := by decide +kernel
theorem dX9_next_74 : decode cX9_next 74 = .ok (.ifCond .eq 38, 3) := by decide +kernel
theorem dX9_next_77 : decode cX9_next 77 = .ok (.aload_n 0, 1) := by decide +kernel
theorem dX9_next_78 : decode cX9_next 78 = .ok (.aload_n 0, 1) := by decide +kernel
theorem dX9_next_79 : decode cX9_next 79 = .ok (.getfield 91, 3) := by decide +kernel
theorem dX9_next_82 : decode cX9_next 82 = .ok (.invokevirtual 94, 3) := by decide +kernel
theorem dX9_next_85 : decode cX9_next 85 = .ok (.invokestatic 103, 3) := by decide +kernel
theorem dX9_next_88 : decode cX9_next 88 = .ok (.ifCond .eq 16, 3) := by decide +kernel
theorem dX9_next_91 : decode cX9_next 91 = .ok (.aload_n 0, 1) := by decide +kernel
theorem dX9_next_92 : decode cX9_next 92 = .ok (.dup, 1) := by decide +kernel
theorem dX9_next_93 : decode cX9_next 93 = .ok (.getfield 91, 3) := by decide +kernel
theorem dX9_next_96 : decode cX9_next 96 = .ok (.iconst 1, 1) := by decide +kernel
theorem dX9_next_97 : decode cX9_next 97 = .ok (.iadd, 1) := by decide +kernel
theorem dX9_next_98 : decode cX9_next 98 = .ok (.putfield 91, 3) := by decide +kernel
theorem dX9_next_101 : decode cX9_next 101 = .ok (.goto (-24), 3) := by decide +kernel
theorem dX9_next_104 : decode cX9_next 104 = .ok (.aload_n 0, 1) := by decide +kernel
theorem dX9_next_105 : decode cX9_next 105 = .ok (.iconst 2, 1) := by decide +kernel
theorem dX9_next_106 : decode cX9_next 106 = .ok (.putfield 100, 3) := by decide +kernel
theorem dX9_next_109 : decode cX9_next 109 = .ok (.goto 87, 3) := by decide +kernel
theorem dX9_next_112 : decode cX9_next 112 = .ok (.iload_n 1, 1) := by decide +kernel
theorem dX9_next_113 : decode cX9_next 113 = .ok (.invokestatic 106, 3) := by decide +kernel
theorem dX9_next_116 : decode cX9_next 116 = .ok (.ifCond .eq 55, 3) := by decide +kernel
theorem dX9_next_119 : decode cX9_next 119 = .ok (.aload_n 0, 1) := by decide +kernel
theorem dX9_next_120 : decode cX9_next 120 = .ok (.aload_n 0, 1) := by decide +kernel
theorem dX9_next_121 : decode cX9_next 121 = .ok (.getfield 91, 3) := by decide +kernel
theorem dX9_next_124 : decode cX9_next 124 = .ok (.invokevirtual 94, 3) := by decide +kernel
theorem dX9_next_127 : decode cX9_next 127 = .ok (.invokestatic 106, 3) := by decide +kernel
theorem dX9_next_130 : decode cX9_next 130 = .ok (.ifCond .eq 16, 3) := by decide +kernel
theorem dX9_next_133 : decode cX9_next 133 = .ok (.aload_n 0, 1) := by decide +kernel
theorem dX9_next_134 : decode cX9_next 134 = .ok (.dup, 1) := by decide +kernel
theorem dX9_next_135 : decode cX9_next 135 = .ok (.getfield 91, 3) := by decide +kernel
theorem dX9_next_138 : decode cX9_next 138 = .ok (.iconst 1, 1) := by decide +kernel
theorem dX9_next_139 : decode cX9_next 139 = .ok (.iadd, 1) := by decide +kernel
theorem dX9_next_140 : decode cX9_next 140 = .ok (.putfield 91, 3) := by decide +kernel
theorem dX9_next_143 : decode cX9_next 143 = .ok (.goto (-24), 3) := by decide +kernel
theorem dX9_next_146 : decode cX9_next 146 = .ok (.aload_n 0, 1) := by decide +kernel
theorem dX9_next_147 : decode cX9_next 147 = .ok (.aload_n 0, 1) := by decide +kernel
theorem dX9_next_148 : decode cX9_next 148 = .ok (.getfield 91, 3) := by decide +kernel
theorem dX9_next_151 : decode cX9_next 151 = .ok (.aload_n 0, 1) := by decide +kernel
theorem dX9_next_152 : decode cX9_next 152 = .ok (.getfield 97, 3) := by decide +kernel
theorem dX9_next_155 : decode cX9_next 155 = .ok (.isub, 1) := by decide +kernel
theorem dX9_next_156 : decode cX9_next 156 = .ok (.iconst 3, 1) := by decide +kernel
theorem dX9_next_157 : decode cX9_next 157 = .ok (.if_icmp .le 7, 3) := by decide +kernel
theorem dX9_next_160 : decode cX9_next 160 = .ok (.iconst 0, 1) := by decide +kernel
theorem dX9_next_161 : decode cX9_next 161 = .ok (.goto 4, 3) := by decide +kernel
theorem dX9_next_164 : decode cX9_next 164 = .ok (.iconst 3, 1) := by decide +kernel
theorem dX9_next_165 : decode cX9_next 165 = .ok (.putfield 100, 3) := by decide +kernel
theorem dX9_next_168 : decode cX9_next 168 = .ok (.goto 28, 3) := by decide +kernel
theorem dX9_next_171 : decode cX9_next 171 = .ok (.aload_n 0, 1) := by decide +kernel
theorem dX9_next_172 : decode cX9_next 172 = .ok (.dup, 1) := by decide +kernel
theorem dX9_next_173 : decode cX9_next 173 = .ok (.getfield 91, 3) := by decide +kernel
theorem dX9_next_176 : decode cX9_next 176 = .ok (.iconst 1, 1) := by decide +kernel
theorem dX9_next_177 : decode cX9_next 177 = .ok (.iadd, 1) := by decide +kernel
theorem dX9_next_178 : decode cX9_next 178 = .ok (.putfield 91, 3) := by decide +kernel
theorem dX9_next_181 : decode cX9_next 181 = .ok (.aload_n 0, 1) := by decide +kernel
theorem dX9_next_182 : decode cX9_next 182 = .ok (.iload_n 1, 1) := by decide +kernel
theorem dX9_next_183 : decode cX9_next 183 = .ok (.bipush 59, 2) := by decide +kernel
theorem dX9_next_185 : decode cX9_next 185 = .ok (.if_icmp .ne 7, 3) := by decide +kernel
theorem dX9_next_188 : decode cX9_next 188 = .ok (.iconst 4, 1) := by decide +kernel
theorem dX9_next_189 : decode cX9_next 189 = .ok (.goto 4, 3) := by decide +kernel
theorem dX9_next_192 : decode cX9_next 192 = .ok (.iconst 0, 1) := by decide +kernel
theorem dX9_next_193 : decode cX9_next 193 = .ok (.putfield 100, 3) := by decide +kernel
theorem dX9_next_196 : decode cX9_next 196 = .ok (.aload_n 0, 1) := by decide +kernel
theorem dX9_next_197 : decode cX9_next 197 = .ok (.aload_n 0, 1) := by decide +kernel
theorem dX9_next_198 : decode cX9_next 198 = .ok (.getfield 91, 3) := by decide +kernel
theorem dX9_next_201 : decode cX9_next 201 = .ok (.putfield 109, 3) := by decide +kernel
theorem dX9_next_204 : decode cX9_next 204 = .ok (.return_, 1) := by decide +kernel
theorem dX9_begin_0 : decode cX9_begin 0 = .ok (.aload_n 0, 1) := by decide +kernel
theorem dX9_begin_1 : decode cX9_begin 1 = .ok (.aload_n 0, 1) := by decide +kernel
theorem dX9_begin_2 : decode cX9_begin 2 = .ok (.getfield 81, 3) := by decide +kernel
theorem dX9_begin_5 : decode cX9_begin 5 = .ok (.putfield 87, 3) := by decide +kernel
theorem dX9_begin_8 : decode cX9_begin 8 = .ok (.aload_n 0, 1) := by decide +kernel
theorem dX9_begin_9 : decode cX9_begin 9 = .ok (.iconst 0, 1) := by decide +kernel
theorem dX9_begin_10 : decode cX9_begin 10 = .ok (.putfield 81, 3) := by decide +kernel
theorem dX9_begin_13 : decode cX9_begin 13 = .ok (.aload_n 0, 1) := by decide +kernel
theorem dX9_begin_14 : decode cX9_begin 14 = .ok (.iconst 0, 1) := by decide +kernel
theorem dX9_begin_15 : decode cX9_begin 15 = .ok (.putfield 91, 3) := by decide +kernel
theorem dX9_begin_18 : decode cX9_begin 18 = .ok (.aload_n 0, 1) := by decide +kernel
theorem dX9_begin_19 : decode cX9_begin 19 = .ok (.iconst 0, 1) := by decide +kernel
theorem dX9_begin_20 : decode cX9_begin 20 = .ok (.putfield 112, 3) := by decide +kernel
theorem dX9_begin_23 : decode cX9_begin 23 = .ok (.aload_n 0, 1) := by decide +kernel
theorem dX9_begin_24 : decode cX9_begin 24 = .ok (.invokevirtual 115, 3) := by decide +kernel
theorem dX9_begin_27 : decode cX9_begin 27 = .ok (.return_, 1) := by decide +kernel
theorem dX9_bad_0 : decode cX9_bad 0 = .ok (.aload_n 0, 1) := by decide +kernel
theorem dX9_bad_1 : decode cX9_bad 1 = .ok (.getfield 112, 3) := by decide +kernel
theorem dX9_bad_4 : decode cX9_bad 4 = .ok (.ifCond .ne 16, 3) := by decide +kernel
theorem dX9_bad_7 : decode cX9_bad 7 = .ok (.aload_n 0, 1) := by decide +kernel
theorem dX9_bad_8 : decode cX9_bad 8 = .ok (.iload_n 1, 1) := by decide +kernel
theorem dX9_bad_9 : decode cX9_bad 9 = .ok (.putfield 112, 3) := by decide +kernel
theorem dX9_bad_12 : decode cX9_bad 12 = .ok (.aload_n 0, 1) := by decide +kernel
theorem dX9_bad_13 : decode cX9_bad 13 = .ok (.aload_n 0, 1) := by decide +kernel
theorem dX9_bad_14 : decode cX9_bad 14 = .ok (.getfield 97, 3) := by decide +kernel
theorem dX9_bad_17 : decode cX9_bad 17 = .ok (.putfield 118, 3) := by decide +kernel
theorem dX9_bad_20 : decode cX9_bad 20 = .ok (.return_, 1) := by decide +kernel
theorem dX9_must_0 : decode cX9_must 0 = .ok (.iload_n 1, 1) := by decide +kernel
theorem dX9_must_1 : decode cX9_must 1 = .ok (.ifCond .ne 8, 3) := by decide +kernel
theorem dX9_must_4 : decode cX9_must 4 = .ok (.aload_n 0, 1) := by decide +kernel
theorem dX9_must_5 : decode cX9_must 5 = .ok (.iconst 1, 1) := by decide +kernel
theorem dX9_must_6 : decode cX9_must 6 = .ok (.invokevirtual 121, 3) := by decide +kernel
theorem dX9_must_9 : decode cX9_must 9 = .ok (.aload_n 0, 1) := by decide +kernel
theorem dX9_must_10 : decode cX9_must 10 = .ok (.getfield 112, 3) := by decide +kernel
theorem dX9_must_13 : decode cX9_must 13 = .ok (.ifCond .ne 7, 3) := by decide +kernel
theorem dX9_must_16 : decode cX9_must 16 = .ok (.aload_n 0, 1) := by decide +kernel
theorem dX9_must_17 : decode cX9_must 17 = .ok (.invokevirtual 115, 3) := by decide +kernel
theorem dX9_must_20 : decode cX9_must 20 = .ok (.return_, 1) := by decide +kernel
theorem dX9_name_0 : decode cX9_name 0 = .ok (.lconst 0, 1) := by decide +kernel
theorem dX9_name_1 : decode cX9_name 1 = .ok (.lstore_n 1, 1) := by decide +kernel
theorem dX9_name_2 : decode cX9_name 2 = .ok (.aload_n 0, 1) := by decide +kernel
theorem dX9_name_3 : decode cX9_name 3 = .ok (.getfield 97, 3) := by decide +kernel
theorem dX9_name_6 : decode cX9_name 6 = .ok (.istore_n 3, 1) := by decide +kernel
theorem dX9_name_7 : decode cX9_name 7 = .ok (.iload_n 3, 1) := by decide +kernel
theorem dX9_name_8 : decode cX9_name 8 = .ok (.aload_n 0, 1) := by decide +kernel
theorem dX9_name_9 : decode cX9_name 9 = .ok (.getfield 109, 3) := by decide +kernel
theorem dX9_name_12 : decode cX9_name 12 = .ok (.if_icmp .ge 44, 3) := by decide +kernel
theorem dX9_name_15 : decode cX9_name 15 = .ok (.aload_n 0, 1) := by decide +kernel
theorem dX9_name_16 : decode cX9_name 16 = .ok (.getfield 100, 3) := by decide +kernel
theorem dX9_name_19 : decode cX9_name 19 = .ok (.iconst 2, 1) := by decide +kernel
theorem dX9_name_20 : decode cX9_name 20 = .ok (.if_icmp .ne 36, 3) := by decide +kernel
theorem dX9_name_23 : decode cX9_name 23 = .ok (.aload_n 0, 1) := by decide +kernel
theorem dX9_name_24 : decode cX9_name 24 = .ok (.getfield 109, 3) := by decide +kernel
theorem dX9_name_27 : decode cX9_name 27 = .ok (.aload_n 0, 1) := by decide +kernel
theorem dX9_name_28 : decode cX9_name 28 = .ok (.getfield 97, 3) := by decide +kernel
theorem dX9_name_31 : decode cX9_name 31 = .ok (.isub, 1) := by decide +kernel
theorem dX9_name_32 : decode cX9_name 32 = .ok (.bipush 8, 2) := by decide +kernel
theorem dX9_name_34 : decode cX9_name 34 = .ok (.if_icmp .ge 22, 3) := by decide +kernel
theorem dX9_name_37 : decode cX9_name 37 = .ok (.lload_n 1, 1) := by decide +kernel
theorem dX9_name_38 : decode cX9_name 38 = .ok (.bipush 8, 2) := by decide +kernel
theorem dX9_name_40 : decode cX9_name 40 = .ok (.lshl, 1) := by decide +kernel
theorem dX9_name_41 : decode cX9_name 41 = .ok (.aload_n 0, 1) := by decide +kernel
theorem dX9_name_42 : decode cX9_name 42 = .ok (.getfield 28, 3) := by decide +kernel
theorem dX9_name_45 : decode cX9_name 45 = .ok (.iload_n 3, 1) := by decide +kernel
theorem dX9_name_46 : decode cX9_name 46 = .ok (.iaload, 1) := by decide +kernel
theorem dX9_name_47 : decode cX9_name 47 = .ok (.i2l, 1) := by decide +kernel
theorem dX9_name_48 : decode cX9_name 48 = .ok (.lor, 1) := by decide +kernel
theorem dX9_name_49 : decode cX9_name 49 = .ok (.lstore_n 1, 1) := by decide +kernel
theorem dX9_name_50 : decode cX9_name 50 = .ok (.iinc 3 1, 3) := by decide +kernel
theorem dX9_name_53 : decode cX9_name 53 = .ok (.goto (-46), 3) := by decide +kernel
theorem dX9_name_56 : decode cX9_name 56 = .ok (.aload_n 0, 1) := by decide +kernel
theorem dX9_name_57 : decode cX9_name 57 = .ok (.getfield 112, 3) := by decide +kernel
theorem dX9_name_60 : decode cX9_name 60 = .ok (.ifCond .ne 7, 3) := by decide +kernel
theorem dX9_name_63 : decode cX9_name 63 = .ok (.lload_n 1, 1) := by decide +kernel
theorem dX9_name_64 : decode cX9_name 64 = .ok (.goto 4, 3) := by decide +kernel
theorem dX9_name_67 : decode cX9_name 67 = .ok (.lconst 0, 1) := by decide +kernel
theorem dX9_name_68 : decode cX9_name 68 = .ok (.lreturn, 1) := by decide +kernel
theorem dX9_figures_0 : decode cX9_figures 0 = .ok (.iconst 0, 1) := by decide +kernel
theorem dX9_figures_1 : decode cX9_figures 1 = .ok (.istore_n 1, 1) := by decide +kernel
theorem dX9_figures_2 : decode cX9_figures 2 = .ok (.aload_n 0, 1) := by decide +kernel
theorem dX9_figures_3 : decode cX9_figures 3 = .ok (.getfield 97, 3) := by decide +kernel
theorem dX9_figures_6 : decode cX9_figures 6 = .ok (.istore_n 2, 1) := by decide +kernel
theorem dX9_figures_7 : decode cX9_figures 7 = .ok (.iload_n 2, 1) := by decide +kernel
theorem dX9_figures_8 : decode cX9_figures 8 = .ok (.aload_n 0, 1) := by decide +kernel
theorem dX9_figures_9 : decode cX9_figures 9 = .ok (.getfield 109, 3) := by decide +kernel
theorem dX9_figures_12 : decode cX9_figures 12 = .ok (.if_icmp .ge 32, 3) := by decide +kernel
theorem dX9_figures_15 : decode cX9_figures 15 = .ok (.aload_n 0, 1) := by decide +kernel
theorem dX9_figures_16 : decode cX9_figures 16 = .ok (.getfield 100, 3) := by decide +kernel
theorem dX9_figures_19 : decode cX9_figures 19 = .ok (.iconst 3, 1) := by decide +kernel
theorem dX9_figures_20 : decode cX9_figures 20 = .ok (.if_icmp .ne 24, 3) := by decide +kernel
theorem dX9_figures_23 : decode cX9_figures 23 = .ok (.bipush 10, 2) := by decide +kernel
theorem dX9_figures_25 : decode cX9_figures 25 = .ok (.iload_n 1, 1) := by decide +kernel
theorem dX9_figures_26 : decode cX9_figures 26 = .ok (.imul, 1) := by decide +kernel
theorem dX9_figures_27 : decode cX9_figures 27 = .ok (.aload_n 0, 1) := by decide +kernel
theorem dX9_figures_28 : decode cX9_figures 28 = .ok (.getfield 28, 3) := by decide +kernel
theorem dX9_figures_31 : decode cX9_figures 31 = .ok (.iload_n 2, 1) := by decide +kernel
theorem dX9_figures_32 : decode cX9_figures 32 = .ok (.iaload, 1) := by decide +kernel
theorem dX9_figures_33 : decode cX9_figures 33 = .ok (.iadd, 1) := by decide +kernel
theorem dX9_figures_34 : decode cX9_figures 34 = .ok (.bipush 48, 2) := by decide +kernel
theorem dX9_figures_36 : decode cX9_figures 36 = .ok (.isub, 1) := by decide +kernel
theorem dX9_figures_37 : decode cX9_figures 37 = .ok (.istore_n 1, 1) := by decide +kernel
theorem dX9_figures_38 : decode cX9_figures 38 = .ok (.iinc 2 1, 3) := by decide +kernel
theorem dX9_figures_41 : decode cX9_figures 41 = .ok (.goto (-34), 3) := by decide +kernel
theorem dX9_figures_44 : decode cX9_figures 44 = .ok (.iload_n 1, 1) := by decide +kernel
theorem dX9_figures_45 : decode cX9_figures 45 = .ok (.ireturn, 1) := by decide +kernel
theorem dX9_number_0 : decode cX9_number 0 = .ok (.aload_n 0, 1) := by decide +kernel
theorem dX9_number_1 : decode cX9_number 1 = .ok (.getfield 112, 3) := by decide +kernel
theorem dX9_number_4 : decode cX9_number 4 = .ok (.ifCond .le 5, 3) := by decide +kernel
theorem dX9_number_7 : decode cX9_number 7 = .ok (.iconst 0, 1) := by decide +kernel
theorem dX9_number_8 : decode cX9_number 8 = .ok (.ireturn, 1) := by decide +kernel
theorem dX9_number_9 : decode cX9_number 9 = .ok (.aload_n 0, 1) := by decide +kernel
theorem dX9_number_10 : decode cX9_number 10 = .ok (.invokevirtual 125, 3) := by decide +kernel
theorem dX9_number_13 : decode cX9_number 13 = .ok (.istore_n 3, 1) := by decide +kernel
theorem dX9_number_14 : decode cX9_number 14 = .ok (.aload_n 0, 1) := by decide +kernel
theorem dX9_number_15 : decode cX9_number 15 = .ok (.getfield 100, 3) := by decide +kernel
theorem dX9_number_18 : decode cX9_number 18 = .ok (.iconst 3, 1) := by decide +kernel
theorem dX9_number_19 : decode cX9_number 19 = .ok (.if_icmp .ne 20, 3) := by decide +kernel
theorem dX9_number_22 : decode cX9_number 22 = .ok (.iload_n 3, 1) := by decide +kernel
theorem dX9_number_23 : decode cX9_number 23 = .ok (.i2l, 1) := by decide +kernel
theorem dX9_number_24 : decode cX9_number 24 = .ok (.iload_n 1, 1) := by decide +kernel
theorem dX9_number_25 : decode cX9_number 25 = .ok (.i2l, 1) := by decide +kernel
theorem dX9_number_26 : decode cX9_number 26 = .ok (.iload_n 2, 1) := by decide +kernel
theorem dX9_number_27 : decode cX9_number 27 = .ok (.i2l, 1) := by decide +kernel
theorem dX9_number_28 : decode cX9_number 28 = .ok (.invokestatic 64, 3) := by decide +kernel
theorem dX9_number_31 : decode cX9_number 31 = .ok (.ifCond .ne 8, 3) := by decide +kernel
theorem dX9_number_34 : decode cX9_number 34 = .ok (.aload_n 0, 1) := by decide +kernel
theorem dX9_number_35 : decode cX9_number 35 = .ok (.iconst 2, 1) := by decide +kernel
theorem dX9_number_36 : decode cX9_number 36 = .ok (.invokevirtual 121, 3) := by decide +kernel
theorem dX9_number_39 : decode cX9_number 39 = .ok (.aload_n 0, 1) := by decide +kernel
theorem dX9_number_40 : decode cX9_number 40 = .ok (.aload_n 0, 1) := by decide +kernel
theorem dX9_number_41 : decode cX9_number 41 = .ok (.getfield 100, 3) := by decide +kernel
theorem dX9_number_44 : decode cX9_number 44 = .ok (.iconst 3, 1) := by decide +kernel
theorem dX9_number_45 : decode cX9_number 45 = .ok (.if_icmp .ne 7, 3) := by decide +kernel
theorem dX9_number_48 : decode cX9_number 48 = .ok (.iconst 1, 1) := by decide +kernel
theorem dX9_number_49 : decode cX9_number 49 = .ok (.goto 4, 3) := by decide +kernel
theorem dX9_number_52 : decode cX9_number 52 = .ok (.iconst 0, 1) := by decide +kernel
theorem dX9_number_53 : decode cX9_number 53 = .ok (.invokevirtual 129, 3) := by decide +kernel
theorem dX9_number_56 : decode cX9_number 56 = .ok (.iload_n 3, 1) := by decide +kernel
theorem dX9_number_57 : decode cX9_number 57 = .ok (.ireturn, 1) := by decide +kernel
theorem dX9_kindBy_0 : decode cX9_kindBy 0 = .ok (.lload_n 0, 1) := by decide +kernel
theorem dX9_kindBy_1 : decode cX9_kindBy 1 = .ok (.ldc2_w 133, 3) := by decide +kernel
theorem dX9_kindBy_4 : decode cX9_kindBy 4 = .ok (.lcmp, 1) := by decide +kernel
theorem dX9_kindBy_5 : decode cX9_kindBy 5 = .ok (.ifCond .ne 7, 3) := by decide +kernel
theorem dX9_kindBy_8 : decode cX9_kindBy 8 = .ok (.iconst 2, 1) := by decide +kernel
theorem dX9_kindBy_9 : decode cX9_kindBy 9 = .ok (.goto 53, 3) := by decide +kernel
theorem dX9_kindBy_12 : decode cX9_kindBy 12 = .ok (.lload_n 0, 1) := by decide +kernel
theorem dX9_kindBy_13 : decode cX9_kindBy 13 = .ok (.ldc2_w 135, 3) := by decide +kernel
theorem dX9_kindBy_16 : decode cX9_kindBy 16 = .ok (.lcmp, 1) := by decide +kernel
theorem dX9_kindBy_17 : decode cX9_kindBy 17 = .ok (.ifCond .ne 7, 3) := by decide +kernel
theorem dX9_kindBy_20 : decode cX9_kindBy 20 = .ok (.iconst 3, 1) := by decide +kernel
theorem dX9_kindBy_21 : decode cX9_kindBy 21 = .ok (.goto 41, 3) := by decide +kernel
theorem dX9_kindBy_24 : decode cX9_kindBy 24 = .ok (.lload_n 0, 1) := by decide +kernel
theorem dX9_kindBy_25 : decode cX9_kindBy 25 = .ok (.ldc2_w 137, 3) := by decide +kernel
theorem dX9_kindBy_28 : decode cX9_kindBy 28 = .ok (.lcmp, 1) := by decide +kernel
theorem dX9_kindBy_29 : decode cX9_kindBy 29 = .ok (.ifCond .ne 7, 3) := by decide +kernel
theorem dX9_kindBy_32 : decode cX9_kindBy 32 = .ok (.iconst 1, 1) := by decide +kernel
theorem dX9_kindBy_33 : decode cX9_kindBy 33 = .ok (.goto 29, 3) := by decide +kernel
theorem dX9_kindBy_36 : decode cX9_kindBy 36 = .ok (.lload_n 0, 1) := by decide +kernel
theorem dX9_kindBy_37 : decode cX9_kindBy 37 = .ok (.ldc2_w 139, 3) := by decide +kernel
theorem dX9_kindBy_40 : decode cX9_kindBy 40 = .ok (.lcmp, 1) := by decide +kernel
theorem dX9_kindBy_41 : decode cX9_kindBy 41 = .ok (.ifCond .ne 7, 3) := by decide +kernel
theorem dX9_kindBy_44 : decode cX9_kindBy 44 = .ok (.iconst 4, 1) := by decide +kernel
theorem dX9_kindBy_45 : decode cX9_kindBy 45 = .ok (.goto 17, 3) := by decide +kernel
theorem dX9_kindBy_48 : decode cX9_kindBy 48 = .ok (.lload_n 0, 1) := by decide +kernel
theorem dX9_kindBy_49 : decode cX9_kindBy 49 = .ok (.ldc2_w 141, 3) := by decide +kernel
theorem dX9_kindBy_52 : decode cX9_kindBy 52 = .ok (.lcmp, 1) := by decide +kernel
theorem dX9_kindBy_53 : decode cX9_kindBy 53 = .ok (.ifCond .ne 7, 3) := by decide +kernel
theorem dX9_kindBy_56 : decode cX9_kindBy 56 = .ok (.iconst 5, 1) := by decide +kernel
theorem dX9_kindBy_57 : decode cX9_kindBy 57 = .ok (.goto 5, 3) := by decide +kernel
theorem dX9_kindBy_60 : decode cX9_kindBy 60 = .ok (.ldc 90, 2) := by decide +kernel
theorem dX9_kindBy_62 : decode cX9_kindBy 62 = .ok (.ireturn, 1) := by decide +kernel
theorem dX9_mustEnd_0 : decode cX9_mustEnd 0 = .ok (.aload_n 0, 1) := by decide +kernel
theorem dX9_mustEnd_1 : decode cX9_mustEnd 1 = .ok (.getfield 112, 3) := by decide +kernel
theorem dX9_mustEnd_4 : decode cX9_mustEnd 4 = .ok (.ifCond .ne 20, 3) := by decide +kernel
theorem dX9_mustEnd_7 : decode cX9_mustEnd 7 = .ok (.aload_n 0, 1) := by decide +kernel
theorem dX9_mustEnd_8 : decode cX9_mustEnd 8 = .ok (.aload_n 0, 1) := by decide +kernel
theorem dX9_mustEnd_9 : decode cX9_mustEnd 9 = .ok (.getfield 100, 3) := by decide +kernel
theorem dX9_mustEnd_12 : decode cX9_mustEnd 12 = .ok (.iconst 4, 1) := by decide +kernel
theorem dX9_mustEnd_13 : decode cX9_mustEnd 13 = .ok (.if_icmp .ne 7, 3) := by decide +kernel
theorem dX9_mustEnd_16 : decode cX9_mustEnd 16 = .ok (.iconst 1, 1) := by decide +kernel
theorem dX9_mustEnd_17 : decode cX9_mustEnd 17 = .ok (.goto 4, 3) := by decide +kernel
theorem dX9_mustEnd_20 : decode cX9_mustEnd 20 = .ok (.iconst 0, 1) := by decide +kernel
theorem dX9_mustEnd_21 : decode cX9_mustEnd 21 = .ok (.invokevirtual 129, 3) := by decide +kernel
theorem dX9_mustEnd_24 : decode cX9_mustEnd 24 = .ok (.return_, 1) := by decide +kernel
theorem dX9_begins_0 : decode cX9_begins 0 = .ok (.aload_n 0, 1) := by decide +kernel
theorem dX9_begins_1 : decode cX9_begins 1 = .ok (.getfield 22, 3) := by decide +kernel
theorem dX9_begins_4 : decode cX9_begins 4 = .ok (.iload_n 1, 1) := by decide +kernel
theorem dX9_begins_5 : decode cX9_begins 5 = .ok (.iaload, 1) := by decide +kernel
theorem dX9_begins_6 : decode cX9_begins 6 = .ok (.iload_n 2, 1) := by decide +kernel
theorem dX9_begins_7 : decode cX9_begins 7 = .ok (.if_icmp .ne 8, 3) := by decide +kernel
theorem dX9_begins_10 : decode cX9_begins 10 = .ok (.aload_n 0, 1) := by decide +kernel
theorem dX9_begins_11 : decode cX9_begins 11 = .ok (.iconst 3, 1) := by decide +kernel
theorem dX9_begins_12 : decode cX9_begins 12 = .ok (.invokevirtual 121, 3) := by decide +kernel
theorem dX9_begins_15 : decode cX9_begins 15 = .ok (.aload_n 0, 1) := by decide +kernel
theorem dX9_begins_16 : decode cX9_begins 16 = .ok (.iconst 1, 1) := by decide +kernel
theorem dX9_begins_17 : decode cX9_begins 17 = .ok (.invokevirtual 129, 3) := by decide +kernel
theorem dX9_begins_20 : decode cX9_begins 20 = .ok (.return_, 1) := by decide +kernel
theorem dX9_readWind_0 : decode cX9_readWind 0 = .ok (.aload_n 0, 1) := by decide +kernel
theorem dX9_readWind_1 : decode cX9_readWind 1 = .ok (.aload_n 0, 1) := by decide +kernel
theorem dX9_readWind_2 : decode cX9_readWind 2 = .ok (.invokevirtual 143, 3) := by decide +kernel
theorem dX9_readWind_5 : decode cX9_readWind 5 = .ok (.ldc2_w 147, 3) := by decide +kernel
theorem dX9_readWind_8 : decode cX9_readWind 8 = .ok (.lcmp, 1) := by decide +kernel
theorem dX9_readWind_9 : decode cX9_readWind 9 = .ok (.ifCond .ne 7, 3) := by decide +kernel
theorem dX9_readWind_12 : decode cX9_readWind 12 = .ok (.iconst 1, 1) := by decide +kernel
theorem dX9_readWind_13 : decode cX9_readWind 13 = .ok (.goto 4, 3) := by decide +kernel
theorem dX9_readWind_16 : decode cX9_readWind 16 = .ok (.iconst 0, 1) := by decide +kernel
theorem dX9_readWind_17 : decode cX9_readWind 17 = .ok (.invokevirtual 129, 3) := by decide +kernel
theorem dX9_readWind_20 : decode cX9_readWind 20 = .ok (.iconst 0, 1) := by decide +kernel
theorem dX9_readWind_21 : decode cX9_readWind 21 = .ok (.istore_n 1, 1) := by decide +kernel
theorem dX9_readWind_22 : decode cX9_readWind 22 = .ok (.iload_n 1, 1) := by decide +kernel
theorem dX9_readWind_23 : decode cX9_readWind 23 = .ok (.bipush 12, 2) := by decide +kernel
theorem dX9_readWind_25 : decode cX9_readWind 25 = .ok (.if_icmp .ge 24, 3) := by decide +kernel
theorem dX9_readWind_28 : decode cX9_readWind 28 = .ok (.aload_n 0, 1) := by decide +kernel
theorem dX9_readWind_29 : decode cX9_readWind 29 = .ok (.getfield 22, 3) := by decide +kernel
theorem dX9_readWind_32 : decode cX9_readWind 32 = .ok (.iconst 3, 1) := by decide +kernel
theorem dX9_readWind_33 : decode cX9_readWind 33 = .ok (.iload_n 1, 1) := by decide +kernel
theorem dX9_readWind_34 : decode cX9_readWind 34 = .ok (.iadd, 1) := by decide +kernel
theorem dX9_readWind_35 : decode cX9_readWind 35 = .ok (.aload_n 0, 1) := by decide +kernel
theorem dX9_readWind_36 : decode cX9_readWind 36 = .ok (.iconst 0, 1) := by decide +kernel
theorem dX9_readWind_37 : decode cX9_readWind 37 = .ok (.bipush 100, 2) := by decide +kernel
theorem dX9_readWind_39 : decode cX9_readWind 39 = .ok (.invokevirtual 149, 3) := by decide +kernel
theorem dX9_readWind_42 : decode cX9_readWind 42 = .ok (.iastore, 1) := by decide +kernel
theorem dX9_readWind_43 : decode cX9_readWind 43 = .ok (.iinc 1 1, 3) := by decide +kernel
theorem dX9_readWind_46 : decode cX9_readWind 46 = .ok (.goto (-24), 3) := by decide +kernel
theorem dX9_readWind_49 : decode cX9_readWind 49 = .ok (.aload_n 0, 1) := by decide +kernel
theorem dX9_readWind_50 : decode cX9_readWind 50 = .ok (.invokevirtual 153, 3) := by decide +kernel
theorem dX9_readWind_53 : decode cX9_readWind 53 = .ok (.return_, 1) := by decide +kernel
theorem dX9_readDesk_0 : decode cX9_readDesk 0 = .ok (.aload_n 0, 1) := by decide +kernel
theorem dX9_readDesk_1 : decode cX9_readDesk 1 = .ok (.iconst 0, 1) := by decide +kernel
theorem dX9_readDesk_2 : decode cX9_readDesk 2 = .ok (.iconst 4, 1) := by decide +kernel
theorem dX9_readDesk_3 : decode cX9_readDesk 3 = .ok (.invokevirtual 156, 3) := by decide +kernel
theorem dX9_readDesk_6 : decode cX9_readDesk 6 = .ok (.aload_n 0, 1) := by decide +kernel
theorem dX9_readDesk_7 : decode cX9_readDesk 7 = .ok (.iconst 1, 1) := by decide +kernel
theorem dX9_readDesk_8 : decode cX9_readDesk 8 = .ok (.bipush 9, 2) := by decide +kernel
theorem dX9_readDesk_10 : decode cX9_readDesk 10 = .ok (.invokevirtual 149, 3) := by decide +kernel
theorem dX9_readDesk_13 : decode cX9_readDesk 13 = .ok (.istore_n 1, 1) := by decide +kernel
theorem dX9_readDesk_14 : decode cX9_readDesk 14 = .ok (.aload_n 0, 1) := by decide +kernel
theorem dX9_readDesk_15 : decode cX9_readDesk 15 = .ok (.iconst 0, 1) := by decide +kernel
theorem dX9_readDesk_16 : decode cX9_readDesk 16 = .ok (.iconst 3, 1) := by decide +kernel
theorem dX9_readDesk_17 : decode cX9_readDesk 17 = .ok (.invokevirtual 149, 3) := by decide +kernel
theorem dX9_readDesk_20 : decode cX9_readDesk 20 = .ok (.istore_n 2, 1) := by decide +kernel
theorem dX9_readDesk_21 : decode cX9_readDesk 21 = .ok (.aload_n 0, 1) := by decide +kernel
theorem dX9_readDesk_22 : decode cX9_readDesk 22 = .ok (.invokevirtual 153, 3) := by decide +kernel
theorem dX9_readDesk_25 : decode cX9_readDesk 25 = .ok (.aload_n 0, 1) := by decide +kernel
theorem dX9_readDesk_26 : decode cX9_readDesk 26 = .ok (.getfield 112, 3) := by decide +kernel
theorem dX9_readDesk_29 : decode cX9_readDesk 29 = .ok (.ifCond .ne 49, 3) := by decide +kernel
theorem dX9_readDesk_32 : decode cX9_readDesk 32 = .ok (.aload_n 0, 1) := by decide +kernel
theorem dX9_readDesk_33 : decode cX9_readDesk 33 = .ok (.getfield 22, 3) := by decide +kernel
theorem dX9_readDesk_36 : decode cX9_readDesk 36 = .ok (.bipush 15, 2) := by decide +kernel
theorem dX9_readDesk_38 : decode cX9_readDesk 38 = .ok (.iconst 2, 1) := by decide +kernel
theorem dX9_readDesk_39 : decode cX9_readDesk 39 = .ok (.aload_n 0, 1) := by decide +kernel
theorem dX9_readDesk_40 : decode cX9_readDesk 40 = .ok (.getfield 22, 3) := by decide +kernel
theorem dX9_readDesk_43 : decode cX9_readDesk 43 = .ok (.iconst 0, 1) := by decide +kernel
theorem dX9_readDesk_44 : decode cX9_readDesk 44 = .ok (.iaload, 1) := by decide +kernel
theorem dX9_readDesk_45 : decode cX9_readDesk 45 = .ok (.imul, 1) := by decide +kernel
theorem dX9_readDesk_46 : decode cX9_readDesk 46 = .ok (.iadd, 1) := by decide +kernel
theorem dX9_readDesk_47 : decode cX9_readDesk 47 = .ok (.iload_n 1, 1) := by decide +kernel
theorem dX9_readDesk_48 : decode cX9_readDesk 48 = .ok (.iastore, 1) := by decide +kernel
theorem dX9_readDesk_49 : decode cX9_readDesk 49 = .ok (.aload_n 0, 1) := by decide +kernel
theorem dX9_readDesk_50 : decode cX9_readDesk 50 = .ok (.getfield 22, 3) := by decide +kernel
theorem dX9_readDesk_53 : decode cX9_readDesk 53 = .ok (.bipush 15, 2) := by decide +kernel
theorem dX9_readDesk_55 : decode cX9_readDesk 55 = .ok (.iconst 2, 1) := by decide +kernel
theorem dX9_readDesk_56 : decode cX9_readDesk 56 = .ok (.aload_n 0, 1) := by decide +kernel
theorem dX9_readDesk_57 : decode cX9_readDesk 57 = .ok (.getfield 22, 3) := by decide +kernel
