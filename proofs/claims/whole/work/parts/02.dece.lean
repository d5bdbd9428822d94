theorem dX9_nextOrder_74 : decode cX9_nextOrder 74 = .ok (.iload_n 2, 1) := by decide +kernel
theorem dX9_nextOrder_75 : decode cX9_nextOrder 75 = .ok (.aload_n 0, 1) := by decide +kernel
theorem dX9_nextOrder_76 : decode cX9_nextOrder 76 = .ok (.getfield 38, 3) := by decide +kernel
theorem dX9_nextOrder_79 : decode cX9_nextOrder 79 = .ok (.iload_n 3, 1) := by decide +kernel
theorem dX9_nextOrder_80 : decode cX9_nextOrder 80 = .ok (.iaload, 1) := by decide +kernel
theorem dX9_nextOrder_81 : decode cX9_nextOrder 81 = .ok (.iastore, 1) := by decide +kernel
theorem dX9_nextOrder_82 : decode cX9_nextOrder 82 = .ok (.aload_n 0, 1) := by decide +kernel
theorem dX9_nextOrder_83 : decode cX9_nextOrder 83 = .ok (.getfield 38, 3) := by decide +kernel
theorem dX9_nextOrder_86 : decode cX9_nextOrder 86 = .ok (.iload_n 3, 1) := by decide +kernel
theorem dX9_nextOrder_87 : decode cX9_nextOrder 87 = .ok (.iload 4, 2) := by decide +kernel
theorem dX9_nextOrder_89 : decode cX9_nextOrder 89 = .ok (.iastore, 1) := by decide +kernel
theorem dX9_nextOrder_90 : decode cX9_nextOrder 90 = .ok (.iload_n 1, 1) := by decide +kernel
theorem dX9_nextOrder_91 : decode cX9_nextOrder 91 = .ok (.iconst 1, 1) := by decide +kernel
theorem dX9_nextOrder_92 : decode cX9_nextOrder 92 = .ok (.isub, 1) := by decide +kernel
theorem dX9_nextOrder_93 : decode cX9_nextOrder 93 = .ok (.istore 5, 2) := by decide +kernel
theorem dX9_nextOrder_95 : decode cX9_nextOrder 95 = .ok (.iload_n 2, 1) := by decide +kernel
theorem dX9_nextOrder_96 : decode cX9_nextOrder 96 = .ok (.iconst 1, 1) := by decide +kernel
theorem dX9_nextOrder_97 : decode cX9_nextOrder 97 = .ok (.iadd, 1) := by decide +kernel
theorem dX9_nextOrder_98 : decode cX9_nextOrder 98 = .ok (.istore 6, 2) := by decide +kernel
theorem dX9_nextOrder_100 : decode cX9_nextOrder 100 = .ok (.iload 6, 2) := by decide +kernel
theorem dX9_nextOrder_102 : decode cX9_nextOrder 102 = .ok (.iload 5, 2) := by decide +kernel
theorem dX9_nextOrder_104 : decode cX9_nextOrder 104 = .ok (.if_icmp .ge 44, 3) := by decide +kernel
theorem dX9_nextOrder_107 : decode cX9_nextOrder 107 = .ok (.aload_n 0, 1) := by decide +kernel
theorem dX9_nextOrder_108 : decode cX9_nextOrder 108 = .ok (.getfield 38, 3) := by decide +kernel
theorem dX9_nextOrder_111 : decode cX9_nextOrder 111 = .ok (.iload 6, 2) := by decide +kernel
theorem dX9_nextOrder_113 : decode cX9_nextOrder 113 = .ok (.iaload, 1) := by decide +kernel
theorem dX9_nextOrder_114 : decode cX9_nextOrder 114 = .ok (.istore 4, 2) := by decide +kernel
theorem dX9_nextOrder_116 : decode cX9_nextOrder 116 = .ok (.aload_n 0, 1) := by decide +kernel
theorem dX9_nextOrder_117 : decode cX9_nextOrder 117 = .ok (.getfield 38, 3) := by decide +kernel
theorem dX9_nextOrder_120 : decode cX9_nextOrder 120 = .ok (.iload 6, 2) := by decide +kernel
theorem dX9_nextOrder_122 : decode cX9_nextOrder 122 = .ok (.aload_n 0, 1) := by decide +kernel
theorem dX9_nextOrder_123 : decode cX9_nextOrder 123 = .ok (.getfield 38, 3) := by decide +kernel
theorem dX9_nextOrder_126 : decode cX9_nextOrder 126 = .ok (.iload 5, 2) := by decide +kernel
theorem dX9_nextOrder_128 : decode cX9_nextOrder 128 = .ok (.iaload, 1) := by decide +kernel
theorem dX9_nextOrder_129 : decode cX9_nextOrder 129 = .ok (.iastore, 1) := by decide +kernel
theorem dX9_nextOrder_130 : decode cX9_nextOrder 130 = .ok (.aload_n 0, 1) := by decide +kernel
theorem dX9_nextOrder_131 : decode cX9_nextOrder 131 = .ok (.getfield 38, 3) := by decide +kernel
theorem dX9_nextOrder_134 : decode cX9_nextOrder 134 = .ok (.iload 5, 2) := by decide +kernel
theorem dX9_nextOrder_136 : decode cX9_nextOrder 136 = .ok (.iload 4, 2) := by decide +kernel
theorem dX9_nextOrder_138 : decode cX9_nextOrder 138 = .ok (.iastore, 1) := by decide +kernel
theorem dX9_nextOrder_139 : decode cX9_nextOrder 139 = .ok (.iinc 5 (-1), 3) := by decide +kernel
theorem dX9_nextOrder_142 : decode cX9_nextOrder 142 = .ok (.iinc 6 1, 3) := by decide +kernel
theorem dX9_nextOrder_145 : decode cX9_nextOrder 145 = .ok (.goto (-45), 3) := by decide +kernel
theorem dX9_nextOrder_148 : decode cX9_nextOrder 148 = .ok (.iconst 1, 1) := by decide +kernel
theorem dX9_nextOrder_149 : decode cX9_nextOrder 149 = .ok (.ireturn, 1) := by decide +kernel
theorem dX9_layFirst_0 : decode cX9_layFirst 0 = .ok (.iconst 0, 1) := by decide +kernel
theorem dX9_layFirst_1 : decode cX9_layFirst 1 = .ok (.istore_n 2, 1) := by decide +kernel
theorem dX9_layFirst_2 : decode cX9_layFirst 2 = .ok (.iconst 0, 1) := by decide +kernel
theorem dX9_layFirst_3 : decode cX9_layFirst 3 = .ok (.istore_n 3, 1) := by decide +kernel
theorem dX9_layFirst_4 : decode cX9_layFirst 4 = .ok (.iload_n 3, 1) := by decide +kernel
theorem dX9_layFirst_5 : decode cX9_layFirst 5 = .ok (.aload_n 0, 1) := by decide +kernel
theorem dX9_layFirst_6 : decode cX9_layFirst 6 = .ok (.getfield 19, 3) := by decide +kernel
theorem dX9_layFirst_9 : decode cX9_layFirst 9 = .ok (.iconst 1, 1) := by decide +kernel
theorem dX9_layFirst_10 : decode cX9_layFirst 10 = .ok (.iaload, 1) := by decide +kernel
theorem dX9_layFirst_11 : decode cX9_layFirst 11 = .ok (.if_icmp .ge 28, 3) := by decide +kernel
theorem dX9_layFirst_14 : decode cX9_layFirst 14 = .ok (.aload_n 0, 1) := by decide +kernel
theorem dX9_layFirst_15 : decode cX9_layFirst 15 = .ok (.iload_n 3, 1) := by decide +kernel
theorem dX9_layFirst_16 : decode cX9_layFirst 16 = .ok (.invokevirtual 203, 3) := by decide +kernel
theorem dX9_layFirst_19 : decode cX9_layFirst 19 = .ok (.iload_n 1, 1) := by decide +kernel
theorem dX9_layFirst_20 : decode cX9_layFirst 20 = .ok (.if_icmp .ne 13, 3) := by decide +kernel
theorem dX9_layFirst_23 : decode cX9_layFirst 23 = .ok (.aload_n 0, 1) := by decide +kernel
theorem dX9_layFirst_24 : decode cX9_layFirst 24 = .ok (.getfield 38, 3) := by decide +kernel
theorem dX9_layFirst_27 : decode cX9_layFirst 27 = .ok (.iload_n 2, 1) := by decide +kernel
theorem dX9_layFirst_28 : decode cX9_layFirst 28 = .ok (.iload_n 3, 1) := by decide +kernel
theorem dX9_layFirst_29 : decode cX9_layFirst 29 = .ok (.iastore, 1) := by decide +kernel
theorem dX9_layFirst_30 : decode cX9_layFirst 30 = .ok (.iinc 2 1, 3) := by decide +kernel
theorem dX9_layFirst_33 : decode cX9_layFirst 33 = .ok (.iinc 3 1, 3) := by decide +kernel
theorem dX9_layFirst_36 : decode cX9_layFirst 36 = .ok (.goto (-32), 3) := by decide +kernel
theorem dX9_layFirst_39 : decode cX9_layFirst 39 = .ok (.return_, 1) := by decide +kernel
theorem dX9_order_0 : decode cX9_order 0 = .ok (.aload_n 0, 1) := by decide +kernel
theorem dX9_order_1 : decode cX9_order 1 = .ok (.iconst 0, 1) := by decide +kernel
theorem dX9_order_2 : decode cX9_order 2 = .ok (.putfield 54, 3) := by decide +kernel
theorem dX9_order_5 : decode cX9_order 5 = .ok (.aload_n 0, 1) := by decide +kernel
theorem dX9_order_6 : decode cX9_order 6 = .ok (.iload_n 1, 1) := by decide +kernel
theorem dX9_order_7 : decode cX9_order 7 = .ok (.invokevirtual 219, 3) := by decide +kernel
theorem dX9_order_10 : decode cX9_order 10 = .ok (.ifCond .eq 20, 3) := by decide +kernel
theorem dX9_order_13 : decode cX9_order 13 = .ok (.iload_n 2, 1) := by decide +kernel
theorem dX9_order_14 : decode cX9_order 14 = .ok (.i2l, 1) := by decide +kernel
theorem dX9_order_15 : decode cX9_order 15 = .ok (.lconst 0, 1) := by decide +kernel
theorem dX9_order_16 : decode cX9_order 16 = .ok (.ldc2_w 247, 3) := by decide +kernel
theorem dX9_order_19 : decode cX9_order 19 = .ok (.invokestatic 64, 3) := by decide +kernel
theorem dX9_order_22 : decode cX9_order 22 = .ok (.ifCond .eq 8, 3) := by decide +kernel
theorem dX9_order_25 : decode cX9_order 25 = .ok (.iload_n 3, 1) := by decide +kernel
theorem dX9_order_26 : decode cX9_order 26 = .ok (.iconst (-1), 1) := by decide +kernel
theorem dX9_order_27 : decode cX9_order 27 = .ok (.if_icmp .ge 6, 3) := by decide +kernel
theorem dX9_order_30 : decode cX9_order 30 = .ok (.ldc 74, 2) := by decide +kernel
theorem dX9_order_32 : decode cX9_order 32 = .ok (.ireturn, 1) := by decide +kernel
theorem dX9_order_33 : decode cX9_order 33 = .ok (.aload_n 0, 1) := by decide +kernel
theorem dX9_order_34 : decode cX9_order 34 = .ok (.iload_n 1, 1) := by decide +kernel
theorem dX9_order_35 : decode cX9_order 35 = .ok (.invokevirtual 191, 3) := by decide +kernel
theorem dX9_order_38 : decode cX9_order 38 = .ok (.istore 4, 2) := by decide +kernel
theorem dX9_order_40 : decode cX9_order 40 = .ok (.iload 4, 2) := by decide +kernel
theorem dX9_order_42 : decode cX9_order 42 = .ok (.bipush 7, 2) := by decide +kernel
theorem dX9_order_44 : decode cX9_order 44 = .ok (.if_icmp .le 6, 3) := by decide +kernel
theorem dX9_order_47 : decode cX9_order 47 = .ok (.ldc 90, 2) := by decide +kernel
theorem dX9_order_49 : decode cX9_order 49 = .ok (.ireturn, 1) := by decide +kernel
theorem dX9_order_50 : decode cX9_order 50 = .ok (.aload_n 0, 1) := by decide +kernel
theorem dX9_order_51 : decode cX9_order 51 = .ok (.iload_n 1, 1) := by decide +kernel
theorem dX9_order_52 : decode cX9_order 52 = .ok (.invokevirtual 257, 3) := by decide +kernel
theorem dX9_order_55 : decode cX9_order 55 = .ok (.ldc 90, 2) := by decide +kernel
theorem dX9_order_57 : decode cX9_order 57 = .ok (.istore 5, 2) := by decide +kernel
theorem dX9_order_59 : decode cX9_order 59 = .ok (.iconst 1, 1) := by decide +kernel
theorem dX9_order_60 : decode cX9_order 60 = .ok (.istore 6, 2) := by decide +kernel
theorem dX9_order_62 : decode cX9_order 62 = .ok (.iload 6, 2) := by decide +kernel
theorem dX9_order_64 : decode cX9_order 64 = .ok (.ifCond .eq 72, 3) := by decide +kernel
theorem dX9_order_67 : decode cX9_order 67 = .ok (.aload_n 0, 1) := by decide +kernel
theorem dX9_order_68 : decode cX9_order 68 = .ok (.iload_n 1, 1) := by decide +kernel
theorem dX9_order_69 : decode cX9_order 69 = .ok (.iload 4, 2) := by decide +kernel
theorem dX9_order_71 : decode cX9_order 71 = .ok (.iload_n 2, 1) := by decide +kernel
theorem dX9_order_72 : decode cX9_order 72 = .ok (.invokevirtual 260, 3) := by decide +kernel
theorem dX9_order_75 : decode cX9_order 75 = .ok (.istore 7, 2) := by decide +kernel
theorem dX9_order_77 : decode cX9_order 77 = .ok (.iload 5, 2) := by decide +kernel
theorem dX9_order_79 : decode cX9_order 79 = .ok (.ldc 90, 2) := by decide +kernel
theorem dX9_order_81 : decode cX9_order 81 = .ok (.if_icmp .eq 10, 3) := by decide +kernel
theorem dX9_order_84 : decode cX9_order 84 = .ok (.iload 7, 2) := by decide +kernel
theorem dX9_order_86 : decode cX9_order 86 = .ok (.iload 5, 2) := by decide +kernel
theorem dX9_order_88 : decode cX9_order 88 = .ok (.if_icmp .ge 37, 3) := by decide +kernel
theorem dX9_order_91 : decode cX9_order 91 = .ok (.iload 7, 2) := by decide +kernel
theorem dX9_order_93 : decode cX9_order 93 = .ok (.istore 5, 2) := by decide +kernel
theorem dX9_order_95 : decode cX9_order 95 = .ok (.iconst 0, 1) := by decide +kernel
theorem dX9_order_96 : decode cX9_order 96 = .ok (.istore 8, 2) := by decide +kernel
theorem dX9_order_98 : decode cX9_order 98 = .ok (.iload 8, 2) := by decide +kernel
theorem dX9_order_100 : decode cX9_order 100 = .ok (.iload 4, 2) := by decide +kernel
theorem dX9_order_102 : decode cX9_order 102 = .ok (.if_icmp .ge 23, 3) := by decide +kernel
theorem dX9_order_105 : decode cX9_order 105 = .ok (.aload_n 0, 1) := by decide +kernel
theorem dX9_order_106 : decode cX9_order 106 = .ok (.getfield 41, 3) := by decide +kernel
theorem dX9_order_109 : decode cX9_order 109 = .ok (.iload 8, 2) := by decide +kernel
theorem dX9_order_111 : decode cX9_order 111 = .ok (.aload_n 0, 1) := by decide +kernel
theorem dX9_order_112 : decode cX9_order 112 = .ok (.getfield 38, 3) := by decide +kernel
theorem dX9_order_115 : decode cX9_order 115 = .ok (.iload 8, 2) := by decide +kernel
theorem dX9_order_117 : decode cX9_order 117 = .ok (.iaload, 1) := by decide +kernel
theorem dX9_order_118 : decode cX9_order 118 = .ok (.iastore, 1) := by decide +kernel
theorem dX9_order_119 : decode cX9_order 119 = .ok (.iinc 8 1, 3) := by decide +kernel
theorem dX9_order_122 : decode cX9_order 122 = .ok (.goto (-24), 3) := by decide +kernel
theorem dX9_order_125 : decode cX9_order 125 = .ok (.aload_n 0, 1) := by decide +kernel
theorem dX9_order_126 : decode cX9_order 126 = .ok (.iload 4, 2) := by decide +kernel
theorem dX9_order_128 : decode cX9_order 128 = .ok (.invokevirtual 264, 3) := by decide +kernel
theorem dX9_order_131 : decode cX9_order 131 = .ok (.istore 6, 2) := by decide +kernel
theorem dX9_order_133 : decode cX9_order 133 = .ok (.goto (-71), 3) := by decide +kernel
theorem dX9_order_136 : decode cX9_order 136 = .ok (.iload_n 3, 1) := by decide +kernel
theorem dX9_order_137 : decode cX9_order 137 = .ok (.ifCond .ge 8, 3) := by decide +kernel
theorem dX9_order_140 : decode cX9_order 140 = .ok (.iload 5, 2) := by decide +kernel
theorem dX9_order_142 : decode cX9_order 142 = .ok (.goto 20, 3) := by decide +kernel
theorem dX9_order_145 : decode cX9_order 145 = .ok (.iload_n 3, 1) := by decide +kernel
theorem dX9_order_146 : decode cX9_order 146 = .ok (.iload 4, 2) := by decide +kernel
theorem dX9_order_148 : decode cX9_order 148 = .ok (.if_icmp .ge 12, 3) := by decide +kernel
theorem dX9_order_151 : decode cX9_order 151 = .ok (.aload_n 0, 1) := by decide +kernel
theorem dX9_order_152 : decode cX9_order 152 = .ok (.getfield 41, 3) := by decide +kernel
theorem dX9_order_155 : decode cX9_order 155 = .ok (.iload_n 3, 1) := by decide +kernel
theorem dX9_order_156 : decode cX9_order 156 = .ok (.iaload, 1) := by decide +kernel
theorem dX9_order_157 : decode cX9_order 157 = .ok (.goto 5, 3) := by decide +kernel
theorem dX9_order_160 : decode cX9_order 160 = .ok (.ldc 90, 2) := by decide +kernel
theorem dX9_order_162 : decode cX9_order 162 = .ok (.ireturn, 1) := by decide +kernel
theorem dX9_isCovered_0 : decode cX9_isCovered 0 = .ok (.aload_n 0, 1) := by decide +kernel
theorem dX9_isCovered_1 : decode cX9_isCovered 1 = .ok (.iload_n 1, 1) := by decide +kernel
theorem dX9_isCovered_2 : decode cX9_isCovered 2 = .ok (.invokevirtual 191, 3) := by decide +kernel
theorem dX9_isCovered_5 : decode cX9_isCovered 5 = .ok (.iload_n 2, 1) := by decide +kernel
theorem dX9_isCovered_6 : decode cX9_isCovered 6 = .ok (.iadd, 1) := by decide +kernel
theorem dX9_isCovered_7 : decode cX9_isCovered 7 = .ok (.istore 4, 2) := by decide +kernel
theorem dX9_isCovered_9 : decode cX9_isCovered 9 = .ok (.iconst 0, 1) := by decide +kernel
theorem dX9_isCovered_10 : decode cX9_isCovered 10 = .ok (.istore 5, 2) := by decide +kernel
theorem dX9_isCovered_12 : decode cX9_isCovered 12 = .ok (.iload 5, 2) := by decide +kernel
theorem dX9_isCovered_14 : decode cX9_isCovered 14 = .ok (.iload_n 3, 1) := by decide +kernel
theorem dX9_isCovered_15 : decode cX9_isCovered 15 = .ok (.if_icmp .ge 76, 3) := by decide +kernel
theorem dX9_isCovered_18 : decode cX9_isCovered 18 = .ok (.iload 4, 2) := by decide +kernel
theorem dX9_isCovered_20 : decode cX9_isCovered 20 = .ok (.aload_n 0, 1) := by decide +kernel
theorem dX9_isCovered_21 : decode cX9_isCovered 21 = .ok (.getfield 19, 3) := by decide +kernel
theorem dX9_isCovered_24 : decode cX9_isCovered 24 = .ok (.bipush 15, 2) := by decide +kernel
theorem dX9_isCovered_26 : decode cX9_isCovered 26 = .ok (.iconst 2, 1) := by decide +kernel
theorem dX9_isCovered_27 : decode cX9_isCovered 27 = .ok (.iload_n 1, 1) := by decide +kernel
theorem dX9_isCovered_28 : decode cX9_isCovered 28 = .ok (.imul, 1) := by decide +kernel
theorem dX9_isCovered_29 : decode cX9_isCovered 29 = .ok (.iadd, 1) := by decide +kernel
theorem dX9_isCovered_30 : decode cX9_isCovered 30 = .ok (.iconst 1, 1) := by decide +kernel
theorem dX9_isCovered_31 : decode cX9_isCovered 31 = .ok (.iadd, 1) := by decide +kernel
theorem dX9_isCovered_32 : decode cX9_isCovered 32 = .ok (.iaload, 1) := by decide +kernel
theorem dX9_isCovered_33 : decode cX9_isCovered 33 = .ok (.if_icmp .le 58, 3) := by decide +kernel
theorem dX9_isCovered_36 : decode cX9_isCovered 36 = .ok (.iload 4, 2) := by decide +kernel
theorem dX9_isCovered_38 : decode cX9_isCovered 38 = .ok (.aload_n 0, 1) := by decide +kernel
theorem dX9_isCovered_39 : decode cX9_isCovered 39 = .ok (.iload_n 1, 1) := by decide +kernel
theorem dX9_isCovered_40 : decode cX9_isCovered 40 = .ok (.invokevirtual 191, 3) := by decide +kernel
theorem dX9_isCovered_43 : decode cX9_isCovered 43 = .ok (.if_icmp .gt 39, 3) := by decide +kernel
theorem dX9_isCovered_46 : decode cX9_isCovered 46 = .ok (.aload_n 0, 1) := by decide +kernel
theorem dX9_isCovered_47 : decode cX9_isCovered 47 = .ok (.iload_n 1, 1) := by decide +kernel
theorem dX9_isCovered_48 : decode cX9_isCovered 48 = .ok (.iload 4, 2) := by decide +kernel
theorem dX9_isCovered_50 : decode cX9_isCovered 50 = .ok (.iconst 1, 1) := by decide +kernel
theorem dX9_isCovered_51 : decode cX9_isCovered 51 = .ok (.isub, 1) := by decide +kernel
theorem dX9_isCovered_52 : decode cX9_isCovered 52 = .ok (.invokevirtual 194, 3) := by decide +kernel
theorem dX9_isCovered_55 : decode cX9_isCovered 55 = .ok (.istore 6, 2) := by decide +kernel
theorem dX9_isCovered_57 : decode cX9_isCovered 57 = .ok (.aload_n 0, 1) := by decide +kernel
theorem dX9_isCovered_58 : decode cX9_isCovered 58 = .ok (.iload 6, 2) := by decide +kernel
theorem dX9_isCovered_60 : decode cX9_isCovered 60 = .ok (.iconst 0, 1) := by decide +kernel
theorem dX9_isCovered_61 : decode cX9_isCovered 61 = .ok (.invokevirtual 216, 3) := by decide +kernel
theorem dX9_isCovered_64 : decode cX9_isCovered 64 = .ok (.iconst 5, 1) := by decide +kernel
theorem dX9_isCovered_65 : decode cX9_isCovered 65 = .ok (.if_icmp .ne 5, 3) := by decide +kernel
theorem dX9_isCovered_68 : decode cX9_isCovered 68 = .ok (.iconst 1, 1) := by decide +kernel
theorem dX9_isCovered_69 : decode cX9_isCovered 69 = .ok (.ireturn, 1) := by decide +kernel
theorem dX9_isCovered_70 : decode cX9_isCovered 70 = .ok (.aload_n 0, 1) := by decide +kernel
theorem dX9_isCovered_71 : decode cX9_isCovered 71 = .ok (.iload 6, 2) := by decide +kernel
theorem dX9_isCovered_73 : decode cX9_isCovered 73 = .ok (.iconst 1, 1) := by decide +kernel
theorem dX9_isCovered_74 : decode cX9_isCovered 74 = .ok (.invokevirtual 216, 3) := by decide +kernel
theorem dX9_isCovered_77 : decode cX9_isCovered 77 = .ok (.ifCond .le 5, 3) := by decide +kernel
theorem dX9_isCovered_80 : decode cX9_isCovered 80 = .ok (.iconst 0, 1) := by decide +kernel
theorem dX9_isCovered_81 : decode cX9_isCovered 81 = .ok (.ireturn, 1) := by decide +kernel
theorem dX9_isCovered_82 : decode cX9_isCovered 82 = .ok (.iinc 4 (-1), 3) := by decide +kernel
theorem dX9_isCovered_85 : decode cX9_isCovered 85 = .ok (.iinc 5 1, 3) := by decide +kernel
theorem dX9_isCovered_88 : decode cX9_isCovered 88 = .ok (.goto (-76), 3) := by decide +kernel
theorem dX9_isCovered_91 : decode cX9_isCovered 91 = .ok (.iconst 1, 1) := by decide +kernel
theorem dX9_isCovered_92 : decode cX9_isCovered 92 = .ok (.ireturn, 1) := by decide +kernel
theorem dX9_cover_0 : decode cX9_cover 0 = .ok (.aload_n 0, 1) := by decide +kernel
theorem dX9_cover_1 : decode cX9_cover 1 = .ok (.iconst 0, 1) := by decide +kernel
theorem dX9_cover_2 : decode cX9_cover 2 = .ok (.putfield 54, 3) := by decide +kernel
theorem dX9_cover_5 : decode cX9_cover 5 = .ok (.aload_n 0, 1) := by decide +kernel
theorem dX9_cover_6 : decode cX9_cover 6 = .ok (.iload_n 1, 1) := by decide +kernel
theorem dX9_cover_7 : decode cX9_cover 7 = .ok (.invokevirtual 219, 3) := by decide +kernel
theorem dX9_cover_10 : decode cX9_cover 10 = .ok (.ifCond .eq 15, 3) := by decide +kernel
theorem dX9_cover_13 : decode cX9_cover 13 = .ok (.iload_n 2, 1) := by decide +kernel
theorem dX9_cover_14 : decode cX9_cover 14 = .ok (.i2l, 1) := by decide +kernel
theorem dX9_cover_15 : decode cX9_cover 15 = .ok (.lconst 0, 1) := by decide +kernel
theorem dX9_cover_16 : decode cX9_cover 16 = .ok (.ldc2_w 247, 3) := by decide +kernel
theorem dX9_cover_19 : decode cX9_cover 19 = .ok (.invokestatic 64, 3) := by decide +kernel
theorem dX9_cover_22 : decode cX9_cover 22 = .ok (.ifCond .ne 6, 3) := by decide +kernel
theorem dX9_cover_25 : decode cX9_cover 25 = .ok (.ldc 74, 2) := by decide +kernel
theorem dX9_cover_27 : decode cX9_cover 27 = .ok (.ireturn, 1) := by decide +kernel
theorem dX9_cover_28 : decode cX9_cover 28 = .ok (.iconst 0, 1) := by decide +kernel
theorem dX9_cover_29 : decode cX9_cover 29 = .ok (.istore_n 3, 1) := by decide +kernel
theorem dX9_cover_30 : decode cX9_cover 30 = .ok (.iload_n 3, 1) := by decide +kernel
theorem dX9_cover_31 : decode cX9_cover 31 = .ok (.aload_n 0, 1) := by decide +kernel
theorem dX9_cover_32 : decode cX9_cover 32 = .ok (.getfield 19, 3) := by decide +kernel
theorem dX9_cover_35 : decode cX9_cover 35 = .ok (.bipush 15, 2) := by decide +kernel
theorem dX9_cover_37 : decode cX9_cover 37 = .ok (.iconst 2, 1) := by decide +kernel
theorem dX9_cover_38 : decode cX9_cover 38 = .ok (.iload_n 1, 1) := by decide +kernel
theorem dX9_cover_39 : decode cX9_cover 39 = .ok (.imul, 1) := by decide +kernel
theorem dX9_cover_40 : decode cX9_cover 40 = .ok (.iadd, 1) := by decide +kernel
theorem dX9_cover_41 : decode cX9_cover 41 = .ok (.iaload, 1) := by decide +kernel
theorem dX9_cover_42 : decode cX9_cover 42 = .ok (.aload_n 0, 1) := by decide +kernel
theorem dX9_cover_43 : decode cX9_cover 43 = .ok (.iload_n 1, 1) := by decide +kernel
theorem dX9_cover_44 : decode cX9_cover 44 = .ok (.invokevirtual 191, 3) := by decide +kernel
theorem dX9_cover_47 : decode cX9_cover 47 = .ok (.isub, 1) := by decide +kernel
theorem dX9_cover_48 : decode cX9_cover 48 = .ok (.if_icmp .gt 21, 3) := by decide +kernel
theorem dX9_cover_51 : decode cX9_cover 51 = .ok (.aload_n 0, 1) := by decide +kernel
theorem dX9_cover_52 : decode cX9_cover 52 = .ok (.iload_n 1, 1) := by decide +kernel
theorem dX9_cover_53 : decode cX9_cover 53 = .ok (.iload_n 3, 1) := by decide +kernel
theorem dX9_cover_54 : decode cX9_cover 54 = .ok (.iload_n 2, 1) := by decide +kernel
theorem dX9_cover_55 : decode cX9_cover 55 = .ok (.invokevirtual 267, 3) := by decide +kernel
theorem dX9_cover_58 : decode cX9_cover 58 = .ok (.ifCond .eq 5, 3) := by decide +kernel
theorem dX9_cover_61 : decode cX9_cover 61 = .ok (.iload_n 3, 1) := by decide +kernel
theorem dX9_cover_62 : decode cX9_cover 62 = .ok (.ireturn, 1) := by decide +kernel
theorem dX9_cover_63 : decode cX9_cover 63 = .ok (.iinc 3 1, 3) := by decide +kernel
theorem dX9_cover_66 : decode cX9_cover 66 = .ok (.goto (-36), 3) := by decide +kernel
theorem dX9_cover_69 : decode cX9_cover 69 = .ok (.ldc 90, 2) := by decide +kernel
theorem dX9_cover_71 : decode cX9_cover 71 = .ok (.ireturn, 1) := by decide +kernel
theorem dX9_leastOn_0 : decode cX9_leastOn 0 = .ok (.iconst 0, 1) := by decide +kernel
theorem dX9_leastOn_1 : decode cX9_leastOn 1 = .ok (.istore_n 2, 1) := by decide +kernel
theorem dX9_leastOn_2 : decode cX9_leastOn 2 = .ok (.iconst 1, 1) := by decide +kernel
theorem dX9_leastOn_3 : decode cX9_leastOn 3 = .ok (.istore_n 3, 1) := by decide +kernel
theorem dX9_leastOn_4 : decode cX9_leastOn 4 = .ok (.iload_n 3, 1) := by decide +kernel
theorem dX9_leastOn_5 : decode cX9_leastOn 5 = .ok (.aload_n 0, 1) := by decide +kernel
theorem dX9_leastOn_6 : decode cX9_leastOn 6 = .ok (.iload_n 1, 1) := by decide +kernel
theorem dX9_leastOn_7 : decode cX9_leastOn 7 = .ok (.invokevirtual 191, 3) := by decide +kernel
theorem dX9_leastOn_10 : decode cX9_leastOn 10 = .ok (.if_icmp .ge 40, 3) := by decide +kernel
theorem dX9_leastOn_13 : decode cX9_leastOn 13 = .ok (.aload_n 0, 1) := by decide +kernel
theorem dX9_leastOn_14 : decode cX9_leastOn 14 = .ok (.aload_n 0, 1) := by decide +kernel
theorem dX9_leastOn_15 : decode cX9_leastOn 15 = .ok (.iload_n 1, 1) := by decide +kernel
theorem dX9_leastOn_16 : decode cX9_leastOn 16 = .ok (.iload_n 3, 1) := by decide +kernel
theorem dX9_leastOn_17 : decode cX9_leastOn 17 = .ok (.invokevirtual 194, 3) := by decide +kernel
theorem dX9_leastOn_20 : decode cX9_leastOn 20 = .ok (.iconst 1, 1) := by decide +kernel
theorem dX9_leastOn_21 : decode cX9_leastOn 21 = .ok (.invokevirtual 216, 3) := by decide +kernel
theorem dX9_leastOn_24 : decode cX9_leastOn 24 = .ok (.aload_n 0, 1) := by decide +kernel
theorem dX9_leastOn_25 : decode cX9_leastOn 25 = .ok (.aload_n 0, 1) := by decide +kernel
theorem dX9_leastOn_26 : decode cX9_leastOn 26 = .ok (.iload_n 1, 1) := by decide +kernel
theorem dX9_leastOn_27 : decode cX9_leastOn 27 = .ok (.iload_n 2, 1) := by decide +kernel
theorem dX9_leastOn_28 : decode cX9_leastOn 28 = .ok (.invokevirtual 194, 3) := by decide +kernel
theorem dX9_leastOn_31 : decode cX9_leastOn 31 = .ok (.iconst 1, 1) := by decide +kernel
theorem dX9_leastOn_32 : decode cX9_leastOn 32 = .ok (.invokevirtual 216, 3) := by decide +kernel
theorem dX9_leastOn_35 : decode cX9_leastOn 35 = .ok (.if_icmp .ge 7, 3) := by decide +kernel
theorem dX9_leastOn_38 : decode cX9_leastOn 38 = .ok (.iload_n 3, 1) := by decide +kernel
theorem dX9_leastOn_39 : decode cX9_leastOn 39 = .ok (.goto 4, 3) := by decide +kernel
theorem dX9_leastOn_42 : decode cX9_leastOn 42 = .ok (.iload_n 2, 1) := by decide +kernel
theorem dX9_leastOn_43 : decode cX9_leastOn 43 = .ok (.istore_n 2, 1) := by decide +kernel
theorem dX9_leastOn_44 : decode cX9_leastOn 44 = .ok (.iinc 3 1, 3) := by decide +kernel
theorem dX9_leastOn_47 : decode cX9_leastOn 47 = .ok (.goto (-43), 3) := by decide +kernel
theorem dX9_leastOn_50 : decode cX9_leastOn 50 = .ok (.aload_n 0, 1) := by decide +kernel
theorem dX9_leastOn_51 : decode cX9_leastOn 51 = .ok (.iload_n 1, 1) := by decide +kernel
theorem dX9_leastOn_52 : decode cX9_leastOn 52 = .ok (.iload_n 2, 1) := by decide +kernel
theorem dX9_leastOn_53 : decode cX9_leastOn 53 = .ok (.invokevirtual 194, 3) := by decide +kernel
theorem dX9_leastOn_56 : decode cX9_leastOn 56 = .ok (.ireturn, 1) := by decide +kernel
theorem dX9_lostOn_0 : decode cX9_lostOn 0 = .ok (.aload_n 0, 1) := by decide +kernel
theorem dX9_lostOn_1 : decode cX9_lostOn 1 = .ok (.iload_n 1, 1) := by decide +kernel
theorem dX9_lostOn_2 : decode cX9_lostOn 2 = .ok (.invokevirtual 191, 3) := by decide +kernel
theorem dX9_lostOn_5 : decode cX9_lostOn 5 = .ok (.aload_n 0, 1) := by decide +kernel
theorem dX9_lostOn_6 : decode cX9_lostOn 6 = .ok (.getfield 19, 3) := by decide +kernel
theorem dX9_lostOn_9 : decode cX9_lostOn 9 = .ok (.bipush 15, 2) := by decide +kernel
theorem dX9_lostOn_11 : decode cX9_lostOn 11 = .ok (.iconst 2, 1) := by decide +kernel
theorem dX9_lostOn_12 : decode cX9_lostOn 12 = .ok (.iload_n 1, 1) := by decide +kernel
theorem dX9_lostOn_13 : decode cX9_lostOn 13 = .ok (.imul, 1) := by decide +kernel
theorem dX9_lostOn_14 : decode cX9_lostOn 14 = .ok (.iadd, 1) := by decide +kernel
theorem dX9_lostOn_15 : decode cX9_lostOn 15 = .ok (.iconst 1, 1) := by decide +kernel
theorem dX9_lostOn_16 : decode cX9_lostOn 16 = .ok (.iadd, 1) := by decide +kernel
theorem dX9_lostOn_17 : decode cX9_lostOn 17 = .ok (.iaload, 1) := by decide +kernel
theorem dX9_lostOn_18 : decode cX9_lostOn 18 = .ok (.if_icmp .le 22, 3) := by decide +kernel
theorem dX9_lostOn_21 : decode cX9_lostOn 21 = .ok (.aload_n 0, 1) := by decide +kernel
theorem dX9_lostOn_22 : decode cX9_lostOn 22 = .ok (.iload_n 2, 1) := by decide +kernel
theorem dX9_lostOn_23 : decode cX9_lostOn 23 = .ok (.iconst 0, 1) := by decide +kernel
theorem dX9_lostOn_24 : decode cX9_lostOn 24 = .ok (.invokevirtual 216, 3) := by decide +kernel
theorem dX9_lostOn_27 : decode cX9_lostOn 27 = .ok (.iconst 5, 1) := by decide +kernel
theorem dX9_lostOn_28 : decode cX9_lostOn 28 = .ok (.if_icmp .eq 12, 3) := by decide +kernel
theorem dX9_lostOn_31 : decode cX9_lostOn 31 = .ok (.aload_n 0, 1) := by decide +kernel
theorem dX9_lostOn_32 : decode cX9_lostOn 32 = .ok (.iload_n 2, 1) := by decide +kernel
theorem dX9_lostOn_33 : decode cX9_lostOn 33 = .ok (.iconst 1, 1) := by decide +kernel
theorem dX9_lostOn_34 : decode cX9_lostOn 34 = .ok (.invokevirtual 216, 3) := by decide +kernel
theorem dX9_lostOn_37 : decode cX9_lostOn 37 = .ok (.goto 4, 3) := by decide +kernel
theorem dX9_lostOn_40 : decode cX9_lostOn 40 = .ok (.iconst 0, 1) := by decide +kernel
theorem dX9_lostOn_41 : decode cX9_lostOn 41 = .ok (.ireturn, 1) := by decide +kernel
theorem dX9_lend_0 : decode cX9_lend 0 = .ok (.aload_n 0, 1) := by decide +kernel
theorem dX9_lend_1 : decode cX9_lend 1 = .ok (.iconst 0, 1) := by decide +kernel
theorem dX9_lend_2 : decode cX9_lend 2 = .ok (.putfield 54, 3) := by decide +kernel
theorem dX9_lend_5 : decode cX9_lend 5 = .ok (.aload_n 0, 1) := by decide +kernel
theorem dX9_lend_6 : decode cX9_lend 6 = .ok (.iload_n 1, 1) := by decide +kernel
theorem dX9_lend_7 : decode cX9_lend 7 = .ok (.invokevirtual 219, 3) := by decide +kernel
theorem dX9_lend_10 : decode cX9_lend 10 = .ok (.ifCond .eq 16, 3) := by decide +kernel
theorem dX9_lend_13 : decode cX9_lend 13 = .ok (.aload_n 0, 1) := by decide +kernel
theorem dX9_lend_14 : decode cX9_lend 14 = .ok (.iload_n 2, 1) := by decide +kernel
theorem dX9_lend_15 : decode cX9_lend 15 = .ok (.invokevirtual 219, 3) := by decide +kernel
theorem dX9_lend_18 : decode cX9_lend 18 = .ok (.ifCond .eq 8, 3) := by decide +kernel
theorem dX9_lend_21 : decode cX9_lend 21 = .ok (.iload_n 1, 1) := by decide +kernel
theorem dX9_lend_22 : decode cX9_lend 22 = .ok (.iload_n 2, 1) := by decide +kernel
theorem dX9_lend_23 : decode cX9_lend 23 = .ok (.if_icmp .ne 6, 3) := by decide +kernel
theorem dX9_lend_26 : decode cX9_lend 26 = .ok (.ldc 74, 2) := by decide +kernel
theorem dX9_lend_28 : decode cX9_lend 28 = .ok (.ireturn, 1) := by decide +kernel
theorem dX9_lend_29 : decode cX9_lend 29 = .ok (.aload_n 0, 1) := by decide +kernel
theorem dX9_lend_30 : decode cX9_lend 30 = .ok (.iload_n 1, 1) := by decide +kernel
theorem dX9_lend_31 : decode cX9_lend 31 = .ok (.invokevirtual 191, 3) := by decide +kernel
theorem dX9_lend_34 : decode cX9_lend 34 = .ok (.ifCond .eq 11, 3) := by decide +kernel
theorem dX9_lend_37 : decode cX9_lend 37 = .ok (.aload_n 0, 1) := by decide +kernel
theorem dX9_lend_38 : decode cX9_lend 38 = .ok (.iload_n 2, 1) := by decide +kernel
theorem dX9_lend_39 : decode cX9_lend 39 = .ok (.invokevirtual 191, 3) := by decide +kernel
theorem dX9_lend_42 : decode cX9_lend 42 = .ok (.ifCond .ne 6, 3) := by decide +kernel
theorem dX9_lend_45 : decode cX9_lend 45 = .ok (.ldc 90, 2) := by decide +kernel
theorem dX9_lend_47 : decode cX9_lend 47 = .ok (.ireturn, 1) := by decide +kernel
theorem dX9_lend_48 : decode cX9_lend 48 = .ok (.aload_n 0, 1) := by decide +kernel
theorem dX9_lend_49 : decode cX9_lend 49 = .ok (.iload_n 1, 1) := by decide +kernel
theorem dX9_lend_50 : decode cX9_lend 50 = .ok (.aload_n 0, 1) := by decide +kernel
theorem dX9_lend_51 : decode cX9_lend 51 = .ok (.iload_n 1, 1) := by decide +kernel
theorem dX9_lend_52 : decode cX9_lend 52 = .ok (.aload_n 0, 1) := by decide +kernel
theorem dX9_lend_53 : decode cX9_lend 53 = .ok (.iload_n 1, 1) := by decide +kernel
theorem dX9_lend_54 : decode cX9_lend 54 = .ok (.invokevirtual 191, 3) := by decide +kernel
theorem dX9_lend_57 : decode cX9_lend 57 = .ok (.iconst 1, 1) := by decide +kernel
theorem dX9_lend_58 : decode cX9_lend 58 = .ok (.isub, 1) := by decide +kernel
theorem dX9_lend_59 : decode cX9_lend 59 = .ok (.invokevirtual 194, 3) := by decide +kernel
theorem dX9_lend_62 : decode cX9_lend 62 = .ok (.invokevirtual 271, 3) := by decide +kernel
theorem dX9_lend_65 : decode cX9_lend 65 = .ok (.aload_n 0, 1) := by decide +kernel
theorem dX9_lend_66 : decode cX9_lend 66 = .ok (.iload_n 2, 1) := by decide +kernel
theorem dX9_lend_67 : decode cX9_lend 67 = .ok (.aload_n 0, 1) := by decide +kernel
theorem dX9_lend_68 : decode cX9_lend 68 = .ok (.iload_n 2, 1) := by decide +kernel
theorem dX9_lend_69 : decode cX9_lend 69 = .ok (.aload_n 0, 1) := by decide +kernel
theorem dX9_lend_70 : decode cX9_lend 70 = .ok (.iload_n 2, 1) := by decide +kernel
theorem dX9_lend_71 : decode cX9_lend 71 = .ok (.invokevirtual 191, 3) := by decide +kernel
theorem dX9_lend_74 : decode cX9_lend 74 = .ok (.iconst 1, 1) := by decide +kernel
theorem dX9_lend_75 : decode cX9_lend 75 = .ok (.isub, 1) := by decide +kernel
theorem dX9_lend_76 : decode cX9_lend 76 = .ok (.invokevirtual 194, 3) := by decide +kernel
theorem dX9_lend_79 : decode cX9_lend 79 = .ok (.invokevirtual 271, 3) := by decide +kernel
theorem dX9_lend_82 : decode cX9_lend 82 = .ok (.iadd, 1) := by decide +kernel
theorem dX9_lend_83 : decode cX9_lend 83 = .ok (.istore_n 3, 1) := by decide +kernel
theorem dX9_lend_84 : decode cX9_lend 84 = .ok (.iload_n 3, 1) := by decide +kernel
theorem dX9_lend_85 : decode cX9_lend 85 = .ok (.aload_n 0, 1) := by decide +kernel
theorem dX9_lend_86 : decode cX9_lend 86 = .ok (.iload_n 1, 1) := by decide +kernel
theorem dX9_lend_87 : decode cX9_lend 87 = .ok (.aload_n 0, 1) := by decide +kernel
theorem dX9_lend_88 : decode cX9_lend 88 = .ok (.iload_n 2, 1) := by decide +kernel
theorem dX9_lend_89 : decode cX9_lend 89 = .ok (.invokevirtual 274, 3) := by decide +kernel
theorem dX9_lend_92 : decode cX9_lend 92 = .ok (.invokevirtual 271, 3) := by decide +kernel
theorem dX9_lend_95 : decode cX9_lend 95 = .ok (.isub, 1) := by decide +kernel
theorem dX9_lend_96 : decode cX9_lend 96 = .ok (.aload_n 0, 1) := by decide +kernel
theorem dX9_lend_97 : decode cX9_lend 97 = .ok (.iload_n 2, 1) := by decide +kernel
theorem dX9_lend_98 : decode cX9_lend 98 = .ok (.aload_n 0, 1) := by decide +kernel
theorem dX9_lend_99 : decode cX9_lend 99 = .ok (.iload_n 1, 1) := by decide +kernel
theorem dX9_lend_100 : decode cX9_lend 100 = .ok (.invokevirtual 274, 3) := by decide +kernel
theorem dX9_lend_103 : decode cX9_lend 103 = .ok (.invokevirtual 271, 3) := by decide +kernel
theorem dX9_lend_106 : decode cX9_lend 106 = .ok (.isub, 1) := by decide +kernel
theorem dX9_lend_107 : decode cX9_lend 107 = .ok (.ireturn, 1) := by decide +kernel
theorem dX9_beach_0 : decode cX9_beach 0 = .ok (.aload_n 0, 1) := by decide +kernel
theorem dX9_beach_1 : decode cX9_beach 1 = .ok (.iconst 0, 1) := by decide +kernel
theorem dX9_beach_2 : decode cX9_beach 2 = .ok (.putfield 54, 3) := by decide +kernel
theorem dX9_beach_5 : decode cX9_beach 5 = .ok (.aload_n 0, 1) := by decide +kernel
theorem dX9_beach_6 : decode cX9_beach 6 = .ok (.getfield 184, 3) := by decide +kernel
theorem dX9_beach_9 : decode cX9_beach 9 = .ok (.ifCond .ne 6, 3) := by decide +kernel
theorem dX9_beach_12 : decode cX9_beach 12 = .ok (.ldc 206, 2) := by decide +kernel
theorem dX9_beach_14 : decode cX9_beach 14 = .ok (.ireturn, 1) := by decide +kernel
theorem dX9_beach_15 : decode cX9_beach 15 = .ok (.iload_n 1, 1) := by decide +kernel
theorem dX9_beach_16 : decode cX9_beach 16 = .ok (.invokestatic 68, 3) := by decide +kernel
theorem dX9_beach_19 : decode cX9_beach 19 = .ok (.ifCond .eq 28, 3) := by decide +kernel
theorem dX9_beach_22 : decode cX9_beach 22 = .ok (.iload_n 3, 1) := by decide +kernel
theorem dX9_beach_23 : decode cX9_beach 23 = .ok (.i2l, 1) := by decide +kernel
theorem dX9_beach_24 : decode cX9_beach 24 = .ok (.lconst 0, 1) := by decide +kernel
theorem dX9_beach_25 : decode cX9_beach 25 = .ok (.ldc2_w 277, 3) := by decide +kernel
theorem dX9_beach_28 : decode cX9_beach 28 = .ok (.invokestatic 64, 3) := by decide +kernel
theorem dX9_beach_31 : decode cX9_beach 31 = .ok (.ifCond .eq 16, 3) := by decide +kernel
theorem dX9_beach_34 : decode cX9_beach 34 = .ok (.iload 4, 2) := by decide +kernel
theorem dX9_beach_36 : decode cX9_beach 36 = .ok (.i2l, 1) := by decide +kernel
theorem dX9_beach_37 : decode cX9_beach 37 = .ok (.lconst 0, 1) := by decide +kernel
theorem dX9_beach_38 : decode cX9_beach 38 = .ok (.ldc2_w 247, 3) := by decide +kernel
theorem dX9_beach_41 : decode cX9_beach 41 = .ok (.invokestatic 64, 3) := by decide +kernel
theorem dX9_beach_44 : decode cX9_beach 44 = .ok (.ifCond .ne 6, 3) := by decide +kernel
theorem dX9_beach_47 : decode cX9_beach 47 = .ok (.ldc 74, 2) := by decide +kernel
theorem dX9_beach_49 : decode cX9_beach 49 = .ok (.ireturn, 1) := by decide +kernel
theorem dX9_beach_50 : decode cX9_beach 50 = .ok (.aload_n 0, 1) := by decide +kernel
theorem dX9_beach_51 : decode cX9_beach 51 = .ok (.getfield 7, 3) := by decide +kernel
theorem dX9_beach_54 : decode cX9_beach 54 = .ok (.iload_n 1, 1) := by decide +kernel
theorem dX9_beach_55 : decode cX9_beach 55 = .ok (.iaload, 1) := by decide +kernel
theorem dX9_beach_56 : decode cX9_beach 56 = .ok (.ifCond .ge 9, 3) := by decide +kernel
theorem dX9_beach_59 : decode cX9_beach 59 = .ok (.aload_n 0, 1) := by decide +kernel
theorem dX9_beach_60 : decode cX9_beach 60 = .ok (.iconst 1, 1) := by decide +kernel
theorem dX9_beach_61 : decode cX9_beach 61 = .ok (.invokevirtual 75, 3) := by decide +kernel
theorem dX9_beach_64 : decode cX9_beach 64 = .ok (.ireturn, 1) := by decide +kernel
theorem dX9_beach_65 : decode cX9_beach 65 = .ok (.iload_n 2, 1) := by decide +kernel
theorem dX9_beach_66 : decode cX9_beach 66 = .ok (.ifCond .lt 19, 3) := by decide +kernel
theorem dX9_beach_69 : decode cX9_beach 69 = .ok (.iload_n 2, 1) := by decide +kernel
theorem dX9_beach_70 : decode cX9_beach 70 = .ok (.i2l, 1) := by decide +kernel
theorem dX9_beach_71 : decode cX9_beach 71 = .ok (.iload_n 3, 1) := by decide +kernel
theorem dX9_beach_72 : decode cX9_beach 72 = .ok (.i2l, 1) := by decide +kernel
theorem dX9_beach_73 : decode cX9_beach 73 = .ok (.ladd, 1) := by decide +kernel
theorem dX9_beach_74 : decode cX9_beach 74 = .ok (.aload_n 0, 1) := by decide +kernel
theorem dX9_beach_75 : decode cX9_beach 75 = .ok (.getfield 13, 3) := by decide +kernel
theorem dX9_beach_78 : decode cX9_beach 78 = .ok (.iload_n 1, 1) := by decide +kernel
theorem dX9_beach_79 : decode cX9_beach 79 = .ok (.iaload, 1) := by decide +kernel
theorem dX9_beach_80 : decode cX9_beach 80 = .ok (.i2l, 1) := by decide +kernel
theorem dX9_beach_81 : decode cX9_beach 81 = .ok (.lcmp, 1) := by decide +kernel
theorem dX9_beach_82 : decode cX9_beach 82 = .ok (.ifCond .le 9, 3) := by decide +kernel
theorem dX9_beach_85 : decode cX9_beach 85 = .ok (.aload_n 0, 1) := by decide +kernel
theorem dX9_beach_86 : decode cX9_beach 86 = .ok (.iconst 2, 1) := by decide +kernel
theorem dX9_beach_87 : decode cX9_beach 87 = .ok (.invokevirtual 75, 3) := by decide +kernel
theorem dX9_beach_90 : decode cX9_beach 90 = .ok (.ireturn, 1) := by decide +kernel
theorem dX9_beach_91 : decode cX9_beach 91 = .ok (.iconst 0, 1) := by decide +kernel
theorem dX9_beach_92 : decode cX9_beach 92 = .ok (.istore 5, 2) := by decide +kernel
theorem dX9_beach_94 : decode cX9_beach 94 = .ok (.iload 5, 2) := by decide +kernel
theorem dX9_beach_96 : decode cX9_beach 96 = .ok (.iload_n 3, 1) := by decide +kernel
theorem dX9_beach_97 : decode cX9_beach 97 = .ok (.if_icmp .ge 33, 3) := by decide +kernel
theorem dX9_beach_100 : decode cX9_beach 100 = .ok (.aload_n 0, 1) := by decide +kernel
theorem dX9_beach_101 : decode cX9_beach 101 = .ok (.aload_n 0, 1) := by decide +kernel
theorem dX9_beach_102 : decode cX9_beach 102 = .ok (.getfield 16, 3) := by decide +kernel
theorem dX9_beach_105 : decode cX9_beach 105 = .ok (.bipush 40, 2) := by decide +kernel
theorem dX9_beach_107 : decode cX9_beach 107 = .ok (.iload_n 1, 1) := by decide +kernel
theorem dX9_beach_108 : decode cX9_beach 108 = .ok (.imul, 1) := by decide +kernel
theorem dX9_beach_109 : decode cX9_beach 109 = .ok (.iload_n 2, 1) := by decide +kernel
theorem dX9_beach_110 : decode cX9_beach 110 = .ok (.iadd, 1) := by decide +kernel
theorem dX9_beach_111 : decode cX9_beach 111 = .ok (.iload 5, 2) := by decide +kernel
theorem dX9_beach_113 : decode cX9_beach 113 = .ok (.iadd, 1) := by decide +kernel
theorem dX9_beach_114 : decode cX9_beach 114 = .ok (.iaload, 1) := by decide +kernel
theorem dX9_beach_115 : decode cX9_beach 115 = .ok (.invokevirtual 200, 3) := by decide +kernel
theorem dX9_beach_118 : decode cX9_beach 118 = .ok (.ifCond .ne 6, 3) := by decide +kernel
theorem dX9_beach_121 : decode cX9_beach 121 = .ok (.ldc 74, 2) := by decide +kernel
theorem dX9_beach_123 : decode cX9_beach 123 = .ok (.ireturn, 1) := by decide +kernel
theorem dX9_beach_124 : decode cX9_beach 124 = .ok (.iinc 5 1, 3) := by decide +kernel
theorem dX9_beach_127 : decode cX9_beach 127 = .ok (.goto (-33), 3) := by decide +kernel
theorem dX9_beach_130 : decode cX9_beach 130 = .ok (.aload_n 0, 1) := by decide +kernel
theorem dX9_beach_131 : decode cX9_beach 131 = .ok (.iconst 0, 1) := by decide +kernel
theorem dX9_beach_132 : decode cX9_beach 132 = .ok (.putfield 58, 3) := by decide +kernel
theorem dX9_beach_135 : decode cX9_beach 135 = .ok (.aload_n 0, 1) := by decide +kernel
theorem dX9_beach_136 : decode cX9_beach 136 = .ok (.invokevirtual 236, 3) := by decide +kernel
theorem dX9_beach_139 : decode cX9_beach 139 = .ok (.iconst 0, 1) := by decide +kernel
theorem dX9_beach_140 : decode cX9_beach 140 = .ok (.istore 5, 2) := by decide +kernel
theorem dX9_beach_142 : decode cX9_beach 142 = .ok (.iconst 0, 1) := by decide +kernel
theorem dX9_beach_143 : decode cX9_beach 143 = .ok (.istore 6, 2) := by decide +kernel
theorem dX9_beach_145 : decode cX9_beach 145 = .ok (.iload 6, 2) := by decide +kernel
theorem dX9_beach_147 : decode cX9_beach 147 = .ok (.iload 4, 2) := by decide +kernel
theorem dX9_beach_149 : decode cX9_beach 149 = .ok (.if_icmp .ge 80, 3) := by decide +kernel
theorem dX9_beach_152 : decode cX9_beach 152 = .ok (.aload_n 0, 1) := by decide +kernel
theorem dX9_beach_153 : decode cX9_beach 153 = .ok (.invokevirtual 239, 3) := by decide +kernel
theorem dX9_beach_156 : decode cX9_beach 156 = .ok (.istore 7, 2) := by decide +kernel
theorem dX9_beach_158 : decode cX9_beach 158 = .ok (.iload 5, 2) := by decide +kernel
theorem dX9_beach_160 : decode cX9_beach 160 = .ok (.iload_n 3, 1) := by decide +kernel
theorem dX9_beach_161 : decode cX9_beach 161 = .ok (.if_icmp .ge 55, 3) := by decide +kernel
theorem dX9_beach_164 : decode cX9_beach 164 = .ok (.iload 7, 2) := by decide +kernel
theorem dX9_beach_166 : decode cX9_beach 166 = .ok (.aload_n 0, 1) := by decide +kernel
theorem dX9_beach_167 : decode cX9_beach 167 = .ok (.getfield 16, 3) := by decide +kernel
theorem dX9_beach_170 : decode cX9_beach 170 = .ok (.bipush 40, 2) := by decide +kernel
theorem dX9_beach_172 : decode cX9_beach 172 = .ok (.iload_n 1, 1) := by decide +kernel
theorem dX9_beach_173 : decode cX9_beach 173 = .ok (.imul, 1) := by decide +kernel
theorem dX9_beach_174 : decode cX9_beach 174 = .ok (.iload_n 2, 1) := by decide +kernel
theorem dX9_beach_175 : decode cX9_beach 175 = .ok (.iadd, 1) := by decide +kernel
theorem dX9_beach_176 : decode cX9_beach 176 = .ok (.iload 5, 2) := by decide +kernel
theorem dX9_beach_178 : decode cX9_beach 178 = .ok (.iadd, 1) := by decide +kernel
theorem dX9_beach_179 : decode cX9_beach 179 = .ok (.iaload, 1) := by decide +kernel
theorem dX9_beach_180 : decode cX9_beach 180 = .ok (.ishr, 1) := by decide +kernel
theorem dX9_beach_181 : decode cX9_beach 181 = .ok (.iconst 1, 1) := by decide +kernel
theorem dX9_beach_182 : decode cX9_beach 182 = .ok (.iand, 1) := by decide +kernel
theorem dX9_beach_183 : decode cX9_beach 183 = .ok (.iconst 1, 1) := by decide +kernel
theorem dX9_beach_184 : decode cX9_beach 184 = .ok (.if_icmp .ne 32, 3) := by decide +kernel
theorem dX9_beach_187 : decode cX9_beach 187 = .ok (.iload 7, 2) := by decide +kernel
theorem dX9_beach_189 : decode cX9_beach 189 = .ok (.iconst 1, 1) := by decide +kernel
theorem dX9_beach_190 : decode cX9_beach 190 = .ok (.aload_n 0, 1) := by decide +kernel
theorem dX9_beach_191 : decode cX9_beach 191 = .ok (.getfield 16, 3) := by decide +kernel
theorem dX9_beach_194 : decode cX9_beach 194 = .ok (.bipush 40, 2) := by decide +kernel
theorem dX9_beach_196 : decode cX9_beach 196 = .ok (.iload_n 1, 1) := by decide +kernel
theorem dX9_beach_197 : decode cX9_beach 197 = .ok (.imul, 1) := by decide +kernel
theorem dX9_beach_198 : decode cX9_beach 198 = .ok (.iload_n 2, 1) := by decide +kernel
theorem dX9_beach_199 : decode cX9_beach 199 = .ok (.iadd, 1) := by decide +kernel
theorem dX9_beach_200 : decode cX9_beach 200 = .ok (.iload 5, 2) := by decide +kernel
theorem dX9_beach_202 : decode cX9_beach 202 = .ok (.iadd, 1) := by decide +kernel
theorem dX9_beach_203 : decode cX9_beach 203 = .ok (.iaload, 1) := by decide +kernel
theorem dX9_beach_204 : decode cX9_beach 204 = .ok (.ishl, 1) := by decide +kernel
theorem dX9_beach_205 : decode cX9_beach 205 = .ok (.iconst (-1), 1) := by decide +kernel
theorem dX9_beach_206 : decode cX9_beach 206 = .ok (.ixor, 1) := by decide +kernel
theorem dX9_beach_207 : decode cX9_beach 207 = .ok (.iand, 1) := by decide +kernel
theorem dX9_beach_208 : decode cX9_beach 208 = .ok (.istore 7, 2) := by decide +kernel
theorem dX9_beach_210 : decode cX9_beach 210 = .ok (.iinc 5 1, 3) := by decide +kernel
theorem dX9_beach_213 : decode cX9_beach 213 = .ok (.goto (-55), 3) := by decide +kernel
theorem dX9_beach_216 : decode cX9_beach 216 = .ok (.iload 7, 2) := by decide +kernel
theorem dX9_beach_218 : decode cX9_beach 218 = .ok (.ifCond .eq 5, 3) := by decide +kernel
theorem dX9_beach_221 : decode cX9_beach 221 = .ok (.iconst 0, 1) := by decide +kernel
theorem dX9_beach_222 : decode cX9_beach 222 = .ok (.ireturn, 1) := by decide +kernel
theorem dX9_beach_223 : decode cX9_beach 223 = .ok (.iinc 6 1, 3) := by decide +kernel
theorem dX9_beach_226 : decode cX9_beach 226 = .ok (.goto (-81), 3) := by decide +kernel
theorem dX9_beach_229 : decode cX9_beach 229 = .ok (.iload 5, 2) := by decide +kernel
theorem dX9_beach_231 : decode cX9_beach 231 = .ok (.iload_n 3, 1) := by decide +kernel
theorem dX9_beach_232 : decode cX9_beach 232 = .ok (.if_icmp .ne 7, 3) := by decide +kernel
theorem dX9_beach_235 : decode cX9_beach 235 = .ok (.iconst 1, 1) := by decide +kernel
theorem dX9_beach_236 : decode cX9_beach 236 = .ok (.goto 4, 3) := by decide +kernel
theorem dX9_beach_239 : decode cX9_beach 239 = .ok (.iconst 0, 1) := by decide +kernel
theorem dX9_beach_240 : decode cX9_beach 240 = .ok (.ireturn, 1) := by decide +kernel
theorem dX9_window_0 : decode cX9_window 0 = .ok (.aload_n 0, 1) := by decide +kernel
theorem dX9_window_1 : decode cX9_window 1 = .ok (.iconst 0, 1) := by decide +kernel
theorem dX9_window_2 : decode cX9_window 2 = .ok (.putfield 54, 3) := by decide +kernel
theorem dX9_window_5 : decode cX9_window 5 = .ok (.aload_n 0, 1) := by decide +kernel
theorem dX9_window_6 : decode cX9_window 6 = .ok (.getfield 184, 3) := by decide +kernel
theorem dX9_window_9 : decode cX9_window 9 = .ok (.ifCond .ne 6, 3) := by decide +kernel
theorem dX9_window_12 : decode cX9_window 12 = .ok (.ldc 206, 2) := by decide +kernel
theorem dX9_window_14 : decode cX9_window 14 = .ok (.ireturn, 1) := by decide +kernel
theorem dX9_window_15 : decode cX9_window 15 = .ok (.iconst 0, 1) := by decide +kernel
theorem dX9_window_16 : decode cX9_window 16 = .ok (.istore_n 1, 1) := by decide +kernel
theorem dX9_window_17 : decode cX9_window 17 = .ok (.iconst 0, 1) := by decide +kernel
theorem dX9_window_18 : decode cX9_window 18 = .ok (.istore_n 2, 1) := by decide +kernel
theorem dX9_window_19 : decode cX9_window 19 = .ok (.iload_n 2, 1) := by decide +kernel
theorem dX9_window_20 : decode cX9_window 20 = .ok (.aload_n 0, 1) := by decide +kernel
theorem dX9_window_21 : decode cX9_window 21 = .ok (.getfield 19, 3) := by decide +kernel
theorem dX9_window_24 : decode cX9_window 24 = .ok (.iconst 0, 1) := by decide +kernel
theorem dX9_window_25 : decode cX9_window 25 = .ok (.iaload, 1) := by decide +kernel
theorem dX9_window_26 : decode cX9_window 26 = .ok (.if_icmp .ge 79, 3) := by decide +kernel
theorem dX9_window_29 : decode cX9_window 29 = .ok (.aload_n 0, 1) := by decide +kernel
theorem dX9_window_30 : decode cX9_window 30 = .ok (.iload_n 2, 1) := by decide +kernel
theorem dX9_window_31 : decode cX9_window 31 = .ok (.invokevirtual 191, 3) := by decide +kernel
theorem dX9_window_34 : decode cX9_window 34 = .ok (.istore_n 3, 1) := by decide +kernel
theorem dX9_window_35 : decode cX9_window 35 = .ok (.iload_n 1, 1) := by decide +kernel
theorem dX9_window_36 : decode cX9_window 36 = .ok (.iload_n 3, 1) := by decide +kernel
theorem dX9_window_37 : decode cX9_window 37 = .ok (.ifCond .le 19, 3) := by decide +kernel
theorem dX9_window_40 : decode cX9_window 40 = .ok (.aload_n 0, 1) := by decide +kernel
theorem dX9_window_41 : decode cX9_window 41 = .ok (.iload_n 2, 1) := by decide +kernel
theorem dX9_window_42 : decode cX9_window 42 = .ok (.aload_n 0, 1) := by decide +kernel
theorem dX9_window_43 : decode cX9_window 43 = .ok (.iload_n 2, 1) := by decide +kernel
theorem dX9_window_44 : decode cX9_window 44 = .ok (.iload_n 3, 1) := by decide +kernel
theorem dX9_window_45 : decode cX9_window 45 = .ok (.iconst 1, 1) := by decide +kernel
theorem dX9_window_46 : decode cX9_window 46 = .ok (.isub, 1) := by decide +kernel
theorem dX9_window_47 : decode cX9_window 47 = .ok (.invokevirtual 194, 3) := by decide +kernel
theorem dX9_window_50 : decode cX9_window 50 = .ok (.invokevirtual 271, 3) := by decide +kernel
theorem dX9_window_53 : decode cX9_window 53 = .ok (.goto 4, 3) := by decide +kernel
theorem dX9_window_56 : decode cX9_window 56 = .ok (.iconst 0, 1) := by decide +kernel
theorem dX9_window_57 : decode cX9_window 57 = .ok (.iadd, 1) := by decide +kernel
theorem dX9_window_58 : decode cX9_window 58 = .ok (.istore_n 1, 1) := by decide +kernel
theorem dX9_window_59 : decode cX9_window 59 = .ok (.iload_n 3, 1) := by decide +kernel
theorem dX9_window_60 : decode cX9_window 60 = .ok (.iconst 2, 1) := by decide +kernel
theorem dX9_window_61 : decode cX9_window 61 = .ok (.if_icmp .le 38, 3) := by decide +kernel
theorem dX9_window_64 : decode cX9_window 64 = .ok (.iload_n 3, 1) := by decide +kernel
theorem dX9_window_65 : decode cX9_window 65 = .ok (.aload_n 0, 1) := by decide +kernel
theorem dX9_window_66 : decode cX9_window 66 = .ok (.getfield 19, 3) := by decide +kernel
theorem dX9_window_69 : decode cX9_window 69 = .ok (.bipush 15, 2) := by decide +kernel
theorem dX9_window_71 : decode cX9_window 71 = .ok (.iconst 2, 1) := by decide +kernel
theorem dX9_window_72 : decode cX9_window 72 = .ok (.iload_n 2, 1) := by decide +kernel
theorem dX9_window_73 : decode cX9_window 73 = .ok (.imul, 1) := by decide +kernel
theorem dX9_window_74 : decode cX9_window 74 = .ok (.iadd, 1) := by decide +kernel
theorem dX9_window_75 : decode cX9_window 75 = .ok (.iconst 1, 1) := by decide +kernel
theorem dX9_window_76 : decode cX9_window 76 = .ok (.iadd, 1) := by decide +kernel
theorem dX9_window_77 : decode cX9_window 77 = .ok (.iaload, 1) := by decide +kernel
theorem dX9_window_78 : decode cX9_window 78 = .ok (.iconst 2, 1) := by decide +kernel
theorem dX9_window_79 : decode cX9_window 79 = .ok (.iadd, 1) := by decide +kernel
theorem dX9_window_80 : decode cX9_window 80 = .ok (.if_icmp .le 19, 3) := by decide +kernel
theorem dX9_window_83 : decode cX9_window 83 = .ok (.iload_n 1, 1) := by decide +kernel
theorem dX9_window_84 : decode cX9_window 84 = .ok (.aload_n 0, 1) := by decide +kernel
theorem dX9_window_85 : decode cX9_window 85 = .ok (.iload_n 2, 1) := by decide +kernel
theorem dX9_window_86 : decode cX9_window 86 = .ok (.aload_n 0, 1) := by decide +kernel
theorem dX9_window_87 : decode cX9_window 87 = .ok (.iload_n 2, 1) := by decide +kernel
theorem dX9_window_88 : decode cX9_window 88 = .ok (.iload_n 3, 1) := by decide +kernel
theorem dX9_window_89 : decode cX9_window 89 = .ok (.iconst 3, 1) := by decide +kernel
theorem dX9_window_90 : decode cX9_window 90 = .ok (.isub, 1) := by decide +kernel
theorem dX9_window_91 : decode cX9_window 91 = .ok (.invokevirtual 194, 3) := by decide +kernel
theorem dX9_window_94 : decode cX9_window 94 = .ok (.invokevirtual 271, 3) := by decide +kernel
theorem dX9_window_97 : decode cX9_window 97 = .ok (.iadd, 1) := by decide +kernel
theorem dX9_window_98 : decode cX9_window 98 = .ok (.istore_n 1, 1) := by decide +kernel
theorem dX9_window_99 : decode cX9_window 99 = .ok (.iinc 2 1, 3) := by decide +kernel
theorem dX9_window_102 : decode cX9_window 102 = .ok (.goto (-83), 3) := by decide +kernel
theorem dX9_window_105 : decode cX9_window 105 = .ok (.iload_n 1, 1) := by decide +kernel
theorem dX9_window_106 : decode cX9_window 106 = .ok (.ireturn, 1) := by decide +kernel
theorem dX9_missed_0 : decode cX9_missed 0 = .ok (.aload_n 0, 1) := by decide +kernel
theorem dX9_missed_1 : decode cX9_missed 1 = .ok (.iconst 0, 1) := by decide +kernel
theorem dX9_missed_2 : decode cX9_missed 2 = .ok (.putfield 54, 3) := by decide +kernel
theorem dX9_missed_5 : decode cX9_missed 5 = .ok (.aload_n 0, 1) := by decide +kernel
theorem dX9_missed_6 : decode cX9_missed 6 = .ok (.getfield 184, 3) := by decide +kernel
theorem dX9_missed_9 : decode cX9_missed 9 = .ok (.ifCond .ne 6, 3) := by decide +kernel
theorem dX9_missed_12 : decode cX9_missed 12 = .ok (.ldc 206, 2) := by decide +kernel
theorem dX9_missed_14 : decode cX9_missed 14 = .ok (.ireturn, 1) := by decide +kernel
theorem dX9_missed_15 : decode cX9_missed 15 = .ok (.iload_n 1, 1) := by decide +kernel
theorem dX9_missed_16 : decode cX9_missed 16 = .ok (.i2l, 1) := by decide +kernel
theorem dX9_missed_17 : decode cX9_missed 17 = .ok (.lconst 0, 1) := by decide +kernel
theorem dX9_missed_18 : decode cX9_missed 18 = .ok (.lconst 1, 1) := by decide +kernel
theorem dX9_missed_19 : decode cX9_missed 19 = .ok (.invokestatic 64, 3) := by decide +kernel
theorem dX9_missed_22 : decode cX9_missed 22 = .ok (.ifCond .ne 6, 3) := by decide +kernel
theorem dX9_missed_25 : decode cX9_missed 25 = .ok (.ldc 74, 2) := by decide +kernel
theorem dX9_missed_27 : decode cX9_missed 27 = .ok (.ireturn, 1) := by decide +kernel
theorem dX9_missed_28 : decode cX9_missed 28 = .ok (.iconst 0, 1) := by decide +kernel
theorem dX9_missed_29 : decode cX9_missed 29 = .ok (.istore_n 2, 1) := by decide +kernel
theorem dX9_missed_30 : decode cX9_missed 30 = .ok (.iconst 0, 1) := by decide +kernel
theorem dX9_missed_31 : decode cX9_missed 31 = .ok (.istore_n 3, 1) := by decide +kernel
theorem dX9_missed_32 : decode cX9_missed 32 = .ok (.iconst 0, 1) := by decide +kernel
theorem dX9_missed_33 : decode cX9_missed 33 = .ok (.istore 4, 2) := by decide +kernel
theorem dX9_missed_35 : decode cX9_missed 35 = .ok (.iload 4, 2) := by decide +kernel
theorem dX9_missed_37 : decode cX9_missed 37 = .ok (.aload_n 0, 1) := by decide +kernel
theorem dX9_missed_38 : decode cX9_missed 38 = .ok (.getfield 19, 3) := by decide +kernel
theorem dX9_missed_41 : decode cX9_missed 41 = .ok (.iconst 1, 1) := by decide +kernel
theorem dX9_missed_42 : decode cX9_missed 42 = .ok (.iaload, 1) := by decide +kernel
theorem dX9_missed_43 : decode cX9_missed 43 = .ok (.if_icmp .ge 54, 3) := by decide +kernel
theorem dX9_missed_46 : decode cX9_missed 46 = .ok (.iload_n 2, 1) := by decide +kernel
theorem dX9_missed_47 : decode cX9_missed 47 = .ok (.aload_n 0, 1) := by decide +kernel
theorem dX9_missed_48 : decode cX9_missed 48 = .ok (.iload 4, 2) := by decide +kernel
theorem dX9_missed_50 : decode cX9_missed 50 = .ok (.invokevirtual 244, 3) := by decide +kernel
theorem dX9_missed_53 : decode cX9_missed 53 = .ok (.ifCond .eq 10, 3) := by decide +kernel
theorem dX9_missed_56 : decode cX9_missed 56 = .ok (.iconst 1, 1) := by decide +kernel
theorem dX9_missed_57 : decode cX9_missed 57 = .ok (.iload 4, 2) := by decide +kernel
theorem dX9_missed_59 : decode cX9_missed 59 = .ok (.ishl, 1) := by decide +kernel
theorem dX9_missed_60 : decode cX9_missed 60 = .ok (.goto 4, 3) := by decide +kernel
theorem dX9_missed_63 : decode cX9_missed 63 = .ok (.iconst 0, 1) := by decide +kernel
theorem dX9_missed_64 : decode cX9_missed 64 = .ok (.ior, 1) := by decide +kernel
theorem dX9_missed_65 : decode cX9_missed 65 = .ok (.istore_n 2, 1) := by decide +kernel
theorem dX9_missed_66 : decode cX9_missed 66 = .ok (.iload_n 3, 1) := by decide +kernel
theorem dX9_missed_67 : decode cX9_missed 67 = .ok (.aload_n 0, 1) := by decide +kernel
theorem dX9_missed_68 : decode cX9_missed 68 = .ok (.iload 4, 2) := by decide +kernel
theorem dX9_missed_70 : decode cX9_missed 70 = .ok (.invokevirtual 203, 3) := by decide +kernel
theorem dX9_missed_73 : decode cX9_missed 73 = .ok (.ldc 90, 2) := by decide +kernel
theorem dX9_missed_75 : decode cX9_missed 75 = .ok (.if_icmp .ne 13, 3) := by decide +kernel
theorem dX9_missed_78 : decode cX9_missed 78 = .ok (.aload_n 0, 1) := by decide +kernel
theorem dX9_missed_79 : decode cX9_missed 79 = .ok (.iload 4, 2) := by decide +kernel
theorem dX9_missed_81 : decode cX9_missed 81 = .ok (.iconst 1, 1) := by decide +kernel
theorem dX9_missed_82 : decode cX9_missed 82 = .ok (.invokevirtual 216, 3) := by decide +kernel
theorem dX9_missed_85 : decode cX9_missed 85 = .ok (.goto 4, 3) := by decide +kernel
theorem dX9_missed_88 : decode cX9_missed 88 = .ok (.iconst 0, 1) := by decide +kernel
theorem dX9_missed_89 : decode cX9_missed 89 = .ok (.iadd, 1) := by decide +kernel
theorem dX9_missed_90 : decode cX9_missed 90 = .ok (.istore_n 3, 1) := by decide +kernel
theorem dX9_missed_91 : decode cX9_missed 91 = .ok (.iinc 4 1, 3) := by decide +kernel
theorem dX9_missed_94 : decode cX9_missed 94 = .ok (.goto (-59), 3) := by decide +kernel
theorem dX9_missed_97 : decode cX9_missed 97 = .ok (.iload_n 1, 1) := by decide +kernel
theorem dX9_missed_98 : decode cX9_missed 98 = .ok (.ifCond .ne 7, 3) := by decide +kernel
theorem dX9_missed_101 : decode cX9_missed 101 = .ok (.iload_n 2, 1) := by decide +kernel
theorem dX9_missed_102 : decode cX9_missed 102 = .ok (.goto 4, 3) := by decide +kernel
theorem dX9_missed_105 : decode cX9_missed 105 = .ok (.iload_n 3, 1) := by decide +kernel
theorem dX9_missed_106 : decode cX9_missed 106 = .ok (.ireturn, 1) := by decide +kernel
theorem dX9_image_0 : decode cX9_image 0 = .ok (.aload_n 0, 1) := by decide +kernel
theorem dX9_image_1 : decode cX9_image 1 = .ok (.iconst 0, 1) := by decide +kernel
theorem dX9_image_2 : decode cX9_image 2 = .ok (.putfield 54, 3) := by decide +kernel
theorem dX9_image_5 : decode cX9_image 5 = .ok (.iload_n 1, 1) := by decide +kernel
theorem dX9_image_6 : decode cX9_image 6 = .ok (.i2l, 1) := by decide +kernel
theorem dX9_image_7 : decode cX9_image 7 = .ok (.lconst 0, 1) := by decide +kernel
theorem dX9_image_8 : decode cX9_image 8 = .ok (.lconst 1, 1) := by decide +kernel
theorem dX9_image_9 : decode cX9_image 9 = .ok (.invokestatic 64, 3) := by decide +kernel
theorem dX9_image_12 : decode cX9_image 12 = .ok (.ifCond .ne 6, 3) := by decide +kernel
theorem dX9_image_15 : decode cX9_image 15 = .ok (.ldc 74, 2) := by decide +kernel
theorem dX9_image_17 : decode cX9_image 17 = .ok (.ireturn, 1) := by decide +kernel
theorem dX9_image_18 : decode cX9_image 18 = .ok (.aload_n 0, 1) := by decide +kernel
theorem dX9_image_19 : decode cX9_image 19 = .ok (.getfield 184, 3) := by decide +kernel
theorem dX9_image_22 : decode cX9_image 22 = .ok (.ifCond .ne 6, 3) := by decide +kernel
theorem dX9_image_25 : decode cX9_image 25 = .ok (.ldc 206, 2) := by decide +kernel
theorem dX9_image_27 : decode cX9_image 27 = .ok (.ireturn, 1) := by decide +kernel
theorem dX9_image_28 : decode cX9_image 28 = .ok (.iconst 0, 1) := by decide +kernel
theorem dX9_image_29 : decode cX9_image 29 = .ok (.istore_n 2, 1) := by decide +kernel
theorem dX9_image_30 : decode cX9_image 30 = .ok (.iload_n 2, 1) := by decide +kernel
theorem dX9_image_31 : decode cX9_image 31 = .ok (.bipush 127, 2) := by decide +kernel
theorem dX9_image_33 : decode cX9_image 33 = .ok (.if_icmp .ge 26, 3) := by decide +kernel
theorem dX9_image_36 : decode cX9_image 36 = .ok (.aload_n 0, 1) := by decide +kernel
theorem dX9_image_37 : decode cX9_image 37 = .ok (.getfield 48, 3) := by decide +kernel
theorem dX9_image_40 : decode cX9_image 40 = .ok (.bipush 127, 2) := by decide +kernel
theorem dX9_image_42 : decode cX9_image 42 = .ok (.iload_n 1, 1) := by decide +kernel
theorem dX9_image_43 : decode cX9_image 43 = .ok (.imul, 1) := by decide +kernel
theorem dX9_image_44 : decode cX9_image 44 = .ok (.iload_n 2, 1) := by decide +kernel
theorem dX9_image_45 : decode cX9_image 45 = .ok (.iadd, 1) := by decide +kernel
theorem dX9_image_46 : decode cX9_image 46 = .ok (.aload_n 0, 1) := by decide +kernel
theorem dX9_image_47 : decode cX9_image 47 = .ok (.getfield 19, 3) := by decide +kernel
theorem dX9_image_50 : decode cX9_image 50 = .ok (.iload_n 2, 1) := by decide +kernel
theorem dX9_image_51 : decode cX9_image 51 = .ok (.iaload, 1) := by decide +kernel
theorem dX9_image_52 : decode cX9_image 52 = .ok (.iastore, 1) := by decide +kernel
theorem dX9_image_53 : decode cX9_image 53 = .ok (.iinc 2 1, 3) := by decide +kernel
theorem dX9_image_56 : decode cX9_image 56 = .ok (.goto (-26), 3) := by decide +kernel
theorem dX9_image_59 : decode cX9_image 59 = .ok (.aload_n 0, 1) := by decide +kernel
theorem dX9_image_60 : decode cX9_image 60 = .ok (.getfield 44, 3) := by decide +kernel
theorem dX9_image_63 : decode cX9_image 63 = .ok (.iload_n 1, 1) := by decide +kernel
theorem dX9_image_64 : decode cX9_image 64 = .ok (.iconst 1, 1) := by decide +kernel
theorem dX9_image_65 : decode cX9_image 65 = .ok (.bastore, 1) := by decide +kernel
theorem dX9_image_66 : decode cX9_image 66 = .ok (.iconst 1, 1) := by decide +kernel
theorem dX9_image_67 : decode cX9_image 67 = .ok (.ireturn, 1) := by decide +kernel
theorem dX9_restore_0 : decode cX9_restore 0 = .ok (.aload_n 0, 1) := by decide +kernel
theorem dX9_restore_1 : decode cX9_restore 1 = .ok (.iconst 0, 1) := by decide +kernel
theorem dX9_restore_2 : decode cX9_restore 2 = .ok (.putfield 54, 3) := by decide +kernel
theorem dX9_restore_5 : decode cX9_restore 5 = .ok (.iload_n 1, 1) := by decide +kernel
theorem dX9_restore_6 : decode cX9_restore 6 = .ok (.i2l, 1) := by decide +kernel
theorem dX9_restore_7 : decode cX9_restore 7 = .ok (.lconst 0, 1) := by decide +kernel
theorem dX9_restore_8 : decode cX9_restore 8 = .ok (.lconst 1, 1) := by decide +kernel
theorem dX9_restore_9 : decode cX9_restore 9 = .ok (.invokestatic 64, 3) := by decide +kernel
theorem dX9_restore_12 : decode cX9_restore 12 = .ok (.ifCond .ne 6, 3) := by decide +kernel
theorem dX9_restore_15 : decode cX9_restore 15 = .ok (.ldc 74, 2) := by decide +kernel
theorem dX9_restore_17 : decode cX9_restore 17 = .ok (.ireturn, 1) := by decide +kernel
theorem dX9_restore_18 : decode cX9_restore 18 = .ok (.aload_n 0, 1) := by decide +kernel
theorem dX9_restore_19 : decode cX9_restore 19 = .ok (.getfield 44, 3) := by decide +kernel
theorem dX9_restore_22 : decode cX9_restore 22 = .ok (.iload_n 1, 1) := by decide +kernel
theorem dX9_restore_23 : decode cX9_restore 23 = .ok (.baload, 1) := by decide +kernel
theorem dX9_restore_24 : decode cX9_restore 24 = .ok (.ifCond .ne 6, 3) := by decide +kernel
theorem dX9_restore_27 : decode cX9_restore 27 = .ok (.ldc 206, 2) := by decide +kernel
theorem dX9_restore_29 : decode cX9_restore 29 = .ok (.ireturn, 1) := by decide +kernel
theorem dX9_restore_30 : decode cX9_restore 30 = .ok (.iconst 0, 1) := by decide +kernel
theorem dX9_restore_31 : decode cX9_restore 31 = .ok (.istore_n 2, 1) := by decide +kernel
theorem dX9_restore_32 : decode cX9_restore 32 = .ok (.iload_n 2, 1) := by decide +kernel
theorem dX9_restore_33 : decode cX9_restore 33 = .ok (.bipush 127, 2) := by decide +kernel
theorem dX9_restore_35 : decode cX9_restore 35 = .ok (.if_icmp .ge 26, 3) := by decide +kernel
theorem dX9_restore_38 : decode cX9_restore 38 = .ok (.aload_n 0, 1) := by decide +kernel
theorem dX9_restore_39 : decode cX9_restore 39 = .ok (.getfield 19, 3) := by decide +kernel
theorem dX9_restore_42 : decode cX9_restore 42 = .ok (.iload_n 2, 1) := by decide +kernel
theorem dX9_restore_43 : decode cX9_restore 43 = .ok (.aload_n 0, 1) := by decide +kernel
theorem dX9_restore_44 : decode cX9_restore 44 = .ok (.getfield 48, 3) := by decide +kernel
theorem dX9_restore_47 : decode cX9_restore 47 = .ok (.bipush 127, 2) := by decide +kernel
theorem dX9_restore_49 : decode cX9_restore 49 = .ok (.iload_n 1, 1) := by decide +kernel
theorem dX9_restore_50 : decode cX9_restore 50 = .ok (.imul, 1) := by decide +kernel
theorem dX9_restore_51 : decode cX9_restore 51 = .ok (.iload_n 2, 1) := by decide +kernel
theorem dX9_restore_52 : decode cX9_restore 52 = .ok (.iadd, 1) := by decide +kernel
theorem dX9_restore_53 : decode cX9_restore 53 = .ok (.iaload, 1) := by decide +kernel
theorem dX9_restore_54 : decode cX9_restore 54 = .ok (.iastore, 1) := by decide +kernel
theorem dX9_restore_55 : decode cX9_restore 55 = .ok (.iinc 2 1, 3) := by decide +kernel
theorem dX9_restore_58 : decode cX9_restore 58 = .ok (.goto (-26), 3) := by decide +kernel
theorem dX9_restore_61 : decode cX9_restore 61 = .ok (.aload_n 0, 1) := by decide +kernel
theorem dX9_restore_62 : decode cX9_restore 62 = .ok (.iconst 0, 1) := by decide +kernel
theorem dX9_restore_63 : decode cX9_restore 63 = .ok (.putfield 188, 3) := by decide +kernel
theorem dX9_restore_66 : decode cX9_restore 66 = .ok (.iconst 1, 1) := by decide +kernel
theorem dX9_restore_67 : decode cX9_restore 67 = .ok (.ireturn, 1) := by decide +kernel
theorem dX9_isOf_0 : decode cX9_isOf 0 = .ok (.iload_n 1, 1) := by decide +kernel
theorem dX9_isOf_1 : decode cX9_isOf 1 = .ok (.ifCond .eq 28, 3) := by decide +kernel
theorem dX9_isOf_4 : decode cX9_isOf 4 = .ok (.iload_n 0, 1) := by decide +kernel
theorem dX9_isOf_5 : decode cX9_isOf 5 = .ok (.iload_n 1, 1) := by decide +kernel
theorem dX9_isOf_6 : decode cX9_isOf 6 = .ok (.if_icmp .eq 23, 3) := by decide +kernel
theorem dX9_isOf_9 : decode cX9_isOf 9 = .ok (.iload_n 1, 1) := by decide +kernel
theorem dX9_isOf_10 : decode cX9_isOf 10 = .ok (.iconst 1, 1) := by decide +kernel
theorem dX9_isOf_11 : decode cX9_isOf 11 = .ok (.if_icmp .ne 8, 3) := by decide +kernel
theorem dX9_isOf_14 : decode cX9_isOf 14 = .ok (.iload_n 0, 1) := by decide +kernel
theorem dX9_isOf_15 : decode cX9_isOf 15 = .ok (.iconst 5, 1) := by decide +kernel
theorem dX9_isOf_16 : decode cX9_isOf 16 = .ok (.if_icmp .lt 13, 3) := by decide +kernel
theorem dX9_isOf_19 : decode cX9_isOf 19 = .ok (.iload_n 1, 1) := by decide +kernel
theorem dX9_isOf_20 : decode cX9_isOf 20 = .ok (.iconst 2, 1) := by decide +kernel
theorem dX9_isOf_21 : decode cX9_isOf 21 = .ok (.if_icmp .ne 12, 3) := by decide +kernel
theorem dX9_isOf_24 : decode cX9_isOf 24 = .ok (.iload_n 0, 1) := by decide +kernel
theorem dX9_isOf_25 : decode cX9_isOf 25 = .ok (.iconst 3, 1) := by decide +kernel
theorem dX9_isOf_26 : decode cX9_isOf 26 = .ok (.if_icmp .ne 7, 3) := by decide +kernel
theorem dX9_isOf_29 : decode cX9_isOf 29 = .ok (.iconst 1, 1) := by decide +kernel
theorem dX9_isOf_30 : decode cX9_isOf 30 = .ok (.goto 4, 3) := by decide +kernel
theorem dX9_isOf_33 : decode cX9_isOf 33 = .ok (.iconst 0, 1) := by decide +kernel
theorem dX9_isOf_34 : decode cX9_isOf 34 = .ok (.ireturn, 1) := by decide +kernel
theorem dX9_kind_0 : decode cX9_kind 0 = .ok (.aload_n 0, 1) := by decide +kernel
theorem dX9_kind_1 : decode cX9_kind 1 = .ok (.iconst 0, 1) := by decide +kernel
theorem dX9_kind_2 : decode cX9_kind 2 = .ok (.putfield 54, 3) := by decide +kernel
theorem dX9_kind_5 : decode cX9_kind 5 = .ok (.aload_n 0, 1) := by decide +kernel
theorem dX9_kind_6 : decode cX9_kind 6 = .ok (.iload_n 1, 1) := by decide +kernel
theorem dX9_kind_7 : decode cX9_kind 7 = .ok (.invokevirtual 200, 3) := by decide +kernel
theorem dX9_kind_10 : decode cX9_kind 10 = .ok (.ifCond .eq 12, 3) := by decide +kernel
theorem dX9_kind_13 : decode cX9_kind 13 = .ok (.aload_n 0, 1) := by decide +kernel
theorem dX9_kind_14 : decode cX9_kind 14 = .ok (.iload_n 1, 1) := by decide +kernel
theorem dX9_kind_15 : decode cX9_kind 15 = .ok (.iconst 0, 1) := by decide +kernel
theorem dX9_kind_16 : decode cX9_kind 16 = .ok (.invokevirtual 216, 3) := by decide +kernel
theorem dX9_kind_19 : decode cX9_kind 19 = .ok (.goto 5, 3) := by decide +kernel
theorem dX9_kind_22 : decode cX9_kind 22 = .ok (.ldc 74, 2) := by decide +kernel
theorem dX9_kind_24 : decode cX9_kind 24 = .ok (.ireturn, 1) := by decide +kernel
theorem dX9_as_0 : decode cX9_as 0 = .ok (.aload_n 0, 1) := by decide +kernel
theorem dX9_as_1 : decode cX9_as 1 = .ok (.iconst 0, 1) := by decide +kernel
theorem dX9_as_2 : decode cX9_as 2 = .ok (.putfield 54, 3) := by decide +kernel
theorem dX9_as_5 : decode cX9_as 5 = .ok (.aload_n 0, 1) := by decide +kernel
theorem dX9_as_6 : decode cX9_as 6 = .ok (.iload_n 1, 1) := by decide +kernel
theorem dX9_as_7 : decode cX9_as 7 = .ok (.invokevirtual 200, 3) := by decide +kernel
theorem dX9_as_10 : decode cX9_as 10 = .ok (.ifCond .eq 15, 3) := by decide +kernel
theorem dX9_as_13 : decode cX9_as 13 = .ok (.iload_n 2, 1) := by decide +kernel
theorem dX9_as_14 : decode cX9_as 14 = .ok (.i2l, 1) := by decide +kernel
theorem dX9_as_15 : decode cX9_as 15 = .ok (.lconst 0, 1) := by decide +kernel
theorem dX9_as_16 : decode cX9_as 16 = .ok (.ldc2_w 242, 3) := by decide +kernel
theorem dX9_as_19 : decode cX9_as 19 = .ok (.invokestatic 64, 3) := by decide +kernel
theorem dX9_as_22 : decode cX9_as 22 = .ok (.ifCond .ne 6, 3) := by decide +kernel
theorem dX9_as_25 : decode cX9_as 25 = .ok (.ldc 74, 2) := by decide +kernel
theorem dX9_as_27 : decode cX9_as 27 = .ok (.ireturn, 1) := by decide +kernel
theorem dX9_as_28 : decode cX9_as 28 = .ok (.aload_n 0, 1) := by decide +kernel
theorem dX9_as_29 : decode cX9_as 29 = .ok (.iconst 0, 1) := by decide +kernel
theorem dX9_as_30 : decode cX9_as 30 = .ok (.putfield 58, 3) := by decide +kernel
theorem dX9_as_33 : decode cX9_as 33 = .ok (.aload_n 0, 1) := by decide +kernel
theorem dX9_as_34 : decode cX9_as 34 = .ok (.iload_n 1, 1) := by decide +kernel
theorem dX9_as_35 : decode cX9_as 35 = .ok (.iconst 0, 1) := by decide +kernel
theorem dX9_as_36 : decode cX9_as 36 = .ok (.invokevirtual 216, 3) := by decide +kernel
theorem dX9_as_39 : decode cX9_as 39 = .ok (.iload_n 2, 1) := by decide +kernel
theorem dX9_as_40 : decode cX9_as 40 = .ok (.invokestatic 279, 3) := by decide +kernel
theorem dX9_as_43 : decode cX9_as 43 = .ok (.ifCond .eq 7, 3) := by decide +kernel
theorem dX9_as_46 : decode cX9_as 46 = .ok (.iload_n 1, 1) := by decide +kernel
theorem dX9_as_47 : decode cX9_as 47 = .ok (.goto 8, 3) := by decide +kernel
theorem dX9_as_50 : decode cX9_as 50 = .ok (.aload_n 0, 1) := by decide +kernel
theorem dX9_as_51 : decode cX9_as 51 = .ok (.iconst 3, 1) := by decide +kernel
theorem dX9_as_52 : decode cX9_as 52 = .ok (.invokevirtual 75, 3) := by decide +kernel
theorem dX9_as_55 : decode cX9_as 55 = .ok (.ireturn, 1) := by decide +kernel
theorem dX9_began_0 : decode cX9_began 0 = .ok (.aload_n 0, 1) := by decide +kernel
theorem dX9_began_1 : decode cX9_began 1 = .ok (.getfield 283, 3) := by decide +kernel
theorem dX9_began_4 : decode cX9_began 4 = .ok (.bipush 16, 2) := by decide +kernel
theorem dX9_began_6 : decode cX9_began 6 = .ok (.if_icmp .ge 23, 3) := by decide +kernel
theorem dX9_began_9 : decode cX9_began 9 = .ok (.aload_n 0, 1) := by decide +kernel
theorem dX9_began_10 : decode cX9_began 10 = .ok (.getfield 51, 3) := by decide +kernel
theorem dX9_began_13 : decode cX9_began 13 = .ok (.aload_n 0, 1) := by decide +kernel
theorem dX9_began_14 : decode cX9_began 14 = .ok (.getfield 283, 3) := by decide +kernel
theorem dX9_began_17 : decode cX9_began 17 = .ok (.iload_n 1, 1) := by decide +kernel
theorem dX9_began_18 : decode cX9_began 18 = .ok (.iastore, 1) := by decide +kernel
theorem dX9_began_19 : decode cX9_began 19 = .ok (.aload_n 0, 1) := by decide +kernel
theorem dX9_began_20 : decode cX9_began 20 = .ok (.dup, 1) := by decide +kernel
theorem dX9_began_21 : decode cX9_began 21 = .ok (.getfield 283, 3) := by decide +kernel
theorem dX9_began_24 : decode cX9_began 24 = .ok (.iconst 1, 1) := by decide +kernel
theorem dX9_began_25 : decode cX9_began 25 = .ok (.iadd, 1) := by decide +kernel
theorem dX9_began_26 : decode cX9_began 26 = .ok (.putfield 283, 3) := by decide +kernel
theorem dX9_began_29 : decode cX9_began 29 = .ok (.return_, 1) := by decide +kernel
theorem dX9_plainSize_0 : decode cX9_plainSize 0 = .ok (.aload_n 0, 1) := by decide +kernel
theorem dX9_plainSize_1 : decode cX9_plainSize 1 = .ok (.bipush 10, 2) := by decide +kernel
theorem dX9_plainSize_3 : decode cX9_plainSize 3 = .ok (.invokevirtual 286, 3) := by decide +kernel
theorem dX9_plainSize_6 : decode cX9_plainSize 6 = .ok (.aload_n 0, 1) := by decide +kernel
theorem dX9_plainSize_7 : decode cX9_plainSize 7 = .ok (.iload_n 1, 1) := by decide +kernel
theorem dX9_plainSize_8 : decode cX9_plainSize 8 = .ok (.iconst 1, 1) := by decide +kernel
theorem dX9_plainSize_9 : decode cX9_plainSize 9 = .ok (.invokevirtual 216, 3) := by decide +kernel
theorem dX9_plainSize_12 : decode cX9_plainSize 12 = .ok (.ireturn, 1) := by decide +kernel
theorem dX9_slateSize_0 : decode cX9_slateSize 0 = .ok (.aload_n 0, 1) := by decide +kernel
theorem dX9_slateSize_1 : decode cX9_slateSize 1 = .ok (.bipush 13, 2) := by decide +kernel
theorem dX9_slateSize_3 : decode cX9_slateSize 3 = .ok (.invokevirtual 286, 3) := by decide +kernel
theorem dX9_slateSize_6 : decode cX9_slateSize 6 = .ok (.aload_n 0, 1) := by decide +kernel
theorem dX9_slateSize_7 : decode cX9_slateSize 7 = .ok (.iload_n 1, 1) := by decide +kernel
theorem dX9_slateSize_8 : decode cX9_slateSize 8 = .ok (.invokevirtual 289, 3) := by decide +kernel
theorem dX9_slateSize_11 : decode cX9_slateSize 11 = .ok (.bipush 100, 2) := by decide +kernel
theorem dX9_slateSize_13 : decode cX9_slateSize 13 = .ok (.isub, 1) := by decide +kernel
theorem dX9_slateSize_14 : decode cX9_slateSize 14 = .ok (.ireturn, 1) := by decide +kernel
theorem dX9_markOf_0 : decode cX9_markOf 0 = .ok (.aload_n 0, 1) := by decide +kernel
theorem dX9_markOf_1 : decode cX9_markOf 1 = .ok (.iload_n 1, 1) := by decide +kernel
theorem dX9_markOf_2 : decode cX9_markOf 2 = .ok (.iconst 0, 1) := by decide +kernel
theorem dX9_markOf_3 : decode cX9_markOf 3 = .ok (.invokevirtual 216, 3) := by decide +kernel
theorem dX9_markOf_6 : decode cX9_markOf 6 = .ok (.istore_n 2, 1) := by decide +kernel
theorem dX9_markOf_7 : decode cX9_markOf 7 = .ok (.iload_n 2, 1) := by decide +kernel
theorem dX9_markOf_8 : decode cX9_markOf 8 = .ok (.iconst 5, 1) := by decide +kernel
theorem dX9_markOf_9 : decode cX9_markOf 9 = .ok (.if_icmp .ne 23, 3) := by decide +kernel
theorem dX9_markOf_12 : decode cX9_markOf 12 = .ok (.aload_n 0, 1) := by decide +kernel
theorem dX9_markOf_13 : decode cX9_markOf 13 = .ok (.bipush 23, 2) := by decide +kernel
theorem dX9_markOf_15 : decode cX9_markOf 15 = .ok (.invokevirtual 286, 3) := by decide +kernel
theorem dX9_markOf_18 : decode cX9_markOf 18 = .ok (.aload_n 0, 1) := by decide +kernel
theorem dX9_markOf_19 : decode cX9_markOf 19 = .ok (.bipush 20, 2) := by decide +kernel
theorem dX9_markOf_21 : decode cX9_markOf 21 = .ok (.invokevirtual 286, 3) := by decide +kernel
theorem dX9_markOf_24 : decode cX9_markOf 24 = .ok (.iload_n 1, 1) := by decide +kernel
theorem dX9_markOf_25 : decode cX9_markOf 25 = .ok (.aload_n 0, 1) := by decide +kernel
theorem dX9_markOf_26 : decode cX9_markOf 26 = .ok (.iload_n 1, 1) := by decide +kernel
theorem dX9_markOf_27 : decode cX9_markOf 27 = .ok (.invokevirtual 292, 3) := by decide +kernel
theorem dX9_markOf_30 : decode cX9_markOf 30 = .ok (.isub, 1) := by decide +kernel
theorem dX9_markOf_31 : decode cX9_markOf 31 = .ok (.ireturn, 1) := by decide +kernel
theorem dX9_markOf_32 : decode cX9_markOf 32 = .ok (.iload_n 2, 1) := by decide +kernel
theorem dX9_markOf_33 : decode cX9_markOf 33 = .ok (.iconst 3, 1) := by decide +kernel
theorem dX9_markOf_34 : decode cX9_markOf 34 = .ok (.if_icmp .ne 9, 3) := by decide +kernel
theorem dX9_markOf_37 : decode cX9_markOf 37 = .ok (.aload_n 0, 1) := by decide +kernel
theorem dX9_markOf_38 : decode cX9_markOf 38 = .ok (.bipush 24, 2) := by decide +kernel
theorem dX9_markOf_40 : decode cX9_markOf 40 = .ok (.invokevirtual 286, 3) := by decide +kernel
theorem dX9_markOf_43 : decode cX9_markOf 43 = .ok (.iload_n 2, 1) := by decide +kernel
theorem dX9_markOf_44 : decode cX9_markOf 44 = .ok (.iconst 2, 1) := by decide +kernel
theorem dX9_markOf_45 : decode cX9_markOf 45 = .ok (.if_icmp .eq 8, 3) := by decide +kernel
theorem dX9_markOf_48 : decode cX9_markOf 48 = .ok (.iload_n 2, 1) := by decide +kernel
theorem dX9_markOf_49 : decode cX9_markOf 49 = .ok (.iconst 3, 1) := by decide +kernel
theorem dX9_markOf_50 : decode cX9_markOf 50 = .ok (.if_icmp .ne 9, 3) := by decide +kernel
theorem dX9_markOf_53 : decode cX9_markOf 53 = .ok (.aload_n 0, 1) := by decide +kernel
theorem dX9_markOf_54 : decode cX9_markOf 54 = .ok (.bipush 22, 2) := by decide +kernel
theorem dX9_markOf_56 : decode cX9_markOf 56 = .ok (.invokevirtual 286, 3) := by decide +kernel
theorem dX9_markOf_59 : decode cX9_markOf 59 = .ok (.aload_n 0, 1) := by decide +kernel
theorem dX9_markOf_60 : decode cX9_markOf 60 = .ok (.bipush 21, 2) := by decide +kernel
theorem dX9_markOf_62 : decode cX9_markOf 62 = .ok (.invokevirtual 286, 3) := by decide +kernel
theorem dX9_markOf_65 : decode cX9_markOf 65 = .ok (.aload_n 0, 1) := by decide +kernel
theorem dX9_markOf_66 : decode cX9_markOf 66 = .ok (.bipush 20, 2) := by decide +kernel
theorem dX9_markOf_68 : decode cX9_markOf 68 = .ok (.invokevirtual 286, 3) := by decide +kernel
theorem dX9_markOf_71 : decode cX9_markOf 71 = .ok (.iload_n 1, 1) := by decide +kernel
theorem dX9_markOf_72 : decode cX9_markOf 72 = .ok (.aload_n 0, 1) := by decide +kernel
theorem dX9_markOf_73 : decode cX9_markOf 73 = .ok (.iload_n 1, 1) := by decide +kernel
theorem dX9_markOf_74 : decode cX9_markOf 74 = .ok (.iconst 2, 1) := by decide +kernel
theorem dX9_markOf_75 : decode cX9_markOf 75 = .ok (.invokevirtual 216, 3) := by decide +kernel
theorem dX9_markOf_78 : decode cX9_markOf 78 = .ok (.iadd, 1) := by decide +kernel
theorem dX9_markOf_79 : decode cX9_markOf 79 = .ok (.iload_n 2, 1) := by decide +kernel
theorem dX9_markOf_80 : decode cX9_markOf 80 = .ok (.iconst 2, 1) := by decide +kernel
theorem dX9_markOf_81 : decode cX9_markOf 81 = .ok (.if_icmp .eq 8, 3) := by decide +kernel
theorem dX9_markOf_84 : decode cX9_markOf 84 = .ok (.iload_n 2, 1) := by decide +kernel
theorem dX9_markOf_85 : decode cX9_markOf 85 = .ok (.iconst 3, 1) := by decide +kernel
theorem dX9_markOf_86 : decode cX9_markOf 86 = .ok (.if_icmp .ne 9, 3) := by decide +kernel
theorem dX9_markOf_89 : decode cX9_markOf 89 = .ok (.sipush 1000, 3) := by decide +kernel
theorem dX9_markOf_92 : decode cX9_markOf 92 = .ok (.goto 4, 3) := by decide +kernel
theorem dX9_markOf_95 : decode cX9_markOf 95 = .ok (.iconst 0, 1) := by decide +kernel
theorem dX9_markOf_96 : decode cX9_markOf 96 = .ok (.isub, 1) := by decide +kernel
theorem dX9_markOf_97 : decode cX9_markOf 97 = .ok (.istore_n 3, 1) := by decide +kernel
theorem dX9_markOf_98 : decode cX9_markOf 98 = .ok (.iload_n 2, 1) := by decide +kernel
theorem dX9_markOf_99 : decode cX9_markOf 99 = .ok (.iconst 3, 1) := by decide +kernel
theorem dX9_markOf_100 : decode cX9_markOf 100 = .ok (.if_icmp .ne 9, 3) := by decide +kernel
theorem dX9_markOf_103 : decode cX9_markOf 103 = .ok (.iconst 2, 1) := by decide +kernel
theorem dX9_markOf_104 : decode cX9_markOf 104 = .ok (.iload_n 3, 1) := by decide +kernel
theorem dX9_markOf_105 : decode cX9_markOf 105 = .ok (.imul, 1) := by decide +kernel
theorem dX9_markOf_106 : decode cX9_markOf 106 = .ok (.goto 4, 3) := by decide +kernel
theorem dX9_markOf_109 : decode cX9_markOf 109 = .ok (.iload_n 3, 1) := by decide +kernel
theorem dX9_markOf_110 : decode cX9_markOf 110 = .ok (.ireturn, 1) := by decide +kernel
theorem dX9_sizeOf_0 : decode cX9_sizeOf 0 = .ok (.aload_n 0, 1) := by decide +kernel
theorem dX9_sizeOf_1 : decode cX9_sizeOf 1 = .ok (.iload_n 1, 1) := by decide +kernel
theorem dX9_sizeOf_2 : decode cX9_sizeOf 2 = .ok (.iconst 0, 1) := by decide +kernel
theorem dX9_sizeOf_3 : decode cX9_sizeOf 3 = .ok (.invokevirtual 216, 3) := by decide +kernel
theorem dX9_sizeOf_6 : decode cX9_sizeOf 6 = .ok (.istore_n 2, 1) := by decide +kernel
theorem dX9_sizeOf_7 : decode cX9_sizeOf 7 = .ok (.iload_n 2, 1) := by decide +kernel
theorem dX9_sizeOf_8 : decode cX9_sizeOf 8 = .ok (.iconst 5, 1) := by decide +kernel
theorem dX9_sizeOf_9 : decode cX9_sizeOf 9 = .ok (.if_icmp .ne 9, 3) := by decide +kernel
theorem dX9_sizeOf_12 : decode cX9_sizeOf 12 = .ok (.aload_n 0, 1) := by decide +kernel
theorem dX9_sizeOf_13 : decode cX9_sizeOf 13 = .ok (.iload_n 1, 1) := by decide +kernel
theorem dX9_sizeOf_14 : decode cX9_sizeOf 14 = .ok (.invokevirtual 292, 3) := by decide +kernel
theorem dX9_sizeOf_17 : decode cX9_sizeOf 17 = .ok (.ireturn, 1) := by decide +kernel
theorem dX9_sizeOf_18 : decode cX9_sizeOf 18 = .ok (.iload_n 2, 1) := by decide +kernel
theorem dX9_sizeOf_19 : decode cX9_sizeOf 19 = .ok (.iconst 3, 1) := by decide +kernel
theorem dX9_sizeOf_20 : decode cX9_sizeOf 20 = .ok (.if_icmp .eq 8, 3) := by decide +kernel
theorem dX9_sizeOf_23 : decode cX9_sizeOf 23 = .ok (.iload_n 2, 1) := by decide +kernel
theorem dX9_sizeOf_24 : decode cX9_sizeOf 24 = .ok (.iconst 4, 1) := by decide +kernel
theorem dX9_sizeOf_25 : decode cX9_sizeOf 25 = .ok (.if_icmp .ne 19, 3) := by decide +kernel
theorem dX9_sizeOf_28 : decode cX9_sizeOf 28 = .ok (.aload_n 0, 1) := by decide +kernel
theorem dX9_sizeOf_29 : decode cX9_sizeOf 29 = .ok (.iload_n 2, 1) := by decide +kernel
theorem dX9_sizeOf_30 : decode cX9_sizeOf 30 = .ok (.iconst 3, 1) := by decide +kernel
theorem dX9_sizeOf_31 : decode cX9_sizeOf 31 = .ok (.if_icmp .ne 8, 3) := by decide +kernel
theorem dX9_sizeOf_34 : decode cX9_sizeOf 34 = .ok (.bipush 12, 2) := by decide +kernel
theorem dX9_sizeOf_36 : decode cX9_sizeOf 36 = .ok (.goto 5, 3) := by decide +kernel
theorem dX9_sizeOf_39 : decode cX9_sizeOf 39 = .ok (.bipush 14, 2) := by decide +kernel
theorem dX9_sizeOf_41 : decode cX9_sizeOf 41 = .ok (.invokevirtual 286, 3) := by decide +kernel
theorem dX9_sizeOf_44 : decode cX9_sizeOf 44 = .ok (.aload_n 0, 1) := by decide +kernel
theorem dX9_sizeOf_45 : decode cX9_sizeOf 45 = .ok (.bipush 11, 2) := by decide +kernel
theorem dX9_sizeOf_47 : decode cX9_sizeOf 47 = .ok (.invokevirtual 286, 3) := by decide +kernel
theorem dX9_sizeOf_50 : decode cX9_sizeOf 50 = .ok (.aload_n 0, 1) := by decide +kernel
theorem dX9_sizeOf_51 : decode cX9_sizeOf 51 = .ok (.iload_n 1, 1) := by decide +kernel
theorem dX9_sizeOf_52 : decode cX9_sizeOf 52 = .ok (.invokevirtual 289, 3) := by decide +kernel
theorem dX9_sizeOf_55 : decode cX9_sizeOf 55 = .ok (.istore_n 3, 1) := by decide +kernel
theorem dX9_sizeOf_56 : decode cX9_sizeOf 56 = .ok (.iload_n 3, 1) := by decide +kernel
theorem dX9_sizeOf_57 : decode cX9_sizeOf 57 = .ok (.aload_n 0, 1) := by decide +kernel
theorem dX9_sizeOf_58 : decode cX9_sizeOf 58 = .ok (.iload_n 1, 1) := by decide +kernel
theorem dX9_sizeOf_59 : decode cX9_sizeOf 59 = .ok (.invokevirtual 295, 3) := by decide +kernel
theorem dX9_sizeOf_62 : decode cX9_sizeOf 62 = .ok (.iadd, 1) := by decide +kernel
theorem dX9_sizeOf_63 : decode cX9_sizeOf 63 = .ok (.istore_n 3, 1) := by decide +kernel
theorem dX9_sizeOf_64 : decode cX9_sizeOf 64 = .ok (.iload_n 2, 1) := by decide +kernel
theorem dX9_sizeOf_65 : decode cX9_sizeOf 65 = .ok (.iconst 3, 1) := by decide +kernel
theorem dX9_sizeOf_66 : decode cX9_sizeOf 66 = .ok (.if_icmp .ne 8, 3) := by decide +kernel
theorem dX9_sizeOf_69 : decode cX9_sizeOf 69 = .ok (.iload_n 3, 1) := by decide +kernel
theorem dX9_sizeOf_70 : decode cX9_sizeOf 70 = .ok (.ineg, 1) := by decide +kernel
theorem dX9_sizeOf_71 : decode cX9_sizeOf 71 = .ok (.goto 15, 3) := by decide +kernel
theorem dX9_sizeOf_74 : decode cX9_sizeOf 74 = .ok (.iload_n 2, 1) := by decide +kernel
theorem dX9_sizeOf_75 : decode cX9_sizeOf 75 = .ok (.iconst 4, 1) := by decide +kernel
theorem dX9_sizeOf_76 : decode cX9_sizeOf 76 = .ok (.if_icmp .ne 9, 3) := by decide +kernel
theorem dX9_sizeOf_79 : decode cX9_sizeOf 79 = .ok (.iconst 2, 1) := by decide +kernel
theorem dX9_sizeOf_80 : decode cX9_sizeOf 80 = .ok (.iload_n 3, 1) := by decide +kernel
theorem dX9_sizeOf_81 : decode cX9_sizeOf 81 = .ok (.imul, 1) := by decide +kernel
theorem dX9_sizeOf_82 : decode cX9_sizeOf 82 = .ok (.goto 4, 3) := by decide +kernel
theorem dX9_sizeOf_85 : decode cX9_sizeOf 85 = .ok (.iload_n 3, 1) := by decide +kernel
theorem dX9_sizeOf_86 : decode cX9_sizeOf 86 = .ok (.ireturn, 1) := by decide +kernel
theorem dX9_ask_0 : decode cX9_ask 0 = .ok (.aload_n 0, 1) := by decide +kernel
theorem dX9_ask_1 : decode cX9_ask 1 = .ok (.iconst 0, 1) := by decide +kernel
theorem dX9_ask_2 : decode cX9_ask 2 = .ok (.putfield 54, 3) := by decide +kernel
theorem dX9_ask_5 : decode cX9_ask 5 = .ok (.aload_n 0, 1) := by decide +kernel
theorem dX9_ask_6 : decode cX9_ask 6 = .ok (.iload_n 1, 1) := by decide +kernel
theorem dX9_ask_7 : decode cX9_ask 7 = .ok (.invokevirtual 200, 3) := by decide +kernel
theorem dX9_ask_10 : decode cX9_ask 10 = .ok (.ifCond .eq 13, 3) := by decide +kernel
theorem dX9_ask_13 : decode cX9_ask 13 = .ok (.iload_n 2, 1) := by decide +kernel
theorem dX9_ask_14 : decode cX9_ask 14 = .ok (.i2l, 1) := by decide +kernel
theorem dX9_ask_15 : decode cX9_ask 15 = .ok (.lconst 0, 1) := by decide +kernel
theorem dX9_ask_16 : decode cX9_ask 16 = .ok (.lconst 1, 1) := by decide +kernel
theorem dX9_ask_17 : decode cX9_ask 17 = .ok (.invokestatic 64, 3) := by decide +kernel
theorem dX9_ask_20 : decode cX9_ask 20 = .ok (.ifCond .ne 6, 3) := by decide +kernel
theorem dX9_ask_23 : decode cX9_ask 23 = .ok (.ldc 74, 2) := by decide +kernel
theorem dX9_ask_25 : decode cX9_ask 25 = .ok (.ireturn, 1) := by decide +kernel
theorem dX9_ask_26 : decode cX9_ask 26 = .ok (.aload_n 0, 1) := by decide +kernel
theorem dX9_ask_27 : decode cX9_ask 27 = .ok (.iconst 0, 1) := by decide +kernel
theorem dX9_ask_28 : decode cX9_ask 28 = .ok (.putfield 283, 3) := by decide +kernel
theorem dX9_ask_31 : decode cX9_ask 31 = .ok (.iload_n 2, 1) := by decide +kernel
theorem dX9_ask_32 : decode cX9_ask 32 = .ok (.ifCond .ne 11, 3) := by decide +kernel
theorem dX9_ask_35 : decode cX9_ask 35 = .ok (.aload_n 0, 1) := by decide +kernel
theorem dX9_ask_36 : decode cX9_ask 36 = .ok (.iload_n 1, 1) := by decide +kernel
theorem dX9_ask_37 : decode cX9_ask 37 = .ok (.invokevirtual 298, 3) := by decide +kernel
theorem dX9_ask_40 : decode cX9_ask 40 = .ok (.goto 8, 3) := by decide +kernel
theorem dX9_ask_43 : decode cX9_ask 43 = .ok (.aload_n 0, 1) := by decide +kernel
theorem dX9_ask_44 : decode cX9_ask 44 = .ok (.iload_n 1, 1) := by decide +kernel
theorem dX9_ask_45 : decode cX9_ask 45 = .ok (.invokevirtual 295, 3) := by decide +kernel
theorem dX9_ask_48 : decode cX9_ask 48 = .ok (.ireturn, 1) := by decide +kernel
theorem dX9_trace_0 : decode cX9_trace 0 = .ok (.aload_n 0, 1) := by decide +kernel
theorem dX9_trace_1 : decode cX9_trace 1 = .ok (.iconst 0, 1) := by decide +kernel
theorem dX9_trace_2 : decode cX9_trace 2 = .ok (.putfield 54, 3) := by decide +kernel
theorem dX9_trace_5 : decode cX9_trace 5 = .ok (.iload_n 1, 1) := by decide +kernel
theorem dX9_trace_6 : decode cX9_trace 6 = .ok (.i2l, 1) := by decide +kernel
theorem dX9_trace_7 : decode cX9_trace 7 = .ok (.lconst 0, 1) := by decide +kernel
theorem dX9_trace_8 : decode cX9_trace 8 = .ok (.aload_n 0, 1) := by decide +kernel
theorem dX9_trace_9 : decode cX9_trace 9 = .ok (.getfield 283, 3) := by decide +kernel
theorem dX9_trace_12 : decode cX9_trace 12 = .ok (.iconst 1, 1) := by decide +kernel
theorem dX9_trace_13 : decode cX9_trace 13 = .ok (.isub, 1) := by decide +kernel
theorem dX9_trace_14 : decode cX9_trace 14 = .ok (.i2l, 1) := by decide +kernel
theorem dX9_trace_15 : decode cX9_trace 15 = .ok (.invokestatic 64, 3) := by decide +kernel
theorem dX9_trace_18 : decode cX9_trace 18 = .ok (.ifCond .eq 12, 3) := by decide +kernel
theorem dX9_trace_21 : decode cX9_trace 21 = .ok (.aload_n 0, 1) := by decide +kernel
theorem dX9_trace_22 : decode cX9_trace 22 = .ok (.getfield 51, 3) := by decide +kernel
theorem dX9_trace_25 : decode cX9_trace 25 = .ok (.iload_n 1, 1) := by decide +kernel
theorem dX9_trace_26 : decode cX9_trace 26 = .ok (.iaload, 1) := by decide +kernel
theorem dX9_trace_27 : decode cX9_trace 27 = .ok (.goto 5, 3) := by decide +kernel
theorem dX9_trace_30 : decode cX9_trace 30 = .ok (.ldc 90, 2) := by decide +kernel
theorem dX9_trace_32 : decode cX9_trace 32 = .ok (.ireturn, 1) := by decide +kernel
theorem dX9_count_0 : decode cX9_count 0 = .ok (.aload_n 0, 1) := by decide +kernel
theorem dX9_count_1 : decode cX9_count 1 = .ok (.iconst 0, 1) := by decide +kernel
theorem dX9_count_2 : decode cX9_count 2 = .ok (.putfield 54, 3) := by decide +kernel
theorem dX9_count_5 : decode cX9_count 5 = .ok (.iconst 0, 1) := by decide +kernel
theorem dX9_count_6 : decode cX9_count 6 = .ok (.istore_n 2, 1) := by decide +kernel
theorem dX9_count_7 : decode cX9_count 7 = .ok (.iload_n 1, 1) := by decide +kernel
theorem dX9_count_8 : decode cX9_count 8 = .ok (.tableswitch 134 0 6 #[44, 77, 77, 77, 86, 91, 129], 44) := by decide +kernel
theorem dX9_count_52 : decode cX9_count 52 = .ok (.iconst 0, 1) := by decide +kernel
theorem dX9_count_53 : decode cX9_count 53 = .ok (.istore_n 3, 1) := by decide +kernel
theorem dX9_count_54 : decode cX9_count 54 = .ok (.iload_n 3, 1) := by decide +kernel
theorem dX9_count_55 : decode cX9_count 55 = .ok (.bipush 8, 2) := by decide +kernel
theorem dX9_count_57 : decode cX9_count 57 = .ok (.if_icmp .ge 26, 3) := by decide +kernel
theorem dX9_count_60 : decode cX9_count 60 = .ok (.iload_n 2, 1) := by decide +kernel
theorem dX9_count_61 : decode cX9_count 61 = .ok (.aload_n 0, 1) := by decide +kernel
theorem dX9_count_62 : decode cX9_count 62 = .ok (.getfield 7, 3) := by decide +kernel
theorem dX9_count_65 : decode cX9_count 65 = .ok (.iload_n 3, 1) := by decide +kernel
theorem dX9_count_66 : decode cX9_count 66 = .ok (.iaload, 1) := by decide +kernel
theorem dX9_count_67 : decode cX9_count 67 = .ok (.ifCond .lt 7, 3) := by decide +kernel
theorem dX9_count_70 : decode cX9_count 70 = .ok (.iconst 1, 1) := by decide +kernel
theorem dX9_count_71 : decode cX9_count 71 = .ok (.goto 4, 3) := by decide +kernel
theorem dX9_count_74 : decode cX9_count 74 = .ok (.iconst 0, 1) := by decide +kernel
theorem dX9_count_75 : decode cX9_count 75 = .ok (.iadd, 1) := by decide +kernel
theorem dX9_count_76 : decode cX9_count 76 = .ok (.istore_n 2, 1) := by decide +kernel
theorem dX9_count_77 : decode cX9_count 77 = .ok (.iinc 3 1, 3) := by decide +kernel
theorem dX9_count_80 : decode cX9_count 80 = .ok (.goto (-26), 3) := by decide +kernel
theorem dX9_count_83 : decode cX9_count 83 = .ok (.iload_n 2, 1) := by decide +kernel
theorem dX9_count_84 : decode cX9_count 84 = .ok (.ireturn, 1) := by decide +kernel
theorem dX9_count_85 : decode cX9_count 85 = .ok (.aload_n 0, 1) := by decide +kernel
theorem dX9_count_86 : decode cX9_count 86 = .ok (.getfield 19, 3) := by decide +kernel
theorem dX9_count_89 : decode cX9_count 89 = .ok (.iload_n 1, 1) := by decide +kernel
theorem dX9_count_90 : decode cX9_count 90 = .ok (.iconst 1, 1) := by decide +kernel
theorem dX9_count_91 : decode cX9_count 91 = .ok (.isub, 1) := by decide +kernel
theorem dX9_count_92 : decode cX9_count 92 = .ok (.iaload, 1) := by decide +kernel
theorem dX9_count_93 : decode cX9_count 93 = .ok (.ireturn, 1) := by decide +kernel
theorem dX9_count_94 : decode cX9_count 94 = .ok (.aload_n 0, 1) := by decide +kernel
theorem dX9_count_95 : decode cX9_count 95 = .ok (.getfield 188, 3) := by decide +kernel
theorem dX9_count_98 : decode cX9_count 98 = .ok (.ireturn, 1) := by decide +kernel
theorem dX9_count_99 : decode cX9_count 99 = .ok (.iconst 0, 1) := by decide +kernel
theorem dX9_count_100 : decode cX9_count 100 = .ok (.istore_n 3, 1) := by decide +kernel
theorem dX9_count_101 : decode cX9_count 101 = .ok (.iload_n 3, 1) := by decide +kernel
theorem dX9_count_102 : decode cX9_count 102 = .ok (.aload_n 0, 1) := by decide +kernel
theorem dX9_count_103 : decode cX9_count 103 = .ok (.getfield 19, 3) := by decide +kernel
theorem dX9_count_106 : decode cX9_count 106 = .ok (.iconst 1, 1) := by decide +kernel
theorem dX9_count_107 : decode cX9_count 107 = .ok (.iaload, 1) := by decide +kernel
theorem dX9_count_108 : decode cX9_count 108 = .ok (.if_icmp .ge 27, 3) := by decide +kernel
theorem dX9_count_111 : decode cX9_count 111 = .ok (.iload_n 2, 1) := by decide +kernel
theorem dX9_count_112 : decode cX9_count 112 = .ok (.aload_n 0, 1) := by decide +kernel
theorem dX9_count_113 : decode cX9_count 113 = .ok (.iload_n 3, 1) := by decide +kernel
theorem dX9_count_114 : decode cX9_count 114 = .ok (.invokevirtual 203, 3) := by decide +kernel
theorem dX9_count_117 : decode cX9_count 117 = .ok (.ldc 90, 2) := by decide +kernel
theorem dX9_count_119 : decode cX9_count 119 = .ok (.if_icmp .ne 7, 3) := by decide +kernel
theorem dX9_count_122 : decode cX9_count 122 = .ok (.iconst 1, 1) := by decide +kernel
theorem dX9_count_123 : decode cX9_count 123 = .ok (.goto 4, 3) := by decide +kernel
theorem dX9_count_126 : decode cX9_count 126 = .ok (.iconst 0, 1) := by decide +kernel
theorem dX9_count_127 : decode cX9_count 127 = .ok (.iadd, 1) := by decide +kernel
theorem dX9_count_128 : decode cX9_count 128 = .ok (.istore_n 2, 1) := by decide +kernel
theorem dX9_count_129 : decode cX9_count 129 = .ok (.iinc 3 1, 3) := by decide +kernel
theorem dX9_count_132 : decode cX9_count 132 = .ok (.goto (-31), 3) := by decide +kernel
theorem dX9_count_135 : decode cX9_count 135 = .ok (.iload_n 2, 1) := by decide +kernel
theorem dX9_count_136 : decode cX9_count 136 = .ok (.ireturn, 1) := by decide +kernel
theorem dX9_count_137 : decode cX9_count 137 = .ok (.aload_n 0, 1) := by decide +kernel
theorem dX9_count_138 : decode cX9_count 138 = .ok (.getfield 81, 3) := by decide +kernel
theorem dX9_count_141 : decode cX9_count 141 = .ok (.ireturn, 1) := by decide +kernel
theorem dX9_count_142 : decode cX9_count 142 = .ok (.ldc 74, 2) := by decide +kernel
theorem dX9_count_144 : decode cX9_count 144 = .ok (.ireturn, 1) := by decide +kernel
theorem dX9_status_0 : decode cX9_status 0 = .ok (.aload_n 0, 1) := by decide +kernel
theorem dX9_status_1 : decode cX9_status 1 = .ok (.iconst 0, 1) := by decide +kernel
theorem dX9_status_2 : decode cX9_status 2 = .ok (.putfield 54, 3) := by decide +kernel
theorem dX9_status_5 : decode cX9_status 5 = .ok (.aload_n 0, 1) := by decide +kernel
theorem dX9_status_6 : decode cX9_status 6 = .ok (.getfield 58, 3) := by decide +kernel
theorem dX9_status_9 : decode cX9_status 9 = .ok (.ireturn, 1) := by decide +kernel
theorem dJ6_bitCount_0f7a4_0 : decode cJ6_bitCount_0f7a4 0 = .ok (.iload_n 0, 1) := by decide +kernel
theorem dJ6_bitCount_0f7a4_1 : decode cJ6_bitCount_0f7a4 1 = .ok (.iload_n 0, 1) := by decide +kernel
theorem dJ6_bitCount_0f7a4_2 : decode cJ6_bitCount_0f7a4 2 = .ok (.iconst 1, 1) := by decide +kernel
theorem dJ6_bitCount_0f7a4_3 : decode cJ6_bitCount_0f7a4 3 = .ok (.iushr, 1) := by decide +kernel
theorem dJ6_bitCount_0f7a4_4 : decode cJ6_bitCount_0f7a4 4 = .ok (.ldc_w 265, 3) := by decide +kernel
theorem dJ6_bitCount_0f7a4_7 : decode cJ6_bitCount_0f7a4 7 = .ok (.iand, 1) := by decide +kernel
theorem dJ6_bitCount_0f7a4_8 : decode cJ6_bitCount_0f7a4 8 = .ok (.isub, 1) := by decide +kernel
theorem dJ6_bitCount_0f7a4_9 : decode cJ6_bitCount_0f7a4 9 = .ok (.istore_n 0, 1) := by decide +kernel
theorem dJ6_bitCount_0f7a4_10 : decode cJ6_bitCount_0f7a4 10 = .ok (.iload_n 0, 1) := by decide +kernel
theorem dJ6_bitCount_0f7a4_11 : decode cJ6_bitCount_0f7a4 11 = .ok (.ldc_w 266, 3) := by decide +kernel
theorem dJ6_bitCount_0f7a4_14 : decode cJ6_bitCount_0f7a4 14 = .ok (.iand, 1) := by decide +kernel
theorem dJ6_bitCount_0f7a4_15 : decode cJ6_bitCount_0f7a4 15 = .ok (.iload_n 0, 1) := by decide +kernel
theorem dJ6_bitCount_0f7a4_16 : decode cJ6_bitCount_0f7a4 16 = .ok (.iconst 2, 1) := by decide +kernel
theorem dJ6_bitCount_0f7a4_17 : decode cJ6_bitCount_0f7a4 17 = .ok (.iushr, 1) := by decide +kernel
theorem dJ6_bitCount_0f7a4_18 : decode cJ6_bitCount_0f7a4 18 = .ok (.ldc_w 266, 3) := by decide +kernel
theorem dJ6_bitCount_0f7a4_21 : decode cJ6_bitCount_0f7a4 21 = .ok (.iand, 1) := by decide +kernel
theorem dJ6_bitCount_0f7a4_22 : decode cJ6_bitCount_0f7a4 22 = .ok (.iadd, 1) := by decide +kernel
theorem dJ6_bitCount_0f7a4_23 : decode cJ6_bitCount_0f7a4 23 = .ok (.istore_n 0, 1) := by decide +kernel
theorem dJ6_bitCount_0f7a4_24 : decode cJ6_bitCount_0f7a4 24 = .ok (.iload_n 0, 1) := by decide +kernel
theorem dJ6_bitCount_0f7a4_25 : decode cJ6_bitCount_0f7a4 25 = .ok (.iload_n 0, 1) := by decide +kernel
theorem dJ6_bitCount_0f7a4_26 : decode cJ6_bitCount_0f7a4 26 = .ok (.iconst 4, 1) := by decide +kernel
theorem dJ6_bitCount_0f7a4_27 : decode cJ6_bitCount_0f7a4 27 = .ok (.iushr, 1) := by decide +kernel
theorem dJ6_bitCount_0f7a4_28 : decode cJ6_bitCount_0f7a4 28 = .ok (.iadd, 1) := by decide +kernel
theorem dJ6_bitCount_0f7a4_29 : decode cJ6_bitCount_0f7a4 29 = .ok (.ldc_w 267, 3) := by decide +kernel
theorem dJ6_bitCount_0f7a4_32 : decode cJ6_bitCount_0f7a4 32 = .ok (.iand, 1) := by decide +kernel
theorem dJ6_bitCount_0f7a4_33 : decode cJ6_bitCount_0f7a4 33 = .ok (.istore_n 0, 1) := by decide +kernel
theorem dJ6_bitCount_0f7a4_34 : decode cJ6_bitCount_0f7a4 34 = .ok (.iload_n 0, 1) := by decide +kernel
theorem dJ6_bitCount_0f7a4_35 : decode cJ6_bitCount_0f7a4 35 = .ok (.iload_n 0, 1) := by decide +kernel
theorem dJ6_bitCount_0f7a4_36 : decode cJ6_bitCount_0f7a4 36 = .ok (.bipush 8, 2) := by decide +kernel
theorem dJ6_bitCount_0f7a4_38 : decode cJ6_bitCount_0f7a4 38 = .ok (.iushr, 1) := by decide +kernel
theorem dJ6_bitCount_0f7a4_39 : decode cJ6_bitCount_0f7a4 39 = .ok (.iadd, 1) := by decide +kernel
theorem dJ6_bitCount_0f7a4_40 : decode cJ6_bitCount_0f7a4 40 = .ok (.istore_n 0, 1) := by decide +kernel
theorem dJ6_bitCount_0f7a4_41 : decode cJ6_bitCount_0f7a4 41 = .ok (.iload_n 0, 1) := by decide +kernel
theorem dJ6_bitCount_0f7a4_42 : decode cJ6_bitCount_0f7a4 42 = .ok (.iload_n 0, 1) := by decide +kernel
theorem dJ6_bitCount_0f7a4_43 : decode cJ6_bitCount_0f7a4 43 = .ok (.bipush 16, 2) := by decide +kernel
theorem dJ6_bitCount_0f7a4_45 : decode cJ6_bitCount_0f7a4 45 = .ok (.iushr, 1) := by decide +kernel
theorem dJ6_bitCount_0f7a4_46 : decode cJ6_bitCount_0f7a4 46 = .ok (.iadd, 1) := by decide +kernel
theorem dJ6_bitCount_0f7a4_47 : decode cJ6_bitCount_0f7a4 47 = .ok (.istore_n 0, 1) := by decide +kernel
theorem dJ6_bitCount_0f7a4_48 : decode cJ6_bitCount_0f7a4 48 = .ok (.iload_n 0, 1) := by decide +kernel
theorem dJ6_bitCount_0f7a4_49 : decode cJ6_bitCount_0f7a4 49 = .ok (.bipush 63, 2) := by decide +kernel
theorem dJ6_bitCount_0f7a4_51 : decode cJ6_bitCount_0f7a4 51 = .ok (.iand, 1) := by decide +kernel
theorem dJ6_bitCount_0f7a4_52 : decode cJ6_bitCount_0f7a4 52 = .ok (.ireturn, 1) := by decide +kernel
theorem dJ9_max_7cf53_0 : decode cJ9_max_7cf53 0 = .ok (.iload_n 0, 1) := by decide +kernel
theorem dJ9_max_7cf53_1 : decode cJ9_max_7cf53 1 = .ok (.iload_n 1, 1) := by decide +kernel
theorem dJ9_max_7cf53_2 : decode cJ9_max_7cf53 2 = .ok (.if_icmp .lt 7, 3) := by decide +kernel
theorem dJ9_max_7cf53_5 : decode cJ9_max_7cf53 5 = .ok (.iload_n 0, 1) := by decide +kernel
theorem dJ9_max_7cf53_6 : decode cJ9_max_7cf53 6 = .ok (.goto 4, 3) := by decide +kernel
theorem dJ9_max_7cf53_9 : decode cJ9_max_7cf53 9 = .ok (.iload_n 1, 1) := by decide +kernel
theorem dJ9_max_7cf53_10 : decode cJ9_max_7cf53 10 = .ok (.ireturn, 1) := by decide +kernel
theorem dJ9_min_7cf53_0 : decode cJ9_min_7cf53 0 = .ok (.iload_n 0, 1) := by decide +kernel
theorem dJ9_min_7cf53_1 : decode cJ9_min_7cf53 1 = .ok (.iload_n 1, 1) := by decide +kernel
theorem dJ9_min_7cf53_2 : decode cJ9_min_7cf53 2 = .ok (.if_icmp .gt 7, 3) := by decide +kernel
theorem dJ9_min_7cf53_5 : decode cJ9_min_7cf53 5 = .ok (.iload_n 0, 1) := by decide +kernel
theorem dJ9_min_7cf53_6 : decode cJ9_min_7cf53 6 = .ok (.goto 4, 3) := by decide +kernel
theorem dJ9_min_7cf53_9 : decode cJ9_min_7cf53 9 = .ok (.iload_n 1, 1) := by decide +kernel
theorem dJ9_min_7cf53_10 : decode cJ9_min_7cf53 10 = .ok (.ireturn, 1) := by decide +kernel
theorem dJ0_length_8abf5_0 : decode cJ0_length_8abf5 0 = .ok (.aload_n 0, 1) := by decide +kernel
theorem dJ0_length_8abf5_1 : decode cJ0_length_8abf5 1 = .ok (.getfield 9, 3) := by decide +kernel
theorem dJ0_length_8abf5_4 : decode cJ0_length_8abf5 4 = .ok (.arraylength, 1) := by decide +kernel
theorem dJ0_length_8abf5_5 : decode cJ0_length_8abf5 5 = .ok (.aload_n 0, 1) := by decide +kernel
theorem dJ0_length_8abf5_6 : decode cJ0_length_8abf5 6 = .ok (.invokevirtual 335, 3) := by decide +kernel
theorem dJ0_length_8abf5_9 : decode cJ0_length_8abf5 9 = .ok (.ishr, 1) := by decide +kernel
theorem dJ0_length_8abf5_10 : decode cJ0_length_8abf5 10 = .ok (.ireturn, 1) := by decide +kernel
theorem dJ0_charAt_5068e_0 : decode cJ0_charAt_5068e 0 = .ok (.aload_n 0, 1) := by decide +kernel
theorem dJ0_charAt_5068e_1 : decode cJ0_charAt_5068e 1 = .ok (.invokevirtual 492, 3) := by decide +kernel
theorem dJ0_charAt_5068e_4 : decode cJ0_charAt_5068e 4 = .ok (.ifCond .eq 12, 3) := by decide +kernel
theorem dJ0_charAt_5068e_7 : decode cJ0_charAt_5068e 7 = .ok (.aload_n 0, 1) := by decide +kernel
theorem dJ0_charAt_5068e_8 : decode cJ0_charAt_5068e 8 = .ok (.getfield 9, 3) := by decide +kernel
theorem dJ0_charAt_5068e_11 : decode cJ0_charAt_5068e 11 = .ok (.iload_n 1, 1) := by decide +kernel
theorem dJ0_charAt_5068e_12 : decode cJ0_charAt_5068e 12 = .ok (.invokestatic 495, 3) := by decide +kernel
theorem dJ0_charAt_5068e_15 : decode cJ0_charAt_5068e 15 = .ok (.ireturn, 1) := by decide +kernel
theorem dJ0_charAt_5068e_16 : decode cJ0_charAt_5068e 16 = .ok (.aload_n 0, 1) := by decide +kernel
theorem dJ0_charAt_5068e_17 : decode cJ0_charAt_5068e 17 = .ok (.getfield 9, 3) := by decide +kernel
theorem dJ0_charAt_5068e_20 : decode cJ0_charAt_5068e 20 = .ok (.iload_n 1, 1) := by decide +kernel
theorem dJ0_charAt_5068e_21 : decode cJ0_charAt_5068e 21 = .ok (.invokestatic 498, 3) := by decide +kernel
theorem dJ0_charAt_5068e_24 : decode cJ0_charAt_5068e 24 = .ok (.ireturn, 1) := by decide +kernel
theorem dJ0_coder_7d493_0 : decode cJ0_coder_7d493 0 = .ok (.getstatic 38, 3) := by decide +kernel
theorem dJ0_coder_7d493_3 : decode cJ0_coder_7d493 3 = .ok (.ifCond .eq 10, 3) := by decide +kernel
theorem dJ0_coder_7d493_6 : decode cJ0_coder_7d493 6 = .ok (.aload_n 0, 1) := by decide +kernel
theorem dJ0_coder_7d493_7 : decode cJ0_coder_7d493 7 = .ok (.getfield 15, 3) := by decide +kernel
theorem dJ0_coder_7d493_10 : decode cJ0_coder_7d493 10 = .ok (.goto 4, 3) := by decide +kernel
theorem dJ0_coder_7d493_13 : decode cJ0_coder_7d493 13 = .ok (.iconst 1, 1) := by decide +kernel
theorem dJ0_coder_7d493_14 : decode cJ0_coder_7d493 14 = .ok (.ireturn, 1) := by decide +kernel
theorem dJ0_isLatin1_aae02_0 : decode cJ0_isLatin1_aae02 0 = .ok (.getstatic 38, 3) := by decide +kernel
theorem dJ0_isLatin1_aae02_3 : decode cJ0_isLatin1_aae02 3 = .ok (.ifCond .eq 14, 3) := by decide +kernel
theorem dJ0_isLatin1_aae02_6 : decode cJ0_isLatin1_aae02 6 = .ok (.aload_n 0, 1) := by decide +kernel
theorem dJ0_isLatin1_aae02_7 : decode cJ0_isLatin1_aae02 7 = .ok (.getfield 15, 3) := by decide +kernel
theorem dJ0_isLatin1_aae02_10 : decode cJ0_isLatin1_aae02 10 = .ok (.ifCond .ne 7, 3) := by decide +kernel
theorem dJ0_isLatin1_aae02_13 : decode cJ0_isLatin1_aae02 13 = .ok (.iconst 1, 1) := by decide +kernel
theorem dJ0_isLatin1_aae02_14 : decode cJ0_isLatin1_aae02 14 = .ok (.goto 4, 3) := by decide +kernel
theorem dJ0_isLatin1_aae02_17 : decode cJ0_isLatin1_aae02 17 = .ok (.iconst 0, 1) := by decide +kernel
theorem dJ0_isLatin1_aae02_18 : decode cJ0_isLatin1_aae02 18 = .ok (.ireturn, 1) := by decide +kernel
theorem dJ0_checkIndex_df160_0 : decode cJ0_checkIndex_df160 0 = .ok (.iload_n 0, 1) := by decide +kernel
theorem dJ0_checkIndex_df160_1 : decode cJ0_checkIndex_df160 1 = .ok (.iload_n 1, 1) := by decide +kernel
theorem dJ0_checkIndex_df160_2 : decode cJ0_checkIndex_df160 2 = .ok (.getstatic 1053, 3) := by decide +kernel
theorem dJ0_checkIndex_df160_5 : decode cJ0_checkIndex_df160 5 = .ok (.invokestatic 1059, 3) := by decide +kernel
theorem dJ0_checkIndex_df160_8 : decode cJ0_checkIndex_df160 8 = .ok (.pop, 1) := by decide +kernel
theorem dJ0_checkIndex_df160_9 : decode cJ0_checkIndex_df160 9 = .ok (.return_, 1) := by decide +kernel
theorem dJ1_charAt_3b067_0 : decode cJ1_charAt_3b067 0 = .ok (.iload_n 1, 1) := by decide +kernel
theorem dJ1_charAt_3b067_1 : decode cJ1_charAt_3b067 1 = .ok (.aload_n 0, 1) := by decide +kernel
theorem dJ1_charAt_3b067_2 : decode cJ1_charAt_3b067 2 = .ok (.arraylength, 1) := by decide +kernel
theorem dJ1_charAt_3b067_3 : decode cJ1_charAt_3b067 3 = .ok (.invokestatic 9, 3) := by decide +kernel
theorem dJ1_charAt_3b067_6 : decode cJ1_charAt_3b067 6 = .ok (.aload_n 0, 1) := by decide +kernel
theorem dJ1_charAt_3b067_7 : decode cJ1_charAt_3b067 7 = .ok (.iload_n 1, 1) := by decide +kernel
theorem dJ1_charAt_3b067_8 : decode cJ1_charAt_3b067 8 = .ok (.baload, 1) := by decide +kernel
theorem dJ1_charAt_3b067_9 : decode cJ1_charAt_3b067 9 = .ok (.sipush 255, 3) := by decide +kernel
theorem dJ1_charAt_3b067_12 : decode cJ1_charAt_3b067 12 = .ok (.iand, 1) := by decide +kernel
theorem dJ1_charAt_3b067_13 : decode cJ1_charAt_3b067 13 = .ok (.i2c, 1) := by decide +kernel
theorem dJ1_charAt_3b067_14 : decode cJ1_charAt_3b067 14 = .ok (.ireturn, 1) := by decide +kernel
theorem dJ2_getChar_3b067_0 : decode cJ2_getChar_3b067 0 = .ok (.getstatic 44, 3) := by decide +kernel
theorem dJ2_getChar_3b067_3 : decode cJ2_getChar_3b067 3 = .ok (.ifCond .ne 25, 3) := by decide +kernel
theorem dJ2_getChar_3b067_6 : decode cJ2_getChar_3b067 6 = .ok (.iload_n 1, 1) := by decide +kernel
theorem dJ2_getChar_3b067_7 : decode cJ2_getChar_3b067 7 = .ok (.ifCond .lt 11, 3) := by decide +kernel
theorem dJ2_getChar_3b067_10 : decode cJ2_getChar_3b067 10 = .ok (.iload_n 1, 1) := by decide +kernel
theorem dJ2_getChar_3b067_11 : decode cJ2_getChar_3b067 11 = .ok (.aload_n 0, 1) := by decide +kernel
theorem dJ2_getChar_3b067_12 : decode cJ2_getChar_3b067 12 = .ok (.invokestatic 48, 3) := by decide +kernel
theorem dJ2_getChar_3b067_15 : decode cJ2_getChar_3b067 15 = .ok (.if_icmp .lt 13, 3) := by decide +kernel
theorem dJ2_getChar_3b067_18 : decode cJ2_getChar_3b067 18 = .ok (.new 52, 3) := by decide +kernel
theorem dJ2_getChar_3b067_21 : decode cJ2_getChar_3b067 21 = .ok (.dup, 1) := by decide +kernel
theorem dJ2_getChar_3b067_22 : decode cJ2_getChar_3b067 22 = .ok (.ldc 54, 2) := by decide +kernel
theorem dJ2_getChar_3b067_24 : decode cJ2_getChar_3b067 24 = .ok (.invokespecial 56, 3) := by decide +kernel
theorem dJ2_getChar_3b067_27 : decode cJ2_getChar_3b067 27 = .ok (.athrow, 1) := by decide +kernel
theorem dJ2_getChar_3b067_28 : decode cJ2_getChar_3b067 28 = .ok (.iload_n 1, 1) := by decide +kernel
theorem dJ2_getChar_3b067_29 : decode cJ2_getChar_3b067 29 = .ok (.iconst 1, 1) := by decide +kernel
theorem dJ2_getChar_3b067_30 : decode cJ2_getChar_3b067 30 = .ok (.ishl, 1) := by decide +kernel
theorem dJ2_getChar_3b067_31 : decode cJ2_getChar_3b067 31 = .ok (.istore_n 1, 1) := by decide +kernel
theorem dJ2_getChar_3b067_32 : decode cJ2_getChar_3b067 32 = .ok (.aload_n 0, 1) := by decide +kernel
theorem dJ2_getChar_3b067_33 : decode cJ2_getChar_3b067 33 = .ok (.iload_n 1, 1) := by decide +kernel
theorem dJ2_getChar_3b067_34 : decode cJ2_getChar_3b067 34 = .ok (.iinc 1 1, 3) := by decide +kernel
theorem dJ2_getChar_3b067_37 : decode cJ2_getChar_3b067 37 = .ok (.baload, 1) := by decide +kernel
theorem dJ2_getChar_3b067_38 : decode cJ2_getChar_3b067 38 = .ok (.sipush 255, 3) := by decide +kernel
theorem dJ2_getChar_3b067_41 : decode cJ2_getChar_3b067 41 = .ok (.iand, 1) := by decide +kernel
theorem dJ2_getChar_3b067_42 : decode cJ2_getChar_3b067 42 = .ok (.getstatic 59, 3) := by decide +kernel
theorem dJ2_getChar_3b067_45 : decode cJ2_getChar_3b067 45 = .ok (.ishl, 1) := by decide +kernel
theorem dJ2_getChar_3b067_46 : decode cJ2_getChar_3b067 46 = .ok (.aload_n 0, 1) := by decide +kernel
theorem dJ2_getChar_3b067_47 : decode cJ2_getChar_3b067 47 = .ok (.iload_n 1, 1) := by decide +kernel
theorem dJ2_getChar_3b067_48 : decode cJ2_getChar_3b067 48 = .ok (.baload, 1) := by decide +kernel
theorem dJ2_getChar_3b067_49 : decode cJ2_getChar_3b067 49 = .ok (.sipush 255, 3) := by decide +kernel
theorem dJ2_getChar_3b067_52 : decode cJ2_getChar_3b067 52 = .ok (.iand, 1) := by decide +kernel
theorem dJ2_getChar_3b067_53 : decode cJ2_getChar_3b067 53 = .ok (.getstatic 63, 3) := by decide +kernel
theorem dJ2_getChar_3b067_56 : decode cJ2_getChar_3b067 56 = .ok (.ishl, 1) := by decide +kernel
theorem dJ2_getChar_3b067_57 : decode cJ2_getChar_3b067 57 = .ok (.ior, 1) := by decide +kernel
theorem dJ2_getChar_3b067_58 : decode cJ2_getChar_3b067 58 = .ok (.i2c, 1) := by decide +kernel
theorem dJ2_getChar_3b067_59 : decode cJ2_getChar_3b067 59 = .ok (.ireturn, 1) := by decide +kernel
theorem dJ2_length_9d52b_0 : decode cJ2_length_9d52b 0 = .ok (.aload_n 0, 1) := by decide +kernel
theorem dJ2_length_9d52b_1 : decode cJ2_length_9d52b 1 = .ok (.arraylength, 1) := by decide +kernel
theorem dJ2_length_9d52b_2 : decode cJ2_length_9d52b 2 = .ok (.iconst 1, 1) := by decide +kernel
theorem dJ2_length_9d52b_3 : decode cJ2_length_9d52b 3 = .ok (.ishr, 1) := by decide +kernel
theorem dJ2_length_9d52b_4 : decode cJ2_length_9d52b 4 = .ok (.ireturn, 1) := by decide +kernel
theorem dJ2_charAt_3b067_0 : decode cJ2_charAt_3b067 0 = .ok (.iload_n 1, 1) := by decide +kernel
theorem dJ2_charAt_3b067_1 : decode cJ2_charAt_3b067 1 = .ok (.aload_n 0, 1) := by decide +kernel
theorem dJ2_charAt_3b067_2 : decode cJ2_charAt_3b067 2 = .ok (.invokestatic 67, 3) := by decide +kernel
theorem dJ2_charAt_3b067_5 : decode cJ2_charAt_3b067 5 = .ok (.aload_n 0, 1) := by decide +kernel
theorem dJ2_charAt_3b067_6 : decode cJ2_charAt_3b067 6 = .ok (.iload_n 1, 1) := by decide +kernel
theorem dJ2_charAt_3b067_7 : decode cJ2_charAt_3b067 7 = .ok (.invokestatic 71, 3) := by decide +kernel
theorem dJ2_charAt_3b067_10 : decode cJ2_charAt_3b067 10 = .ok (.ireturn, 1) := by decide +kernel
theorem dJ2_checkIndex_2214a_0 : decode cJ2_checkIndex_2214a 0 = .ok (.iload_n 0, 1) := by decide +kernel
theorem dJ2_checkIndex_2214a_1 : decode cJ2_checkIndex_2214a 1 = .ok (.aload_n 1, 1) := by decide +kernel
theorem dJ2_checkIndex_2214a_2 : decode cJ2_checkIndex_2214a 2 = .ok (.invokestatic 48, 3) := by decide +kernel
theorem dJ2_checkIndex_2214a_5 : decode cJ2_checkIndex_2214a 5 = .ok (.invokestatic 414, 3) := by decide +kernel
theorem dJ2_checkIndex_2214a_8 : decode cJ2_checkIndex_2214a 8 = .ok (.return_, 1) := by decide +kernel
theorem dJ3_checkIndex_8e157_0 : decode cJ3_checkIndex_8e157 0 = .ok (.iload_n 0, 1) := by decide +kernel
theorem dJ3_checkIndex_8e157_1 : decode cJ3_checkIndex_8e157 1 = .ok (.ifCond .lt 8, 3) := by decide +kernel
theorem dJ3_checkIndex_8e157_4 : decode cJ3_checkIndex_8e157 4 = .ok (.iload_n 0, 1) := by decide +kernel
theorem dJ3_checkIndex_8e157_5 : decode cJ3_checkIndex_8e157 5 = .ok (.iload_n 1, 1) := by decide +kernel
theorem dJ3_checkIndex_8e157_6 : decode cJ3_checkIndex_8e157 6 = .ok (.if_icmp .lt 10, 3) := by decide +kernel
theorem dJ3_checkIndex_8e157_9 : decode cJ3_checkIndex_8e157 9 = .ok (.aload_n 2, 1) := by decide +kernel
theorem dJ3_checkIndex_8e157_10 : decode cJ3_checkIndex_8e157 10 = .ok (.iload_n 0, 1) := by decide +kernel
theorem dJ3_checkIndex_8e157_11 : decode cJ3_checkIndex_8e157 11 = .ok (.iload_n 1, 1) := by decide +kernel
theorem dJ3_checkIndex_8e157_12 : decode cJ3_checkIndex_8e157 12 = .ok (.invokestatic 95, 3) := by decide +kernel
theorem dJ3_checkIndex_8e157_15 : decode cJ3_checkIndex_8e157 15 = .ok (.athrow, 1) := by decide +kernel
theorem dJ3_checkIndex_8e157_16 : decode cJ3_checkIndex_8e157 16 = .ok (.iload_n 0, 1) := by decide +kernel
theorem dJ3_checkIndex_8e157_17 : decode cJ3_checkIndex_8e157 17 = .ok (.ireturn, 1) := by decide +kernel
theorem dL_law_0 : decode cL_law 0 = .ok (.new 7, 3) := by decide +kernel
theorem dL_law_3 : decode cL_law 3 = .ok (.dup, 1) := by decide +kernel
theorem dL_law_4 : decode cL_law 4 = .ok (.invokespecial 9, 3) := by decide +kernel
theorem dL_law_7 : decode cL_law 7 = .ok (.astore_n 1, 1) := by decide +kernel
theorem dL_law_8 : decode cL_law 8 = .ok (.new 10, 3) := by decide +kernel
theorem dL_law_11 : decode cL_law 11 = .ok (.dup, 1) := by decide +kernel
theorem dL_law_12 : decode cL_law 12 = .ok (.invokespecial 12, 3) := by decide +kernel
theorem dL_law_15 : decode cL_law 15 = .ok (.astore_n 2, 1) := by decide +kernel
theorem dL_law_16 : decode cL_law 16 = .ok (.iconst 0, 1) := by decide +kernel
theorem dL_law_17 : decode cL_law 17 = .ok (.istore_n 3, 1) := by decide +kernel
theorem dL_law_18 : decode cL_law 18 = .ok (.iload_n 3, 1) := by decide +kernel
theorem dL_law_19 : decode cL_law 19 = .ok (.aload_n 0, 1) := by decide +kernel
theorem dL_law_20 : decode cL_law 20 = .ok (.arraylength, 1) := by decide +kernel
theorem dL_law_21 : decode cL_law 21 = .ok (.bipush 6, 2) := by decide +kernel
theorem dL_law_23 : decode cL_law 23 = .ok (.isub, 1) := by decide +kernel
theorem dL_law_24 : decode cL_law 24 = .ok (.if_icmp .gt 1050, 3) := by decide +kernel
theorem dL_law_27 : decode cL_law 27 = .ok (.aload_n 0, 1) := by decide +kernel
theorem dL_law_28 : decode cL_law 28 = .ok (.iload_n 3, 1) := by decide +kernel
theorem dL_law_29 : decode cL_law 29 = .ok (.iaload, 1) := by decide +kernel
theorem dL_law_30 : decode cL_law 30 = .ok (.bipush 31, 2) := by decide +kernel
theorem dL_law_32 : decode cL_law 32 = .ok (.iand, 1) := by decide +kernel
theorem dL_law_33 : decode cL_law 33 = .ok (.tableswitch 1035 0 29 #[135, 178, 221, 284, 307, 370, 383, 396, 419, 452, 475, 498, 511, 544, 577, 610, 643, 686, 719, 752, 805, 818, 841, 864, 887, 910, 943, 976, 999, 1022], 135) := by decide +kernel
theorem dL_law_168 : decode cL_law 168 = .ok (.aload_n 1, 1) := by decide +kernel
theorem dL_law_169 : decode cL_law 169 = .ok (.aload_n 0, 1) := by decide +kernel
theorem dL_law_170 : decode cL_law 170 = .ok (.iload_n 3, 1) := by decide +kernel
theorem dL_law_171 : decode cL_law 171 = .ok (.iconst 1, 1) := by decide +kernel
theorem dL_law_172 : decode cL_law 172 = .ok (.iadd, 1) := by decide +kernel
theorem dL_law_173 : decode cL_law 173 = .ok (.iaload, 1) := by decide +kernel
theorem dL_law_174 : decode cL_law 174 = .ok (.aload_n 0, 1) := by decide +kernel
theorem dL_law_175 : decode cL_law 175 = .ok (.iload_n 3, 1) := by decide +kernel
theorem dL_law_176 : decode cL_law 176 = .ok (.iconst 2, 1) := by decide +kernel
theorem dL_law_177 : decode cL_law 177 = .ok (.iadd, 1) := by decide +kernel
theorem dL_law_178 : decode cL_law 178 = .ok (.iaload, 1) := by decide +kernel
theorem dL_law_179 : decode cL_law 179 = .ok (.aload_n 0, 1) := by decide +kernel
theorem dL_law_180 : decode cL_law 180 = .ok (.iload_n 3, 1) := by decide +kernel
theorem dL_law_181 : decode cL_law 181 = .ok (.iconst 3, 1) := by decide +kernel
theorem dL_law_182 : decode cL_law 182 = .ok (.iadd, 1) := by decide +kernel
theorem dL_law_183 : decode cL_law 183 = .ok (.iaload, 1) := by decide +kernel
theorem dL_law_184 : decode cL_law 184 = .ok (.invokevirtual 13, 3) := by decide +kernel
theorem dL_law_187 : decode cL_law 187 = .ok (.aload_n 2, 1) := by decide +kernel
theorem dL_law_188 : decode cL_law 188 = .ok (.aload_n 0, 1) := by decide +kernel
theorem dL_law_189 : decode cL_law 189 = .ok (.iload_n 3, 1) := by decide +kernel
theorem dL_law_190 : decode cL_law 190 = .ok (.iconst 1, 1) := by decide +kernel
theorem dL_law_191 : decode cL_law 191 = .ok (.iadd, 1) := by decide +kernel
theorem dL_law_192 : decode cL_law 192 = .ok (.iaload, 1) := by decide +kernel
theorem dL_law_193 : decode cL_law 193 = .ok (.aload_n 0, 1) := by decide +kernel
theorem dL_law_194 : decode cL_law 194 = .ok (.iload_n 3, 1) := by decide +kernel
theorem dL_law_195 : decode cL_law 195 = .ok (.iconst 2, 1) := by decide +kernel
theorem dL_law_196 : decode cL_law 196 = .ok (.iadd, 1) := by decide +kernel
theorem dL_law_197 : decode cL_law 197 = .ok (.iaload, 1) := by decide +kernel
theorem dL_law_198 : decode cL_law 198 = .ok (.aload_n 0, 1) := by decide +kernel
theorem dL_law_199 : decode cL_law 199 = .ok (.iload_n 3, 1) := by decide +kernel
theorem dL_law_200 : decode cL_law 200 = .ok (.iconst 3, 1) := by decide +kernel
theorem dL_law_201 : decode cL_law 201 = .ok (.iadd, 1) := by decide +kernel
theorem dL_law_202 : decode cL_law 202 = .ok (.iaload, 1) := by decide +kernel
theorem dL_law_203 : decode cL_law 203 = .ok (.invokevirtual 17, 3) := by decide +kernel
theorem dL_law_206 : decode cL_law 206 = .ok (.if_icmp .eq 862, 3) := by decide +kernel
theorem dL_law_209 : decode cL_law 209 = .ok (.iconst 0, 1) := by decide +kernel
theorem dL_law_210 : decode cL_law 210 = .ok (.ireturn, 1) := by decide +kernel
theorem dL_law_211 : decode cL_law 211 = .ok (.aload_n 1, 1) := by decide +kernel
theorem dL_law_212 : decode cL_law 212 = .ok (.aload_n 0, 1) := by decide +kernel
theorem dL_law_213 : decode cL_law 213 = .ok (.iload_n 3, 1) := by decide +kernel
theorem dL_law_214 : decode cL_law 214 = .ok (.iconst 1, 1) := by decide +kernel
theorem dL_law_215 : decode cL_law 215 = .ok (.iadd, 1) := by decide +kernel
theorem dL_law_216 : decode cL_law 216 = .ok (.iaload, 1) := by decide +kernel
theorem dL_law_217 : decode cL_law 217 = .ok (.aload_n 0, 1) := by decide +kernel
theorem dL_law_218 : decode cL_law 218 = .ok (.iload_n 3, 1) := by decide +kernel
theorem dL_law_219 : decode cL_law 219 = .ok (.iconst 2, 1) := by decide +kernel
theorem dL_law_220 : decode cL_law 220 = .ok (.iadd, 1) := by decide +kernel
theorem dL_law_221 : decode cL_law 221 = .ok (.iaload, 1) := by decide +kernel
theorem dL_law_222 : decode cL_law 222 = .ok (.aload_n 0, 1) := by decide +kernel
theorem dL_law_223 : decode cL_law 223 = .ok (.iload_n 3, 1) := by decide +kernel
theorem dL_law_224 : decode cL_law 224 = .ok (.iconst 3, 1) := by decide +kernel
theorem dL_law_225 : decode cL_law 225 = .ok (.iadd, 1) := by decide +kernel
theorem dL_law_226 : decode cL_law 226 = .ok (.iaload, 1) := by decide +kernel
theorem dL_law_227 : decode cL_law 227 = .ok (.invokevirtual 18, 3) := by decide +kernel
theorem dL_law_230 : decode cL_law 230 = .ok (.aload_n 2, 1) := by decide +kernel
theorem dL_law_231 : decode cL_law 231 = .ok (.aload_n 0, 1) := by decide +kernel
theorem dL_law_232 : decode cL_law 232 = .ok (.iload_n 3, 1) := by decide +kernel
theorem dL_law_233 : decode cL_law 233 = .ok (.iconst 1, 1) := by decide +kernel
theorem dL_law_234 : decode cL_law 234 = .ok (.iadd, 1) := by decide +kernel
theorem dL_law_235 : decode cL_law 235 = .ok (.iaload, 1) := by decide +kernel
theorem dL_law_236 : decode cL_law 236 = .ok (.aload_n 0, 1) := by decide +kernel
theorem dL_law_237 : decode cL_law 237 = .ok (.iload_n 3, 1) := by decide +kernel
theorem dL_law_238 : decode cL_law 238 = .ok (.iconst 2, 1) := by decide +kernel
theorem dL_law_239 : decode cL_law 239 = .ok (.iadd, 1) := by decide +kernel
theorem dL_law_240 : decode cL_law 240 = .ok (.iaload, 1) := by decide +kernel
theorem dL_law_241 : decode cL_law 241 = .ok (.aload_n 0, 1) := by decide +kernel
theorem dL_law_242 : decode cL_law 242 = .ok (.iload_n 3, 1) := by decide +kernel
theorem dL_law_243 : decode cL_law 243 = .ok (.iconst 3, 1) := by decide +kernel
theorem dL_law_244 : decode cL_law 244 = .ok (.iadd, 1) := by decide +kernel
theorem dL_law_245 : decode cL_law 245 = .ok (.iaload, 1) := by decide +kernel
theorem dL_law_246 : decode cL_law 246 = .ok (.invokevirtual 21, 3) := by decide +kernel
theorem dL_law_249 : decode cL_law 249 = .ok (.if_icmp .eq 819, 3) := by decide +kernel
theorem dL_law_252 : decode cL_law 252 = .ok (.iconst 0, 1) := by decide +kernel
theorem dL_law_253 : decode cL_law 253 = .ok (.ireturn, 1) := by decide +kernel
theorem dL_law_254 : decode cL_law 254 = .ok (.aload_n 1, 1) := by decide +kernel
theorem dL_law_255 : decode cL_law 255 = .ok (.aload_n 0, 1) := by decide +kernel
theorem dL_law_256 : decode cL_law 256 = .ok (.iload_n 3, 1) := by decide +kernel
theorem dL_law_257 : decode cL_law 257 = .ok (.iconst 1, 1) := by decide +kernel
theorem dL_law_258 : decode cL_law 258 = .ok (.iadd, 1) := by decide +kernel
theorem dL_law_259 : decode cL_law 259 = .ok (.iaload, 1) := by decide +kernel
theorem dL_law_260 : decode cL_law 260 = .ok (.aload_n 0, 1) := by decide +kernel
theorem dL_law_261 : decode cL_law 261 = .ok (.iload_n 3, 1) := by decide +kernel
theorem dL_law_262 : decode cL_law 262 = .ok (.iconst 2, 1) := by decide +kernel
theorem dL_law_263 : decode cL_law 263 = .ok (.iadd, 1) := by decide +kernel
theorem dL_law_264 : decode cL_law 264 = .ok (.iaload, 1) := by decide +kernel
theorem dL_law_265 : decode cL_law 265 = .ok (.aload_n 0, 1) := by decide +kernel
theorem dL_law_266 : decode cL_law 266 = .ok (.iload_n 3, 1) := by decide +kernel
theorem dL_law_267 : decode cL_law 267 = .ok (.iconst 3, 1) := by decide +kernel
theorem dL_law_268 : decode cL_law 268 = .ok (.iadd, 1) := by decide +kernel
theorem dL_law_269 : decode cL_law 269 = .ok (.iaload, 1) := by decide +kernel
theorem dL_law_270 : decode cL_law 270 = .ok (.aload_n 0, 1) := by decide +kernel
theorem dL_law_271 : decode cL_law 271 = .ok (.iload_n 3, 1) := by decide +kernel
theorem dL_law_272 : decode cL_law 272 = .ok (.iconst 4, 1) := by decide +kernel
theorem dL_law_273 : decode cL_law 273 = .ok (.iadd, 1) := by decide +kernel
theorem dL_law_274 : decode cL_law 274 = .ok (.iaload, 1) := by decide +kernel
theorem dL_law_275 : decode cL_law 275 = .ok (.aload_n 0, 1) := by decide +kernel
theorem dL_law_276 : decode cL_law 276 = .ok (.iload_n 3, 1) := by decide +kernel
theorem dL_law_277 : decode cL_law 277 = .ok (.iconst 5, 1) := by decide +kernel
theorem dL_law_278 : decode cL_law 278 = .ok (.iadd, 1) := by decide +kernel
theorem dL_law_279 : decode cL_law 279 = .ok (.iaload, 1) := by decide +kernel
theorem dL_law_280 : decode cL_law 280 = .ok (.invokevirtual 22, 3) := by decide +kernel
theorem dL_law_283 : decode cL_law 283 = .ok (.aload_n 2, 1) := by decide +kernel
theorem dL_law_284 : decode cL_law 284 = .ok (.aload_n 0, 1) := by decide +kernel
theorem dL_law_285 : decode cL_law 285 = .ok (.iload_n 3, 1) := by decide +kernel
theorem dL_law_286 : decode cL_law 286 = .ok (.iconst 1, 1) := by decide +kernel
theorem dL_law_287 : decode cL_law 287 = .ok (.iadd, 1) := by decide +kernel
theorem dL_law_288 : decode cL_law 288 = .ok (.iaload, 1) := by decide +kernel
theorem dL_law_289 : decode cL_law 289 = .ok (.aload_n 0, 1) := by decide +kernel
theorem dL_law_290 : decode cL_law 290 = .ok (.iload_n 3, 1) := by decide +kernel
theorem dL_law_291 : decode cL_law 291 = .ok (.iconst 2, 1) := by decide +kernel
theorem dL_law_292 : decode cL_law 292 = .ok (.iadd, 1) := by decide +kernel
theorem dL_law_293 : decode cL_law 293 = .ok (.iaload, 1) := by decide +kernel
theorem dL_law_294 : decode cL_law 294 = .ok (.aload_n 0, 1) := by decide +kernel
theorem dL_law_295 : decode cL_law 295 = .ok (.iload_n 3, 1) := by decide +kernel
theorem dL_law_296 : decode cL_law 296 = .ok (.iconst 3, 1) := by decide +kernel
theorem dL_law_297 : decode cL_law 297 = .ok (.iadd, 1) := by decide +kernel
theorem dL_law_298 : decode cL_law 298 = .ok (.iaload, 1) := by decide +kernel
theorem dL_law_299 : decode cL_law 299 = .ok (.aload_n 0, 1) := by decide +kernel
theorem dL_law_300 : decode cL_law 300 = .ok (.iload_n 3, 1) := by decide +kernel
theorem dL_law_301 : decode cL_law 301 = .ok (.iconst 4, 1) := by decide +kernel
theorem dL_law_302 : decode cL_law 302 = .ok (.iadd, 1) := by decide +kernel
theorem dL_law_303 : decode cL_law 303 = .ok (.iaload, 1) := by decide +kernel
theorem dL_law_304 : decode cL_law 304 = .ok (.aload_n 0, 1) := by decide +kernel
theorem dL_law_305 : decode cL_law 305 = .ok (.iload_n 3, 1) := by decide +kernel
theorem dL_law_306 : decode cL_law 306 = .ok (.iconst 5, 1) := by decide +kernel
theorem dL_law_307 : decode cL_law 307 = .ok (.iadd, 1) := by decide +kernel
theorem dL_law_308 : decode cL_law 308 = .ok (.iaload, 1) := by decide +kernel
theorem dL_law_309 : decode cL_law 309 = .ok (.invokevirtual 26, 3) := by decide +kernel
theorem dL_law_312 : decode cL_law 312 = .ok (.if_icmp .eq 756, 3) := by decide +kernel
