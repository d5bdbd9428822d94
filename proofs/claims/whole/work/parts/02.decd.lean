theorem dX9_readDesk_60 : decode cX9_readDesk 60 = .ok (.iconst 0, 1) := by decide +kernel
theorem dX9_readDesk_61 : decode cX9_readDesk 61 = .ok (.iaload, 1) := by decide +kernel
theorem dX9_readDesk_62 : decode cX9_readDesk 62 = .ok (.imul, 1) := by decide +kernel
theorem dX9_readDesk_63 : decode cX9_readDesk 63 = .ok (.iadd, 1) := by decide +kernel
theorem dX9_readDesk_64 : decode cX9_readDesk 64 = .ok (.iconst 1, 1) := by decide +kernel
theorem dX9_readDesk_65 : decode cX9_readDesk 65 = .ok (.iadd, 1) := by decide +kernel
theorem dX9_readDesk_66 : decode cX9_readDesk 66 = .ok (.iload_n 2, 1) := by decide +kernel
theorem dX9_readDesk_67 : decode cX9_readDesk 67 = .ok (.iastore, 1) := by decide +kernel
theorem dX9_readDesk_68 : decode cX9_readDesk 68 = .ok (.aload_n 0, 1) := by decide +kernel
theorem dX9_readDesk_69 : decode cX9_readDesk 69 = .ok (.getfield 22, 3) := by decide +kernel
theorem dX9_readDesk_72 : decode cX9_readDesk 72 = .ok (.iconst 0, 1) := by decide +kernel
theorem dX9_readDesk_73 : decode cX9_readDesk 73 = .ok (.dup2, 1) := by decide +kernel
theorem dX9_readDesk_74 : decode cX9_readDesk 74 = .ok (.iaload, 1) := by decide +kernel
theorem dX9_readDesk_75 : decode cX9_readDesk 75 = .ok (.iconst 1, 1) := by decide +kernel
theorem dX9_readDesk_76 : decode cX9_readDesk 76 = .ok (.iadd, 1) := by decide +kernel
theorem dX9_readDesk_77 : decode cX9_readDesk 77 = .ok (.iastore, 1) := by decide +kernel
theorem dX9_readDesk_78 : decode cX9_readDesk 78 = .ok (.return_, 1) := by decide +kernel
theorem dX9_readSheet_0 : decode cX9_readSheet 0 = .ok (.aload_n 0, 1) := by decide +kernel
theorem dX9_readSheet_1 : decode cX9_readSheet 1 = .ok (.iconst 1, 1) := by decide +kernel
theorem dX9_readSheet_2 : decode cX9_readSheet 2 = .ok (.bipush 12, 2) := by decide +kernel
theorem dX9_readSheet_4 : decode cX9_readSheet 4 = .ok (.invokevirtual 156, 3) := by decide +kernel
theorem dX9_readSheet_7 : decode cX9_readSheet 7 = .ok (.aload_n 0, 1) := by decide +kernel
theorem dX9_readSheet_8 : decode cX9_readSheet 8 = .ok (.invokevirtual 143, 3) := by decide +kernel
theorem dX9_readSheet_11 : decode cX9_readSheet 11 = .ok (.invokestatic 160, 3) := by decide +kernel
theorem dX9_readSheet_14 : decode cX9_readSheet 14 = .ok (.istore_n 1, 1) := by decide +kernel
theorem dX9_readSheet_15 : decode cX9_readSheet 15 = .ok (.aload_n 0, 1) := by decide +kernel
theorem dX9_readSheet_16 : decode cX9_readSheet 16 = .ok (.getfield 112, 3) := by decide +kernel
theorem dX9_readSheet_19 : decode cX9_readSheet 19 = .ok (.ifCond .ne 18, 3) := by decide +kernel
theorem dX9_readSheet_22 : decode cX9_readSheet 22 = .ok (.aload_n 0, 1) := by decide +kernel
theorem dX9_readSheet_23 : decode cX9_readSheet 23 = .ok (.iload_n 1, 1) := by decide +kernel
theorem dX9_readSheet_24 : decode cX9_readSheet 24 = .ok (.ldc 90, 2) := by decide +kernel
theorem dX9_readSheet_26 : decode cX9_readSheet 26 = .ok (.if_icmp .eq 7, 3) := by decide +kernel
theorem dX9_readSheet_29 : decode cX9_readSheet 29 = .ok (.iconst 1, 1) := by decide +kernel
theorem dX9_readSheet_30 : decode cX9_readSheet 30 = .ok (.goto 4, 3) := by decide +kernel
theorem dX9_readSheet_33 : decode cX9_readSheet 33 = .ok (.iconst 0, 1) := by decide +kernel
theorem dX9_readSheet_34 : decode cX9_readSheet 34 = .ok (.invokevirtual 129, 3) := by decide +kernel
theorem dX9_readSheet_37 : decode cX9_readSheet 37 = .ok (.aload_n 0, 1) := by decide +kernel
theorem dX9_readSheet_38 : decode cX9_readSheet 38 = .ok (.invokevirtual 125, 3) := by decide +kernel
theorem dX9_readSheet_41 : decode cX9_readSheet 41 = .ok (.istore_n 2, 1) := by decide +kernel
theorem dX9_readSheet_42 : decode cX9_readSheet 42 = .ok (.aload_n 0, 1) := by decide +kernel
theorem dX9_readSheet_43 : decode cX9_readSheet 43 = .ok (.getfield 112, 3) := by decide +kernel
theorem dX9_readSheet_46 : decode cX9_readSheet 46 = .ok (.ifCond .ne 60, 3) := by decide +kernel
theorem dX9_readSheet_49 : decode cX9_readSheet 49 = .ok (.aload_n 0, 1) := by decide +kernel
theorem dX9_readSheet_50 : decode cX9_readSheet 50 = .ok (.getfield 100, 3) := by decide +kernel
theorem dX9_readSheet_53 : decode cX9_readSheet 53 = .ok (.iconst 3, 1) := by decide +kernel
theorem dX9_readSheet_54 : decode cX9_readSheet 54 = .ok (.if_icmp .ne 52, 3) := by decide +kernel
theorem dX9_readSheet_57 : decode cX9_readSheet 57 = .ok (.iload_n 2, 1) := by decide +kernel
theorem dX9_readSheet_58 : decode cX9_readSheet 58 = .ok (.i2l, 1) := by decide +kernel
theorem dX9_readSheet_59 : decode cX9_readSheet 59 = .ok (.lconst 0, 1) := by decide +kernel
theorem dX9_readSheet_60 : decode cX9_readSheet 60 = .ok (.aload_n 0, 1) := by decide +kernel
theorem dX9_readSheet_61 : decode cX9_readSheet 61 = .ok (.getfield 22, 3) := by decide +kernel
theorem dX9_readSheet_64 : decode cX9_readSheet 64 = .ok (.iconst 0, 1) := by decide +kernel
theorem dX9_readSheet_65 : decode cX9_readSheet 65 = .ok (.iaload, 1) := by decide +kernel
theorem dX9_readSheet_66 : decode cX9_readSheet 66 = .ok (.iconst 1, 1) := by decide +kernel
theorem dX9_readSheet_67 : decode cX9_readSheet 67 = .ok (.isub, 1) := by decide +kernel
theorem dX9_readSheet_68 : decode cX9_readSheet 68 = .ok (.i2l, 1) := by decide +kernel
theorem dX9_readSheet_69 : decode cX9_readSheet 69 = .ok (.invokestatic 64, 3) := by decide +kernel
theorem dX9_readSheet_72 : decode cX9_readSheet 72 = .ok (.ifCond .eq 34, 3) := by decide +kernel
theorem dX9_readSheet_75 : decode cX9_readSheet 75 = .ok (.aload_n 0, 1) := by decide +kernel
theorem dX9_readSheet_76 : decode cX9_readSheet 76 = .ok (.getfield 22, 3) := by decide +kernel
theorem dX9_readSheet_79 : decode cX9_readSheet 79 = .ok (.bipush 23, 2) := by decide +kernel
theorem dX9_readSheet_81 : decode cX9_readSheet 81 = .ok (.bipush 10, 2) := by decide +kernel
theorem dX9_readSheet_83 : decode cX9_readSheet 83 = .ok (.iload_n 2, 1) := by decide +kernel
theorem dX9_readSheet_84 : decode cX9_readSheet 84 = .ok (.imul, 1) := by decide +kernel
theorem dX9_readSheet_85 : decode cX9_readSheet 85 = .ok (.iadd, 1) := by decide +kernel
theorem dX9_readSheet_86 : decode cX9_readSheet 86 = .ok (.iaload, 1) := by decide +kernel
theorem dX9_readSheet_87 : decode cX9_readSheet 87 = .ok (.aload_n 0, 1) := by decide +kernel
theorem dX9_readSheet_88 : decode cX9_readSheet 88 = .ok (.getfield 22, 3) := by decide +kernel
theorem dX9_readSheet_91 : decode cX9_readSheet 91 = .ok (.bipush 15, 2) := by decide +kernel
theorem dX9_readSheet_93 : decode cX9_readSheet 93 = .ok (.iconst 2, 1) := by decide +kernel
theorem dX9_readSheet_94 : decode cX9_readSheet 94 = .ok (.iload_n 2, 1) := by decide +kernel
theorem dX9_readSheet_95 : decode cX9_readSheet 95 = .ok (.imul, 1) := by decide +kernel
theorem dX9_readSheet_96 : decode cX9_readSheet 96 = .ok (.iadd, 1) := by decide +kernel
theorem dX9_readSheet_97 : decode cX9_readSheet 97 = .ok (.iaload, 1) := by decide +kernel
theorem dX9_readSheet_98 : decode cX9_readSheet 98 = .ok (.if_icmp .ne 8, 3) := by decide +kernel
theorem dX9_readSheet_101 : decode cX9_readSheet 101 = .ok (.aload_n 0, 1) := by decide +kernel
theorem dX9_readSheet_102 : decode cX9_readSheet 102 = .ok (.iconst 2, 1) := by decide +kernel
theorem dX9_readSheet_103 : decode cX9_readSheet 103 = .ok (.invokevirtual 121, 3) := by decide +kernel
theorem dX9_readSheet_106 : decode cX9_readSheet 106 = .ok (.aload_n 0, 1) := by decide +kernel
theorem dX9_readSheet_107 : decode cX9_readSheet 107 = .ok (.iconst 0, 1) := by decide +kernel
theorem dX9_readSheet_108 : decode cX9_readSheet 108 = .ok (.aload_n 0, 1) := by decide +kernel
theorem dX9_readSheet_109 : decode cX9_readSheet 109 = .ok (.getfield 22, 3) := by decide +kernel
theorem dX9_readSheet_112 : decode cX9_readSheet 112 = .ok (.iconst 0, 1) := by decide +kernel
theorem dX9_readSheet_113 : decode cX9_readSheet 113 = .ok (.iaload, 1) := by decide +kernel
theorem dX9_readSheet_114 : decode cX9_readSheet 114 = .ok (.iconst 1, 1) := by decide +kernel
theorem dX9_readSheet_115 : decode cX9_readSheet 115 = .ok (.isub, 1) := by decide +kernel
theorem dX9_readSheet_116 : decode cX9_readSheet 116 = .ok (.invokevirtual 149, 3) := by decide +kernel
theorem dX9_readSheet_119 : decode cX9_readSheet 119 = .ok (.istore_n 2, 1) := by decide +kernel
theorem dX9_readSheet_120 : decode cX9_readSheet 120 = .ok (.aload_n 0, 1) := by decide +kernel
theorem dX9_readSheet_121 : decode cX9_readSheet 121 = .ok (.iconst 0, 1) := by decide +kernel
theorem dX9_readSheet_122 : decode cX9_readSheet 122 = .ok (.bipush 99, 2) := by decide +kernel
theorem dX9_readSheet_124 : decode cX9_readSheet 124 = .ok (.invokevirtual 149, 3) := by decide +kernel
theorem dX9_readSheet_127 : decode cX9_readSheet 127 = .ok (.istore_n 3, 1) := by decide +kernel
theorem dX9_readSheet_128 : decode cX9_readSheet 128 = .ok (.aload_n 0, 1) := by decide +kernel
theorem dX9_readSheet_129 : decode cX9_readSheet 129 = .ok (.iconst 0, 1) := by decide +kernel
theorem dX9_readSheet_130 : decode cX9_readSheet 130 = .ok (.bipush 12, 2) := by decide +kernel
theorem dX9_readSheet_132 : decode cX9_readSheet 132 = .ok (.invokevirtual 149, 3) := by decide +kernel
theorem dX9_readSheet_135 : decode cX9_readSheet 135 = .ok (.istore 4, 2) := by decide +kernel
theorem dX9_readSheet_137 : decode cX9_readSheet 137 = .ok (.aload_n 0, 1) := by decide +kernel
theorem dX9_readSheet_138 : decode cX9_readSheet 138 = .ok (.invokevirtual 153, 3) := by decide +kernel
theorem dX9_readSheet_141 : decode cX9_readSheet 141 = .ok (.aload_n 0, 1) := by decide +kernel
theorem dX9_readSheet_142 : decode cX9_readSheet 142 = .ok (.getfield 112, 3) := by decide +kernel
theorem dX9_readSheet_145 : decode cX9_readSheet 145 = .ok (.ifCond .ne 108, 3) := by decide +kernel
theorem dX9_readSheet_148 : decode cX9_readSheet 148 = .ok (.aload_n 0, 1) := by decide +kernel
theorem dX9_readSheet_149 : decode cX9_readSheet 149 = .ok (.getfield 22, 3) := by decide +kernel
theorem dX9_readSheet_152 : decode cX9_readSheet 152 = .ok (.iconst 1, 1) := by decide +kernel
theorem dX9_readSheet_153 : decode cX9_readSheet 153 = .ok (.iaload, 1) := by decide +kernel
theorem dX9_readSheet_154 : decode cX9_readSheet 154 = .ok (.istore 5, 2) := by decide +kernel
theorem dX9_readSheet_156 : decode cX9_readSheet 156 = .ok (.aload_n 0, 1) := by decide +kernel
theorem dX9_readSheet_157 : decode cX9_readSheet 157 = .ok (.getfield 22, 3) := by decide +kernel
theorem dX9_readSheet_160 : decode cX9_readSheet 160 = .ok (.bipush 63, 2) := by decide +kernel
theorem dX9_readSheet_162 : decode cX9_readSheet 162 = .ok (.iconst 4, 1) := by decide +kernel
theorem dX9_readSheet_163 : decode cX9_readSheet 163 = .ok (.iload 5, 2) := by decide +kernel
theorem dX9_readSheet_165 : decode cX9_readSheet 165 = .ok (.imul, 1) := by decide +kernel
theorem dX9_readSheet_166 : decode cX9_readSheet 166 = .ok (.iadd, 1) := by decide +kernel
theorem dX9_readSheet_167 : decode cX9_readSheet 167 = .ok (.iload_n 1, 1) := by decide +kernel
theorem dX9_readSheet_168 : decode cX9_readSheet 168 = .ok (.iastore, 1) := by decide +kernel
theorem dX9_readSheet_169 : decode cX9_readSheet 169 = .ok (.aload_n 0, 1) := by decide +kernel
theorem dX9_readSheet_170 : decode cX9_readSheet 170 = .ok (.getfield 22, 3) := by decide +kernel
theorem dX9_readSheet_173 : decode cX9_readSheet 173 = .ok (.bipush 63, 2) := by decide +kernel
theorem dX9_readSheet_175 : decode cX9_readSheet 175 = .ok (.iconst 4, 1) := by decide +kernel
theorem dX9_readSheet_176 : decode cX9_readSheet 176 = .ok (.iload 5, 2) := by decide +kernel
theorem dX9_readSheet_178 : decode cX9_readSheet 178 = .ok (.imul, 1) := by decide +kernel
theorem dX9_readSheet_179 : decode cX9_readSheet 179 = .ok (.iadd, 1) := by decide +kernel
theorem dX9_readSheet_180 : decode cX9_readSheet 180 = .ok (.iconst 1, 1) := by decide +kernel
theorem dX9_readSheet_181 : decode cX9_readSheet 181 = .ok (.iadd, 1) := by decide +kernel
theorem dX9_readSheet_182 : decode cX9_readSheet 182 = .ok (.iload_n 3, 1) := by decide +kernel
theorem dX9_readSheet_183 : decode cX9_readSheet 183 = .ok (.iastore, 1) := by decide +kernel
theorem dX9_readSheet_184 : decode cX9_readSheet 184 = .ok (.aload_n 0, 1) := by decide +kernel
theorem dX9_readSheet_185 : decode cX9_readSheet 185 = .ok (.getfield 22, 3) := by decide +kernel
theorem dX9_readSheet_188 : decode cX9_readSheet 188 = .ok (.bipush 63, 2) := by decide +kernel
theorem dX9_readSheet_190 : decode cX9_readSheet 190 = .ok (.iconst 4, 1) := by decide +kernel
theorem dX9_readSheet_191 : decode cX9_readSheet 191 = .ok (.iload 5, 2) := by decide +kernel
theorem dX9_readSheet_193 : decode cX9_readSheet 193 = .ok (.imul, 1) := by decide +kernel
theorem dX9_readSheet_194 : decode cX9_readSheet 194 = .ok (.iadd, 1) := by decide +kernel
theorem dX9_readSheet_195 : decode cX9_readSheet 195 = .ok (.iconst 2, 1) := by decide +kernel
theorem dX9_readSheet_196 : decode cX9_readSheet 196 = .ok (.iadd, 1) := by decide +kernel
theorem dX9_readSheet_197 : decode cX9_readSheet 197 = .ok (.iload 4, 2) := by decide +kernel
theorem dX9_readSheet_199 : decode cX9_readSheet 199 = .ok (.iastore, 1) := by decide +kernel
theorem dX9_readSheet_200 : decode cX9_readSheet 200 = .ok (.aload_n 0, 1) := by decide +kernel
theorem dX9_readSheet_201 : decode cX9_readSheet 201 = .ok (.getfield 22, 3) := by decide +kernel
theorem dX9_readSheet_204 : decode cX9_readSheet 204 = .ok (.bipush 23, 2) := by decide +kernel
theorem dX9_readSheet_206 : decode cX9_readSheet 206 = .ok (.bipush 10, 2) := by decide +kernel
theorem dX9_readSheet_208 : decode cX9_readSheet 208 = .ok (.iload_n 2, 1) := by decide +kernel
theorem dX9_readSheet_209 : decode cX9_readSheet 209 = .ok (.imul, 1) := by decide +kernel
theorem dX9_readSheet_210 : decode cX9_readSheet 210 = .ok (.iadd, 1) := by decide +kernel
theorem dX9_readSheet_211 : decode cX9_readSheet 211 = .ok (.dup2, 1) := by decide +kernel
theorem dX9_readSheet_212 : decode cX9_readSheet 212 = .ok (.iaload, 1) := by decide +kernel
theorem dX9_readSheet_213 : decode cX9_readSheet 213 = .ok (.iconst 1, 1) := by decide +kernel
theorem dX9_readSheet_214 : decode cX9_readSheet 214 = .ok (.iadd, 1) := by decide +kernel
theorem dX9_readSheet_215 : decode cX9_readSheet 215 = .ok (.iastore, 1) := by decide +kernel
theorem dX9_readSheet_216 : decode cX9_readSheet 216 = .ok (.aload_n 0, 1) := by decide +kernel
theorem dX9_readSheet_217 : decode cX9_readSheet 217 = .ok (.getfield 22, 3) := by decide +kernel
theorem dX9_readSheet_220 : decode cX9_readSheet 220 = .ok (.bipush 23, 2) := by decide +kernel
theorem dX9_readSheet_222 : decode cX9_readSheet 222 = .ok (.bipush 10, 2) := by decide +kernel
theorem dX9_readSheet_224 : decode cX9_readSheet 224 = .ok (.iload_n 2, 1) := by decide +kernel
theorem dX9_readSheet_225 : decode cX9_readSheet 225 = .ok (.imul, 1) := by decide +kernel
theorem dX9_readSheet_226 : decode cX9_readSheet 226 = .ok (.iadd, 1) := by decide +kernel
theorem dX9_readSheet_227 : decode cX9_readSheet 227 = .ok (.aload_n 0, 1) := by decide +kernel
theorem dX9_readSheet_228 : decode cX9_readSheet 228 = .ok (.getfield 22, 3) := by decide +kernel
theorem dX9_readSheet_231 : decode cX9_readSheet 231 = .ok (.bipush 23, 2) := by decide +kernel
theorem dX9_readSheet_233 : decode cX9_readSheet 233 = .ok (.bipush 10, 2) := by decide +kernel
theorem dX9_readSheet_235 : decode cX9_readSheet 235 = .ok (.iload_n 2, 1) := by decide +kernel
theorem dX9_readSheet_236 : decode cX9_readSheet 236 = .ok (.imul, 1) := by decide +kernel
theorem dX9_readSheet_237 : decode cX9_readSheet 237 = .ok (.iadd, 1) := by decide +kernel
theorem dX9_readSheet_238 : decode cX9_readSheet 238 = .ok (.iaload, 1) := by decide +kernel
theorem dX9_readSheet_239 : decode cX9_readSheet 239 = .ok (.iadd, 1) := by decide +kernel
theorem dX9_readSheet_240 : decode cX9_readSheet 240 = .ok (.iload 5, 2) := by decide +kernel
theorem dX9_readSheet_242 : decode cX9_readSheet 242 = .ok (.iastore, 1) := by decide +kernel
theorem dX9_readSheet_243 : decode cX9_readSheet 243 = .ok (.aload_n 0, 1) := by decide +kernel
theorem dX9_readSheet_244 : decode cX9_readSheet 244 = .ok (.getfield 22, 3) := by decide +kernel
theorem dX9_readSheet_247 : decode cX9_readSheet 247 = .ok (.iconst 1, 1) := by decide +kernel
theorem dX9_readSheet_248 : decode cX9_readSheet 248 = .ok (.dup2, 1) := by decide +kernel
theorem dX9_readSheet_249 : decode cX9_readSheet 249 = .ok (.iaload, 1) := by decide +kernel
theorem dX9_readSheet_250 : decode cX9_readSheet 250 = .ok (.iconst 1, 1) := by decide +kernel
theorem dX9_readSheet_251 : decode cX9_readSheet 251 = .ok (.iadd, 1) := by decide +kernel
theorem dX9_readSheet_252 : decode cX9_readSheet 252 = .ok (.iastore, 1) := by decide +kernel
theorem dX9_readSheet_253 : decode cX9_readSheet 253 = .ok (.return_, 1) := by decide +kernel
theorem dX9_office_0 : decode cX9_office 0 = .ok (.aload_n 0, 1) := by decide +kernel
theorem dX9_office_1 : decode cX9_office 1 = .ok (.iconst 0, 1) := by decide +kernel
theorem dX9_office_2 : decode cX9_office 2 = .ok (.putfield 54, 3) := by decide +kernel
theorem dX9_office_5 : decode cX9_office 5 = .ok (.aload_n 0, 1) := by decide +kernel
theorem dX9_office_6 : decode cX9_office 6 = .ok (.invokevirtual 164, 3) := by decide +kernel
theorem dX9_office_9 : decode cX9_office 9 = .ok (.iconst 0, 1) := by decide +kernel
theorem dX9_office_10 : decode cX9_office 10 = .ok (.istore_n 1, 1) := by decide +kernel
theorem dX9_office_11 : decode cX9_office 11 = .ok (.iload_n 1, 1) := by decide +kernel
theorem dX9_office_12 : decode cX9_office 12 = .ok (.bipush 127, 2) := by decide +kernel
theorem dX9_office_14 : decode cX9_office 14 = .ok (.if_icmp .ge 16, 3) := by decide +kernel
theorem dX9_office_17 : decode cX9_office 17 = .ok (.aload_n 0, 1) := by decide +kernel
theorem dX9_office_18 : decode cX9_office 18 = .ok (.getfield 22, 3) := by decide +kernel
theorem dX9_office_21 : decode cX9_office 21 = .ok (.iload_n 1, 1) := by decide +kernel
theorem dX9_office_22 : decode cX9_office 22 = .ok (.iconst 0, 1) := by decide +kernel
theorem dX9_office_23 : decode cX9_office 23 = .ok (.iastore, 1) := by decide +kernel
theorem dX9_office_24 : decode cX9_office 24 = .ok (.iinc 1 1, 3) := by decide +kernel
theorem dX9_office_27 : decode cX9_office 27 = .ok (.goto (-16), 3) := by decide +kernel
theorem dX9_office_30 : decode cX9_office 30 = .ok (.aload_n 0, 1) := by decide +kernel
theorem dX9_office_31 : decode cX9_office 31 = .ok (.invokevirtual 167, 3) := by decide +kernel
theorem dX9_office_34 : decode cX9_office 34 = .ok (.aload_n 0, 1) := by decide +kernel
theorem dX9_office_35 : decode cX9_office 35 = .ok (.invokevirtual 143, 3) := by decide +kernel
theorem dX9_office_38 : decode cX9_office 38 = .ok (.ldc2_w 170, 3) := by decide +kernel
theorem dX9_office_41 : decode cX9_office 41 = .ok (.lcmp, 1) := by decide +kernel
theorem dX9_office_42 : decode cX9_office 42 = .ok (.ifCond .eq 8, 3) := by decide +kernel
theorem dX9_office_45 : decode cX9_office 45 = .ok (.aload_n 0, 1) := by decide +kernel
theorem dX9_office_46 : decode cX9_office 46 = .ok (.iconst 1, 1) := by decide +kernel
theorem dX9_office_47 : decode cX9_office 47 = .ok (.invokevirtual 121, 3) := by decide +kernel
theorem dX9_office_50 : decode cX9_office 50 = .ok (.aload_n 0, 1) := by decide +kernel
theorem dX9_office_51 : decode cX9_office 51 = .ok (.invokevirtual 143, 3) := by decide +kernel
theorem dX9_office_54 : decode cX9_office 54 = .ok (.ldc2_w 170, 3) := by decide +kernel
theorem dX9_office_57 : decode cX9_office 57 = .ok (.lcmp, 1) := by decide +kernel
theorem dX9_office_58 : decode cX9_office 58 = .ok (.ifCond .ne 10, 3) := by decide +kernel
theorem dX9_office_61 : decode cX9_office 61 = .ok (.aload_n 0, 1) := by decide +kernel
theorem dX9_office_62 : decode cX9_office 62 = .ok (.invokevirtual 172, 3) := by decide +kernel
theorem dX9_office_65 : decode cX9_office 65 = .ok (.goto (-15), 3) := by decide +kernel
theorem dX9_office_68 : decode cX9_office 68 = .ok (.aload_n 0, 1) := by decide +kernel
theorem dX9_office_69 : decode cX9_office 69 = .ok (.invokevirtual 143, 3) := by decide +kernel
theorem dX9_office_72 : decode cX9_office 72 = .ok (.ldc2_w 175, 3) := by decide +kernel
theorem dX9_office_75 : decode cX9_office 75 = .ok (.lcmp, 1) := by decide +kernel
theorem dX9_office_76 : decode cX9_office 76 = .ok (.ifCond .ne 10, 3) := by decide +kernel
theorem dX9_office_79 : decode cX9_office 79 = .ok (.aload_n 0, 1) := by decide +kernel
theorem dX9_office_80 : decode cX9_office 80 = .ok (.invokevirtual 177, 3) := by decide +kernel
theorem dX9_office_83 : decode cX9_office 83 = .ok (.goto (-15), 3) := by decide +kernel
theorem dX9_office_86 : decode cX9_office 86 = .ok (.aload_n 0, 1) := by decide +kernel
theorem dX9_office_87 : decode cX9_office 87 = .ok (.getfield 112, 3) := by decide +kernel
theorem dX9_office_90 : decode cX9_office 90 = .ok (.ifCond .ne 16, 3) := by decide +kernel
theorem dX9_office_93 : decode cX9_office 93 = .ok (.aload_n 0, 1) := by decide +kernel
theorem dX9_office_94 : decode cX9_office 94 = .ok (.getfield 100, 3) := by decide +kernel
theorem dX9_office_97 : decode cX9_office 97 = .ok (.iconst 1, 1) := by decide +kernel
theorem dX9_office_98 : decode cX9_office 98 = .ok (.if_icmp .eq 8, 3) := by decide +kernel
theorem dX9_office_101 : decode cX9_office 101 = .ok (.aload_n 0, 1) := by decide +kernel
theorem dX9_office_102 : decode cX9_office 102 = .ok (.iconst 1, 1) := by decide +kernel
theorem dX9_office_103 : decode cX9_office 103 = .ok (.invokevirtual 121, 3) := by decide +kernel
theorem dX9_office_106 : decode cX9_office 106 = .ok (.aload_n 0, 1) := by decide +kernel
theorem dX9_office_107 : decode cX9_office 107 = .ok (.getfield 112, 3) := by decide +kernel
theorem dX9_office_110 : decode cX9_office 110 = .ok (.ifCond .le 19, 3) := by decide +kernel
theorem dX9_office_113 : decode cX9_office 113 = .ok (.aload_n 0, 1) := by decide +kernel
theorem dX9_office_114 : decode cX9_office 114 = .ok (.aload_n 0, 1) := by decide +kernel
theorem dX9_office_115 : decode cX9_office 115 = .ok (.getfield 112, 3) := by decide +kernel
theorem dX9_office_118 : decode cX9_office 118 = .ok (.putfield 180, 3) := by decide +kernel
theorem dX9_office_121 : decode cX9_office 121 = .ok (.ldc 183, 2) := by decide +kernel
theorem dX9_office_123 : decode cX9_office 123 = .ok (.aload_n 0, 1) := by decide +kernel
theorem dX9_office_124 : decode cX9_office 124 = .ok (.getfield 118, 3) := by decide +kernel
theorem dX9_office_127 : decode cX9_office 127 = .ok (.isub, 1) := by decide +kernel
theorem dX9_office_128 : decode cX9_office 128 = .ok (.ireturn, 1) := by decide +kernel
theorem dX9_office_129 : decode cX9_office 129 = .ok (.aload_n 0, 1) := by decide +kernel
theorem dX9_office_130 : decode cX9_office 130 = .ok (.iconst 1, 1) := by decide +kernel
theorem dX9_office_131 : decode cX9_office 131 = .ok (.putfield 184, 3) := by decide +kernel
theorem dX9_office_134 : decode cX9_office 134 = .ok (.aload_n 0, 1) := by decide +kernel
theorem dX9_office_135 : decode cX9_office 135 = .ok (.iconst 0, 1) := by decide +kernel
theorem dX9_office_136 : decode cX9_office 136 = .ok (.putfield 188, 3) := by decide +kernel
theorem dX9_office_139 : decode cX9_office 139 = .ok (.iconst 0, 1) := by decide +kernel
theorem dX9_office_140 : decode cX9_office 140 = .ok (.istore_n 1, 1) := by decide +kernel
theorem dX9_office_141 : decode cX9_office 141 = .ok (.iload_n 1, 1) := by decide +kernel
theorem dX9_office_142 : decode cX9_office 142 = .ok (.bipush 127, 2) := by decide +kernel
theorem dX9_office_144 : decode cX9_office 144 = .ok (.if_icmp .ge 21, 3) := by decide +kernel
theorem dX9_office_147 : decode cX9_office 147 = .ok (.aload_n 0, 1) := by decide +kernel
theorem dX9_office_148 : decode cX9_office 148 = .ok (.getfield 19, 3) := by decide +kernel
theorem dX9_office_151 : decode cX9_office 151 = .ok (.iload_n 1, 1) := by decide +kernel
theorem dX9_office_152 : decode cX9_office 152 = .ok (.aload_n 0, 1) := by decide +kernel
theorem dX9_office_153 : decode cX9_office 153 = .ok (.getfield 22, 3) := by decide +kernel
theorem dX9_office_156 : decode cX9_office 156 = .ok (.iload_n 1, 1) := by decide +kernel
theorem dX9_office_157 : decode cX9_office 157 = .ok (.iaload, 1) := by decide +kernel
theorem dX9_office_158 : decode cX9_office 158 = .ok (.iastore, 1) := by decide +kernel
theorem dX9_office_159 : decode cX9_office 159 = .ok (.iinc 1 1, 3) := by decide +kernel
theorem dX9_office_162 : decode cX9_office 162 = .ok (.goto (-21), 3) := by decide +kernel
theorem dX9_office_165 : decode cX9_office 165 = .ok (.aload_n 0, 1) := by decide +kernel
theorem dX9_office_166 : decode cX9_office 166 = .ok (.getfield 19, 3) := by decide +kernel
theorem dX9_office_169 : decode cX9_office 169 = .ok (.iconst 0, 1) := by decide +kernel
theorem dX9_office_170 : decode cX9_office 170 = .ok (.iaload, 1) := by decide +kernel
theorem dX9_office_171 : decode cX9_office 171 = .ok (.ireturn, 1) := by decide +kernel
theorem dX9_fault_0 : decode cX9_fault 0 = .ok (.aload_n 0, 1) := by decide +kernel
theorem dX9_fault_1 : decode cX9_fault 1 = .ok (.iconst 0, 1) := by decide +kernel
theorem dX9_fault_2 : decode cX9_fault 2 = .ok (.putfield 54, 3) := by decide +kernel
theorem dX9_fault_5 : decode cX9_fault 5 = .ok (.aload_n 0, 1) := by decide +kernel
theorem dX9_fault_6 : decode cX9_fault 6 = .ok (.getfield 180, 3) := by decide +kernel
theorem dX9_fault_9 : decode cX9_fault 9 = .ok (.ireturn, 1) := by decide +kernel
theorem dX9_isDesk_0 : decode cX9_isDesk 0 = .ok (.iload_n 1, 1) := by decide +kernel
theorem dX9_isDesk_1 : decode cX9_isDesk 1 = .ok (.i2l, 1) := by decide +kernel
theorem dX9_isDesk_2 : decode cX9_isDesk 2 = .ok (.lconst 0, 1) := by decide +kernel
theorem dX9_isDesk_3 : decode cX9_isDesk 3 = .ok (.aload_n 0, 1) := by decide +kernel
theorem dX9_isDesk_4 : decode cX9_isDesk 4 = .ok (.getfield 19, 3) := by decide +kernel
theorem dX9_isDesk_7 : decode cX9_isDesk 7 = .ok (.iconst 0, 1) := by decide +kernel
theorem dX9_isDesk_8 : decode cX9_isDesk 8 = .ok (.iaload, 1) := by decide +kernel
theorem dX9_isDesk_9 : decode cX9_isDesk 9 = .ok (.iconst 1, 1) := by decide +kernel
theorem dX9_isDesk_10 : decode cX9_isDesk 10 = .ok (.isub, 1) := by decide +kernel
theorem dX9_isDesk_11 : decode cX9_isDesk 11 = .ok (.i2l, 1) := by decide +kernel
theorem dX9_isDesk_12 : decode cX9_isDesk 12 = .ok (.invokestatic 64, 3) := by decide +kernel
theorem dX9_isDesk_15 : decode cX9_isDesk 15 = .ok (.ireturn, 1) := by decide +kernel
theorem dX9_isSheet_0 : decode cX9_isSheet 0 = .ok (.iload_n 1, 1) := by decide +kernel
theorem dX9_isSheet_1 : decode cX9_isSheet 1 = .ok (.i2l, 1) := by decide +kernel
theorem dX9_isSheet_2 : decode cX9_isSheet 2 = .ok (.lconst 0, 1) := by decide +kernel
theorem dX9_isSheet_3 : decode cX9_isSheet 3 = .ok (.aload_n 0, 1) := by decide +kernel
theorem dX9_isSheet_4 : decode cX9_isSheet 4 = .ok (.getfield 19, 3) := by decide +kernel
theorem dX9_isSheet_7 : decode cX9_isSheet 7 = .ok (.iconst 1, 1) := by decide +kernel
theorem dX9_isSheet_8 : decode cX9_isSheet 8 = .ok (.iaload, 1) := by decide +kernel
theorem dX9_isSheet_9 : decode cX9_isSheet 9 = .ok (.iconst 1, 1) := by decide +kernel
theorem dX9_isSheet_10 : decode cX9_isSheet 10 = .ok (.isub, 1) := by decide +kernel
theorem dX9_isSheet_11 : decode cX9_isSheet 11 = .ok (.i2l, 1) := by decide +kernel
theorem dX9_isSheet_12 : decode cX9_isSheet 12 = .ok (.invokestatic 64, 3) := by decide +kernel
theorem dX9_isSheet_15 : decode cX9_isSheet 15 = .ok (.ireturn, 1) := by decide +kernel
theorem dX9_of_0 : decode cX9_of 0 = .ok (.aload_n 0, 1) := by decide +kernel
theorem dX9_of_1 : decode cX9_of 1 = .ok (.getfield 19, 3) := by decide +kernel
theorem dX9_of_4 : decode cX9_of 4 = .ok (.bipush 63, 2) := by decide +kernel
theorem dX9_of_6 : decode cX9_of 6 = .ok (.iconst 4, 1) := by decide +kernel
theorem dX9_of_7 : decode cX9_of 7 = .ok (.iload_n 1, 1) := by decide +kernel
theorem dX9_of_8 : decode cX9_of 8 = .ok (.imul, 1) := by decide +kernel
theorem dX9_of_9 : decode cX9_of 9 = .ok (.iadd, 1) := by decide +kernel
theorem dX9_of_10 : decode cX9_of 10 = .ok (.iload_n 2, 1) := by decide +kernel
theorem dX9_of_11 : decode cX9_of 11 = .ok (.iadd, 1) := by decide +kernel
theorem dX9_of_12 : decode cX9_of 12 = .ok (.iaload, 1) := by decide +kernel
theorem dX9_of_13 : decode cX9_of 13 = .ok (.ireturn, 1) := by decide +kernel
theorem dX9_manyOn_0 : decode cX9_manyOn 0 = .ok (.aload_n 0, 1) := by decide +kernel
theorem dX9_manyOn_1 : decode cX9_manyOn 1 = .ok (.getfield 19, 3) := by decide +kernel
theorem dX9_manyOn_4 : decode cX9_manyOn 4 = .ok (.bipush 23, 2) := by decide +kernel
theorem dX9_manyOn_6 : decode cX9_manyOn 6 = .ok (.bipush 10, 2) := by decide +kernel
theorem dX9_manyOn_8 : decode cX9_manyOn 8 = .ok (.iload_n 1, 1) := by decide +kernel
theorem dX9_manyOn_9 : decode cX9_manyOn 9 = .ok (.imul, 1) := by decide +kernel
theorem dX9_manyOn_10 : decode cX9_manyOn 10 = .ok (.iadd, 1) := by decide +kernel
theorem dX9_manyOn_11 : decode cX9_manyOn 11 = .ok (.iaload, 1) := by decide +kernel
theorem dX9_manyOn_12 : decode cX9_manyOn 12 = .ok (.ireturn, 1) := by decide +kernel
theorem dX9_lies_0 : decode cX9_lies 0 = .ok (.aload_n 0, 1) := by decide +kernel
theorem dX9_lies_1 : decode cX9_lies 1 = .ok (.getfield 19, 3) := by decide +kernel
theorem dX9_lies_4 : decode cX9_lies 4 = .ok (.bipush 23, 2) := by decide +kernel
theorem dX9_lies_6 : decode cX9_lies 6 = .ok (.bipush 10, 2) := by decide +kernel
theorem dX9_lies_8 : decode cX9_lies 8 = .ok (.iload_n 1, 1) := by decide +kernel
theorem dX9_lies_9 : decode cX9_lies 9 = .ok (.imul, 1) := by decide +kernel
theorem dX9_lies_10 : decode cX9_lies 10 = .ok (.iadd, 1) := by decide +kernel
theorem dX9_lies_11 : decode cX9_lies 11 = .ok (.iconst 1, 1) := by decide +kernel
theorem dX9_lies_12 : decode cX9_lies 12 = .ok (.iadd, 1) := by decide +kernel
theorem dX9_lies_13 : decode cX9_lies 13 = .ok (.iload_n 2, 1) := by decide +kernel
theorem dX9_lies_14 : decode cX9_lies 14 = .ok (.iadd, 1) := by decide +kernel
theorem dX9_lies_15 : decode cX9_lies 15 = .ok (.iaload, 1) := by decide +kernel
theorem dX9_lies_16 : decode cX9_lies 16 = .ok (.ireturn, 1) := by decide +kernel
theorem dX9_deskOf_0 : decode cX9_deskOf 0 = .ok (.iconst 0, 1) := by decide +kernel
theorem dX9_deskOf_1 : decode cX9_deskOf 1 = .ok (.istore_n 2, 1) := by decide +kernel
theorem dX9_deskOf_2 : decode cX9_deskOf 2 = .ok (.iload_n 2, 1) := by decide +kernel
theorem dX9_deskOf_3 : decode cX9_deskOf 3 = .ok (.aload_n 0, 1) := by decide +kernel
theorem dX9_deskOf_4 : decode cX9_deskOf 4 = .ok (.getfield 19, 3) := by decide +kernel
theorem dX9_deskOf_7 : decode cX9_deskOf 7 = .ok (.iconst 0, 1) := by decide +kernel
theorem dX9_deskOf_8 : decode cX9_deskOf 8 = .ok (.iaload, 1) := by decide +kernel
theorem dX9_deskOf_9 : decode cX9_deskOf 9 = .ok (.if_icmp .ge 38, 3) := by decide +kernel
theorem dX9_deskOf_12 : decode cX9_deskOf 12 = .ok (.iconst 0, 1) := by decide +kernel
theorem dX9_deskOf_13 : decode cX9_deskOf 13 = .ok (.istore_n 3, 1) := by decide +kernel
theorem dX9_deskOf_14 : decode cX9_deskOf 14 = .ok (.iload_n 3, 1) := by decide +kernel
theorem dX9_deskOf_15 : decode cX9_deskOf 15 = .ok (.aload_n 0, 1) := by decide +kernel
theorem dX9_deskOf_16 : decode cX9_deskOf 16 = .ok (.iload_n 2, 1) := by decide +kernel
theorem dX9_deskOf_17 : decode cX9_deskOf 17 = .ok (.invokevirtual 191, 3) := by decide +kernel
theorem dX9_deskOf_20 : decode cX9_deskOf 20 = .ok (.if_icmp .ge 21, 3) := by decide +kernel
theorem dX9_deskOf_23 : decode cX9_deskOf 23 = .ok (.aload_n 0, 1) := by decide +kernel
theorem dX9_deskOf_24 : decode cX9_deskOf 24 = .ok (.iload_n 2, 1) := by decide +kernel
theorem dX9_deskOf_25 : decode cX9_deskOf 25 = .ok (.iload_n 3, 1) := by decide +kernel
theorem dX9_deskOf_26 : decode cX9_deskOf 26 = .ok (.invokevirtual 194, 3) := by decide +kernel
theorem dX9_deskOf_29 : decode cX9_deskOf 29 = .ok (.iload_n 1, 1) := by decide +kernel
theorem dX9_deskOf_30 : decode cX9_deskOf 30 = .ok (.if_icmp .ne 5, 3) := by decide +kernel
theorem dX9_deskOf_33 : decode cX9_deskOf 33 = .ok (.iload_n 2, 1) := by decide +kernel
theorem dX9_deskOf_34 : decode cX9_deskOf 34 = .ok (.ireturn, 1) := by decide +kernel
theorem dX9_deskOf_35 : decode cX9_deskOf 35 = .ok (.iinc 3 1, 3) := by decide +kernel
theorem dX9_deskOf_38 : decode cX9_deskOf 38 = .ok (.goto (-24), 3) := by decide +kernel
theorem dX9_deskOf_41 : decode cX9_deskOf 41 = .ok (.iinc 2 1, 3) := by decide +kernel
theorem dX9_deskOf_44 : decode cX9_deskOf 44 = .ok (.goto (-42), 3) := by decide +kernel
theorem dX9_deskOf_47 : decode cX9_deskOf 47 = .ok (.ldc 90, 2) := by decide +kernel
theorem dX9_deskOf_49 : decode cX9_deskOf 49 = .ok (.ireturn, 1) := by decide +kernel
theorem dX9_placeOf_0 : decode cX9_placeOf 0 = .ok (.iconst 0, 1) := by decide +kernel
theorem dX9_placeOf_1 : decode cX9_placeOf 1 = .ok (.istore_n 3, 1) := by decide +kernel
theorem dX9_placeOf_2 : decode cX9_placeOf 2 = .ok (.aload_n 0, 1) := by decide +kernel
theorem dX9_placeOf_3 : decode cX9_placeOf 3 = .ok (.iload_n 1, 1) := by decide +kernel
theorem dX9_placeOf_4 : decode cX9_placeOf 4 = .ok (.iload_n 3, 1) := by decide +kernel
theorem dX9_placeOf_5 : decode cX9_placeOf 5 = .ok (.invokevirtual 194, 3) := by decide +kernel
theorem dX9_placeOf_8 : decode cX9_placeOf 8 = .ok (.iload_n 2, 1) := by decide +kernel
theorem dX9_placeOf_9 : decode cX9_placeOf 9 = .ok (.if_icmp .eq 9, 3) := by decide +kernel
theorem dX9_placeOf_12 : decode cX9_placeOf 12 = .ok (.iinc 3 1, 3) := by decide +kernel
theorem dX9_placeOf_15 : decode cX9_placeOf 15 = .ok (.goto (-13), 3) := by decide +kernel
theorem dX9_placeOf_18 : decode cX9_placeOf 18 = .ok (.iload_n 3, 1) := by decide +kernel
theorem dX9_placeOf_19 : decode cX9_placeOf 19 = .ok (.ireturn, 1) := by decide +kernel
theorem dX9_hasRoom_0 : decode cX9_hasRoom 0 = .ok (.aload_n 0, 1) := by decide +kernel
theorem dX9_hasRoom_1 : decode cX9_hasRoom 1 = .ok (.iload_n 1, 1) := by decide +kernel
theorem dX9_hasRoom_2 : decode cX9_hasRoom 2 = .ok (.invokevirtual 191, 3) := by decide +kernel
theorem dX9_hasRoom_5 : decode cX9_hasRoom 5 = .ok (.aload_n 0, 1) := by decide +kernel
theorem dX9_hasRoom_6 : decode cX9_hasRoom 6 = .ok (.getfield 19, 3) := by decide +kernel
theorem dX9_hasRoom_9 : decode cX9_hasRoom 9 = .ok (.bipush 15, 2) := by decide +kernel
theorem dX9_hasRoom_11 : decode cX9_hasRoom 11 = .ok (.iconst 2, 1) := by decide +kernel
theorem dX9_hasRoom_12 : decode cX9_hasRoom 12 = .ok (.iload_n 1, 1) := by decide +kernel
theorem dX9_hasRoom_13 : decode cX9_hasRoom 13 = .ok (.imul, 1) := by decide +kernel
theorem dX9_hasRoom_14 : decode cX9_hasRoom 14 = .ok (.iadd, 1) := by decide +kernel
theorem dX9_hasRoom_15 : decode cX9_hasRoom 15 = .ok (.iaload, 1) := by decide +kernel
theorem dX9_hasRoom_16 : decode cX9_hasRoom 16 = .ok (.if_icmp .ge 7, 3) := by decide +kernel
theorem dX9_hasRoom_19 : decode cX9_hasRoom 19 = .ok (.iconst 1, 1) := by decide +kernel
theorem dX9_hasRoom_20 : decode cX9_hasRoom 20 = .ok (.goto 4, 3) := by decide +kernel
theorem dX9_hasRoom_23 : decode cX9_hasRoom 23 = .ok (.iconst 0, 1) := by decide +kernel
theorem dX9_hasRoom_24 : decode cX9_hasRoom 24 = .ok (.ireturn, 1) := by decide +kernel
theorem dX9_leaves_0 : decode cX9_leaves 0 = .ok (.aload_n 0, 1) := by decide +kernel
theorem dX9_leaves_1 : decode cX9_leaves 1 = .ok (.iload_n 1, 1) := by decide +kernel
theorem dX9_leaves_2 : decode cX9_leaves 2 = .ok (.iload_n 2, 1) := by decide +kernel
theorem dX9_leaves_3 : decode cX9_leaves 3 = .ok (.invokevirtual 197, 3) := by decide +kernel
theorem dX9_leaves_6 : decode cX9_leaves 6 = .ok (.istore_n 3, 1) := by decide +kernel
theorem dX9_leaves_7 : decode cX9_leaves 7 = .ok (.iload_n 3, 1) := by decide +kernel
theorem dX9_leaves_8 : decode cX9_leaves 8 = .ok (.iconst 1, 1) := by decide +kernel
theorem dX9_leaves_9 : decode cX9_leaves 9 = .ok (.iadd, 1) := by decide +kernel
theorem dX9_leaves_10 : decode cX9_leaves 10 = .ok (.aload_n 0, 1) := by decide +kernel
theorem dX9_leaves_11 : decode cX9_leaves 11 = .ok (.iload_n 1, 1) := by decide +kernel
theorem dX9_leaves_12 : decode cX9_leaves 12 = .ok (.invokevirtual 191, 3) := by decide +kernel
theorem dX9_leaves_15 : decode cX9_leaves 15 = .ok (.if_icmp .ge 33, 3) := by decide +kernel
theorem dX9_leaves_18 : decode cX9_leaves 18 = .ok (.aload_n 0, 1) := by decide +kernel
theorem dX9_leaves_19 : decode cX9_leaves 19 = .ok (.getfield 19, 3) := by decide +kernel
theorem dX9_leaves_22 : decode cX9_leaves 22 = .ok (.bipush 23, 2) := by decide +kernel
theorem dX9_leaves_24 : decode cX9_leaves 24 = .ok (.bipush 10, 2) := by decide +kernel
theorem dX9_leaves_26 : decode cX9_leaves 26 = .ok (.iload_n 1, 1) := by decide +kernel
theorem dX9_leaves_27 : decode cX9_leaves 27 = .ok (.imul, 1) := by decide +kernel
theorem dX9_leaves_28 : decode cX9_leaves 28 = .ok (.iadd, 1) := by decide +kernel
theorem dX9_leaves_29 : decode cX9_leaves 29 = .ok (.iconst 1, 1) := by decide +kernel
theorem dX9_leaves_30 : decode cX9_leaves 30 = .ok (.iadd, 1) := by decide +kernel
theorem dX9_leaves_31 : decode cX9_leaves 31 = .ok (.iload_n 3, 1) := by decide +kernel
theorem dX9_leaves_32 : decode cX9_leaves 32 = .ok (.iadd, 1) := by decide +kernel
theorem dX9_leaves_33 : decode cX9_leaves 33 = .ok (.aload_n 0, 1) := by decide +kernel
theorem dX9_leaves_34 : decode cX9_leaves 34 = .ok (.iload_n 1, 1) := by decide +kernel
theorem dX9_leaves_35 : decode cX9_leaves 35 = .ok (.iload_n 3, 1) := by decide +kernel
theorem dX9_leaves_36 : decode cX9_leaves 36 = .ok (.iconst 1, 1) := by decide +kernel
theorem dX9_leaves_37 : decode cX9_leaves 37 = .ok (.iadd, 1) := by decide +kernel
theorem dX9_leaves_38 : decode cX9_leaves 38 = .ok (.invokevirtual 194, 3) := by decide +kernel
theorem dX9_leaves_41 : decode cX9_leaves 41 = .ok (.iastore, 1) := by decide +kernel
theorem dX9_leaves_42 : decode cX9_leaves 42 = .ok (.iinc 3 1, 3) := by decide +kernel
theorem dX9_leaves_45 : decode cX9_leaves 45 = .ok (.goto (-38), 3) := by decide +kernel
theorem dX9_leaves_48 : decode cX9_leaves 48 = .ok (.aload_n 0, 1) := by decide +kernel
theorem dX9_leaves_49 : decode cX9_leaves 49 = .ok (.getfield 19, 3) := by decide +kernel
theorem dX9_leaves_52 : decode cX9_leaves 52 = .ok (.bipush 23, 2) := by decide +kernel
theorem dX9_leaves_54 : decode cX9_leaves 54 = .ok (.bipush 10, 2) := by decide +kernel
theorem dX9_leaves_56 : decode cX9_leaves 56 = .ok (.iload_n 1, 1) := by decide +kernel
theorem dX9_leaves_57 : decode cX9_leaves 57 = .ok (.imul, 1) := by decide +kernel
theorem dX9_leaves_58 : decode cX9_leaves 58 = .ok (.iadd, 1) := by decide +kernel
theorem dX9_leaves_59 : decode cX9_leaves 59 = .ok (.dup2, 1) := by decide +kernel
theorem dX9_leaves_60 : decode cX9_leaves 60 = .ok (.iaload, 1) := by decide +kernel
theorem dX9_leaves_61 : decode cX9_leaves 61 = .ok (.iconst 1, 1) := by decide +kernel
theorem dX9_leaves_62 : decode cX9_leaves 62 = .ok (.isub, 1) := by decide +kernel
theorem dX9_leaves_63 : decode cX9_leaves 63 = .ok (.iastore, 1) := by decide +kernel
theorem dX9_leaves_64 : decode cX9_leaves 64 = .ok (.return_, 1) := by decide +kernel
theorem dX9_comes_0 : decode cX9_comes 0 = .ok (.aload_n 0, 1) := by decide +kernel
theorem dX9_comes_1 : decode cX9_comes 1 = .ok (.getfield 19, 3) := by decide +kernel
theorem dX9_comes_4 : decode cX9_comes 4 = .ok (.bipush 23, 2) := by decide +kernel
theorem dX9_comes_6 : decode cX9_comes 6 = .ok (.bipush 10, 2) := by decide +kernel
theorem dX9_comes_8 : decode cX9_comes 8 = .ok (.iload_n 1, 1) := by decide +kernel
theorem dX9_comes_9 : decode cX9_comes 9 = .ok (.imul, 1) := by decide +kernel
theorem dX9_comes_10 : decode cX9_comes 10 = .ok (.iadd, 1) := by decide +kernel
theorem dX9_comes_11 : decode cX9_comes 11 = .ok (.dup2, 1) := by decide +kernel
theorem dX9_comes_12 : decode cX9_comes 12 = .ok (.iaload, 1) := by decide +kernel
theorem dX9_comes_13 : decode cX9_comes 13 = .ok (.iconst 1, 1) := by decide +kernel
theorem dX9_comes_14 : decode cX9_comes 14 = .ok (.iadd, 1) := by decide +kernel
theorem dX9_comes_15 : decode cX9_comes 15 = .ok (.iastore, 1) := by decide +kernel
theorem dX9_comes_16 : decode cX9_comes 16 = .ok (.aload_n 0, 1) := by decide +kernel
theorem dX9_comes_17 : decode cX9_comes 17 = .ok (.getfield 19, 3) := by decide +kernel
theorem dX9_comes_20 : decode cX9_comes 20 = .ok (.bipush 23, 2) := by decide +kernel
theorem dX9_comes_22 : decode cX9_comes 22 = .ok (.bipush 10, 2) := by decide +kernel
theorem dX9_comes_24 : decode cX9_comes 24 = .ok (.iload_n 1, 1) := by decide +kernel
theorem dX9_comes_25 : decode cX9_comes 25 = .ok (.imul, 1) := by decide +kernel
theorem dX9_comes_26 : decode cX9_comes 26 = .ok (.iadd, 1) := by decide +kernel
theorem dX9_comes_27 : decode cX9_comes 27 = .ok (.aload_n 0, 1) := by decide +kernel
theorem dX9_comes_28 : decode cX9_comes 28 = .ok (.iload_n 1, 1) := by decide +kernel
theorem dX9_comes_29 : decode cX9_comes 29 = .ok (.invokevirtual 191, 3) := by decide +kernel
theorem dX9_comes_32 : decode cX9_comes 32 = .ok (.iadd, 1) := by decide +kernel
theorem dX9_comes_33 : decode cX9_comes 33 = .ok (.iload_n 2, 1) := by decide +kernel
theorem dX9_comes_34 : decode cX9_comes 34 = .ok (.iastore, 1) := by decide +kernel
theorem dX9_comes_35 : decode cX9_comes 35 = .ok (.return_, 1) := by decide +kernel
theorem dX9_keep_0 : decode cX9_keep 0 = .ok (.aload_n 0, 1) := by decide +kernel
theorem dX9_keep_1 : decode cX9_keep 1 = .ok (.getfield 188, 3) := by decide +kernel
theorem dX9_keep_4 : decode cX9_keep 4 = .ok (.bipush 24, 2) := by decide +kernel
theorem dX9_keep_6 : decode cX9_keep 6 = .ok (.if_icmp .ne 43, 3) := by decide +kernel
theorem dX9_keep_9 : decode cX9_keep 9 = .ok (.iconst 0, 1) := by decide +kernel
theorem dX9_keep_10 : decode cX9_keep 10 = .ok (.istore_n 1, 1) := by decide +kernel
theorem dX9_keep_11 : decode cX9_keep 11 = .ok (.iload_n 1, 1) := by decide +kernel
theorem dX9_keep_12 : decode cX9_keep 12 = .ok (.sipush 2921, 3) := by decide +kernel
theorem dX9_keep_15 : decode cX9_keep 15 = .ok (.if_icmp .ge 24, 3) := by decide +kernel
theorem dX9_keep_18 : decode cX9_keep 18 = .ok (.aload_n 0, 1) := by decide +kernel
theorem dX9_keep_19 : decode cX9_keep 19 = .ok (.getfield 25, 3) := by decide +kernel
theorem dX9_keep_22 : decode cX9_keep 22 = .ok (.iload_n 1, 1) := by decide +kernel
theorem dX9_keep_23 : decode cX9_keep 23 = .ok (.aload_n 0, 1) := by decide +kernel
theorem dX9_keep_24 : decode cX9_keep 24 = .ok (.getfield 25, 3) := by decide +kernel
theorem dX9_keep_27 : decode cX9_keep 27 = .ok (.iload_n 1, 1) := by decide +kernel
theorem dX9_keep_28 : decode cX9_keep 28 = .ok (.bipush 127, 2) := by decide +kernel
theorem dX9_keep_30 : decode cX9_keep 30 = .ok (.iadd, 1) := by decide +kernel
theorem dX9_keep_31 : decode cX9_keep 31 = .ok (.iaload, 1) := by decide +kernel
theorem dX9_keep_32 : decode cX9_keep 32 = .ok (.iastore, 1) := by decide +kernel
theorem dX9_keep_33 : decode cX9_keep 33 = .ok (.iinc 1 1, 3) := by decide +kernel
theorem dX9_keep_36 : decode cX9_keep 36 = .ok (.goto (-25), 3) := by decide +kernel
theorem dX9_keep_39 : decode cX9_keep 39 = .ok (.aload_n 0, 1) := by decide +kernel
theorem dX9_keep_40 : decode cX9_keep 40 = .ok (.dup, 1) := by decide +kernel
theorem dX9_keep_41 : decode cX9_keep 41 = .ok (.getfield 188, 3) := by decide +kernel
theorem dX9_keep_44 : decode cX9_keep 44 = .ok (.iconst 1, 1) := by decide +kernel
theorem dX9_keep_45 : decode cX9_keep 45 = .ok (.isub, 1) := by decide +kernel
theorem dX9_keep_46 : decode cX9_keep 46 = .ok (.putfield 188, 3) := by decide +kernel
theorem dX9_keep_49 : decode cX9_keep 49 = .ok (.iconst 0, 1) := by decide +kernel
theorem dX9_keep_50 : decode cX9_keep 50 = .ok (.istore_n 1, 1) := by decide +kernel
theorem dX9_keep_51 : decode cX9_keep 51 = .ok (.iload_n 1, 1) := by decide +kernel
theorem dX9_keep_52 : decode cX9_keep 52 = .ok (.bipush 127, 2) := by decide +kernel
theorem dX9_keep_54 : decode cX9_keep 54 = .ok (.if_icmp .ge 29, 3) := by decide +kernel
theorem dX9_keep_57 : decode cX9_keep 57 = .ok (.aload_n 0, 1) := by decide +kernel
theorem dX9_keep_58 : decode cX9_keep 58 = .ok (.getfield 25, 3) := by decide +kernel
theorem dX9_keep_61 : decode cX9_keep 61 = .ok (.bipush 127, 2) := by decide +kernel
theorem dX9_keep_63 : decode cX9_keep 63 = .ok (.aload_n 0, 1) := by decide +kernel
theorem dX9_keep_64 : decode cX9_keep 64 = .ok (.getfield 188, 3) := by decide +kernel
theorem dX9_keep_67 : decode cX9_keep 67 = .ok (.imul, 1) := by decide +kernel
theorem dX9_keep_68 : decode cX9_keep 68 = .ok (.iload_n 1, 1) := by decide +kernel
theorem dX9_keep_69 : decode cX9_keep 69 = .ok (.iadd, 1) := by decide +kernel
theorem dX9_keep_70 : decode cX9_keep 70 = .ok (.aload_n 0, 1) := by decide +kernel
theorem dX9_keep_71 : decode cX9_keep 71 = .ok (.getfield 19, 3) := by decide +kernel
theorem dX9_keep_74 : decode cX9_keep 74 = .ok (.iload_n 1, 1) := by decide +kernel
theorem dX9_keep_75 : decode cX9_keep 75 = .ok (.iaload, 1) := by decide +kernel
theorem dX9_keep_76 : decode cX9_keep 76 = .ok (.iastore, 1) := by decide +kernel
theorem dX9_keep_77 : decode cX9_keep 77 = .ok (.iinc 1 1, 3) := by decide +kernel
theorem dX9_keep_80 : decode cX9_keep 80 = .ok (.goto (-29), 3) := by decide +kernel
theorem dX9_keep_83 : decode cX9_keep 83 = .ok (.aload_n 0, 1) := by decide +kernel
theorem dX9_keep_84 : decode cX9_keep 84 = .ok (.dup, 1) := by decide +kernel
theorem dX9_keep_85 : decode cX9_keep 85 = .ok (.getfield 188, 3) := by decide +kernel
theorem dX9_keep_88 : decode cX9_keep 88 = .ok (.iconst 1, 1) := by decide +kernel
theorem dX9_keep_89 : decode cX9_keep 89 = .ok (.iadd, 1) := by decide +kernel
theorem dX9_keep_90 : decode cX9_keep 90 = .ok (.putfield 188, 3) := by decide +kernel
theorem dX9_keep_93 : decode cX9_keep 93 = .ok (.return_, 1) := by decide +kernel
theorem dX9_lift_0 : decode cX9_lift 0 = .ok (.aload_n 0, 1) := by decide +kernel
theorem dX9_lift_1 : decode cX9_lift 1 = .ok (.iconst 0, 1) := by decide +kernel
theorem dX9_lift_2 : decode cX9_lift 2 = .ok (.putfield 54, 3) := by decide +kernel
theorem dX9_lift_5 : decode cX9_lift 5 = .ok (.aload_n 0, 1) := by decide +kernel
theorem dX9_lift_6 : decode cX9_lift 6 = .ok (.iload_n 1, 1) := by decide +kernel
theorem dX9_lift_7 : decode cX9_lift 7 = .ok (.invokevirtual 200, 3) := by decide +kernel
theorem dX9_lift_10 : decode cX9_lift 10 = .ok (.ifCond .ne 6, 3) := by decide +kernel
theorem dX9_lift_13 : decode cX9_lift 13 = .ok (.ldc 74, 2) := by decide +kernel
theorem dX9_lift_15 : decode cX9_lift 15 = .ok (.ireturn, 1) := by decide +kernel
theorem dX9_lift_16 : decode cX9_lift 16 = .ok (.aload_n 0, 1) := by decide +kernel
theorem dX9_lift_17 : decode cX9_lift 17 = .ok (.iload_n 1, 1) := by decide +kernel
theorem dX9_lift_18 : decode cX9_lift 18 = .ok (.invokevirtual 203, 3) := by decide +kernel
theorem dX9_lift_21 : decode cX9_lift 21 = .ok (.istore_n 2, 1) := by decide +kernel
theorem dX9_lift_22 : decode cX9_lift 22 = .ok (.iload_n 2, 1) := by decide +kernel
theorem dX9_lift_23 : decode cX9_lift 23 = .ok (.ldc 90, 2) := by decide +kernel
theorem dX9_lift_25 : decode cX9_lift 25 = .ok (.if_icmp .ne 6, 3) := by decide +kernel
theorem dX9_lift_28 : decode cX9_lift 28 = .ok (.ldc 206, 2) := by decide +kernel
theorem dX9_lift_30 : decode cX9_lift 30 = .ok (.ireturn, 1) := by decide +kernel
theorem dX9_lift_31 : decode cX9_lift 31 = .ok (.aload_n 0, 1) := by decide +kernel
theorem dX9_lift_32 : decode cX9_lift 32 = .ok (.invokevirtual 207, 3) := by decide +kernel
theorem dX9_lift_35 : decode cX9_lift 35 = .ok (.aload_n 0, 1) := by decide +kernel
theorem dX9_lift_36 : decode cX9_lift 36 = .ok (.iload_n 2, 1) := by decide +kernel
theorem dX9_lift_37 : decode cX9_lift 37 = .ok (.invokevirtual 191, 3) := by decide +kernel
theorem dX9_lift_40 : decode cX9_lift 40 = .ok (.iconst 1, 1) := by decide +kernel
theorem dX9_lift_41 : decode cX9_lift 41 = .ok (.isub, 1) := by decide +kernel
theorem dX9_lift_42 : decode cX9_lift 42 = .ok (.aload_n 0, 1) := by decide +kernel
theorem dX9_lift_43 : decode cX9_lift 43 = .ok (.iload_n 2, 1) := by decide +kernel
theorem dX9_lift_44 : decode cX9_lift 44 = .ok (.iload_n 1, 1) := by decide +kernel
theorem dX9_lift_45 : decode cX9_lift 45 = .ok (.invokevirtual 197, 3) := by decide +kernel
theorem dX9_lift_48 : decode cX9_lift 48 = .ok (.isub, 1) := by decide +kernel
theorem dX9_lift_49 : decode cX9_lift 49 = .ok (.istore_n 3, 1) := by decide +kernel
theorem dX9_lift_50 : decode cX9_lift 50 = .ok (.aload_n 0, 1) := by decide +kernel
theorem dX9_lift_51 : decode cX9_lift 51 = .ok (.iload_n 2, 1) := by decide +kernel
theorem dX9_lift_52 : decode cX9_lift 52 = .ok (.iload_n 1, 1) := by decide +kernel
theorem dX9_lift_53 : decode cX9_lift 53 = .ok (.invokevirtual 210, 3) := by decide +kernel
theorem dX9_lift_56 : decode cX9_lift 56 = .ok (.aload_n 0, 1) := by decide +kernel
theorem dX9_lift_57 : decode cX9_lift 57 = .ok (.iload_n 2, 1) := by decide +kernel
theorem dX9_lift_58 : decode cX9_lift 58 = .ok (.iload_n 1, 1) := by decide +kernel
theorem dX9_lift_59 : decode cX9_lift 59 = .ok (.invokevirtual 213, 3) := by decide +kernel
theorem dX9_lift_62 : decode cX9_lift 62 = .ok (.aload_n 0, 1) := by decide +kernel
theorem dX9_lift_63 : decode cX9_lift 63 = .ok (.getfield 19, 3) := by decide +kernel
theorem dX9_lift_66 : decode cX9_lift 66 = .ok (.iconst 2, 1) := by decide +kernel
theorem dX9_lift_67 : decode cX9_lift 67 = .ok (.iaload, 1) := by decide +kernel
theorem dX9_lift_68 : decode cX9_lift 68 = .ok (.aload_n 0, 1) := by decide +kernel
theorem dX9_lift_69 : decode cX9_lift 69 = .ok (.iload_n 1, 1) := by decide +kernel
theorem dX9_lift_70 : decode cX9_lift 70 = .ok (.iconst 2, 1) := by decide +kernel
theorem dX9_lift_71 : decode cX9_lift 71 = .ok (.invokevirtual 216, 3) := by decide +kernel
theorem dX9_lift_74 : decode cX9_lift 74 = .ok (.if_icmp .gt 17, 3) := by decide +kernel
theorem dX9_lift_77 : decode cX9_lift 77 = .ok (.aload_n 0, 1) := by decide +kernel
theorem dX9_lift_78 : decode cX9_lift 78 = .ok (.getfield 19, 3) := by decide +kernel
theorem dX9_lift_81 : decode cX9_lift 81 = .ok (.bipush 63, 2) := by decide +kernel
theorem dX9_lift_83 : decode cX9_lift 83 = .ok (.iconst 4, 1) := by decide +kernel
theorem dX9_lift_84 : decode cX9_lift 84 = .ok (.iload_n 1, 1) := by decide +kernel
theorem dX9_lift_85 : decode cX9_lift 85 = .ok (.imul, 1) := by decide +kernel
theorem dX9_lift_86 : decode cX9_lift 86 = .ok (.iadd, 1) := by decide +kernel
theorem dX9_lift_87 : decode cX9_lift 87 = .ok (.iconst 3, 1) := by decide +kernel
theorem dX9_lift_88 : decode cX9_lift 88 = .ok (.iadd, 1) := by decide +kernel
theorem dX9_lift_89 : decode cX9_lift 89 = .ok (.iconst 1, 1) := by decide +kernel
theorem dX9_lift_90 : decode cX9_lift 90 = .ok (.iastore, 1) := by decide +kernel
theorem dX9_lift_91 : decode cX9_lift 91 = .ok (.iload_n 3, 1) := by decide +kernel
theorem dX9_lift_92 : decode cX9_lift 92 = .ok (.ireturn, 1) := by decide +kernel
theorem dX9_lay_0 : decode cX9_lay 0 = .ok (.aload_n 0, 1) := by decide +kernel
theorem dX9_lay_1 : decode cX9_lay 1 = .ok (.iconst 0, 1) := by decide +kernel
theorem dX9_lay_2 : decode cX9_lay 2 = .ok (.putfield 54, 3) := by decide +kernel
theorem dX9_lay_5 : decode cX9_lay 5 = .ok (.aload_n 0, 1) := by decide +kernel
theorem dX9_lay_6 : decode cX9_lay 6 = .ok (.iload_n 1, 1) := by decide +kernel
theorem dX9_lay_7 : decode cX9_lay 7 = .ok (.invokevirtual 200, 3) := by decide +kernel
theorem dX9_lay_10 : decode cX9_lay 10 = .ok (.ifCond .eq 11, 3) := by decide +kernel
theorem dX9_lay_13 : decode cX9_lay 13 = .ok (.aload_n 0, 1) := by decide +kernel
theorem dX9_lay_14 : decode cX9_lay 14 = .ok (.iload_n 2, 1) := by decide +kernel
theorem dX9_lay_15 : decode cX9_lay 15 = .ok (.invokevirtual 219, 3) := by decide +kernel
theorem dX9_lay_18 : decode cX9_lay 18 = .ok (.ifCond .ne 6, 3) := by decide +kernel
theorem dX9_lay_21 : decode cX9_lay 21 = .ok (.ldc 74, 2) := by decide +kernel
theorem dX9_lay_23 : decode cX9_lay 23 = .ok (.ireturn, 1) := by decide +kernel
theorem dX9_lay_24 : decode cX9_lay 24 = .ok (.aload_n 0, 1) := by decide +kernel
theorem dX9_lay_25 : decode cX9_lay 25 = .ok (.iload_n 1, 1) := by decide +kernel
theorem dX9_lay_26 : decode cX9_lay 26 = .ok (.invokevirtual 203, 3) := by decide +kernel
theorem dX9_lay_29 : decode cX9_lay 29 = .ok (.istore_n 3, 1) := by decide +kernel
theorem dX9_lay_30 : decode cX9_lay 30 = .ok (.iload_n 3, 1) := by decide +kernel
theorem dX9_lay_31 : decode cX9_lay 31 = .ok (.ldc 90, 2) := by decide +kernel
theorem dX9_lay_33 : decode cX9_lay 33 = .ok (.if_icmp .eq 8, 3) := by decide +kernel
theorem dX9_lay_36 : decode cX9_lay 36 = .ok (.iload_n 3, 1) := by decide +kernel
theorem dX9_lay_37 : decode cX9_lay 37 = .ok (.iload_n 2, 1) := by decide +kernel
theorem dX9_lay_38 : decode cX9_lay 38 = .ok (.if_icmp .ne 6, 3) := by decide +kernel
theorem dX9_lay_41 : decode cX9_lay 41 = .ok (.ldc 206, 2) := by decide +kernel
theorem dX9_lay_43 : decode cX9_lay 43 = .ok (.ireturn, 1) := by decide +kernel
theorem dX9_lay_44 : decode cX9_lay 44 = .ok (.aload_n 0, 1) := by decide +kernel
theorem dX9_lay_45 : decode cX9_lay 45 = .ok (.iload_n 2, 1) := by decide +kernel
theorem dX9_lay_46 : decode cX9_lay 46 = .ok (.invokevirtual 222, 3) := by decide +kernel
theorem dX9_lay_49 : decode cX9_lay 49 = .ok (.ifCond .ne 6, 3) := by decide +kernel
theorem dX9_lay_52 : decode cX9_lay 52 = .ok (.ldc 84, 2) := by decide +kernel
theorem dX9_lay_54 : decode cX9_lay 54 = .ok (.ireturn, 1) := by decide +kernel
theorem dX9_lay_55 : decode cX9_lay 55 = .ok (.aload_n 0, 1) := by decide +kernel
theorem dX9_lay_56 : decode cX9_lay 56 = .ok (.invokevirtual 207, 3) := by decide +kernel
theorem dX9_lay_59 : decode cX9_lay 59 = .ok (.aload_n 0, 1) := by decide +kernel
theorem dX9_lay_60 : decode cX9_lay 60 = .ok (.iload_n 3, 1) := by decide +kernel
theorem dX9_lay_61 : decode cX9_lay 61 = .ok (.iload_n 1, 1) := by decide +kernel
theorem dX9_lay_62 : decode cX9_lay 62 = .ok (.invokevirtual 210, 3) := by decide +kernel
theorem dX9_lay_65 : decode cX9_lay 65 = .ok (.aload_n 0, 1) := by decide +kernel
theorem dX9_lay_66 : decode cX9_lay 66 = .ok (.iload_n 2, 1) := by decide +kernel
theorem dX9_lay_67 : decode cX9_lay 67 = .ok (.iload_n 1, 1) := by decide +kernel
theorem dX9_lay_68 : decode cX9_lay 68 = .ok (.invokevirtual 213, 3) := by decide +kernel
theorem dX9_lay_71 : decode cX9_lay 71 = .ok (.aload_n 0, 1) := by decide +kernel
theorem dX9_lay_72 : decode cX9_lay 72 = .ok (.iload_n 2, 1) := by decide +kernel
theorem dX9_lay_73 : decode cX9_lay 73 = .ok (.invokevirtual 191, 3) := by decide +kernel
theorem dX9_lay_76 : decode cX9_lay 76 = .ok (.ireturn, 1) := by decide +kernel
theorem dX9_blank_0 : decode cX9_blank 0 = .ok (.aload_n 0, 1) := by decide +kernel
theorem dX9_blank_1 : decode cX9_blank 1 = .ok (.iconst 0, 1) := by decide +kernel
theorem dX9_blank_2 : decode cX9_blank 2 = .ok (.putfield 54, 3) := by decide +kernel
theorem dX9_blank_5 : decode cX9_blank 5 = .ok (.aload_n 0, 1) := by decide +kernel
theorem dX9_blank_6 : decode cX9_blank 6 = .ok (.iload_n 1, 1) := by decide +kernel
theorem dX9_blank_7 : decode cX9_blank 7 = .ok (.invokevirtual 219, 3) := by decide +kernel
theorem dX9_blank_10 : decode cX9_blank 10 = .ok (.ifCond .ne 6, 3) := by decide +kernel
theorem dX9_blank_13 : decode cX9_blank 13 = .ok (.ldc 74, 2) := by decide +kernel
theorem dX9_blank_15 : decode cX9_blank 15 = .ok (.ireturn, 1) := by decide +kernel
theorem dX9_blank_16 : decode cX9_blank 16 = .ok (.aload_n 0, 1) := by decide +kernel
theorem dX9_blank_17 : decode cX9_blank 17 = .ok (.iload_n 1, 1) := by decide +kernel
theorem dX9_blank_18 : decode cX9_blank 18 = .ok (.invokevirtual 222, 3) := by decide +kernel
theorem dX9_blank_21 : decode cX9_blank 21 = .ok (.ifCond .eq 14, 3) := by decide +kernel
theorem dX9_blank_24 : decode cX9_blank 24 = .ok (.aload_n 0, 1) := by decide +kernel
theorem dX9_blank_25 : decode cX9_blank 25 = .ok (.getfield 19, 3) := by decide +kernel
theorem dX9_blank_28 : decode cX9_blank 28 = .ok (.iconst 1, 1) := by decide +kernel
theorem dX9_blank_29 : decode cX9_blank 29 = .ok (.iaload, 1) := by decide +kernel
theorem dX9_blank_30 : decode cX9_blank 30 = .ok (.bipush 16, 2) := by decide +kernel
theorem dX9_blank_32 : decode cX9_blank 32 = .ok (.if_icmp .ne 6, 3) := by decide +kernel
theorem dX9_blank_35 : decode cX9_blank 35 = .ok (.ldc 84, 2) := by decide +kernel
theorem dX9_blank_37 : decode cX9_blank 37 = .ok (.ireturn, 1) := by decide +kernel
theorem dX9_blank_38 : decode cX9_blank 38 = .ok (.aload_n 0, 1) := by decide +kernel
theorem dX9_blank_39 : decode cX9_blank 39 = .ok (.invokevirtual 207, 3) := by decide +kernel
theorem dX9_blank_42 : decode cX9_blank 42 = .ok (.aload_n 0, 1) := by decide +kernel
theorem dX9_blank_43 : decode cX9_blank 43 = .ok (.getfield 19, 3) := by decide +kernel
theorem dX9_blank_46 : decode cX9_blank 46 = .ok (.iconst 1, 1) := by decide +kernel
theorem dX9_blank_47 : decode cX9_blank 47 = .ok (.iaload, 1) := by decide +kernel
theorem dX9_blank_48 : decode cX9_blank 48 = .ok (.istore_n 2, 1) := by decide +kernel
theorem dX9_blank_49 : decode cX9_blank 49 = .ok (.aload_n 0, 1) := by decide +kernel
theorem dX9_blank_50 : decode cX9_blank 50 = .ok (.getfield 19, 3) := by decide +kernel
theorem dX9_blank_53 : decode cX9_blank 53 = .ok (.bipush 63, 2) := by decide +kernel
theorem dX9_blank_55 : decode cX9_blank 55 = .ok (.iconst 4, 1) := by decide +kernel
theorem dX9_blank_56 : decode cX9_blank 56 = .ok (.iload_n 2, 1) := by decide +kernel
theorem dX9_blank_57 : decode cX9_blank 57 = .ok (.imul, 1) := by decide +kernel
theorem dX9_blank_58 : decode cX9_blank 58 = .ok (.iadd, 1) := by decide +kernel
theorem dX9_blank_59 : decode cX9_blank 59 = .ok (.iconst 4, 1) := by decide +kernel
theorem dX9_blank_60 : decode cX9_blank 60 = .ok (.iastore, 1) := by decide +kernel
theorem dX9_blank_61 : decode cX9_blank 61 = .ok (.aload_n 0, 1) := by decide +kernel
theorem dX9_blank_62 : decode cX9_blank 62 = .ok (.getfield 19, 3) := by decide +kernel
theorem dX9_blank_65 : decode cX9_blank 65 = .ok (.bipush 63, 2) := by decide +kernel
theorem dX9_blank_67 : decode cX9_blank 67 = .ok (.iconst 4, 1) := by decide +kernel
theorem dX9_blank_68 : decode cX9_blank 68 = .ok (.iload_n 2, 1) := by decide +kernel
theorem dX9_blank_69 : decode cX9_blank 69 = .ok (.imul, 1) := by decide +kernel
theorem dX9_blank_70 : decode cX9_blank 70 = .ok (.iadd, 1) := by decide +kernel
theorem dX9_blank_71 : decode cX9_blank 71 = .ok (.iconst 1, 1) := by decide +kernel
theorem dX9_blank_72 : decode cX9_blank 72 = .ok (.iadd, 1) := by decide +kernel
theorem dX9_blank_73 : decode cX9_blank 73 = .ok (.iconst 0, 1) := by decide +kernel
theorem dX9_blank_74 : decode cX9_blank 74 = .ok (.iastore, 1) := by decide +kernel
theorem dX9_blank_75 : decode cX9_blank 75 = .ok (.aload_n 0, 1) := by decide +kernel
theorem dX9_blank_76 : decode cX9_blank 76 = .ok (.getfield 19, 3) := by decide +kernel
theorem dX9_blank_79 : decode cX9_blank 79 = .ok (.bipush 63, 2) := by decide +kernel
theorem dX9_blank_81 : decode cX9_blank 81 = .ok (.iconst 4, 1) := by decide +kernel
theorem dX9_blank_82 : decode cX9_blank 82 = .ok (.iload_n 2, 1) := by decide +kernel
theorem dX9_blank_83 : decode cX9_blank 83 = .ok (.imul, 1) := by decide +kernel
theorem dX9_blank_84 : decode cX9_blank 84 = .ok (.iadd, 1) := by decide +kernel
theorem dX9_blank_85 : decode cX9_blank 85 = .ok (.iconst 2, 1) := by decide +kernel
theorem dX9_blank_86 : decode cX9_blank 86 = .ok (.iadd, 1) := by decide +kernel
theorem dX9_blank_87 : decode cX9_blank 87 = .ok (.bipush 12, 2) := by decide +kernel
theorem dX9_blank_89 : decode cX9_blank 89 = .ok (.iastore, 1) := by decide +kernel
theorem dX9_blank_90 : decode cX9_blank 90 = .ok (.aload_n 0, 1) := by decide +kernel
theorem dX9_blank_91 : decode cX9_blank 91 = .ok (.getfield 19, 3) := by decide +kernel
theorem dX9_blank_94 : decode cX9_blank 94 = .ok (.bipush 63, 2) := by decide +kernel
theorem dX9_blank_96 : decode cX9_blank 96 = .ok (.iconst 4, 1) := by decide +kernel
theorem dX9_blank_97 : decode cX9_blank 97 = .ok (.iload_n 2, 1) := by decide +kernel
theorem dX9_blank_98 : decode cX9_blank 98 = .ok (.imul, 1) := by decide +kernel
theorem dX9_blank_99 : decode cX9_blank 99 = .ok (.iadd, 1) := by decide +kernel
theorem dX9_blank_100 : decode cX9_blank 100 = .ok (.iconst 3, 1) := by decide +kernel
theorem dX9_blank_101 : decode cX9_blank 101 = .ok (.iadd, 1) := by decide +kernel
theorem dX9_blank_102 : decode cX9_blank 102 = .ok (.iconst 0, 1) := by decide +kernel
theorem dX9_blank_103 : decode cX9_blank 103 = .ok (.iastore, 1) := by decide +kernel
theorem dX9_blank_104 : decode cX9_blank 104 = .ok (.aload_n 0, 1) := by decide +kernel
theorem dX9_blank_105 : decode cX9_blank 105 = .ok (.getfield 19, 3) := by decide +kernel
theorem dX9_blank_108 : decode cX9_blank 108 = .ok (.iconst 1, 1) := by decide +kernel
theorem dX9_blank_109 : decode cX9_blank 109 = .ok (.dup2, 1) := by decide +kernel
theorem dX9_blank_110 : decode cX9_blank 110 = .ok (.iaload, 1) := by decide +kernel
theorem dX9_blank_111 : decode cX9_blank 111 = .ok (.iconst 1, 1) := by decide +kernel
theorem dX9_blank_112 : decode cX9_blank 112 = .ok (.iadd, 1) := by decide +kernel
theorem dX9_blank_113 : decode cX9_blank 113 = .ok (.iastore, 1) := by decide +kernel
theorem dX9_blank_114 : decode cX9_blank 114 = .ok (.aload_n 0, 1) := by decide +kernel
theorem dX9_blank_115 : decode cX9_blank 115 = .ok (.iload_n 1, 1) := by decide +kernel
theorem dX9_blank_116 : decode cX9_blank 116 = .ok (.iload_n 2, 1) := by decide +kernel
theorem dX9_blank_117 : decode cX9_blank 117 = .ok (.invokevirtual 213, 3) := by decide +kernel
theorem dX9_blank_120 : decode cX9_blank 120 = .ok (.iload_n 2, 1) := by decide +kernel
theorem dX9_blank_121 : decode cX9_blank 121 = .ok (.ireturn, 1) := by decide +kernel
theorem dX9_layLeft_0 : decode cX9_layLeft 0 = .ok (.iconst 0, 1) := by decide +kernel
theorem dX9_layLeft_1 : decode cX9_layLeft 1 = .ok (.istore_n 1, 1) := by decide +kernel
theorem dX9_layLeft_2 : decode cX9_layLeft 2 = .ok (.iload_n 1, 1) := by decide +kernel
theorem dX9_layLeft_3 : decode cX9_layLeft 3 = .ok (.aload_n 0, 1) := by decide +kernel
theorem dX9_layLeft_4 : decode cX9_layLeft 4 = .ok (.getfield 19, 3) := by decide +kernel
theorem dX9_layLeft_7 : decode cX9_layLeft 7 = .ok (.iconst 0, 1) := by decide +kernel
theorem dX9_layLeft_8 : decode cX9_layLeft 8 = .ok (.iaload, 1) := by decide +kernel
theorem dX9_layLeft_9 : decode cX9_layLeft 9 = .ok (.if_icmp .ge 20, 3) := by decide +kernel
theorem dX9_layLeft_12 : decode cX9_layLeft 12 = .ok (.aload_n 0, 1) := by decide +kernel
theorem dX9_layLeft_13 : decode cX9_layLeft 13 = .ok (.getfield 31, 3) := by decide +kernel
theorem dX9_layLeft_16 : decode cX9_layLeft 16 = .ok (.iload_n 1, 1) := by decide +kernel
theorem dX9_layLeft_17 : decode cX9_layLeft 17 = .ok (.aload_n 0, 1) := by decide +kernel
theorem dX9_layLeft_18 : decode cX9_layLeft 18 = .ok (.iload_n 1, 1) := by decide +kernel
theorem dX9_layLeft_19 : decode cX9_layLeft 19 = .ok (.invokevirtual 191, 3) := by decide +kernel
theorem dX9_layLeft_22 : decode cX9_layLeft 22 = .ok (.iastore, 1) := by decide +kernel
theorem dX9_layLeft_23 : decode cX9_layLeft 23 = .ok (.iinc 1 1, 3) := by decide +kernel
theorem dX9_layLeft_26 : decode cX9_layLeft 26 = .ok (.goto (-24), 3) := by decide +kernel
theorem dX9_layLeft_29 : decode cX9_layLeft 29 = .ok (.return_, 1) := by decide +kernel
theorem dX9_topOf_0 : decode cX9_topOf 0 = .ok (.aload_n 0, 1) := by decide +kernel
theorem dX9_topOf_1 : decode cX9_topOf 1 = .ok (.getfield 31, 3) := by decide +kernel
theorem dX9_topOf_4 : decode cX9_topOf 4 = .ok (.iload_n 1, 1) := by decide +kernel
theorem dX9_topOf_5 : decode cX9_topOf 5 = .ok (.iaload, 1) := by decide +kernel
theorem dX9_topOf_6 : decode cX9_topOf 6 = .ok (.aload_n 0, 1) := by decide +kernel
theorem dX9_topOf_7 : decode cX9_topOf 7 = .ok (.getfield 19, 3) := by decide +kernel
theorem dX9_topOf_10 : decode cX9_topOf 10 = .ok (.bipush 15, 2) := by decide +kernel
theorem dX9_topOf_12 : decode cX9_topOf 12 = .ok (.iconst 2, 1) := by decide +kernel
theorem dX9_topOf_13 : decode cX9_topOf 13 = .ok (.iload_n 1, 1) := by decide +kernel
theorem dX9_topOf_14 : decode cX9_topOf 14 = .ok (.imul, 1) := by decide +kernel
theorem dX9_topOf_15 : decode cX9_topOf 15 = .ok (.iadd, 1) := by decide +kernel
theorem dX9_topOf_16 : decode cX9_topOf 16 = .ok (.iconst 1, 1) := by decide +kernel
theorem dX9_topOf_17 : decode cX9_topOf 17 = .ok (.iadd, 1) := by decide +kernel
theorem dX9_topOf_18 : decode cX9_topOf 18 = .ok (.iaload, 1) := by decide +kernel
theorem dX9_topOf_19 : decode cX9_topOf 19 = .ok (.if_icmp .le 7, 3) := by decide +kernel
theorem dX9_topOf_22 : decode cX9_topOf 22 = .ok (.iconst 1, 1) := by decide +kernel
theorem dX9_topOf_23 : decode cX9_topOf 23 = .ok (.goto 4, 3) := by decide +kernel
theorem dX9_topOf_26 : decode cX9_topOf 26 = .ok (.iconst 0, 1) := by decide +kernel
theorem dX9_topOf_27 : decode cX9_topOf 27 = .ok (.istore_n 2, 1) := by decide +kernel
theorem dX9_topOf_28 : decode cX9_topOf 28 = .ok (.iload_n 2, 1) := by decide +kernel
theorem dX9_topOf_29 : decode cX9_topOf 29 = .ok (.ifCond .eq 19, 3) := by decide +kernel
theorem dX9_topOf_32 : decode cX9_topOf 32 = .ok (.aload_n 0, 1) := by decide +kernel
theorem dX9_topOf_33 : decode cX9_topOf 33 = .ok (.iload_n 1, 1) := by decide +kernel
theorem dX9_topOf_34 : decode cX9_topOf 34 = .ok (.aload_n 0, 1) := by decide +kernel
theorem dX9_topOf_35 : decode cX9_topOf 35 = .ok (.getfield 31, 3) := by decide +kernel
theorem dX9_topOf_38 : decode cX9_topOf 38 = .ok (.iload_n 1, 1) := by decide +kernel
theorem dX9_topOf_39 : decode cX9_topOf 39 = .ok (.iaload, 1) := by decide +kernel
theorem dX9_topOf_40 : decode cX9_topOf 40 = .ok (.iconst 1, 1) := by decide +kernel
theorem dX9_topOf_41 : decode cX9_topOf 41 = .ok (.isub, 1) := by decide +kernel
theorem dX9_topOf_42 : decode cX9_topOf 42 = .ok (.invokevirtual 194, 3) := by decide +kernel
theorem dX9_topOf_45 : decode cX9_topOf 45 = .ok (.goto 5, 3) := by decide +kernel
theorem dX9_topOf_48 : decode cX9_topOf 48 = .ok (.ldc 90, 2) := by decide +kernel
theorem dX9_topOf_50 : decode cX9_topOf 50 = .ok (.istore_n 3, 1) := by decide +kernel
theorem dX9_topOf_51 : decode cX9_topOf 51 = .ok (.iload_n 2, 1) := by decide +kernel
theorem dX9_topOf_52 : decode cX9_topOf 52 = .ok (.ifCond .eq 17, 3) := by decide +kernel
theorem dX9_topOf_55 : decode cX9_topOf 55 = .ok (.aload_n 0, 1) := by decide +kernel
theorem dX9_topOf_56 : decode cX9_topOf 56 = .ok (.iload_n 3, 1) := by decide +kernel
theorem dX9_topOf_57 : decode cX9_topOf 57 = .ok (.iconst 0, 1) := by decide +kernel
theorem dX9_topOf_58 : decode cX9_topOf 58 = .ok (.invokevirtual 216, 3) := by decide +kernel
theorem dX9_topOf_61 : decode cX9_topOf 61 = .ok (.iconst 5, 1) := by decide +kernel
theorem dX9_topOf_62 : decode cX9_topOf 62 = .ok (.if_icmp .eq 7, 3) := by decide +kernel
theorem dX9_topOf_65 : decode cX9_topOf 65 = .ok (.iload_n 3, 1) := by decide +kernel
theorem dX9_topOf_66 : decode cX9_topOf 66 = .ok (.goto 5, 3) := by decide +kernel
theorem dX9_topOf_69 : decode cX9_topOf 69 = .ok (.ldc 90, 2) := by decide +kernel
theorem dX9_topOf_71 : decode cX9_topOf 71 = .ok (.ireturn, 1) := by decide +kernel
theorem dX9_gust_0 : decode cX9_gust 0 = .ok (.iconst 0, 1) := by decide +kernel
theorem dX9_gust_1 : decode cX9_gust 1 = .ok (.istore_n 1, 1) := by decide +kernel
theorem dX9_gust_2 : decode cX9_gust 2 = .ok (.iconst 0, 1) := by decide +kernel
theorem dX9_gust_3 : decode cX9_gust 3 = .ok (.istore_n 2, 1) := by decide +kernel
theorem dX9_gust_4 : decode cX9_gust 4 = .ok (.iload_n 2, 1) := by decide +kernel
theorem dX9_gust_5 : decode cX9_gust 5 = .ok (.aload_n 0, 1) := by decide +kernel
theorem dX9_gust_6 : decode cX9_gust 6 = .ok (.getfield 19, 3) := by decide +kernel
theorem dX9_gust_9 : decode cX9_gust 9 = .ok (.iconst 0, 1) := by decide +kernel
theorem dX9_gust_10 : decode cX9_gust 10 = .ok (.iaload, 1) := by decide +kernel
theorem dX9_gust_11 : decode cX9_gust 11 = .ok (.if_icmp .ge 37, 3) := by decide +kernel
theorem dX9_gust_14 : decode cX9_gust 14 = .ok (.aload_n 0, 1) := by decide +kernel
theorem dX9_gust_15 : decode cX9_gust 15 = .ok (.iload_n 2, 1) := by decide +kernel
theorem dX9_gust_16 : decode cX9_gust 16 = .ok (.invokevirtual 225, 3) := by decide +kernel
theorem dX9_gust_19 : decode cX9_gust 19 = .ok (.istore_n 3, 1) := by decide +kernel
theorem dX9_gust_20 : decode cX9_gust 20 = .ok (.iload_n 3, 1) := by decide +kernel
theorem dX9_gust_21 : decode cX9_gust 21 = .ok (.ldc 90, 2) := by decide +kernel
theorem dX9_gust_23 : decode cX9_gust 23 = .ok (.if_icmp .eq 19, 3) := by decide +kernel
theorem dX9_gust_26 : decode cX9_gust 26 = .ok (.iload_n 1, 1) := by decide +kernel
theorem dX9_gust_27 : decode cX9_gust 27 = .ok (.iconst 1, 1) := by decide +kernel
theorem dX9_gust_28 : decode cX9_gust 28 = .ok (.iload_n 3, 1) := by decide +kernel
theorem dX9_gust_29 : decode cX9_gust 29 = .ok (.ishl, 1) := by decide +kernel
theorem dX9_gust_30 : decode cX9_gust 30 = .ok (.ior, 1) := by decide +kernel
theorem dX9_gust_31 : decode cX9_gust 31 = .ok (.istore_n 1, 1) := by decide +kernel
theorem dX9_gust_32 : decode cX9_gust 32 = .ok (.aload_n 0, 1) := by decide +kernel
theorem dX9_gust_33 : decode cX9_gust 33 = .ok (.getfield 31, 3) := by decide +kernel
theorem dX9_gust_36 : decode cX9_gust 36 = .ok (.iload_n 2, 1) := by decide +kernel
theorem dX9_gust_37 : decode cX9_gust 37 = .ok (.dup2, 1) := by decide +kernel
theorem dX9_gust_38 : decode cX9_gust 38 = .ok (.iaload, 1) := by decide +kernel
theorem dX9_gust_39 : decode cX9_gust 39 = .ok (.iconst 1, 1) := by decide +kernel
theorem dX9_gust_40 : decode cX9_gust 40 = .ok (.isub, 1) := by decide +kernel
theorem dX9_gust_41 : decode cX9_gust 41 = .ok (.iastore, 1) := by decide +kernel
theorem dX9_gust_42 : decode cX9_gust 42 = .ok (.iinc 2 1, 3) := by decide +kernel
theorem dX9_gust_45 : decode cX9_gust 45 = .ok (.goto (-41), 3) := by decide +kernel
theorem dX9_gust_48 : decode cX9_gust 48 = .ok (.iload_n 1, 1) := by decide +kernel
theorem dX9_gust_49 : decode cX9_gust 49 = .ok (.ireturn, 1) := by decide +kernel
theorem dX9_quarter_0 : decode cX9_quarter 0 = .ok (.aload_n 0, 1) := by decide +kernel
theorem dX9_quarter_1 : decode cX9_quarter 1 = .ok (.iconst 0, 1) := by decide +kernel
theorem dX9_quarter_2 : decode cX9_quarter 2 = .ok (.putfield 54, 3) := by decide +kernel
theorem dX9_quarter_5 : decode cX9_quarter 5 = .ok (.aload_n 0, 1) := by decide +kernel
theorem dX9_quarter_6 : decode cX9_quarter 6 = .ok (.getfield 184, 3) := by decide +kernel
theorem dX9_quarter_9 : decode cX9_quarter 9 = .ok (.ifCond .ne 6, 3) := by decide +kernel
theorem dX9_quarter_12 : decode cX9_quarter 12 = .ok (.ldc 206, 2) := by decide +kernel
theorem dX9_quarter_14 : decode cX9_quarter 14 = .ok (.ireturn, 1) := by decide +kernel
theorem dX9_quarter_15 : decode cX9_quarter 15 = .ok (.iload_n 1, 1) := by decide +kernel
theorem dX9_quarter_16 : decode cX9_quarter 16 = .ok (.i2l, 1) := by decide +kernel
theorem dX9_quarter_17 : decode cX9_quarter 17 = .ok (.lconst 1, 1) := by decide +kernel
theorem dX9_quarter_18 : decode cX9_quarter 18 = .ok (.ldc2_w 228, 3) := by decide +kernel
theorem dX9_quarter_21 : decode cX9_quarter 21 = .ok (.invokestatic 64, 3) := by decide +kernel
theorem dX9_quarter_24 : decode cX9_quarter 24 = .ok (.ifCond .ne 6, 3) := by decide +kernel
theorem dX9_quarter_27 : decode cX9_quarter 27 = .ok (.ldc 74, 2) := by decide +kernel
theorem dX9_quarter_29 : decode cX9_quarter 29 = .ok (.ireturn, 1) := by decide +kernel
theorem dX9_quarter_30 : decode cX9_quarter 30 = .ok (.aload_n 0, 1) := by decide +kernel
theorem dX9_quarter_31 : decode cX9_quarter 31 = .ok (.getfield 19, 3) := by decide +kernel
theorem dX9_quarter_34 : decode cX9_quarter 34 = .ok (.iconst 2, 1) := by decide +kernel
theorem dX9_quarter_35 : decode cX9_quarter 35 = .ok (.iaload, 1) := by decide +kernel
theorem dX9_quarter_36 : decode cX9_quarter 36 = .ok (.bipush 12, 2) := by decide +kernel
theorem dX9_quarter_38 : decode cX9_quarter 38 = .ok (.if_icmp .ne 6, 3) := by decide +kernel
theorem dX9_quarter_41 : decode cX9_quarter 41 = .ok (.ldc 206, 2) := by decide +kernel
theorem dX9_quarter_43 : decode cX9_quarter 43 = .ok (.ireturn, 1) := by decide +kernel
theorem dX9_quarter_44 : decode cX9_quarter 44 = .ok (.aload_n 0, 1) := by decide +kernel
theorem dX9_quarter_45 : decode cX9_quarter 45 = .ok (.invokevirtual 207, 3) := by decide +kernel
theorem dX9_quarter_48 : decode cX9_quarter 48 = .ok (.iload_n 1, 1) := by decide +kernel
theorem dX9_quarter_49 : decode cX9_quarter 49 = .ok (.i2l, 1) := by decide +kernel
theorem dX9_quarter_50 : decode cX9_quarter 50 = .ok (.ldc2_w 230, 3) := by decide +kernel
theorem dX9_quarter_53 : decode cX9_quarter 53 = .ok (.lmul, 1) := by decide +kernel
theorem dX9_quarter_54 : decode cX9_quarter 54 = .ok (.ldc2_w 232, 3) := by decide +kernel
theorem dX9_quarter_57 : decode cX9_quarter 57 = .ok (.lrem, 1) := by decide +kernel
theorem dX9_quarter_58 : decode cX9_quarter 58 = .ok (.lstore_n 2, 1) := by decide +kernel
theorem dX9_quarter_59 : decode cX9_quarter 59 = .ok (.iconst 0, 1) := by decide +kernel
theorem dX9_quarter_60 : decode cX9_quarter 60 = .ok (.istore 4, 2) := by decide +kernel
theorem dX9_quarter_62 : decode cX9_quarter 62 = .ok (.lload_n 2, 1) := by decide +kernel
theorem dX9_quarter_63 : decode cX9_quarter 63 = .ok (.ldc2_w 234, 3) := by decide +kernel
theorem dX9_quarter_66 : decode cX9_quarter 66 = .ok (.lrem, 1) := by decide +kernel
theorem dX9_quarter_67 : decode cX9_quarter 67 = .ok (.aload_n 0, 1) := by decide +kernel
theorem dX9_quarter_68 : decode cX9_quarter 68 = .ok (.getfield 19, 3) := by decide +kernel
theorem dX9_quarter_71 : decode cX9_quarter 71 = .ok (.iconst 3, 1) := by decide +kernel
theorem dX9_quarter_72 : decode cX9_quarter 72 = .ok (.aload_n 0, 1) := by decide +kernel
theorem dX9_quarter_73 : decode cX9_quarter 73 = .ok (.getfield 19, 3) := by decide +kernel
theorem dX9_quarter_76 : decode cX9_quarter 76 = .ok (.iconst 2, 1) := by decide +kernel
theorem dX9_quarter_77 : decode cX9_quarter 77 = .ok (.iaload, 1) := by decide +kernel
theorem dX9_quarter_78 : decode cX9_quarter 78 = .ok (.iadd, 1) := by decide +kernel
theorem dX9_quarter_79 : decode cX9_quarter 79 = .ok (.iaload, 1) := by decide +kernel
theorem dX9_quarter_80 : decode cX9_quarter 80 = .ok (.i2l, 1) := by decide +kernel
theorem dX9_quarter_81 : decode cX9_quarter 81 = .ok (.lcmp, 1) := by decide +kernel
theorem dX9_quarter_82 : decode cX9_quarter 82 = .ok (.ifCond .ge 53, 3) := by decide +kernel
theorem dX9_quarter_85 : decode cX9_quarter 85 = .ok (.aload_n 0, 1) := by decide +kernel
theorem dX9_quarter_86 : decode cX9_quarter 86 = .ok (.invokevirtual 236, 3) := by decide +kernel
theorem dX9_quarter_89 : decode cX9_quarter 89 = .ok (.aload_n 0, 1) := by decide +kernel
theorem dX9_quarter_90 : decode cX9_quarter 90 = .ok (.invokevirtual 239, 3) := by decide +kernel
theorem dX9_quarter_93 : decode cX9_quarter 93 = .ok (.istore 4, 2) := by decide +kernel
theorem dX9_quarter_95 : decode cX9_quarter 95 = .ok (.iconst 0, 1) := by decide +kernel
theorem dX9_quarter_96 : decode cX9_quarter 96 = .ok (.istore 5, 2) := by decide +kernel
theorem dX9_quarter_98 : decode cX9_quarter 98 = .ok (.iload 5, 2) := by decide +kernel
theorem dX9_quarter_100 : decode cX9_quarter 100 = .ok (.aload_n 0, 1) := by decide +kernel
theorem dX9_quarter_101 : decode cX9_quarter 101 = .ok (.getfield 19, 3) := by decide +kernel
theorem dX9_quarter_104 : decode cX9_quarter 104 = .ok (.iconst 0, 1) := by decide +kernel
theorem dX9_quarter_105 : decode cX9_quarter 105 = .ok (.iaload, 1) := by decide +kernel
theorem dX9_quarter_106 : decode cX9_quarter 106 = .ok (.if_icmp .ge 29, 3) := by decide +kernel
theorem dX9_quarter_109 : decode cX9_quarter 109 = .ok (.aload_n 0, 1) := by decide +kernel
theorem dX9_quarter_110 : decode cX9_quarter 110 = .ok (.getfield 19, 3) := by decide +kernel
theorem dX9_quarter_113 : decode cX9_quarter 113 = .ok (.bipush 23, 2) := by decide +kernel
theorem dX9_quarter_115 : decode cX9_quarter 115 = .ok (.bipush 10, 2) := by decide +kernel
theorem dX9_quarter_117 : decode cX9_quarter 117 = .ok (.iload 5, 2) := by decide +kernel
theorem dX9_quarter_119 : decode cX9_quarter 119 = .ok (.imul, 1) := by decide +kernel
theorem dX9_quarter_120 : decode cX9_quarter 120 = .ok (.iadd, 1) := by decide +kernel
theorem dX9_quarter_121 : decode cX9_quarter 121 = .ok (.aload_n 0, 1) := by decide +kernel
theorem dX9_quarter_122 : decode cX9_quarter 122 = .ok (.getfield 31, 3) := by decide +kernel
theorem dX9_quarter_125 : decode cX9_quarter 125 = .ok (.iload 5, 2) := by decide +kernel
theorem dX9_quarter_127 : decode cX9_quarter 127 = .ok (.iaload, 1) := by decide +kernel
theorem dX9_quarter_128 : decode cX9_quarter 128 = .ok (.iastore, 1) := by decide +kernel
theorem dX9_quarter_129 : decode cX9_quarter 129 = .ok (.iinc 5 1, 3) := by decide +kernel
theorem dX9_quarter_132 : decode cX9_quarter 132 = .ok (.goto (-34), 3) := by decide +kernel
theorem dX9_quarter_135 : decode cX9_quarter 135 = .ok (.aload_n 0, 1) := by decide +kernel
theorem dX9_quarter_136 : decode cX9_quarter 136 = .ok (.getfield 19, 3) := by decide +kernel
theorem dX9_quarter_139 : decode cX9_quarter 139 = .ok (.iconst 2, 1) := by decide +kernel
theorem dX9_quarter_140 : decode cX9_quarter 140 = .ok (.dup2, 1) := by decide +kernel
theorem dX9_quarter_141 : decode cX9_quarter 141 = .ok (.iaload, 1) := by decide +kernel
theorem dX9_quarter_142 : decode cX9_quarter 142 = .ok (.iconst 1, 1) := by decide +kernel
theorem dX9_quarter_143 : decode cX9_quarter 143 = .ok (.iadd, 1) := by decide +kernel
theorem dX9_quarter_144 : decode cX9_quarter 144 = .ok (.iastore, 1) := by decide +kernel
theorem dX9_quarter_145 : decode cX9_quarter 145 = .ok (.iload 4, 2) := by decide +kernel
theorem dX9_quarter_147 : decode cX9_quarter 147 = .ok (.ireturn, 1) := by decide +kernel
theorem dX9_undo_0 : decode cX9_undo 0 = .ok (.aload_n 0, 1) := by decide +kernel
theorem dX9_undo_1 : decode cX9_undo 1 = .ok (.iconst 0, 1) := by decide +kernel
theorem dX9_undo_2 : decode cX9_undo 2 = .ok (.putfield 54, 3) := by decide +kernel
theorem dX9_undo_5 : decode cX9_undo 5 = .ok (.aload_n 0, 1) := by decide +kernel
theorem dX9_undo_6 : decode cX9_undo 6 = .ok (.getfield 188, 3) := by decide +kernel
theorem dX9_undo_9 : decode cX9_undo 9 = .ok (.ifCond .ne 6, 3) := by decide +kernel
theorem dX9_undo_12 : decode cX9_undo 12 = .ok (.ldc 206, 2) := by decide +kernel
theorem dX9_undo_14 : decode cX9_undo 14 = .ok (.ireturn, 1) := by decide +kernel
theorem dX9_undo_15 : decode cX9_undo 15 = .ok (.aload_n 0, 1) := by decide +kernel
theorem dX9_undo_16 : decode cX9_undo 16 = .ok (.dup, 1) := by decide +kernel
theorem dX9_undo_17 : decode cX9_undo 17 = .ok (.getfield 188, 3) := by decide +kernel
theorem dX9_undo_20 : decode cX9_undo 20 = .ok (.iconst 1, 1) := by decide +kernel
theorem dX9_undo_21 : decode cX9_undo 21 = .ok (.isub, 1) := by decide +kernel
theorem dX9_undo_22 : decode cX9_undo 22 = .ok (.putfield 188, 3) := by decide +kernel
theorem dX9_undo_25 : decode cX9_undo 25 = .ok (.iconst 0, 1) := by decide +kernel
theorem dX9_undo_26 : decode cX9_undo 26 = .ok (.istore_n 1, 1) := by decide +kernel
theorem dX9_undo_27 : decode cX9_undo 27 = .ok (.iload_n 1, 1) := by decide +kernel
theorem dX9_undo_28 : decode cX9_undo 28 = .ok (.bipush 127, 2) := by decide +kernel
theorem dX9_undo_30 : decode cX9_undo 30 = .ok (.if_icmp .ge 29, 3) := by decide +kernel
theorem dX9_undo_33 : decode cX9_undo 33 = .ok (.aload_n 0, 1) := by decide +kernel
theorem dX9_undo_34 : decode cX9_undo 34 = .ok (.getfield 19, 3) := by decide +kernel
theorem dX9_undo_37 : decode cX9_undo 37 = .ok (.iload_n 1, 1) := by decide +kernel
theorem dX9_undo_38 : decode cX9_undo 38 = .ok (.aload_n 0, 1) := by decide +kernel
theorem dX9_undo_39 : decode cX9_undo 39 = .ok (.getfield 25, 3) := by decide +kernel
theorem dX9_undo_42 : decode cX9_undo 42 = .ok (.bipush 127, 2) := by decide +kernel
theorem dX9_undo_44 : decode cX9_undo 44 = .ok (.aload_n 0, 1) := by decide +kernel
theorem dX9_undo_45 : decode cX9_undo 45 = .ok (.getfield 188, 3) := by decide +kernel
theorem dX9_undo_48 : decode cX9_undo 48 = .ok (.imul, 1) := by decide +kernel
theorem dX9_undo_49 : decode cX9_undo 49 = .ok (.iload_n 1, 1) := by decide +kernel
theorem dX9_undo_50 : decode cX9_undo 50 = .ok (.iadd, 1) := by decide +kernel
theorem dX9_undo_51 : decode cX9_undo 51 = .ok (.iaload, 1) := by decide +kernel
theorem dX9_undo_52 : decode cX9_undo 52 = .ok (.iastore, 1) := by decide +kernel
theorem dX9_undo_53 : decode cX9_undo 53 = .ok (.iinc 1 1, 3) := by decide +kernel
theorem dX9_undo_56 : decode cX9_undo 56 = .ok (.goto (-29), 3) := by decide +kernel
theorem dX9_undo_59 : decode cX9_undo 59 = .ok (.aload_n 0, 1) := by decide +kernel
theorem dX9_undo_60 : decode cX9_undo 60 = .ok (.getfield 188, 3) := by decide +kernel
theorem dX9_undo_63 : decode cX9_undo 63 = .ok (.ireturn, 1) := by decide +kernel
theorem dX9_isMissed_0 : decode cX9_isMissed 0 = .ok (.aload_n 0, 1) := by decide +kernel
theorem dX9_isMissed_1 : decode cX9_isMissed 1 = .ok (.iload_n 1, 1) := by decide +kernel
theorem dX9_isMissed_2 : decode cX9_isMissed 2 = .ok (.iconst 2, 1) := by decide +kernel
theorem dX9_isMissed_3 : decode cX9_isMissed 3 = .ok (.invokevirtual 216, 3) := by decide +kernel
theorem dX9_isMissed_6 : decode cX9_isMissed 6 = .ok (.bipush 12, 2) := by decide +kernel
theorem dX9_isMissed_8 : decode cX9_isMissed 8 = .ok (.if_icmp .ge 41, 3) := by decide +kernel
theorem dX9_isMissed_11 : decode cX9_isMissed 11 = .ok (.aload_n 0, 1) := by decide +kernel
theorem dX9_isMissed_12 : decode cX9_isMissed 12 = .ok (.iload_n 1, 1) := by decide +kernel
theorem dX9_isMissed_13 : decode cX9_isMissed 13 = .ok (.iconst 3, 1) := by decide +kernel
theorem dX9_isMissed_14 : decode cX9_isMissed 14 = .ok (.invokevirtual 216, 3) := by decide +kernel
theorem dX9_isMissed_17 : decode cX9_isMissed 17 = .ok (.ifCond .ne 32, 3) := by decide +kernel
theorem dX9_isMissed_20 : decode cX9_isMissed 20 = .ok (.aload_n 0, 1) := by decide +kernel
theorem dX9_isMissed_21 : decode cX9_isMissed 21 = .ok (.iload_n 1, 1) := by decide +kernel
theorem dX9_isMissed_22 : decode cX9_isMissed 22 = .ok (.invokevirtual 203, 3) := by decide +kernel
theorem dX9_isMissed_25 : decode cX9_isMissed 25 = .ok (.ldc 90, 2) := by decide +kernel
theorem dX9_isMissed_27 : decode cX9_isMissed 27 = .ok (.if_icmp .eq 18, 3) := by decide +kernel
theorem dX9_isMissed_30 : decode cX9_isMissed 30 = .ok (.aload_n 0, 1) := by decide +kernel
theorem dX9_isMissed_31 : decode cX9_isMissed 31 = .ok (.getfield 19, 3) := by decide +kernel
theorem dX9_isMissed_34 : decode cX9_isMissed 34 = .ok (.iconst 2, 1) := by decide +kernel
theorem dX9_isMissed_35 : decode cX9_isMissed 35 = .ok (.iaload, 1) := by decide +kernel
theorem dX9_isMissed_36 : decode cX9_isMissed 36 = .ok (.aload_n 0, 1) := by decide +kernel
theorem dX9_isMissed_37 : decode cX9_isMissed 37 = .ok (.iload_n 1, 1) := by decide +kernel
theorem dX9_isMissed_38 : decode cX9_isMissed 38 = .ok (.iconst 2, 1) := by decide +kernel
theorem dX9_isMissed_39 : decode cX9_isMissed 39 = .ok (.invokevirtual 216, 3) := by decide +kernel
theorem dX9_isMissed_42 : decode cX9_isMissed 42 = .ok (.if_icmp .le 7, 3) := by decide +kernel
theorem dX9_isMissed_45 : decode cX9_isMissed 45 = .ok (.iconst 1, 1) := by decide +kernel
theorem dX9_isMissed_46 : decode cX9_isMissed 46 = .ok (.goto 4, 3) := by decide +kernel
theorem dX9_isMissed_49 : decode cX9_isMissed 49 = .ok (.iconst 0, 1) := by decide +kernel
theorem dX9_isMissed_50 : decode cX9_isMissed 50 = .ok (.ireturn, 1) := by decide +kernel
theorem dX9_sheet_0 : decode cX9_sheet 0 = .ok (.aload_n 0, 1) := by decide +kernel
theorem dX9_sheet_1 : decode cX9_sheet 1 = .ok (.iconst 0, 1) := by decide +kernel
theorem dX9_sheet_2 : decode cX9_sheet 2 = .ok (.putfield 54, 3) := by decide +kernel
theorem dX9_sheet_5 : decode cX9_sheet 5 = .ok (.aload_n 0, 1) := by decide +kernel
theorem dX9_sheet_6 : decode cX9_sheet 6 = .ok (.iload_n 1, 1) := by decide +kernel
theorem dX9_sheet_7 : decode cX9_sheet 7 = .ok (.invokevirtual 200, 3) := by decide +kernel
theorem dX9_sheet_10 : decode cX9_sheet 10 = .ok (.ifCond .eq 15, 3) := by decide +kernel
theorem dX9_sheet_13 : decode cX9_sheet 13 = .ok (.iload_n 2, 1) := by decide +kernel
theorem dX9_sheet_14 : decode cX9_sheet 14 = .ok (.i2l, 1) := by decide +kernel
theorem dX9_sheet_15 : decode cX9_sheet 15 = .ok (.lconst 0, 1) := by decide +kernel
theorem dX9_sheet_16 : decode cX9_sheet 16 = .ok (.ldc2_w 242, 3) := by decide +kernel
theorem dX9_sheet_19 : decode cX9_sheet 19 = .ok (.invokestatic 64, 3) := by decide +kernel
theorem dX9_sheet_22 : decode cX9_sheet 22 = .ok (.ifCond .ne 6, 3) := by decide +kernel
theorem dX9_sheet_25 : decode cX9_sheet 25 = .ok (.ldc 74, 2) := by decide +kernel
theorem dX9_sheet_27 : decode cX9_sheet 27 = .ok (.ireturn, 1) := by decide +kernel
theorem dX9_sheet_28 : decode cX9_sheet 28 = .ok (.aload_n 0, 1) := by decide +kernel
theorem dX9_sheet_29 : decode cX9_sheet 29 = .ok (.iload_n 1, 1) := by decide +kernel
theorem dX9_sheet_30 : decode cX9_sheet 30 = .ok (.invokevirtual 203, 3) := by decide +kernel
theorem dX9_sheet_33 : decode cX9_sheet 33 = .ok (.istore_n 3, 1) := by decide +kernel
theorem dX9_sheet_34 : decode cX9_sheet 34 = .ok (.iload_n 2, 1) := by decide +kernel
theorem dX9_sheet_35 : decode cX9_sheet 35 = .ok (.tableswitch 82 0 4 #[33, 40, 47, 49, 75], 33) := by decide +kernel
theorem dX9_sheet_68 : decode cX9_sheet 68 = .ok (.aload_n 0, 1) := by decide +kernel
theorem dX9_sheet_69 : decode cX9_sheet 69 = .ok (.iload_n 1, 1) := by decide +kernel
theorem dX9_sheet_70 : decode cX9_sheet 70 = .ok (.iconst 1, 1) := by decide +kernel
theorem dX9_sheet_71 : decode cX9_sheet 71 = .ok (.invokevirtual 216, 3) := by decide +kernel
theorem dX9_sheet_74 : decode cX9_sheet 74 = .ok (.ireturn, 1) := by decide +kernel
theorem dX9_sheet_75 : decode cX9_sheet 75 = .ok (.aload_n 0, 1) := by decide +kernel
theorem dX9_sheet_76 : decode cX9_sheet 76 = .ok (.iload_n 1, 1) := by decide +kernel
theorem dX9_sheet_77 : decode cX9_sheet 77 = .ok (.iconst 2, 1) := by decide +kernel
theorem dX9_sheet_78 : decode cX9_sheet 78 = .ok (.invokevirtual 216, 3) := by decide +kernel
theorem dX9_sheet_81 : decode cX9_sheet 81 = .ok (.ireturn, 1) := by decide +kernel
theorem dX9_sheet_82 : decode cX9_sheet 82 = .ok (.iload_n 3, 1) := by decide +kernel
theorem dX9_sheet_83 : decode cX9_sheet 83 = .ok (.ireturn, 1) := by decide +kernel
theorem dX9_sheet_84 : decode cX9_sheet 84 = .ok (.iload_n 3, 1) := by decide +kernel
theorem dX9_sheet_85 : decode cX9_sheet 85 = .ok (.ldc 90, 2) := by decide +kernel
theorem dX9_sheet_87 : decode cX9_sheet 87 = .ok (.if_icmp .ne 8, 3) := by decide +kernel
theorem dX9_sheet_90 : decode cX9_sheet 90 = .ok (.ldc 90, 2) := by decide +kernel
theorem dX9_sheet_92 : decode cX9_sheet 92 = .ok (.goto 17, 3) := by decide +kernel
theorem dX9_sheet_95 : decode cX9_sheet 95 = .ok (.aload_n 0, 1) := by decide +kernel
theorem dX9_sheet_96 : decode cX9_sheet 96 = .ok (.iload_n 3, 1) := by decide +kernel
theorem dX9_sheet_97 : decode cX9_sheet 97 = .ok (.invokevirtual 191, 3) := by decide +kernel
theorem dX9_sheet_100 : decode cX9_sheet 100 = .ok (.iconst 1, 1) := by decide +kernel
theorem dX9_sheet_101 : decode cX9_sheet 101 = .ok (.isub, 1) := by decide +kernel
theorem dX9_sheet_102 : decode cX9_sheet 102 = .ok (.aload_n 0, 1) := by decide +kernel
theorem dX9_sheet_103 : decode cX9_sheet 103 = .ok (.iload_n 3, 1) := by decide +kernel
theorem dX9_sheet_104 : decode cX9_sheet 104 = .ok (.iload_n 1, 1) := by decide +kernel
theorem dX9_sheet_105 : decode cX9_sheet 105 = .ok (.invokevirtual 197, 3) := by decide +kernel
theorem dX9_sheet_108 : decode cX9_sheet 108 = .ok (.isub, 1) := by decide +kernel
theorem dX9_sheet_109 : decode cX9_sheet 109 = .ok (.ireturn, 1) := by decide +kernel
theorem dX9_sheet_110 : decode cX9_sheet 110 = .ok (.aload_n 0, 1) := by decide +kernel
theorem dX9_sheet_111 : decode cX9_sheet 111 = .ok (.iload_n 1, 1) := by decide +kernel
theorem dX9_sheet_112 : decode cX9_sheet 112 = .ok (.iconst 3, 1) := by decide +kernel
theorem dX9_sheet_113 : decode cX9_sheet 113 = .ok (.invokevirtual 216, 3) := by decide +kernel
theorem dX9_sheet_116 : decode cX9_sheet 116 = .ok (.ireturn, 1) := by decide +kernel
theorem dX9_sheet_117 : decode cX9_sheet 117 = .ok (.aload_n 0, 1) := by decide +kernel
theorem dX9_sheet_118 : decode cX9_sheet 118 = .ok (.iload_n 1, 1) := by decide +kernel
theorem dX9_sheet_119 : decode cX9_sheet 119 = .ok (.invokevirtual 244, 3) := by decide +kernel
theorem dX9_sheet_122 : decode cX9_sheet 122 = .ok (.ifCond .eq 7, 3) := by decide +kernel
theorem dX9_sheet_125 : decode cX9_sheet 125 = .ok (.iconst 1, 1) := by decide +kernel
theorem dX9_sheet_126 : decode cX9_sheet 126 = .ok (.goto 4, 3) := by decide +kernel
theorem dX9_sheet_129 : decode cX9_sheet 129 = .ok (.iconst 0, 1) := by decide +kernel
theorem dX9_sheet_130 : decode cX9_sheet 130 = .ok (.ireturn, 1) := by decide +kernel
theorem dX9_desk_0 : decode cX9_desk 0 = .ok (.aload_n 0, 1) := by decide +kernel
theorem dX9_desk_1 : decode cX9_desk 1 = .ok (.iconst 0, 1) := by decide +kernel
theorem dX9_desk_2 : decode cX9_desk 2 = .ok (.putfield 54, 3) := by decide +kernel
theorem dX9_desk_5 : decode cX9_desk 5 = .ok (.aload_n 0, 1) := by decide +kernel
theorem dX9_desk_6 : decode cX9_desk 6 = .ok (.iload_n 1, 1) := by decide +kernel
theorem dX9_desk_7 : decode cX9_desk 7 = .ok (.invokevirtual 219, 3) := by decide +kernel
theorem dX9_desk_10 : decode cX9_desk 10 = .ok (.ifCond .eq 21, 3) := by decide +kernel
theorem dX9_desk_13 : decode cX9_desk 13 = .ok (.iload_n 2, 1) := by decide +kernel
theorem dX9_desk_14 : decode cX9_desk 14 = .ok (.i2l, 1) := by decide +kernel
theorem dX9_desk_15 : decode cX9_desk 15 = .ok (.lconst 0, 1) := by decide +kernel
theorem dX9_desk_16 : decode cX9_desk 16 = .ok (.ldc2_w 72, 3) := by decide +kernel
theorem dX9_desk_19 : decode cX9_desk 19 = .ok (.invokestatic 64, 3) := by decide +kernel
theorem dX9_desk_22 : decode cX9_desk 22 = .ok (.ifCond .ne 12, 3) := by decide +kernel
theorem dX9_desk_25 : decode cX9_desk 25 = .ok (.iload_n 2, 1) := by decide +kernel
theorem dX9_desk_26 : decode cX9_desk 26 = .ok (.bipush 10, 2) := by decide +kernel
theorem dX9_desk_28 : decode cX9_desk 28 = .ok (.if_icmp .ge 6, 3) := by decide +kernel
theorem dX9_desk_31 : decode cX9_desk 31 = .ok (.ldc 74, 2) := by decide +kernel
theorem dX9_desk_33 : decode cX9_desk 33 = .ok (.ireturn, 1) := by decide +kernel
theorem dX9_desk_34 : decode cX9_desk 34 = .ok (.iload_n 2, 1) := by decide +kernel
theorem dX9_desk_35 : decode cX9_desk 35 = .ok (.iconst 2, 1) := by decide +kernel
theorem dX9_desk_36 : decode cX9_desk 36 = .ok (.if_icmp .ge 17, 3) := by decide +kernel
theorem dX9_desk_39 : decode cX9_desk 39 = .ok (.aload_n 0, 1) := by decide +kernel
theorem dX9_desk_40 : decode cX9_desk 40 = .ok (.getfield 19, 3) := by decide +kernel
theorem dX9_desk_43 : decode cX9_desk 43 = .ok (.bipush 15, 2) := by decide +kernel
theorem dX9_desk_45 : decode cX9_desk 45 = .ok (.iconst 2, 1) := by decide +kernel
theorem dX9_desk_46 : decode cX9_desk 46 = .ok (.iload_n 1, 1) := by decide +kernel
theorem dX9_desk_47 : decode cX9_desk 47 = .ok (.imul, 1) := by decide +kernel
theorem dX9_desk_48 : decode cX9_desk 48 = .ok (.iadd, 1) := by decide +kernel
theorem dX9_desk_49 : decode cX9_desk 49 = .ok (.iload_n 2, 1) := by decide +kernel
theorem dX9_desk_50 : decode cX9_desk 50 = .ok (.iadd, 1) := by decide +kernel
theorem dX9_desk_51 : decode cX9_desk 51 = .ok (.iaload, 1) := by decide +kernel
theorem dX9_desk_52 : decode cX9_desk 52 = .ok (.ireturn, 1) := by decide +kernel
theorem dX9_desk_53 : decode cX9_desk 53 = .ok (.iload_n 2, 1) := by decide +kernel
theorem dX9_desk_54 : decode cX9_desk 54 = .ok (.iconst 2, 1) := by decide +kernel
theorem dX9_desk_55 : decode cX9_desk 55 = .ok (.if_icmp .ne 11, 3) := by decide +kernel
theorem dX9_desk_58 : decode cX9_desk 58 = .ok (.aload_n 0, 1) := by decide +kernel
theorem dX9_desk_59 : decode cX9_desk 59 = .ok (.iload_n 1, 1) := by decide +kernel
theorem dX9_desk_60 : decode cX9_desk 60 = .ok (.invokevirtual 191, 3) := by decide +kernel
theorem dX9_desk_63 : decode cX9_desk 63 = .ok (.goto 29, 3) := by decide +kernel
theorem dX9_desk_66 : decode cX9_desk 66 = .ok (.iload_n 2, 1) := by decide +kernel
theorem dX9_desk_67 : decode cX9_desk 67 = .ok (.bipush 10, 2) := by decide +kernel
theorem dX9_desk_69 : decode cX9_desk 69 = .ok (.isub, 1) := by decide +kernel
theorem dX9_desk_70 : decode cX9_desk 70 = .ok (.aload_n 0, 1) := by decide +kernel
theorem dX9_desk_71 : decode cX9_desk 71 = .ok (.iload_n 1, 1) := by decide +kernel
theorem dX9_desk_72 : decode cX9_desk 72 = .ok (.invokevirtual 191, 3) := by decide +kernel
theorem dX9_desk_75 : decode cX9_desk 75 = .ok (.if_icmp .ge 15, 3) := by decide +kernel
theorem dX9_desk_78 : decode cX9_desk 78 = .ok (.aload_n 0, 1) := by decide +kernel
theorem dX9_desk_79 : decode cX9_desk 79 = .ok (.iload_n 1, 1) := by decide +kernel
theorem dX9_desk_80 : decode cX9_desk 80 = .ok (.iload_n 2, 1) := by decide +kernel
theorem dX9_desk_81 : decode cX9_desk 81 = .ok (.bipush 10, 2) := by decide +kernel
theorem dX9_desk_83 : decode cX9_desk 83 = .ok (.isub, 1) := by decide +kernel
theorem dX9_desk_84 : decode cX9_desk 84 = .ok (.invokevirtual 194, 3) := by decide +kernel
theorem dX9_desk_87 : decode cX9_desk 87 = .ok (.goto 5, 3) := by decide +kernel
theorem dX9_desk_90 : decode cX9_desk 90 = .ok (.ldc 90, 2) := by decide +kernel
theorem dX9_desk_92 : decode cX9_desk 92 = .ok (.ireturn, 1) := by decide +kernel
theorem dX9_worthOf_0 : decode cX9_worthOf 0 = .ok (.iconst 0, 1) := by decide +kernel
theorem dX9_worthOf_1 : decode cX9_worthOf 1 = .ok (.istore_n 2, 1) := by decide +kernel
theorem dX9_worthOf_2 : decode cX9_worthOf 2 = .ok (.iconst 0, 1) := by decide +kernel
theorem dX9_worthOf_3 : decode cX9_worthOf 3 = .ok (.istore_n 3, 1) := by decide +kernel
theorem dX9_worthOf_4 : decode cX9_worthOf 4 = .ok (.iload_n 3, 1) := by decide +kernel
theorem dX9_worthOf_5 : decode cX9_worthOf 5 = .ok (.aload_n 0, 1) := by decide +kernel
theorem dX9_worthOf_6 : decode cX9_worthOf 6 = .ok (.getfield 19, 3) := by decide +kernel
theorem dX9_worthOf_9 : decode cX9_worthOf 9 = .ok (.iconst 1, 1) := by decide +kernel
theorem dX9_worthOf_10 : decode cX9_worthOf 10 = .ok (.iaload, 1) := by decide +kernel
theorem dX9_worthOf_11 : decode cX9_worthOf 11 = .ok (.if_icmp .ge 31, 3) := by decide +kernel
theorem dX9_worthOf_14 : decode cX9_worthOf 14 = .ok (.iload_n 2, 1) := by decide +kernel
theorem dX9_worthOf_15 : decode cX9_worthOf 15 = .ok (.iload_n 1, 1) := by decide +kernel
theorem dX9_worthOf_16 : decode cX9_worthOf 16 = .ok (.iload_n 3, 1) := by decide +kernel
theorem dX9_worthOf_17 : decode cX9_worthOf 17 = .ok (.ishr, 1) := by decide +kernel
theorem dX9_worthOf_18 : decode cX9_worthOf 18 = .ok (.iconst 1, 1) := by decide +kernel
theorem dX9_worthOf_19 : decode cX9_worthOf 19 = .ok (.iand, 1) := by decide +kernel
theorem dX9_worthOf_20 : decode cX9_worthOf 20 = .ok (.iconst 1, 1) := by decide +kernel
theorem dX9_worthOf_21 : decode cX9_worthOf 21 = .ok (.if_icmp .ne 12, 3) := by decide +kernel
theorem dX9_worthOf_24 : decode cX9_worthOf 24 = .ok (.aload_n 0, 1) := by decide +kernel
theorem dX9_worthOf_25 : decode cX9_worthOf 25 = .ok (.iload_n 3, 1) := by decide +kernel
theorem dX9_worthOf_26 : decode cX9_worthOf 26 = .ok (.iconst 1, 1) := by decide +kernel
theorem dX9_worthOf_27 : decode cX9_worthOf 27 = .ok (.invokevirtual 216, 3) := by decide +kernel
theorem dX9_worthOf_30 : decode cX9_worthOf 30 = .ok (.goto 4, 3) := by decide +kernel
theorem dX9_worthOf_33 : decode cX9_worthOf 33 = .ok (.iconst 0, 1) := by decide +kernel
theorem dX9_worthOf_34 : decode cX9_worthOf 34 = .ok (.iadd, 1) := by decide +kernel
theorem dX9_worthOf_35 : decode cX9_worthOf 35 = .ok (.istore_n 2, 1) := by decide +kernel
theorem dX9_worthOf_36 : decode cX9_worthOf 36 = .ok (.iinc 3 1, 3) := by decide +kernel
theorem dX9_worthOf_39 : decode cX9_worthOf 39 = .ok (.goto (-35), 3) := by decide +kernel
theorem dX9_worthOf_42 : decode cX9_worthOf 42 = .ok (.iload_n 2, 1) := by decide +kernel
theorem dX9_worthOf_43 : decode cX9_worthOf 43 = .ok (.ireturn, 1) := by decide +kernel
theorem dX9_takenBy_0 : decode cX9_takenBy 0 = .ok (.iconst 0, 1) := by decide +kernel
theorem dX9_takenBy_1 : decode cX9_takenBy 1 = .ok (.istore_n 2, 1) := by decide +kernel
theorem dX9_takenBy_2 : decode cX9_takenBy 2 = .ok (.aload_n 0, 1) := by decide +kernel
theorem dX9_takenBy_3 : decode cX9_takenBy 3 = .ok (.invokevirtual 236, 3) := by decide +kernel
theorem dX9_takenBy_6 : decode cX9_takenBy 6 = .ok (.iconst 0, 1) := by decide +kernel
theorem dX9_takenBy_7 : decode cX9_takenBy 7 = .ok (.istore_n 3, 1) := by decide +kernel
theorem dX9_takenBy_8 : decode cX9_takenBy 8 = .ok (.iload_n 3, 1) := by decide +kernel
theorem dX9_takenBy_9 : decode cX9_takenBy 9 = .ok (.iload_n 1, 1) := by decide +kernel
theorem dX9_takenBy_10 : decode cX9_takenBy 10 = .ok (.if_icmp .ge 16, 3) := by decide +kernel
theorem dX9_takenBy_13 : decode cX9_takenBy 13 = .ok (.iload_n 2, 1) := by decide +kernel
theorem dX9_takenBy_14 : decode cX9_takenBy 14 = .ok (.aload_n 0, 1) := by decide +kernel
theorem dX9_takenBy_15 : decode cX9_takenBy 15 = .ok (.invokevirtual 239, 3) := by decide +kernel
theorem dX9_takenBy_18 : decode cX9_takenBy 18 = .ok (.ior, 1) := by decide +kernel
theorem dX9_takenBy_19 : decode cX9_takenBy 19 = .ok (.istore_n 2, 1) := by decide +kernel
theorem dX9_takenBy_20 : decode cX9_takenBy 20 = .ok (.iinc 3 1, 3) := by decide +kernel
theorem dX9_takenBy_23 : decode cX9_takenBy 23 = .ok (.goto (-15), 3) := by decide +kernel
theorem dX9_takenBy_26 : decode cX9_takenBy 26 = .ok (.iload_n 2, 1) := by decide +kernel
theorem dX9_takenBy_27 : decode cX9_takenBy 27 = .ok (.ireturn, 1) := by decide +kernel
theorem dX9_taken_0 : decode cX9_taken 0 = .ok (.aload_n 0, 1) := by decide +kernel
theorem dX9_taken_1 : decode cX9_taken 1 = .ok (.iconst 0, 1) := by decide +kernel
theorem dX9_taken_2 : decode cX9_taken 2 = .ok (.putfield 54, 3) := by decide +kernel
theorem dX9_taken_5 : decode cX9_taken 5 = .ok (.aload_n 0, 1) := by decide +kernel
theorem dX9_taken_6 : decode cX9_taken 6 = .ok (.getfield 184, 3) := by decide +kernel
theorem dX9_taken_9 : decode cX9_taken 9 = .ok (.ifCond .ne 6, 3) := by decide +kernel
theorem dX9_taken_12 : decode cX9_taken 12 = .ok (.ldc 206, 2) := by decide +kernel
theorem dX9_taken_14 : decode cX9_taken 14 = .ok (.ireturn, 1) := by decide +kernel
theorem dX9_taken_15 : decode cX9_taken 15 = .ok (.iload_n 1, 1) := by decide +kernel
theorem dX9_taken_16 : decode cX9_taken 16 = .ok (.i2l, 1) := by decide +kernel
theorem dX9_taken_17 : decode cX9_taken 17 = .ok (.lconst 0, 1) := by decide +kernel
theorem dX9_taken_18 : decode cX9_taken 18 = .ok (.ldc2_w 247, 3) := by decide +kernel
theorem dX9_taken_21 : decode cX9_taken 21 = .ok (.invokestatic 64, 3) := by decide +kernel
theorem dX9_taken_24 : decode cX9_taken 24 = .ok (.ifCond .eq 13, 3) := by decide +kernel
theorem dX9_taken_27 : decode cX9_taken 27 = .ok (.iload_n 2, 1) := by decide +kernel
theorem dX9_taken_28 : decode cX9_taken 28 = .ok (.i2l, 1) := by decide +kernel
theorem dX9_taken_29 : decode cX9_taken 29 = .ok (.lconst 0, 1) := by decide +kernel
theorem dX9_taken_30 : decode cX9_taken 30 = .ok (.lconst 1, 1) := by decide +kernel
theorem dX9_taken_31 : decode cX9_taken 31 = .ok (.invokestatic 64, 3) := by decide +kernel
theorem dX9_taken_34 : decode cX9_taken 34 = .ok (.ifCond .ne 6, 3) := by decide +kernel
theorem dX9_taken_37 : decode cX9_taken 37 = .ok (.ldc 74, 2) := by decide +kernel
theorem dX9_taken_39 : decode cX9_taken 39 = .ok (.ireturn, 1) := by decide +kernel
theorem dX9_taken_40 : decode cX9_taken 40 = .ok (.iload_n 2, 1) := by decide +kernel
theorem dX9_taken_41 : decode cX9_taken 41 = .ok (.ifCond .ne 11, 3) := by decide +kernel
theorem dX9_taken_44 : decode cX9_taken 44 = .ok (.aload_n 0, 1) := by decide +kernel
theorem dX9_taken_45 : decode cX9_taken 45 = .ok (.iload_n 1, 1) := by decide +kernel
theorem dX9_taken_46 : decode cX9_taken 46 = .ok (.invokevirtual 249, 3) := by decide +kernel
theorem dX9_taken_49 : decode cX9_taken 49 = .ok (.goto 12, 3) := by decide +kernel
theorem dX9_taken_52 : decode cX9_taken 52 = .ok (.aload_n 0, 1) := by decide +kernel
theorem dX9_taken_53 : decode cX9_taken 53 = .ok (.aload_n 0, 1) := by decide +kernel
theorem dX9_taken_54 : decode cX9_taken 54 = .ok (.iload_n 1, 1) := by decide +kernel
theorem dX9_taken_55 : decode cX9_taken 55 = .ok (.invokevirtual 249, 3) := by decide +kernel
theorem dX9_taken_58 : decode cX9_taken 58 = .ok (.invokevirtual 252, 3) := by decide +kernel
theorem dX9_taken_61 : decode cX9_taken 61 = .ok (.ireturn, 1) := by decide +kernel
theorem dX9_mean_0 : decode cX9_mean 0 = .ok (.aload_n 0, 1) := by decide +kernel
theorem dX9_mean_1 : decode cX9_mean 1 = .ok (.iconst 0, 1) := by decide +kernel
theorem dX9_mean_2 : decode cX9_mean 2 = .ok (.putfield 54, 3) := by decide +kernel
theorem dX9_mean_5 : decode cX9_mean 5 = .ok (.aload_n 0, 1) := by decide +kernel
theorem dX9_mean_6 : decode cX9_mean 6 = .ok (.getfield 184, 3) := by decide +kernel
theorem dX9_mean_9 : decode cX9_mean 9 = .ok (.ifCond .ne 6, 3) := by decide +kernel
theorem dX9_mean_12 : decode cX9_mean 12 = .ok (.ldc 206, 2) := by decide +kernel
theorem dX9_mean_14 : decode cX9_mean 14 = .ok (.ireturn, 1) := by decide +kernel
theorem dX9_mean_15 : decode cX9_mean 15 = .ok (.iload_n 1, 1) := by decide +kernel
theorem dX9_mean_16 : decode cX9_mean 16 = .ok (.i2l, 1) := by decide +kernel
theorem dX9_mean_17 : decode cX9_mean 17 = .ok (.lconst 1, 1) := by decide +kernel
theorem dX9_mean_18 : decode cX9_mean 18 = .ok (.ldc2_w 255, 3) := by decide +kernel
theorem dX9_mean_21 : decode cX9_mean 21 = .ok (.invokestatic 64, 3) := by decide +kernel
theorem dX9_mean_24 : decode cX9_mean 24 = .ok (.ifCond .eq 26, 3) := by decide +kernel
theorem dX9_mean_27 : decode cX9_mean 27 = .ok (.aload_n 0, 1) := by decide +kernel
theorem dX9_mean_28 : decode cX9_mean 28 = .ok (.getfield 19, 3) := by decide +kernel
theorem dX9_mean_31 : decode cX9_mean 31 = .ok (.iconst 2, 1) := by decide +kernel
theorem dX9_mean_32 : decode cX9_mean 32 = .ok (.iaload, 1) := by decide +kernel
theorem dX9_mean_33 : decode cX9_mean 33 = .ok (.iload_n 1, 1) := by decide +kernel
theorem dX9_mean_34 : decode cX9_mean 34 = .ok (.iadd, 1) := by decide +kernel
theorem dX9_mean_35 : decode cX9_mean 35 = .ok (.bipush 12, 2) := by decide +kernel
theorem dX9_mean_37 : decode cX9_mean 37 = .ok (.if_icmp .gt 13, 3) := by decide +kernel
theorem dX9_mean_40 : decode cX9_mean 40 = .ok (.iload_n 2, 1) := by decide +kernel
theorem dX9_mean_41 : decode cX9_mean 41 = .ok (.i2l, 1) := by decide +kernel
theorem dX9_mean_42 : decode cX9_mean 42 = .ok (.lconst 0, 1) := by decide +kernel
theorem dX9_mean_43 : decode cX9_mean 43 = .ok (.lconst 1, 1) := by decide +kernel
theorem dX9_mean_44 : decode cX9_mean 44 = .ok (.invokestatic 64, 3) := by decide +kernel
theorem dX9_mean_47 : decode cX9_mean 47 = .ok (.ifCond .ne 6, 3) := by decide +kernel
theorem dX9_mean_50 : decode cX9_mean 50 = .ok (.ldc 74, 2) := by decide +kernel
theorem dX9_mean_52 : decode cX9_mean 52 = .ok (.ireturn, 1) := by decide +kernel
theorem dX9_mean_53 : decode cX9_mean 53 = .ok (.iconst 0, 1) := by decide +kernel
theorem dX9_mean_54 : decode cX9_mean 54 = .ok (.istore_n 3, 1) := by decide +kernel
theorem dX9_mean_55 : decode cX9_mean 55 = .ok (.iload_n 3, 1) := by decide +kernel
theorem dX9_mean_56 : decode cX9_mean 56 = .ok (.iconst 4, 1) := by decide +kernel
theorem dX9_mean_57 : decode cX9_mean 57 = .ok (.if_icmp .ge 24, 3) := by decide +kernel
theorem dX9_mean_60 : decode cX9_mean 60 = .ok (.aload_n 0, 1) := by decide +kernel
theorem dX9_mean_61 : decode cX9_mean 61 = .ok (.getfield 34, 3) := by decide +kernel
theorem dX9_mean_64 : decode cX9_mean 64 = .ok (.iload_n 3, 1) := by decide +kernel
theorem dX9_mean_65 : decode cX9_mean 65 = .ok (.iload_n 3, 1) := by decide +kernel
theorem dX9_mean_66 : decode cX9_mean 66 = .ok (.ifCond .ne 7, 3) := by decide +kernel
theorem dX9_mean_69 : decode cX9_mean 69 = .ok (.lconst 1, 1) := by decide +kernel
theorem dX9_mean_70 : decode cX9_mean 70 = .ok (.goto 4, 3) := by decide +kernel
theorem dX9_mean_73 : decode cX9_mean 73 = .ok (.lconst 0, 1) := by decide +kernel
theorem dX9_mean_74 : decode cX9_mean 74 = .ok (.lastore, 1) := by decide +kernel
theorem dX9_mean_75 : decode cX9_mean 75 = .ok (.iinc 3 1, 3) := by decide +kernel
theorem dX9_mean_78 : decode cX9_mean 78 = .ok (.goto (-23), 3) := by decide +kernel
theorem dX9_mean_81 : decode cX9_mean 81 = .ok (.lconst 1, 1) := by decide +kernel
theorem dX9_mean_82 : decode cX9_mean 82 = .ok (.lstore_n 3, 1) := by decide +kernel
theorem dX9_mean_83 : decode cX9_mean 83 = .ok (.iconst 0, 1) := by decide +kernel
theorem dX9_mean_84 : decode cX9_mean 84 = .ok (.istore 5, 2) := by decide +kernel
theorem dX9_mean_86 : decode cX9_mean 86 = .ok (.iload 5, 2) := by decide +kernel
theorem dX9_mean_88 : decode cX9_mean 88 = .ok (.iload_n 1, 1) := by decide +kernel
theorem dX9_mean_89 : decode cX9_mean 89 = .ok (.if_icmp .ge 91, 3) := by decide +kernel
theorem dX9_mean_92 : decode cX9_mean 92 = .ok (.aload_n 0, 1) := by decide +kernel
theorem dX9_mean_93 : decode cX9_mean 93 = .ok (.getfield 19, 3) := by decide +kernel
theorem dX9_mean_96 : decode cX9_mean 96 = .ok (.iconst 3, 1) := by decide +kernel
theorem dX9_mean_97 : decode cX9_mean 97 = .ok (.aload_n 0, 1) := by decide +kernel
theorem dX9_mean_98 : decode cX9_mean 98 = .ok (.getfield 19, 3) := by decide +kernel
theorem dX9_mean_101 : decode cX9_mean 101 = .ok (.iconst 2, 1) := by decide +kernel
theorem dX9_mean_102 : decode cX9_mean 102 = .ok (.iaload, 1) := by decide +kernel
theorem dX9_mean_103 : decode cX9_mean 103 = .ok (.iadd, 1) := by decide +kernel
theorem dX9_mean_104 : decode cX9_mean 104 = .ok (.iload 5, 2) := by decide +kernel
theorem dX9_mean_106 : decode cX9_mean 106 = .ok (.iadd, 1) := by decide +kernel
theorem dX9_mean_107 : decode cX9_mean 107 = .ok (.iaload, 1) := by decide +kernel
theorem dX9_mean_108 : decode cX9_mean 108 = .ok (.istore 6, 2) := by decide +kernel
theorem dX9_mean_110 : decode cX9_mean 110 = .ok (.iconst 3, 1) := by decide +kernel
theorem dX9_mean_111 : decode cX9_mean 111 = .ok (.istore 7, 2) := by decide +kernel
theorem dX9_mean_113 : decode cX9_mean 113 = .ok (.iload 7, 2) := by decide +kernel
theorem dX9_mean_115 : decode cX9_mean 115 = .ok (.ifCond .lt 53, 3) := by decide +kernel
theorem dX9_mean_118 : decode cX9_mean 118 = .ok (.aload_n 0, 1) := by decide +kernel
theorem dX9_mean_119 : decode cX9_mean 119 = .ok (.getfield 34, 3) := by decide +kernel
theorem dX9_mean_122 : decode cX9_mean 122 = .ok (.iload 7, 2) := by decide +kernel
theorem dX9_mean_124 : decode cX9_mean 124 = .ok (.aload_n 0, 1) := by decide +kernel
theorem dX9_mean_125 : decode cX9_mean 125 = .ok (.getfield 34, 3) := by decide +kernel
theorem dX9_mean_128 : decode cX9_mean 128 = .ok (.iload 7, 2) := by decide +kernel
theorem dX9_mean_130 : decode cX9_mean 130 = .ok (.laload, 1) := by decide +kernel
theorem dX9_mean_131 : decode cX9_mean 131 = .ok (.bipush 100, 2) := by decide +kernel
theorem dX9_mean_133 : decode cX9_mean 133 = .ok (.iload 6, 2) := by decide +kernel
theorem dX9_mean_135 : decode cX9_mean 135 = .ok (.isub, 1) := by decide +kernel
theorem dX9_mean_136 : decode cX9_mean 136 = .ok (.i2l, 1) := by decide +kernel
theorem dX9_mean_137 : decode cX9_mean 137 = .ok (.lmul, 1) := by decide +kernel
theorem dX9_mean_138 : decode cX9_mean 138 = .ok (.iload 7, 2) := by decide +kernel
theorem dX9_mean_140 : decode cX9_mean 140 = .ok (.ifCond .le 19, 3) := by decide +kernel
theorem dX9_mean_143 : decode cX9_mean 143 = .ok (.aload_n 0, 1) := by decide +kernel
theorem dX9_mean_144 : decode cX9_mean 144 = .ok (.getfield 34, 3) := by decide +kernel
theorem dX9_mean_147 : decode cX9_mean 147 = .ok (.iload 7, 2) := by decide +kernel
theorem dX9_mean_149 : decode cX9_mean 149 = .ok (.iconst 1, 1) := by decide +kernel
theorem dX9_mean_150 : decode cX9_mean 150 = .ok (.isub, 1) := by decide +kernel
theorem dX9_mean_151 : decode cX9_mean 151 = .ok (.laload, 1) := by decide +kernel
theorem dX9_mean_152 : decode cX9_mean 152 = .ok (.iload 6, 2) := by decide +kernel
theorem dX9_mean_154 : decode cX9_mean 154 = .ok (.i2l, 1) := by decide +kernel
theorem dX9_mean_155 : decode cX9_mean 155 = .ok (.lmul, 1) := by decide +kernel
theorem dX9_mean_156 : decode cX9_mean 156 = .ok (.goto 4, 3) := by decide +kernel
theorem dX9_mean_159 : decode cX9_mean 159 = .ok (.lconst 0, 1) := by decide +kernel
theorem dX9_mean_160 : decode cX9_mean 160 = .ok (.ladd, 1) := by decide +kernel
theorem dX9_mean_161 : decode cX9_mean 161 = .ok (.lastore, 1) := by decide +kernel
theorem dX9_mean_162 : decode cX9_mean 162 = .ok (.iinc 7 (-1), 3) := by decide +kernel
theorem dX9_mean_165 : decode cX9_mean 165 = .ok (.goto (-52), 3) := by decide +kernel
theorem dX9_mean_168 : decode cX9_mean 168 = .ok (.lload_n 3, 1) := by decide +kernel
theorem dX9_mean_169 : decode cX9_mean 169 = .ok (.ldc2_w 234, 3) := by decide +kernel
theorem dX9_mean_172 : decode cX9_mean 172 = .ok (.lmul, 1) := by decide +kernel
theorem dX9_mean_173 : decode cX9_mean 173 = .ok (.lstore_n 3, 1) := by decide +kernel
theorem dX9_mean_174 : decode cX9_mean 174 = .ok (.iinc 5 1, 3) := by decide +kernel
theorem dX9_mean_177 : decode cX9_mean 177 = .ok (.goto (-91), 3) := by decide +kernel
theorem dX9_mean_180 : decode cX9_mean 180 = .ok (.lconst 0, 1) := by decide +kernel
theorem dX9_mean_181 : decode cX9_mean 181 = .ok (.lstore 5, 2) := by decide +kernel
theorem dX9_mean_183 : decode cX9_mean 183 = .ok (.iconst 0, 1) := by decide +kernel
theorem dX9_mean_184 : decode cX9_mean 184 = .ok (.istore 7, 2) := by decide +kernel
theorem dX9_mean_186 : decode cX9_mean 186 = .ok (.iload 7, 2) := by decide +kernel
theorem dX9_mean_188 : decode cX9_mean 188 = .ok (.iconst 4, 1) := by decide +kernel
theorem dX9_mean_189 : decode cX9_mean 189 = .ok (.if_icmp .ge 33, 3) := by decide +kernel
theorem dX9_mean_192 : decode cX9_mean 192 = .ok (.lload 5, 2) := by decide +kernel
theorem dX9_mean_194 : decode cX9_mean 194 = .ok (.aload_n 0, 1) := by decide +kernel
theorem dX9_mean_195 : decode cX9_mean 195 = .ok (.getfield 34, 3) := by decide +kernel
theorem dX9_mean_198 : decode cX9_mean 198 = .ok (.iload 7, 2) := by decide +kernel
theorem dX9_mean_200 : decode cX9_mean 200 = .ok (.laload, 1) := by decide +kernel
theorem dX9_mean_201 : decode cX9_mean 201 = .ok (.aload_n 0, 1) := by decide +kernel
theorem dX9_mean_202 : decode cX9_mean 202 = .ok (.aload_n 0, 1) := by decide +kernel
theorem dX9_mean_203 : decode cX9_mean 203 = .ok (.iload 7, 2) := by decide +kernel
theorem dX9_mean_205 : decode cX9_mean 205 = .ok (.invokevirtual 249, 3) := by decide +kernel
theorem dX9_mean_208 : decode cX9_mean 208 = .ok (.invokevirtual 252, 3) := by decide +kernel
theorem dX9_mean_211 : decode cX9_mean 211 = .ok (.i2l, 1) := by decide +kernel
theorem dX9_mean_212 : decode cX9_mean 212 = .ok (.lmul, 1) := by decide +kernel
theorem dX9_mean_213 : decode cX9_mean 213 = .ok (.ladd, 1) := by decide +kernel
theorem dX9_mean_214 : decode cX9_mean 214 = .ok (.lstore 5, 2) := by decide +kernel
theorem dX9_mean_216 : decode cX9_mean 216 = .ok (.iinc 7 1, 3) := by decide +kernel
theorem dX9_mean_219 : decode cX9_mean 219 = .ok (.goto (-33), 3) := by decide +kernel
theorem dX9_mean_222 : decode cX9_mean 222 = .ok (.lload 5, 2) := by decide +kernel
theorem dX9_mean_224 : decode cX9_mean 224 = .ok (.lstore 7, 2) := by decide +kernel
theorem dX9_mean_226 : decode cX9_mean 226 = .ok (.lload_n 3, 1) := by decide +kernel
theorem dX9_mean_227 : decode cX9_mean 227 = .ok (.lstore 9, 2) := by decide +kernel
theorem dX9_mean_229 : decode cX9_mean 229 = .ok (.lload 9, 2) := by decide +kernel
theorem dX9_mean_231 : decode cX9_mean 231 = .ok (.lconst 0, 1) := by decide +kernel
theorem dX9_mean_232 : decode cX9_mean 232 = .ok (.lcmp, 1) := by decide +kernel
theorem dX9_mean_233 : decode cX9_mean 233 = .ok (.ifCond .eq 21, 3) := by decide +kernel
theorem dX9_mean_236 : decode cX9_mean 236 = .ok (.lload 7, 2) := by decide +kernel
theorem dX9_mean_238 : decode cX9_mean 238 = .ok (.lload 9, 2) := by decide +kernel
theorem dX9_mean_240 : decode cX9_mean 240 = .ok (.lrem, 1) := by decide +kernel
theorem dX9_mean_241 : decode cX9_mean 241 = .ok (.lstore 11, 2) := by decide +kernel
theorem dX9_mean_243 : decode cX9_mean 243 = .ok (.lload 9, 2) := by decide +kernel
theorem dX9_mean_245 : decode cX9_mean 245 = .ok (.lstore 7, 2) := by decide +kernel
theorem dX9_mean_247 : decode cX9_mean 247 = .ok (.lload 11, 2) := by decide +kernel
theorem dX9_mean_249 : decode cX9_mean 249 = .ok (.lstore 9, 2) := by decide +kernel
theorem dX9_mean_251 : decode cX9_mean 251 = .ok (.goto (-22), 3) := by decide +kernel
theorem dX9_mean_254 : decode cX9_mean 254 = .ok (.iload_n 2, 1) := by decide +kernel
theorem dX9_mean_255 : decode cX9_mean 255 = .ok (.ifCond .ne 8, 3) := by decide +kernel
theorem dX9_mean_258 : decode cX9_mean 258 = .ok (.lload 5, 2) := by decide +kernel
theorem dX9_mean_260 : decode cX9_mean 260 = .ok (.goto 4, 3) := by decide +kernel
theorem dX9_mean_263 : decode cX9_mean 263 = .ok (.lload_n 3, 1) := by decide +kernel
theorem dX9_mean_264 : decode cX9_mean 264 = .ok (.lload 7, 2) := by decide +kernel
theorem dX9_mean_266 : decode cX9_mean 266 = .ok (.ldiv, 1) := by decide +kernel
theorem dX9_mean_267 : decode cX9_mean 267 = .ok (.l2i, 1) := by decide +kernel
theorem dX9_mean_268 : decode cX9_mean 268 = .ok (.ireturn, 1) := by decide +kernel
theorem dX9_lostBy_0 : decode cX9_lostBy 0 = .ok (.iconst 0, 1) := by decide +kernel
theorem dX9_lostBy_1 : decode cX9_lostBy 1 = .ok (.istore 4, 2) := by decide +kernel
theorem dX9_lostBy_3 : decode cX9_lostBy 3 = .ok (.iload_n 2, 1) := by decide +kernel
theorem dX9_lostBy_4 : decode cX9_lostBy 4 = .ok (.istore 5, 2) := by decide +kernel
theorem dX9_lostBy_6 : decode cX9_lostBy 6 = .ok (.iconst 0, 1) := by decide +kernel
theorem dX9_lostBy_7 : decode cX9_lostBy 7 = .ok (.istore 6, 2) := by decide +kernel
theorem dX9_lostBy_9 : decode cX9_lostBy 9 = .ok (.iload 6, 2) := by decide +kernel
theorem dX9_lostBy_11 : decode cX9_lostBy 11 = .ok (.iload_n 3, 1) := by decide +kernel
theorem dX9_lostBy_12 : decode cX9_lostBy 12 = .ok (.if_icmp .ge 67, 3) := by decide +kernel
theorem dX9_lostBy_15 : decode cX9_lostBy 15 = .ok (.iload 5, 2) := by decide +kernel
theorem dX9_lostBy_17 : decode cX9_lostBy 17 = .ok (.aload_n 0, 1) := by decide +kernel
theorem dX9_lostBy_18 : decode cX9_lostBy 18 = .ok (.getfield 19, 3) := by decide +kernel
theorem dX9_lostBy_21 : decode cX9_lostBy 21 = .ok (.bipush 15, 2) := by decide +kernel
theorem dX9_lostBy_23 : decode cX9_lostBy 23 = .ok (.iconst 2, 1) := by decide +kernel
theorem dX9_lostBy_24 : decode cX9_lostBy 24 = .ok (.iload_n 1, 1) := by decide +kernel
theorem dX9_lostBy_25 : decode cX9_lostBy 25 = .ok (.imul, 1) := by decide +kernel
theorem dX9_lostBy_26 : decode cX9_lostBy 26 = .ok (.iadd, 1) := by decide +kernel
theorem dX9_lostBy_27 : decode cX9_lostBy 27 = .ok (.iconst 1, 1) := by decide +kernel
theorem dX9_lostBy_28 : decode cX9_lostBy 28 = .ok (.iadd, 1) := by decide +kernel
theorem dX9_lostBy_29 : decode cX9_lostBy 29 = .ok (.iaload, 1) := by decide +kernel
theorem dX9_lostBy_30 : decode cX9_lostBy 30 = .ok (.if_icmp .le 49, 3) := by decide +kernel
theorem dX9_lostBy_33 : decode cX9_lostBy 33 = .ok (.aload_n 0, 1) := by decide +kernel
theorem dX9_lostBy_34 : decode cX9_lostBy 34 = .ok (.getfield 38, 3) := by decide +kernel
theorem dX9_lostBy_37 : decode cX9_lostBy 37 = .ok (.iload 5, 2) := by decide +kernel
theorem dX9_lostBy_39 : decode cX9_lostBy 39 = .ok (.iconst 1, 1) := by decide +kernel
theorem dX9_lostBy_40 : decode cX9_lostBy 40 = .ok (.isub, 1) := by decide +kernel
theorem dX9_lostBy_41 : decode cX9_lostBy 41 = .ok (.iaload, 1) := by decide +kernel
theorem dX9_lostBy_42 : decode cX9_lostBy 42 = .ok (.istore 7, 2) := by decide +kernel
theorem dX9_lostBy_44 : decode cX9_lostBy 44 = .ok (.aload_n 0, 1) := by decide +kernel
theorem dX9_lostBy_45 : decode cX9_lostBy 45 = .ok (.iload 7, 2) := by decide +kernel
theorem dX9_lostBy_47 : decode cX9_lostBy 47 = .ok (.iconst 0, 1) := by decide +kernel
theorem dX9_lostBy_48 : decode cX9_lostBy 48 = .ok (.invokevirtual 216, 3) := by decide +kernel
theorem dX9_lostBy_51 : decode cX9_lostBy 51 = .ok (.iconst 5, 1) := by decide +kernel
theorem dX9_lostBy_52 : decode cX9_lostBy 52 = .ok (.if_icmp .ne 6, 3) := by decide +kernel
theorem dX9_lostBy_55 : decode cX9_lostBy 55 = .ok (.iload 4, 2) := by decide +kernel
theorem dX9_lostBy_57 : decode cX9_lostBy 57 = .ok (.ireturn, 1) := by decide +kernel
theorem dX9_lostBy_58 : decode cX9_lostBy 58 = .ok (.iload 4, 2) := by decide +kernel
theorem dX9_lostBy_60 : decode cX9_lostBy 60 = .ok (.aload_n 0, 1) := by decide +kernel
theorem dX9_lostBy_61 : decode cX9_lostBy 61 = .ok (.iload 7, 2) := by decide +kernel
theorem dX9_lostBy_63 : decode cX9_lostBy 63 = .ok (.iconst 1, 1) := by decide +kernel
theorem dX9_lostBy_64 : decode cX9_lostBy 64 = .ok (.invokevirtual 216, 3) := by decide +kernel
theorem dX9_lostBy_67 : decode cX9_lostBy 67 = .ok (.iadd, 1) := by decide +kernel
theorem dX9_lostBy_68 : decode cX9_lostBy 68 = .ok (.istore 4, 2) := by decide +kernel
theorem dX9_lostBy_70 : decode cX9_lostBy 70 = .ok (.iinc 5 (-1), 3) := by decide +kernel
theorem dX9_lostBy_73 : decode cX9_lostBy 73 = .ok (.iinc 6 1, 3) := by decide +kernel
theorem dX9_lostBy_76 : decode cX9_lostBy 76 = .ok (.goto (-67), 3) := by decide +kernel
theorem dX9_lostBy_79 : decode cX9_lostBy 79 = .ok (.iload 4, 2) := by decide +kernel
theorem dX9_lostBy_81 : decode cX9_lostBy 81 = .ok (.ireturn, 1) := by decide +kernel
theorem dX9_nextOrder_0 : decode cX9_nextOrder 0 = .ok (.iload_n 1, 1) := by decide +kernel
theorem dX9_nextOrder_1 : decode cX9_nextOrder 1 = .ok (.iconst 2, 1) := by decide +kernel
theorem dX9_nextOrder_2 : decode cX9_nextOrder 2 = .ok (.isub, 1) := by decide +kernel
theorem dX9_nextOrder_3 : decode cX9_nextOrder 3 = .ok (.istore_n 2, 1) := by decide +kernel
theorem dX9_nextOrder_4 : decode cX9_nextOrder 4 = .ok (.iload_n 2, 1) := by decide +kernel
theorem dX9_nextOrder_5 : decode cX9_nextOrder 5 = .ok (.ifCond .lt 26, 3) := by decide +kernel
theorem dX9_nextOrder_8 : decode cX9_nextOrder 8 = .ok (.aload_n 0, 1) := by decide +kernel
theorem dX9_nextOrder_9 : decode cX9_nextOrder 9 = .ok (.getfield 38, 3) := by decide +kernel
theorem dX9_nextOrder_12 : decode cX9_nextOrder 12 = .ok (.iload_n 2, 1) := by decide +kernel
theorem dX9_nextOrder_13 : decode cX9_nextOrder 13 = .ok (.iaload, 1) := by decide +kernel
theorem dX9_nextOrder_14 : decode cX9_nextOrder 14 = .ok (.aload_n 0, 1) := by decide +kernel
theorem dX9_nextOrder_15 : decode cX9_nextOrder 15 = .ok (.getfield 38, 3) := by decide +kernel
theorem dX9_nextOrder_18 : decode cX9_nextOrder 18 = .ok (.iload_n 2, 1) := by decide +kernel
theorem dX9_nextOrder_19 : decode cX9_nextOrder 19 = .ok (.iconst 1, 1) := by decide +kernel
theorem dX9_nextOrder_20 : decode cX9_nextOrder 20 = .ok (.iadd, 1) := by decide +kernel
theorem dX9_nextOrder_21 : decode cX9_nextOrder 21 = .ok (.iaload, 1) := by decide +kernel
theorem dX9_nextOrder_22 : decode cX9_nextOrder 22 = .ok (.if_icmp .le 9, 3) := by decide +kernel
theorem dX9_nextOrder_25 : decode cX9_nextOrder 25 = .ok (.iinc 2 (-1), 3) := by decide +kernel
theorem dX9_nextOrder_28 : decode cX9_nextOrder 28 = .ok (.goto (-24), 3) := by decide +kernel
theorem dX9_nextOrder_31 : decode cX9_nextOrder 31 = .ok (.iload_n 2, 1) := by decide +kernel
theorem dX9_nextOrder_32 : decode cX9_nextOrder 32 = .ok (.ifCond .ge 5, 3) := by decide +kernel
theorem dX9_nextOrder_35 : decode cX9_nextOrder 35 = .ok (.iconst 0, 1) := by decide +kernel
theorem dX9_nextOrder_36 : decode cX9_nextOrder 36 = .ok (.ireturn, 1) := by decide +kernel
theorem dX9_nextOrder_37 : decode cX9_nextOrder 37 = .ok (.iload_n 1, 1) := by decide +kernel
theorem dX9_nextOrder_38 : decode cX9_nextOrder 38 = .ok (.iconst 1, 1) := by decide +kernel
theorem dX9_nextOrder_39 : decode cX9_nextOrder 39 = .ok (.isub, 1) := by decide +kernel
theorem dX9_nextOrder_40 : decode cX9_nextOrder 40 = .ok (.istore_n 3, 1) := by decide +kernel
theorem dX9_nextOrder_41 : decode cX9_nextOrder 41 = .ok (.aload_n 0, 1) := by decide +kernel
theorem dX9_nextOrder_42 : decode cX9_nextOrder 42 = .ok (.getfield 38, 3) := by decide +kernel
theorem dX9_nextOrder_45 : decode cX9_nextOrder 45 = .ok (.iload_n 3, 1) := by decide +kernel
theorem dX9_nextOrder_46 : decode cX9_nextOrder 46 = .ok (.iaload, 1) := by decide +kernel
theorem dX9_nextOrder_47 : decode cX9_nextOrder 47 = .ok (.aload_n 0, 1) := by decide +kernel
theorem dX9_nextOrder_48 : decode cX9_nextOrder 48 = .ok (.getfield 38, 3) := by decide +kernel
theorem dX9_nextOrder_51 : decode cX9_nextOrder 51 = .ok (.iload_n 2, 1) := by decide +kernel
theorem dX9_nextOrder_52 : decode cX9_nextOrder 52 = .ok (.iaload, 1) := by decide +kernel
theorem dX9_nextOrder_53 : decode cX9_nextOrder 53 = .ok (.if_icmp .ge 9, 3) := by decide +kernel
theorem dX9_nextOrder_56 : decode cX9_nextOrder 56 = .ok (.iinc 3 (-1), 3) := by decide +kernel
theorem dX9_nextOrder_59 : decode cX9_nextOrder 59 = .ok (.goto (-18), 3) := by decide +kernel
theorem dX9_nextOrder_62 : decode cX9_nextOrder 62 = .ok (.aload_n 0, 1) := by decide +kernel
theorem dX9_nextOrder_63 : decode cX9_nextOrder 63 = .ok (.getfield 38, 3) := by decide +kernel
theorem dX9_nextOrder_66 : decode cX9_nextOrder 66 = .ok (.iload_n 2, 1) := by decide +kernel
theorem dX9_nextOrder_67 : decode cX9_nextOrder 67 = .ok (.iaload, 1) := by decide +kernel
theorem dX9_nextOrder_68 : decode cX9_nextOrder 68 = .ok (.istore 4, 2) := by decide +kernel
theorem dX9_nextOrder_70 : decode cX9_nextOrder 70 = .ok (.aload_n 0, 1) := by decide +kernel
theorem dX9_nextOrder_71 : decode cX9_nextOrder 71 = .ok (.getfield 38, 3) := by decide +kernel
