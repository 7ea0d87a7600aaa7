theorem dX10_split_78 : decode cX10_split 78 = .ok (.istore 8, 2) := by decide +kernel
theorem dX10_split_80 : decode cX10_split 80 = .ok (.iconst 0, 1) := by decide +kernel
theorem dX10_split_81 : decode cX10_split 81 = .ok (.istore 9, 2) := by decide +kernel
theorem dX10_split_83 : decode cX10_split 83 = .ok (.iconst 1, 1) := by decide +kernel
theorem dX10_split_84 : decode cX10_split 84 = .ok (.istore 10, 2) := by decide +kernel
theorem dX10_split_86 : decode cX10_split 86 = .ok (.iload 10, 2) := by decide +kernel
theorem dX10_split_88 : decode cX10_split 88 = .ok (.iload_n 1, 1) := by decide +kernel
theorem dX10_split_89 : decode cX10_split 89 = .ok (.if_icmp .ge 155, 3) := by decide +kernel
theorem dX10_split_92 : decode cX10_split 92 = .ok (.iload 10, 2) := by decide +kernel
theorem dX10_split_94 : decode cX10_split 94 = .ok (.iload_n 1, 1) := by decide +kernel
theorem dX10_split_95 : decode cX10_split 95 = .ok (.iconst (-1), 1) := by decide +kernel
theorem dX10_split_96 : decode cX10_split 96 = .ok (.ixor, 1) := by decide +kernel
theorem dX10_split_97 : decode cX10_split 97 = .ok (.iand, 1) := by decide +kernel
theorem dX10_split_98 : decode cX10_split 98 = .ok (.ifCond .ne 140, 3) := by decide +kernel
theorem dX10_split_101 : decode cX10_split 101 = .ok (.iload 10, 2) := by decide +kernel
theorem dX10_split_103 : decode cX10_split 103 = .ok (.iload 6, 2) := by decide +kernel
theorem dX10_split_105 : decode cX10_split 105 = .ok (.iand, 1) := by decide +kernel
theorem dX10_split_106 : decode cX10_split 106 = .ok (.ifCond .ne 6, 3) := by decide +kernel
theorem dX10_split_109 : decode cX10_split 109 = .ok (.goto 129, 3) := by decide +kernel
theorem dX10_split_112 : decode cX10_split 112 = .ok (.iload_n 1, 1) := by decide +kernel
theorem dX10_split_113 : decode cX10_split 113 = .ok (.iload 10, 2) := by decide +kernel
theorem dX10_split_115 : decode cX10_split 115 = .ok (.iconst (-1), 1) := by decide +kernel
theorem dX10_split_116 : decode cX10_split 116 = .ok (.ixor, 1) := by decide +kernel
theorem dX10_split_117 : decode cX10_split 117 = .ok (.iand, 1) := by decide +kernel
theorem dX10_split_118 : decode cX10_split 118 = .ok (.istore 11, 2) := by decide +kernel
theorem dX10_split_120 : decode cX10_split 120 = .ok (.aload_n 0, 1) := by decide +kernel
theorem dX10_split_121 : decode cX10_split 121 = .ok (.iload 10, 2) := by decide +kernel
theorem dX10_split_123 : decode cX10_split 123 = .ok (.invokevirtual 262, 3) := by decide +kernel
theorem dX10_split_126 : decode cX10_split 126 = .ok (.aload_n 0, 1) := by decide +kernel
theorem dX10_split_127 : decode cX10_split 127 = .ok (.iload 11, 2) := by decide +kernel
theorem dX10_split_129 : decode cX10_split 129 = .ok (.invokevirtual 262, 3) := by decide +kernel
theorem dX10_split_132 : decode cX10_split 132 = .ok (.iadd, 1) := by decide +kernel
theorem dX10_split_133 : decode cX10_split 133 = .ok (.istore 12, 2) := by decide +kernel
theorem dX10_split_135 : decode cX10_split 135 = .ok (.iload 7, 2) := by decide +kernel
theorem dX10_split_137 : decode cX10_split 137 = .ok (.bipush (-9), 2) := by decide +kernel
theorem dX10_split_139 : decode cX10_split 139 = .ok (.if_icmp .eq 13, 3) := by decide +kernel
theorem dX10_split_142 : decode cX10_split 142 = .ok (.iload 12, 2) := by decide +kernel
theorem dX10_split_144 : decode cX10_split 144 = .ok (.iload 8, 2) := by decide +kernel
theorem dX10_split_146 : decode cX10_split 146 = .ok (.if_icmp .le 6, 3) := by decide +kernel
theorem dX10_split_149 : decode cX10_split 149 = .ok (.goto 89, 3) := by decide +kernel
theorem dX10_split_152 : decode cX10_split 152 = .ok (.aload_n 0, 1) := by decide +kernel
theorem dX10_split_153 : decode cX10_split 153 = .ok (.iload 10, 2) := by decide +kernel
theorem dX10_split_155 : decode cX10_split 155 = .ok (.iload_n 2, 1) := by decide +kernel
theorem dX10_split_156 : decode cX10_split 156 = .ok (.iload_n 3, 1) := by decide +kernel
theorem dX10_split_157 : decode cX10_split 157 = .ok (.iload 4, 2) := by decide +kernel
theorem dX10_split_159 : decode cX10_split 159 = .ok (.invokevirtual 265, 3) := by decide +kernel
theorem dX10_split_162 : decode cX10_split 162 = .ok (.istore 13, 2) := by decide +kernel
theorem dX10_split_164 : decode cX10_split 164 = .ok (.iload 13, 2) := by decide +kernel
theorem dX10_split_166 : decode cX10_split 166 = .ok (.bipush (-9), 2) := by decide +kernel
theorem dX10_split_168 : decode cX10_split 168 = .ok (.if_icmp .ne 8, 3) := by decide +kernel
theorem dX10_split_171 : decode cX10_split 171 = .ok (.bipush (-9), 2) := by decide +kernel
theorem dX10_split_173 : decode cX10_split 173 = .ok (.goto 13, 3) := by decide +kernel
theorem dX10_split_176 : decode cX10_split 176 = .ok (.aload_n 0, 1) := by decide +kernel
theorem dX10_split_177 : decode cX10_split 177 = .ok (.iload 11, 2) := by decide +kernel
theorem dX10_split_179 : decode cX10_split 179 = .ok (.iload_n 2, 1) := by decide +kernel
theorem dX10_split_180 : decode cX10_split 180 = .ok (.iload_n 3, 1) := by decide +kernel
theorem dX10_split_181 : decode cX10_split 181 = .ok (.iload 4, 2) := by decide +kernel
theorem dX10_split_183 : decode cX10_split 183 = .ok (.invokevirtual 265, 3) := by decide +kernel
theorem dX10_split_186 : decode cX10_split 186 = .ok (.istore 14, 2) := by decide +kernel
theorem dX10_split_188 : decode cX10_split 188 = .ok (.iload 14, 2) := by decide +kernel
theorem dX10_split_190 : decode cX10_split 190 = .ok (.bipush (-9), 2) := by decide +kernel
theorem dX10_split_192 : decode cX10_split 192 = .ok (.if_icmp .ne 6, 3) := by decide +kernel
theorem dX10_split_195 : decode cX10_split 195 = .ok (.goto 43, 3) := by decide +kernel
theorem dX10_split_198 : decode cX10_split 198 = .ok (.iload 13, 2) := by decide +kernel
theorem dX10_split_200 : decode cX10_split 200 = .ok (.iload 14, 2) := by decide +kernel
theorem dX10_split_202 : decode cX10_split 202 = .ok (.iadd, 1) := by decide +kernel
theorem dX10_split_203 : decode cX10_split 203 = .ok (.istore 13, 2) := by decide +kernel
theorem dX10_split_205 : decode cX10_split 205 = .ok (.iload 7, 2) := by decide +kernel
theorem dX10_split_207 : decode cX10_split 207 = .ok (.bipush (-9), 2) := by decide +kernel
theorem dX10_split_209 : decode cX10_split 209 = .ok (.if_icmp .eq 17, 3) := by decide +kernel
theorem dX10_split_212 : decode cX10_split 212 = .ok (.iload 12, 2) := by decide +kernel
theorem dX10_split_214 : decode cX10_split 214 = .ok (.iload 8, 2) := by decide +kernel
theorem dX10_split_216 : decode cX10_split 216 = .ok (.if_icmp .lt 10, 3) := by decide +kernel
theorem dX10_split_219 : decode cX10_split 219 = .ok (.iload 13, 2) := by decide +kernel
theorem dX10_split_221 : decode cX10_split 221 = .ok (.iload 9, 2) := by decide +kernel
theorem dX10_split_223 : decode cX10_split 223 = .ok (.if_icmp .le 15, 3) := by decide +kernel
theorem dX10_split_226 : decode cX10_split 226 = .ok (.iload 10, 2) := by decide +kernel
theorem dX10_split_228 : decode cX10_split 228 = .ok (.istore 7, 2) := by decide +kernel
theorem dX10_split_230 : decode cX10_split 230 = .ok (.iload 12, 2) := by decide +kernel
theorem dX10_split_232 : decode cX10_split 232 = .ok (.istore 8, 2) := by decide +kernel
theorem dX10_split_234 : decode cX10_split 234 = .ok (.iload 13, 2) := by decide +kernel
theorem dX10_split_236 : decode cX10_split 236 = .ok (.istore 9, 2) := by decide +kernel
theorem dX10_split_238 : decode cX10_split 238 = .ok (.iinc 10 1, 3) := by decide +kernel
theorem dX10_split_241 : decode cX10_split 241 = .ok (.goto (-155), 3) := by decide +kernel
theorem dX10_split_244 : decode cX10_split 244 = .ok (.iload 7, 2) := by decide +kernel
theorem dX10_split_246 : decode cX10_split 246 = .ok (.bipush (-9), 2) := by decide +kernel
theorem dX10_split_248 : decode cX10_split 248 = .ok (.if_icmp .ne 6, 3) := by decide +kernel
theorem dX10_split_251 : decode cX10_split 251 = .ok (.bipush (-9), 2) := by decide +kernel
theorem dX10_split_253 : decode cX10_split 253 = .ok (.ireturn, 1) := by decide +kernel
theorem dX10_split_254 : decode cX10_split 254 = .ok (.iload 5, 2) := by decide +kernel
theorem dX10_split_256 : decode cX10_split 256 = .ok (.ifCond .ne 8, 3) := by decide +kernel
theorem dX10_split_259 : decode cX10_split 259 = .ok (.iload 7, 2) := by decide +kernel
theorem dX10_split_261 : decode cX10_split 261 = .ok (.goto 33, 3) := by decide +kernel
theorem dX10_split_264 : decode cX10_split 264 = .ok (.iload 5, 2) := by decide +kernel
theorem dX10_split_266 : decode cX10_split 266 = .ok (.iconst 1, 1) := by decide +kernel
theorem dX10_split_267 : decode cX10_split 267 = .ok (.if_icmp .ne 8, 3) := by decide +kernel
theorem dX10_split_270 : decode cX10_split 270 = .ok (.iload 8, 2) := by decide +kernel
theorem dX10_split_272 : decode cX10_split 272 = .ok (.goto 22, 3) := by decide +kernel
theorem dX10_split_275 : decode cX10_split 275 = .ok (.iload 5, 2) := by decide +kernel
theorem dX10_split_277 : decode cX10_split 277 = .ok (.iconst 2, 1) := by decide +kernel
theorem dX10_split_278 : decode cX10_split 278 = .ok (.if_icmp .ne 8, 3) := by decide +kernel
theorem dX10_split_281 : decode cX10_split 281 = .ok (.iload 9, 2) := by decide +kernel
theorem dX10_split_283 : decode cX10_split 283 = .ok (.goto 11, 3) := by decide +kernel
theorem dX10_split_286 : decode cX10_split 286 = .ok (.iload 8, 2) := by decide +kernel
theorem dX10_split_288 : decode cX10_split 288 = .ok (.aload_n 0, 1) := by decide +kernel
theorem dX10_split_289 : decode cX10_split 289 = .ok (.iload_n 1, 1) := by decide +kernel
theorem dX10_split_290 : decode cX10_split 290 = .ok (.invokevirtual 262, 3) := by decide +kernel
theorem dX10_split_293 : decode cX10_split 293 = .ok (.isub, 1) := by decide +kernel
theorem dX10_split_294 : decode cX10_split 294 = .ok (.ireturn, 1) := by decide +kernel
theorem dX10_mayBe_0 : decode cX10_mayBe 0 = .ok (.iload_n 1, 1) := by decide +kernel
theorem dX10_mayBe_1 : decode cX10_mayBe 1 = .ok (.iconst 2, 1) := by decide +kernel
theorem dX10_mayBe_2 : decode cX10_mayBe 2 = .ok (.irem, 1) := by decide +kernel
theorem dX10_mayBe_3 : decode cX10_mayBe 3 = .ok (.ifCond .ne 15, 3) := by decide +kernel
theorem dX10_mayBe_6 : decode cX10_mayBe 6 = .ok (.aload_n 0, 1) := by decide +kernel
theorem dX10_mayBe_7 : decode cX10_mayBe 7 = .ok (.getfield 46, 3) := by decide +kernel
theorem dX10_mayBe_10 : decode cX10_mayBe 10 = .ok (.iload_n 2, 1) := by decide +kernel
theorem dX10_mayBe_11 : decode cX10_mayBe 11 = .ok (.iaload, 1) := by decide +kernel
theorem dX10_mayBe_12 : decode cX10_mayBe 12 = .ok (.iload_n 3, 1) := by decide +kernel
theorem dX10_mayBe_13 : decode cX10_mayBe 13 = .ok (.if_icmp .ge 5, 3) := by decide +kernel
theorem dX10_mayBe_16 : decode cX10_mayBe 16 = .ok (.iconst 0, 1) := by decide +kernel
theorem dX10_mayBe_17 : decode cX10_mayBe 17 = .ok (.ireturn, 1) := by decide +kernel
theorem dX10_mayBe_18 : decode cX10_mayBe 18 = .ok (.iload_n 1, 1) := by decide +kernel
theorem dX10_mayBe_19 : decode cX10_mayBe 19 = .ok (.iconst 2, 1) := by decide +kernel
theorem dX10_mayBe_20 : decode cX10_mayBe 20 = .ok (.irem, 1) := by decide +kernel
theorem dX10_mayBe_21 : decode cX10_mayBe 21 = .ok (.iconst 1, 1) := by decide +kernel
theorem dX10_mayBe_22 : decode cX10_mayBe 22 = .ok (.if_icmp .ne 32, 3) := by decide +kernel
theorem dX10_mayBe_25 : decode cX10_mayBe 25 = .ok (.iload 4, 2) := by decide +kernel
theorem dX10_mayBe_27 : decode cX10_mayBe 27 = .ok (.ifCond .ne 27, 3) := by decide +kernel
theorem dX10_mayBe_30 : decode cX10_mayBe 30 = .ok (.aload_n 0, 1) := by decide +kernel
theorem dX10_mayBe_31 : decode cX10_mayBe 31 = .ok (.getfield 52, 3) := by decide +kernel
theorem dX10_mayBe_34 : decode cX10_mayBe 34 = .ok (.bipush 10, 2) := by decide +kernel
theorem dX10_mayBe_36 : decode cX10_mayBe 36 = .ok (.iload_n 2, 1) := by decide +kernel
theorem dX10_mayBe_37 : decode cX10_mayBe 37 = .ok (.imul, 1) := by decide +kernel
theorem dX10_mayBe_38 : decode cX10_mayBe 38 = .ok (.aload_n 0, 1) := by decide +kernel
theorem dX10_mayBe_39 : decode cX10_mayBe 39 = .ok (.getfield 72, 3) := by decide +kernel
theorem dX10_mayBe_42 : decode cX10_mayBe 42 = .ok (.iload_n 1, 1) := by decide +kernel
theorem dX10_mayBe_43 : decode cX10_mayBe 43 = .ok (.iconst 1, 1) := by decide +kernel
theorem dX10_mayBe_44 : decode cX10_mayBe 44 = .ok (.isub, 1) := by decide +kernel
theorem dX10_mayBe_45 : decode cX10_mayBe 45 = .ok (.iaload, 1) := by decide +kernel
theorem dX10_mayBe_46 : decode cX10_mayBe 46 = .ok (.iadd, 1) := by decide +kernel
theorem dX10_mayBe_47 : decode cX10_mayBe 47 = .ok (.iaload, 1) := by decide +kernel
theorem dX10_mayBe_48 : decode cX10_mayBe 48 = .ok (.iconst 2, 1) := by decide +kernel
theorem dX10_mayBe_49 : decode cX10_mayBe 49 = .ok (.if_icmp .ne 5, 3) := by decide +kernel
theorem dX10_mayBe_52 : decode cX10_mayBe 52 = .ok (.iconst 0, 1) := by decide +kernel
theorem dX10_mayBe_53 : decode cX10_mayBe 53 = .ok (.ireturn, 1) := by decide +kernel
theorem dX10_mayBe_54 : decode cX10_mayBe 54 = .ok (.iload_n 1, 1) := by decide +kernel
theorem dX10_mayBe_55 : decode cX10_mayBe 55 = .ok (.iconst 2, 1) := by decide +kernel
theorem dX10_mayBe_56 : decode cX10_mayBe 56 = .ok (.if_icmp .lt 25, 3) := by decide +kernel
theorem dX10_mayBe_59 : decode cX10_mayBe 59 = .ok (.aload_n 0, 1) := by decide +kernel
theorem dX10_mayBe_60 : decode cX10_mayBe 60 = .ok (.getfield 52, 3) := by decide +kernel
theorem dX10_mayBe_63 : decode cX10_mayBe 63 = .ok (.bipush 10, 2) := by decide +kernel
theorem dX10_mayBe_65 : decode cX10_mayBe 65 = .ok (.iload_n 2, 1) := by decide +kernel
theorem dX10_mayBe_66 : decode cX10_mayBe 66 = .ok (.imul, 1) := by decide +kernel
theorem dX10_mayBe_67 : decode cX10_mayBe 67 = .ok (.aload_n 0, 1) := by decide +kernel
theorem dX10_mayBe_68 : decode cX10_mayBe 68 = .ok (.getfield 72, 3) := by decide +kernel
theorem dX10_mayBe_71 : decode cX10_mayBe 71 = .ok (.iload_n 1, 1) := by decide +kernel
theorem dX10_mayBe_72 : decode cX10_mayBe 72 = .ok (.iconst 2, 1) := by decide +kernel
theorem dX10_mayBe_73 : decode cX10_mayBe 73 = .ok (.isub, 1) := by decide +kernel
theorem dX10_mayBe_74 : decode cX10_mayBe 74 = .ok (.iaload, 1) := by decide +kernel
theorem dX10_mayBe_75 : decode cX10_mayBe 75 = .ok (.iadd, 1) := by decide +kernel
theorem dX10_mayBe_76 : decode cX10_mayBe 76 = .ok (.iaload, 1) := by decide +kernel
theorem dX10_mayBe_77 : decode cX10_mayBe 77 = .ok (.iconst 2, 1) := by decide +kernel
theorem dX10_mayBe_78 : decode cX10_mayBe 78 = .ok (.if_icmp .eq 7, 3) := by decide +kernel
theorem dX10_mayBe_81 : decode cX10_mayBe 81 = .ok (.iconst 1, 1) := by decide +kernel
theorem dX10_mayBe_82 : decode cX10_mayBe 82 = .ok (.goto 4, 3) := by decide +kernel
theorem dX10_mayBe_85 : decode cX10_mayBe 85 = .ok (.iconst 0, 1) := by decide +kernel
theorem dX10_mayBe_86 : decode cX10_mayBe 86 = .ok (.ireturn, 1) := by decide +kernel
theorem dX10_friendRows_0 : decode cX10_friendRows 0 = .ok (.iconst 0, 1) := by decide +kernel
theorem dX10_friendRows_1 : decode cX10_friendRows 1 = .ok (.istore_n 2, 1) := by decide +kernel
theorem dX10_friendRows_2 : decode cX10_friendRows 2 = .ok (.iconst 1, 1) := by decide +kernel
theorem dX10_friendRows_3 : decode cX10_friendRows 3 = .ok (.istore_n 3, 1) := by decide +kernel
theorem dX10_friendRows_4 : decode cX10_friendRows 4 = .ok (.iload_n 3, 1) := by decide +kernel
theorem dX10_friendRows_5 : decode cX10_friendRows 5 = .ok (.iload_n 1, 1) := by decide +kernel
theorem dX10_friendRows_6 : decode cX10_friendRows 6 = .ok (.if_icmp .ge 57, 3) := by decide +kernel
theorem dX10_friendRows_9 : decode cX10_friendRows 9 = .ok (.iload_n 2, 1) := by decide +kernel
theorem dX10_friendRows_10 : decode cX10_friendRows 10 = .ok (.aload_n 0, 1) := by decide +kernel
theorem dX10_friendRows_11 : decode cX10_friendRows 11 = .ok (.getfield 72, 3) := by decide +kernel
theorem dX10_friendRows_14 : decode cX10_friendRows 14 = .ok (.iload_n 3, 1) := by decide +kernel
theorem dX10_friendRows_15 : decode cX10_friendRows 15 = .ok (.iconst 1, 1) := by decide +kernel
theorem dX10_friendRows_16 : decode cX10_friendRows 16 = .ok (.isub, 1) := by decide +kernel
theorem dX10_friendRows_17 : decode cX10_friendRows 17 = .ok (.iaload, 1) := by decide +kernel
theorem dX10_friendRows_18 : decode cX10_friendRows 18 = .ok (.bipush (-9), 2) := by decide +kernel
theorem dX10_friendRows_20 : decode cX10_friendRows 20 = .ok (.if_icmp .eq 34, 3) := by decide +kernel
theorem dX10_friendRows_23 : decode cX10_friendRows 23 = .ok (.aload_n 0, 1) := by decide +kernel
theorem dX10_friendRows_24 : decode cX10_friendRows 24 = .ok (.getfield 52, 3) := by decide +kernel
theorem dX10_friendRows_27 : decode cX10_friendRows 27 = .ok (.bipush 10, 2) := by decide +kernel
theorem dX10_friendRows_29 : decode cX10_friendRows 29 = .ok (.aload_n 0, 1) := by decide +kernel
theorem dX10_friendRows_30 : decode cX10_friendRows 30 = .ok (.getfield 72, 3) := by decide +kernel
theorem dX10_friendRows_33 : decode cX10_friendRows 33 = .ok (.iload_n 3, 1) := by decide +kernel
theorem dX10_friendRows_34 : decode cX10_friendRows 34 = .ok (.iaload, 1) := by decide +kernel
theorem dX10_friendRows_35 : decode cX10_friendRows 35 = .ok (.imul, 1) := by decide +kernel
theorem dX10_friendRows_36 : decode cX10_friendRows 36 = .ok (.aload_n 0, 1) := by decide +kernel
theorem dX10_friendRows_37 : decode cX10_friendRows 37 = .ok (.getfield 72, 3) := by decide +kernel
theorem dX10_friendRows_40 : decode cX10_friendRows 40 = .ok (.iload_n 3, 1) := by decide +kernel
theorem dX10_friendRows_41 : decode cX10_friendRows 41 = .ok (.iconst 1, 1) := by decide +kernel
theorem dX10_friendRows_42 : decode cX10_friendRows 42 = .ok (.isub, 1) := by decide +kernel
theorem dX10_friendRows_43 : decode cX10_friendRows 43 = .ok (.iaload, 1) := by decide +kernel
theorem dX10_friendRows_44 : decode cX10_friendRows 44 = .ok (.iadd, 1) := by decide +kernel
theorem dX10_friendRows_45 : decode cX10_friendRows 45 = .ok (.iaload, 1) := by decide +kernel
theorem dX10_friendRows_46 : decode cX10_friendRows 46 = .ok (.iconst 1, 1) := by decide +kernel
theorem dX10_friendRows_47 : decode cX10_friendRows 47 = .ok (.if_icmp .ne 7, 3) := by decide +kernel
theorem dX10_friendRows_50 : decode cX10_friendRows 50 = .ok (.iconst 1, 1) := by decide +kernel
theorem dX10_friendRows_51 : decode cX10_friendRows 51 = .ok (.goto 4, 3) := by decide +kernel
theorem dX10_friendRows_54 : decode cX10_friendRows 54 = .ok (.iconst 0, 1) := by decide +kernel
theorem dX10_friendRows_55 : decode cX10_friendRows 55 = .ok (.iadd, 1) := by decide +kernel
theorem dX10_friendRows_56 : decode cX10_friendRows 56 = .ok (.istore_n 2, 1) := by decide +kernel
theorem dX10_friendRows_57 : decode cX10_friendRows 57 = .ok (.iinc 3 2, 3) := by decide +kernel
theorem dX10_friendRows_60 : decode cX10_friendRows 60 = .ok (.goto (-56), 3) := by decide +kernel
theorem dX10_friendRows_63 : decode cX10_friendRows 63 = .ok (.iload_n 2, 1) := by decide +kernel
theorem dX10_friendRows_64 : decode cX10_friendRows 64 = .ok (.ireturn, 1) := by decide +kernel
theorem dX10_layRopes_0 : decode cX10_layRopes 0 = .ok (.aload_n 0, 1) := by decide +kernel
theorem dX10_layRopes_1 : decode cX10_layRopes 1 = .ok (.lconst 0, 1) := by decide +kernel
theorem dX10_layRopes_2 : decode cX10_layRopes 2 = .ok (.putfield 268, 3) := by decide +kernel
theorem dX10_layRopes_5 : decode cX10_layRopes 5 = .ok (.aload_n 0, 1) := by decide +kernel
theorem dX10_layRopes_6 : decode cX10_layRopes 6 = .ok (.bipush (-9), 2) := by decide +kernel
theorem dX10_layRopes_8 : decode cX10_layRopes 8 = .ok (.putfield 272, 3) := by decide +kernel
theorem dX10_layRopes_11 : decode cX10_layRopes 11 = .ok (.iload_n 1, 1) := by decide +kernel
theorem dX10_layRopes_12 : decode cX10_layRopes 12 = .ok (.invokestatic 211, 3) := by decide +kernel
theorem dX10_layRopes_15 : decode cX10_layRopes 15 = .ok (.istore_n 3, 1) := by decide +kernel
theorem dX10_layRopes_16 : decode cX10_layRopes 16 = .ok (.iload_n 3, 1) := by decide +kernel
theorem dX10_layRopes_17 : decode cX10_layRopes 17 = .ok (.iconst 2, 1) := by decide +kernel
theorem dX10_layRopes_18 : decode cX10_layRopes 18 = .ok (.irem, 1) := by decide +kernel
theorem dX10_layRopes_19 : decode cX10_layRopes 19 = .ok (.ifCond .ne 7, 3) := by decide +kernel
theorem dX10_layRopes_22 : decode cX10_layRopes 22 = .ok (.iload_n 3, 1) := by decide +kernel
theorem dX10_layRopes_23 : decode cX10_layRopes 23 = .ok (.goto 6, 3) := by decide +kernel
theorem dX10_layRopes_26 : decode cX10_layRopes 26 = .ok (.iload_n 3, 1) := by decide +kernel
theorem dX10_layRopes_27 : decode cX10_layRopes 27 = .ok (.iconst 1, 1) := by decide +kernel
theorem dX10_layRopes_28 : decode cX10_layRopes 28 = .ok (.iadd, 1) := by decide +kernel
theorem dX10_layRopes_29 : decode cX10_layRopes 29 = .ok (.istore 4, 2) := by decide +kernel
theorem dX10_layRopes_31 : decode cX10_layRopes 31 = .ok (.iload_n 3, 1) := by decide +kernel
theorem dX10_layRopes_32 : decode cX10_layRopes 32 = .ok (.iconst 2, 1) := by decide +kernel
theorem dX10_layRopes_33 : decode cX10_layRopes 33 = .ok (.irem, 1) := by decide +kernel
theorem dX10_layRopes_34 : decode cX10_layRopes 34 = .ok (.ifCond .ne 8, 3) := by decide +kernel
theorem dX10_layRopes_37 : decode cX10_layRopes 37 = .ok (.bipush (-9), 2) := by decide +kernel
theorem dX10_layRopes_39 : decode cX10_layRopes 39 = .ok (.goto 7, 3) := by decide +kernel
theorem dX10_layRopes_42 : decode cX10_layRopes 42 = .ok (.iload 4, 2) := by decide +kernel
theorem dX10_layRopes_44 : decode cX10_layRopes 44 = .ok (.iconst 2, 1) := by decide +kernel
theorem dX10_layRopes_45 : decode cX10_layRopes 45 = .ok (.isub, 1) := by decide +kernel
theorem dX10_layRopes_46 : decode cX10_layRopes 46 = .ok (.istore 5, 2) := by decide +kernel
theorem dX10_layRopes_48 : decode cX10_layRopes 48 = .ok (.iconst 0, 1) := by decide +kernel
theorem dX10_layRopes_49 : decode cX10_layRopes 49 = .ok (.istore 6, 2) := by decide +kernel
theorem dX10_layRopes_51 : decode cX10_layRopes 51 = .ok (.iconst 0, 1) := by decide +kernel
theorem dX10_layRopes_52 : decode cX10_layRopes 52 = .ok (.istore 7, 2) := by decide +kernel
theorem dX10_layRopes_54 : decode cX10_layRopes 54 = .ok (.iconst 0, 1) := by decide +kernel
theorem dX10_layRopes_55 : decode cX10_layRopes 55 = .ok (.istore 8, 2) := by decide +kernel
theorem dX10_layRopes_57 : decode cX10_layRopes 57 = .ok (.iload 8, 2) := by decide +kernel
theorem dX10_layRopes_59 : decode cX10_layRopes 59 = .ok (.bipush 8, 2) := by decide +kernel
theorem dX10_layRopes_61 : decode cX10_layRopes 61 = .ok (.if_icmp .ge 18, 3) := by decide +kernel
theorem dX10_layRopes_64 : decode cX10_layRopes 64 = .ok (.aload_n 0, 1) := by decide +kernel
theorem dX10_layRopes_65 : decode cX10_layRopes 65 = .ok (.getfield 72, 3) := by decide +kernel
theorem dX10_layRopes_68 : decode cX10_layRopes 68 = .ok (.iload 8, 2) := by decide +kernel
theorem dX10_layRopes_70 : decode cX10_layRopes 70 = .ok (.bipush (-9), 2) := by decide +kernel
theorem dX10_layRopes_72 : decode cX10_layRopes 72 = .ok (.iastore, 1) := by decide +kernel
theorem dX10_layRopes_73 : decode cX10_layRopes 73 = .ok (.iinc 8 1, 3) := by decide +kernel
theorem dX10_layRopes_76 : decode cX10_layRopes 76 = .ok (.goto (-19), 3) := by decide +kernel
theorem dX10_layRopes_79 : decode cX10_layRopes 79 = .ok (.iload 5, 2) := by decide +kernel
theorem dX10_layRopes_81 : decode cX10_layRopes 81 = .ok (.ifCond .ne 6, 3) := by decide +kernel
theorem dX10_layRopes_84 : decode cX10_layRopes 84 = .ok (.iconst 1, 1) := by decide +kernel
theorem dX10_layRopes_85 : decode cX10_layRopes 85 = .ok (.istore 7, 2) := by decide +kernel
theorem dX10_layRopes_87 : decode cX10_layRopes 87 = .ok (.iload 7, 2) := by decide +kernel
theorem dX10_layRopes_89 : decode cX10_layRopes 89 = .ok (.istore 8, 2) := by decide +kernel
theorem dX10_layRopes_91 : decode cX10_layRopes 91 = .ok (.iload 7, 2) := by decide +kernel
theorem dX10_layRopes_93 : decode cX10_layRopes 93 = .ok (.iload 8, 2) := by decide +kernel
theorem dX10_layRopes_95 : decode cX10_layRopes 95 = .ok (.if_icmp .lt 292, 3) := by decide +kernel
theorem dX10_layRopes_98 : decode cX10_layRopes 98 = .ok (.aload_n 0, 1) := by decide +kernel
theorem dX10_layRopes_99 : decode cX10_layRopes 99 = .ok (.getfield 72, 3) := by decide +kernel
theorem dX10_layRopes_102 : decode cX10_layRopes 102 = .ok (.iload 7, 2) := by decide +kernel
theorem dX10_layRopes_104 : decode cX10_layRopes 104 = .ok (.iaload, 1) := by decide +kernel
theorem dX10_layRopes_105 : decode cX10_layRopes 105 = .ok (.bipush (-9), 2) := by decide +kernel
theorem dX10_layRopes_107 : decode cX10_layRopes 107 = .ok (.if_icmp .eq 19, 3) := by decide +kernel
theorem dX10_layRopes_110 : decode cX10_layRopes 110 = .ok (.iload 6, 2) := by decide +kernel
theorem dX10_layRopes_112 : decode cX10_layRopes 112 = .ok (.iconst 1, 1) := by decide +kernel
theorem dX10_layRopes_113 : decode cX10_layRopes 113 = .ok (.aload_n 0, 1) := by decide +kernel
theorem dX10_layRopes_114 : decode cX10_layRopes 114 = .ok (.getfield 72, 3) := by decide +kernel
theorem dX10_layRopes_117 : decode cX10_layRopes 117 = .ok (.iload 7, 2) := by decide +kernel
theorem dX10_layRopes_119 : decode cX10_layRopes 119 = .ok (.iaload, 1) := by decide +kernel
theorem dX10_layRopes_120 : decode cX10_layRopes 120 = .ok (.ishl, 1) := by decide +kernel
theorem dX10_layRopes_121 : decode cX10_layRopes 121 = .ok (.iconst (-1), 1) := by decide +kernel
theorem dX10_layRopes_122 : decode cX10_layRopes 122 = .ok (.ixor, 1) := by decide +kernel
theorem dX10_layRopes_123 : decode cX10_layRopes 123 = .ok (.iand, 1) := by decide +kernel
theorem dX10_layRopes_124 : decode cX10_layRopes 124 = .ok (.istore 6, 2) := by decide +kernel
theorem dX10_layRopes_126 : decode cX10_layRopes 126 = .ok (.aload_n 0, 1) := by decide +kernel
theorem dX10_layRopes_127 : decode cX10_layRopes 127 = .ok (.getfield 72, 3) := by decide +kernel
theorem dX10_layRopes_130 : decode cX10_layRopes 130 = .ok (.iload 7, 2) := by decide +kernel
theorem dX10_layRopes_132 : decode cX10_layRopes 132 = .ok (.iaload, 1) := by decide +kernel
theorem dX10_layRopes_133 : decode cX10_layRopes 133 = .ok (.bipush (-9), 2) := by decide +kernel
theorem dX10_layRopes_135 : decode cX10_layRopes 135 = .ok (.if_icmp .ne 7, 3) := by decide +kernel
theorem dX10_layRopes_138 : decode cX10_layRopes 138 = .ok (.iconst 0, 1) := by decide +kernel
theorem dX10_layRopes_139 : decode cX10_layRopes 139 = .ok (.goto 12, 3) := by decide +kernel
theorem dX10_layRopes_142 : decode cX10_layRopes 142 = .ok (.aload_n 0, 1) := by decide +kernel
theorem dX10_layRopes_143 : decode cX10_layRopes 143 = .ok (.getfield 72, 3) := by decide +kernel
theorem dX10_layRopes_146 : decode cX10_layRopes 146 = .ok (.iload 7, 2) := by decide +kernel
theorem dX10_layRopes_148 : decode cX10_layRopes 148 = .ok (.iaload, 1) := by decide +kernel
theorem dX10_layRopes_149 : decode cX10_layRopes 149 = .ok (.iconst 1, 1) := by decide +kernel
theorem dX10_layRopes_150 : decode cX10_layRopes 150 = .ok (.iadd, 1) := by decide +kernel
theorem dX10_layRopes_151 : decode cX10_layRopes 151 = .ok (.istore 9, 2) := by decide +kernel
theorem dX10_layRopes_153 : decode cX10_layRopes 153 = .ok (.iload 9, 2) := by decide +kernel
theorem dX10_layRopes_155 : decode cX10_layRopes 155 = .ok (.aload_n 0, 1) := by decide +kernel
theorem dX10_layRopes_156 : decode cX10_layRopes 156 = .ok (.getfield 133, 3) := by decide +kernel
theorem dX10_layRopes_159 : decode cX10_layRopes 159 = .ok (.if_icmp .ge 54, 3) := by decide +kernel
theorem dX10_layRopes_162 : decode cX10_layRopes 162 = .ok (.iload_n 1, 1) := by decide +kernel
theorem dX10_layRopes_163 : decode cX10_layRopes 163 = .ok (.iload 9, 2) := by decide +kernel
theorem dX10_layRopes_165 : decode cX10_layRopes 165 = .ok (.invokestatic 178, 3) := by decide +kernel
theorem dX10_layRopes_168 : decode cX10_layRopes 168 = .ok (.ifCond .eq 39, 3) := by decide +kernel
theorem dX10_layRopes_171 : decode cX10_layRopes 171 = .ok (.iload 6, 2) := by decide +kernel
theorem dX10_layRopes_173 : decode cX10_layRopes 173 = .ok (.iload 9, 2) := by decide +kernel
theorem dX10_layRopes_175 : decode cX10_layRopes 175 = .ok (.invokestatic 178, 3) := by decide +kernel
theorem dX10_layRopes_178 : decode cX10_layRopes 178 = .ok (.ifCond .ne 29, 3) := by decide +kernel
theorem dX10_layRopes_181 : decode cX10_layRopes 181 = .ok (.aload_n 0, 1) := by decide +kernel
theorem dX10_layRopes_182 : decode cX10_layRopes 182 = .ok (.iload 7, 2) := by decide +kernel
theorem dX10_layRopes_184 : decode cX10_layRopes 184 = .ok (.iload 9, 2) := by decide +kernel
theorem dX10_layRopes_186 : decode cX10_layRopes 186 = .ok (.iload_n 2, 1) := by decide +kernel
theorem dX10_layRopes_187 : decode cX10_layRopes 187 = .ok (.iload 7, 2) := by decide +kernel
theorem dX10_layRopes_189 : decode cX10_layRopes 189 = .ok (.iconst 1, 1) := by decide +kernel
theorem dX10_layRopes_190 : decode cX10_layRopes 190 = .ok (.isub, 1) := by decide +kernel
theorem dX10_layRopes_191 : decode cX10_layRopes 191 = .ok (.iload 5, 2) := by decide +kernel
theorem dX10_layRopes_193 : decode cX10_layRopes 193 = .ok (.if_icmp .ne 7, 3) := by decide +kernel
theorem dX10_layRopes_196 : decode cX10_layRopes 196 = .ok (.iconst 1, 1) := by decide +kernel
theorem dX10_layRopes_197 : decode cX10_layRopes 197 = .ok (.goto 4, 3) := by decide +kernel
theorem dX10_layRopes_200 : decode cX10_layRopes 200 = .ok (.iconst 0, 1) := by decide +kernel
theorem dX10_layRopes_201 : decode cX10_layRopes 201 = .ok (.invokevirtual 275, 3) := by decide +kernel
theorem dX10_layRopes_204 : decode cX10_layRopes 204 = .ok (.ifCond .ne 9, 3) := by decide +kernel
theorem dX10_layRopes_207 : decode cX10_layRopes 207 = .ok (.iinc 9 1, 3) := by decide +kernel
theorem dX10_layRopes_210 : decode cX10_layRopes 210 = .ok (.goto (-57), 3) := by decide +kernel
theorem dX10_layRopes_213 : decode cX10_layRopes 213 = .ok (.iload 9, 2) := by decide +kernel
theorem dX10_layRopes_215 : decode cX10_layRopes 215 = .ok (.aload_n 0, 1) := by decide +kernel
theorem dX10_layRopes_216 : decode cX10_layRopes 216 = .ok (.getfield 133, 3) := by decide +kernel
theorem dX10_layRopes_219 : decode cX10_layRopes 219 = .ok (.if_icmp .ne 41, 3) := by decide +kernel
theorem dX10_layRopes_222 : decode cX10_layRopes 222 = .ok (.aload_n 0, 1) := by decide +kernel
theorem dX10_layRopes_223 : decode cX10_layRopes 223 = .ok (.getfield 72, 3) := by decide +kernel
theorem dX10_layRopes_226 : decode cX10_layRopes 226 = .ok (.iload 7, 2) := by decide +kernel
theorem dX10_layRopes_228 : decode cX10_layRopes 228 = .ok (.bipush (-9), 2) := by decide +kernel
theorem dX10_layRopes_230 : decode cX10_layRopes 230 = .ok (.iastore, 1) := by decide +kernel
theorem dX10_layRopes_231 : decode cX10_layRopes 231 = .ok (.iload 7, 2) := by decide +kernel
theorem dX10_layRopes_233 : decode cX10_layRopes 233 = .ok (.iload 7, 2) := by decide +kernel
theorem dX10_layRopes_235 : decode cX10_layRopes 235 = .ok (.iconst 1, 1) := by decide +kernel
theorem dX10_layRopes_236 : decode cX10_layRopes 236 = .ok (.isub, 1) := by decide +kernel
theorem dX10_layRopes_237 : decode cX10_layRopes 237 = .ok (.iload 5, 2) := by decide +kernel
theorem dX10_layRopes_239 : decode cX10_layRopes 239 = .ok (.if_icmp .ne 14, 3) := by decide +kernel
theorem dX10_layRopes_242 : decode cX10_layRopes 242 = .ok (.iload 7, 2) := by decide +kernel
theorem dX10_layRopes_244 : decode cX10_layRopes 244 = .ok (.iload 8, 2) := by decide +kernel
theorem dX10_layRopes_246 : decode cX10_layRopes 246 = .ok (.if_icmp .le 7, 3) := by decide +kernel
theorem dX10_layRopes_249 : decode cX10_layRopes 249 = .ok (.iconst 2, 1) := by decide +kernel
theorem dX10_layRopes_250 : decode cX10_layRopes 250 = .ok (.goto 4, 3) := by decide +kernel
theorem dX10_layRopes_253 : decode cX10_layRopes 253 = .ok (.iconst 1, 1) := by decide +kernel
theorem dX10_layRopes_254 : decode cX10_layRopes 254 = .ok (.isub, 1) := by decide +kernel
theorem dX10_layRopes_255 : decode cX10_layRopes 255 = .ok (.istore 7, 2) := by decide +kernel
theorem dX10_layRopes_257 : decode cX10_layRopes 257 = .ok (.goto (-166), 3) := by decide +kernel
theorem dX10_layRopes_260 : decode cX10_layRopes 260 = .ok (.aload_n 0, 1) := by decide +kernel
theorem dX10_layRopes_261 : decode cX10_layRopes 261 = .ok (.getfield 72, 3) := by decide +kernel
theorem dX10_layRopes_264 : decode cX10_layRopes 264 = .ok (.iload 7, 2) := by decide +kernel
theorem dX10_layRopes_266 : decode cX10_layRopes 266 = .ok (.iload 9, 2) := by decide +kernel
theorem dX10_layRopes_268 : decode cX10_layRopes 268 = .ok (.iastore, 1) := by decide +kernel
theorem dX10_layRopes_269 : decode cX10_layRopes 269 = .ok (.iload 7, 2) := by decide +kernel
theorem dX10_layRopes_271 : decode cX10_layRopes 271 = .ok (.iload 4, 2) := by decide +kernel
theorem dX10_layRopes_273 : decode cX10_layRopes 273 = .ok (.iconst 1, 1) := by decide +kernel
theorem dX10_layRopes_274 : decode cX10_layRopes 274 = .ok (.isub, 1) := by decide +kernel
theorem dX10_layRopes_275 : decode cX10_layRopes 275 = .ok (.if_icmp .ne 81, 3) := by decide +kernel
theorem dX10_layRopes_278 : decode cX10_layRopes 278 = .ok (.aload_n 0, 1) := by decide +kernel
theorem dX10_layRopes_279 : decode cX10_layRopes 279 = .ok (.dup, 1) := by decide +kernel
theorem dX10_layRopes_280 : decode cX10_layRopes 280 = .ok (.getfield 268, 3) := by decide +kernel
theorem dX10_layRopes_283 : decode cX10_layRopes 283 = .ok (.lconst 1, 1) := by decide +kernel
theorem dX10_layRopes_284 : decode cX10_layRopes 284 = .ok (.ladd, 1) := by decide +kernel
theorem dX10_layRopes_285 : decode cX10_layRopes 285 = .ok (.putfield 268, 3) := by decide +kernel
theorem dX10_layRopes_288 : decode cX10_layRopes 288 = .ok (.aload_n 0, 1) := by decide +kernel
theorem dX10_layRopes_289 : decode cX10_layRopes 289 = .ok (.iload 4, 2) := by decide +kernel
theorem dX10_layRopes_291 : decode cX10_layRopes 291 = .ok (.invokevirtual 279, 3) := by decide +kernel
theorem dX10_layRopes_294 : decode cX10_layRopes 294 = .ok (.istore 10, 2) := by decide +kernel
theorem dX10_layRopes_296 : decode cX10_layRopes 296 = .ok (.iload 10, 2) := by decide +kernel
theorem dX10_layRopes_298 : decode cX10_layRopes 298 = .ok (.aload_n 0, 1) := by decide +kernel
theorem dX10_layRopes_299 : decode cX10_layRopes 299 = .ok (.getfield 272, 3) := by decide +kernel
theorem dX10_layRopes_302 : decode cX10_layRopes 302 = .ok (.if_icmp .le (-211), 3) := by decide +kernel
theorem dX10_layRopes_305 : decode cX10_layRopes 305 = .ok (.aload_n 0, 1) := by decide +kernel
theorem dX10_layRopes_306 : decode cX10_layRopes 306 = .ok (.iload 10, 2) := by decide +kernel
theorem dX10_layRopes_308 : decode cX10_layRopes 308 = .ok (.putfield 272, 3) := by decide +kernel
theorem dX10_layRopes_311 : decode cX10_layRopes 311 = .ok (.iconst 0, 1) := by decide +kernel
theorem dX10_layRopes_312 : decode cX10_layRopes 312 = .ok (.istore 11, 2) := by decide +kernel
theorem dX10_layRopes_314 : decode cX10_layRopes 314 = .ok (.iload 11, 2) := by decide +kernel
theorem dX10_layRopes_316 : decode cX10_layRopes 316 = .ok (.bipush 8, 2) := by decide +kernel
theorem dX10_layRopes_318 : decode cX10_layRopes 318 = .ok (.if_icmp .ge 35, 3) := by decide +kernel
theorem dX10_layRopes_321 : decode cX10_layRopes 321 = .ok (.aload_n 0, 1) := by decide +kernel
theorem dX10_layRopes_322 : decode cX10_layRopes 322 = .ok (.getfield 75, 3) := by decide +kernel
theorem dX10_layRopes_325 : decode cX10_layRopes 325 = .ok (.iload 11, 2) := by decide +kernel
theorem dX10_layRopes_327 : decode cX10_layRopes 327 = .ok (.iload 11, 2) := by decide +kernel
theorem dX10_layRopes_329 : decode cX10_layRopes 329 = .ok (.iload 4, 2) := by decide +kernel
theorem dX10_layRopes_331 : decode cX10_layRopes 331 = .ok (.if_icmp .ge 13, 3) := by decide +kernel
theorem dX10_layRopes_334 : decode cX10_layRopes 334 = .ok (.aload_n 0, 1) := by decide +kernel
theorem dX10_layRopes_335 : decode cX10_layRopes 335 = .ok (.getfield 72, 3) := by decide +kernel
theorem dX10_layRopes_338 : decode cX10_layRopes 338 = .ok (.iload 11, 2) := by decide +kernel
theorem dX10_layRopes_340 : decode cX10_layRopes 340 = .ok (.iaload, 1) := by decide +kernel
theorem dX10_layRopes_341 : decode cX10_layRopes 341 = .ok (.goto 5, 3) := by decide +kernel
theorem dX10_layRopes_344 : decode cX10_layRopes 344 = .ok (.bipush (-9), 2) := by decide +kernel
theorem dX10_layRopes_346 : decode cX10_layRopes 346 = .ok (.iastore, 1) := by decide +kernel
theorem dX10_layRopes_347 : decode cX10_layRopes 347 = .ok (.iinc 11 1, 3) := by decide +kernel
theorem dX10_layRopes_350 : decode cX10_layRopes 350 = .ok (.goto (-36), 3) := by decide +kernel
theorem dX10_layRopes_353 : decode cX10_layRopes 353 = .ok (.goto (-262), 3) := by decide +kernel
theorem dX10_layRopes_356 : decode cX10_layRopes 356 = .ok (.iload 6, 2) := by decide +kernel
theorem dX10_layRopes_358 : decode cX10_layRopes 358 = .ok (.iconst 1, 1) := by decide +kernel
theorem dX10_layRopes_359 : decode cX10_layRopes 359 = .ok (.iload 9, 2) := by decide +kernel
theorem dX10_layRopes_361 : decode cX10_layRopes 361 = .ok (.ishl, 1) := by decide +kernel
theorem dX10_layRopes_362 : decode cX10_layRopes 362 = .ok (.ior, 1) := by decide +kernel
theorem dX10_layRopes_363 : decode cX10_layRopes 363 = .ok (.istore 6, 2) := by decide +kernel
theorem dX10_layRopes_365 : decode cX10_layRopes 365 = .ok (.iload 7, 2) := by decide +kernel
theorem dX10_layRopes_367 : decode cX10_layRopes 367 = .ok (.iload 7, 2) := by decide +kernel
theorem dX10_layRopes_369 : decode cX10_layRopes 369 = .ok (.iconst 1, 1) := by decide +kernel
theorem dX10_layRopes_370 : decode cX10_layRopes 370 = .ok (.iadd, 1) := by decide +kernel
theorem dX10_layRopes_371 : decode cX10_layRopes 371 = .ok (.iload 5, 2) := by decide +kernel
theorem dX10_layRopes_373 : decode cX10_layRopes 373 = .ok (.if_icmp .ne 7, 3) := by decide +kernel
theorem dX10_layRopes_376 : decode cX10_layRopes 376 = .ok (.iconst 2, 1) := by decide +kernel
theorem dX10_layRopes_377 : decode cX10_layRopes 377 = .ok (.goto 4, 3) := by decide +kernel
theorem dX10_layRopes_380 : decode cX10_layRopes 380 = .ok (.iconst 1, 1) := by decide +kernel
theorem dX10_layRopes_381 : decode cX10_layRopes 381 = .ok (.iadd, 1) := by decide +kernel
theorem dX10_layRopes_382 : decode cX10_layRopes 382 = .ok (.istore 7, 2) := by decide +kernel
theorem dX10_layRopes_384 : decode cX10_layRopes 384 = .ok (.goto (-293), 3) := by decide +kernel
theorem dX10_layRopes_387 : decode cX10_layRopes 387 = .ok (.return_, 1) := by decide +kernel
theorem dX10_isRope_0 : decode cX10_isRope 0 = .ok (.aload_n 0, 1) := by decide +kernel
theorem dX10_isRope_1 : decode cX10_isRope 1 = .ok (.iload_n 1, 1) := by decide +kernel
theorem dX10_isRope_2 : decode cX10_isRope 2 = .ok (.invokevirtual 217, 3) := by decide +kernel
theorem dX10_isRope_5 : decode cX10_isRope 5 = .ok (.ifCond .eq 26, 3) := by decide +kernel
theorem dX10_isRope_8 : decode cX10_isRope 8 = .ok (.iload_n 1, 1) := by decide +kernel
theorem dX10_isRope_9 : decode cX10_isRope 9 = .ok (.invokestatic 211, 3) := by decide +kernel
theorem dX10_isRope_12 : decode cX10_isRope 12 = .ok (.bipush 8, 2) := by decide +kernel
theorem dX10_isRope_14 : decode cX10_isRope 14 = .ok (.if_icmp .gt 17, 3) := by decide +kernel
theorem dX10_isRope_17 : decode cX10_isRope 17 = .ok (.iload_n 2, 1) := by decide +kernel
theorem dX10_isRope_18 : decode cX10_isRope 18 = .ok (.iconst 4, 1) := by decide +kernel
theorem dX10_isRope_19 : decode cX10_isRope 19 = .ok (.bipush 11, 2) := by decide +kernel
theorem dX10_isRope_21 : decode cX10_isRope 21 = .ok (.invokestatic 92, 3) := by decide +kernel
theorem dX10_isRope_24 : decode cX10_isRope 24 = .ok (.ifCond .eq 7, 3) := by decide +kernel
theorem dX10_isRope_27 : decode cX10_isRope 27 = .ok (.iconst 1, 1) := by decide +kernel
theorem dX10_isRope_28 : decode cX10_isRope 28 = .ok (.goto 4, 3) := by decide +kernel
theorem dX10_isRope_31 : decode cX10_isRope 31 = .ok (.iconst 0, 1) := by decide +kernel
theorem dX10_isRope_32 : decode cX10_isRope 32 = .ok (.ireturn, 1) := by decide +kernel
theorem dX10_ways_0 : decode cX10_ways 0 = .ok (.aload_n 0, 1) := by decide +kernel
theorem dX10_ways_1 : decode cX10_ways 1 = .ok (.iload_n 1, 1) := by decide +kernel
theorem dX10_ways_2 : decode cX10_ways 2 = .ok (.iload_n 2, 1) := by decide +kernel
theorem dX10_ways_3 : decode cX10_ways 3 = .ok (.invokevirtual 282, 3) := by decide +kernel
theorem dX10_ways_6 : decode cX10_ways 6 = .ok (.ifCond .ne 7, 3) := by decide +kernel
theorem dX10_ways_9 : decode cX10_ways 9 = .ok (.ldc2_w 90, 3) := by decide +kernel
theorem dX10_ways_12 : decode cX10_ways 12 = .ok (.lreturn, 1) := by decide +kernel
theorem dX10_ways_13 : decode cX10_ways 13 = .ok (.aload_n 0, 1) := by decide +kernel
theorem dX10_ways_14 : decode cX10_ways 14 = .ok (.iload_n 1, 1) := by decide +kernel
theorem dX10_ways_15 : decode cX10_ways 15 = .ok (.iload_n 2, 1) := by decide +kernel
theorem dX10_ways_16 : decode cX10_ways 16 = .ok (.invokevirtual 285, 3) := by decide +kernel
theorem dX10_ways_19 : decode cX10_ways 19 = .ok (.aload_n 0, 1) := by decide +kernel
theorem dX10_ways_20 : decode cX10_ways 20 = .ok (.getfield 268, 3) := by decide +kernel
theorem dX10_ways_23 : decode cX10_ways 23 = .ok (.lreturn, 1) := by decide +kernel
theorem dX10_friendly_0 : decode cX10_friendly 0 = .ok (.aload_n 0, 1) := by decide +kernel
theorem dX10_friendly_1 : decode cX10_friendly 1 = .ok (.iload_n 1, 1) := by decide +kernel
theorem dX10_friendly_2 : decode cX10_friendly 2 = .ok (.iload_n 2, 1) := by decide +kernel
theorem dX10_friendly_3 : decode cX10_friendly 3 = .ok (.invokevirtual 282, 3) := by decide +kernel
theorem dX10_friendly_6 : decode cX10_friendly 6 = .ok (.ifCond .ne 6, 3) := by decide +kernel
theorem dX10_friendly_9 : decode cX10_friendly 9 = .ok (.bipush (-2), 2) := by decide +kernel
theorem dX10_friendly_11 : decode cX10_friendly 11 = .ok (.ireturn, 1) := by decide +kernel
theorem dX10_friendly_12 : decode cX10_friendly 12 = .ok (.iload_n 3, 1) := by decide +kernel
theorem dX10_friendly_13 : decode cX10_friendly 13 = .ok (.iconst (-1), 1) := by decide +kernel
theorem dX10_friendly_14 : decode cX10_friendly 14 = .ok (.bipush 7, 2) := by decide +kernel
theorem dX10_friendly_16 : decode cX10_friendly 16 = .ok (.invokestatic 92, 3) := by decide +kernel
theorem dX10_friendly_19 : decode cX10_friendly 19 = .ok (.ifCond .ne 5, 3) := by decide +kernel
theorem dX10_friendly_22 : decode cX10_friendly 22 = .ok (.iconst (-1), 1) := by decide +kernel
theorem dX10_friendly_23 : decode cX10_friendly 23 = .ok (.ireturn, 1) := by decide +kernel
theorem dX10_friendly_24 : decode cX10_friendly 24 = .ok (.aload_n 0, 1) := by decide +kernel
theorem dX10_friendly_25 : decode cX10_friendly 25 = .ok (.iload_n 1, 1) := by decide +kernel
theorem dX10_friendly_26 : decode cX10_friendly 26 = .ok (.iload_n 2, 1) := by decide +kernel
theorem dX10_friendly_27 : decode cX10_friendly 27 = .ok (.invokevirtual 285, 3) := by decide +kernel
theorem dX10_friendly_30 : decode cX10_friendly 30 = .ok (.iload_n 3, 1) := by decide +kernel
theorem dX10_friendly_31 : decode cX10_friendly 31 = .ok (.iconst (-1), 1) := by decide +kernel
theorem dX10_friendly_32 : decode cX10_friendly 32 = .ok (.if_icmp .ne 10, 3) := by decide +kernel
theorem dX10_friendly_35 : decode cX10_friendly 35 = .ok (.aload_n 0, 1) := by decide +kernel
theorem dX10_friendly_36 : decode cX10_friendly 36 = .ok (.getfield 272, 3) := by decide +kernel
theorem dX10_friendly_39 : decode cX10_friendly 39 = .ok (.goto 23, 3) := by decide +kernel
theorem dX10_friendly_42 : decode cX10_friendly 42 = .ok (.aload_n 0, 1) := by decide +kernel
theorem dX10_friendly_43 : decode cX10_friendly 43 = .ok (.getfield 272, 3) := by decide +kernel
theorem dX10_friendly_46 : decode cX10_friendly 46 = .ok (.bipush (-9), 2) := by decide +kernel
theorem dX10_friendly_48 : decode cX10_friendly 48 = .ok (.if_icmp .ne 8, 3) := by decide +kernel
theorem dX10_friendly_51 : decode cX10_friendly 51 = .ok (.bipush (-9), 2) := by decide +kernel
theorem dX10_friendly_53 : decode cX10_friendly 53 = .ok (.goto 9, 3) := by decide +kernel
theorem dX10_friendly_56 : decode cX10_friendly 56 = .ok (.aload_n 0, 1) := by decide +kernel
theorem dX10_friendly_57 : decode cX10_friendly 57 = .ok (.getfield 75, 3) := by decide +kernel
theorem dX10_friendly_60 : decode cX10_friendly 60 = .ok (.iload_n 3, 1) := by decide +kernel
theorem dX10_friendly_61 : decode cX10_friendly 61 = .ok (.iaload, 1) := by decide +kernel
theorem dX10_friendly_62 : decode cX10_friendly 62 = .ok (.ireturn, 1) := by decide +kernel
theorem dX10_isLate_0 : decode cX10_isLate 0 = .ok (.iload_n 0, 1) := by decide +kernel
theorem dX10_isLate_1 : decode cX10_isLate 1 = .ok (.iconst 1, 1) := by decide +kernel
theorem dX10_isLate_2 : decode cX10_isLate 2 = .ok (.ldc_w 288, 3) := by decide +kernel
theorem dX10_isLate_5 : decode cX10_isLate 5 = .ok (.invokestatic 92, 3) := by decide +kernel
theorem dX10_isLate_8 : decode cX10_isLate 8 = .ok (.ifCond .eq 27, 3) := by decide +kernel
theorem dX10_isLate_11 : decode cX10_isLate 11 = .ok (.iload_n 1, 1) := by decide +kernel
theorem dX10_isLate_12 : decode cX10_isLate 12 = .ok (.iconst 1, 1) := by decide +kernel
theorem dX10_isLate_13 : decode cX10_isLate 13 = .ok (.bipush 9, 2) := by decide +kernel
theorem dX10_isLate_15 : decode cX10_isLate 15 = .ok (.invokestatic 92, 3) := by decide +kernel
theorem dX10_isLate_18 : decode cX10_isLate 18 = .ok (.ifCond .eq 17, 3) := by decide +kernel
theorem dX10_isLate_21 : decode cX10_isLate 21 = .ok (.iload_n 2, 1) := by decide +kernel
theorem dX10_isLate_22 : decode cX10_isLate 22 = .ok (.iconst 0, 1) := by decide +kernel
theorem dX10_isLate_23 : decode cX10_isLate 23 = .ok (.bipush 99, 2) := by decide +kernel
theorem dX10_isLate_25 : decode cX10_isLate 25 = .ok (.invokestatic 92, 3) := by decide +kernel
theorem dX10_isLate_28 : decode cX10_isLate 28 = .ok (.ifCond .eq 7, 3) := by decide +kernel
theorem dX10_isLate_31 : decode cX10_isLate 31 = .ok (.iconst 1, 1) := by decide +kernel
theorem dX10_isLate_32 : decode cX10_isLate 32 = .ok (.goto 4, 3) := by decide +kernel
theorem dX10_isLate_35 : decode cX10_isLate 35 = .ok (.iconst 0, 1) := by decide +kernel
theorem dX10_isLate_36 : decode cX10_isLate 36 = .ok (.ireturn, 1) := by decide +kernel
theorem dX10_lossOf_0 : decode cX10_lossOf 0 = .ok (.iconst 0, 1) := by decide +kernel
theorem dX10_lossOf_1 : decode cX10_lossOf 1 = .ok (.istore 4, 2) := by decide +kernel
theorem dX10_lossOf_3 : decode cX10_lossOf 3 = .ok (.iload_n 0, 1) := by decide +kernel
theorem dX10_lossOf_4 : decode cX10_lossOf 4 = .ok (.istore 5, 2) := by decide +kernel
theorem dX10_lossOf_6 : decode cX10_lossOf 6 = .ok (.iconst 0, 1) := by decide +kernel
theorem dX10_lossOf_7 : decode cX10_lossOf 7 = .ok (.istore 6, 2) := by decide +kernel
theorem dX10_lossOf_9 : decode cX10_lossOf 9 = .ok (.iload 5, 2) := by decide +kernel
theorem dX10_lossOf_11 : decode cX10_lossOf 11 = .ok (.ifCond .le 45, 3) := by decide +kernel
theorem dX10_lossOf_14 : decode cX10_lossOf 14 = .ok (.iload 4, 2) := by decide +kernel
theorem dX10_lossOf_16 : decode cX10_lossOf 16 = .ok (.iload 5, 2) := by decide +kernel
theorem dX10_lossOf_18 : decode cX10_lossOf 18 = .ok (.bipush 10, 2) := by decide +kernel
theorem dX10_lossOf_20 : decode cX10_lossOf 20 = .ok (.irem, 1) := by decide +kernel
theorem dX10_lossOf_21 : decode cX10_lossOf 21 = .ok (.iload 6, 2) := by decide +kernel
theorem dX10_lossOf_23 : decode cX10_lossOf 23 = .ok (.iload_n 3, 1) := by decide +kernel
theorem dX10_lossOf_24 : decode cX10_lossOf 24 = .ok (.if_icmp .gt 10, 3) := by decide +kernel
theorem dX10_lossOf_27 : decode cX10_lossOf 27 = .ok (.iload_n 1, 1) := by decide +kernel
theorem dX10_lossOf_28 : decode cX10_lossOf 28 = .ok (.iload 6, 2) := by decide +kernel
theorem dX10_lossOf_30 : decode cX10_lossOf 30 = .ok (.imul, 1) := by decide +kernel
theorem dX10_lossOf_31 : decode cX10_lossOf 31 = .ok (.goto 8, 3) := by decide +kernel
theorem dX10_lossOf_34 : decode cX10_lossOf 34 = .ok (.iload_n 2, 1) := by decide +kernel
theorem dX10_lossOf_35 : decode cX10_lossOf 35 = .ok (.iload_n 1, 1) := by decide +kernel
theorem dX10_lossOf_36 : decode cX10_lossOf 36 = .ok (.iload_n 3, 1) := by decide +kernel
theorem dX10_lossOf_37 : decode cX10_lossOf 37 = .ok (.imul, 1) := by decide +kernel
theorem dX10_lossOf_38 : decode cX10_lossOf 38 = .ok (.iadd, 1) := by decide +kernel
theorem dX10_lossOf_39 : decode cX10_lossOf 39 = .ok (.imul, 1) := by decide +kernel
theorem dX10_lossOf_40 : decode cX10_lossOf 40 = .ok (.iadd, 1) := by decide +kernel
theorem dX10_lossOf_41 : decode cX10_lossOf 41 = .ok (.istore 4, 2) := by decide +kernel
theorem dX10_lossOf_43 : decode cX10_lossOf 43 = .ok (.iload 5, 2) := by decide +kernel
theorem dX10_lossOf_45 : decode cX10_lossOf 45 = .ok (.bipush 10, 2) := by decide +kernel
theorem dX10_lossOf_47 : decode cX10_lossOf 47 = .ok (.idiv, 1) := by decide +kernel
theorem dX10_lossOf_48 : decode cX10_lossOf 48 = .ok (.istore 5, 2) := by decide +kernel
theorem dX10_lossOf_50 : decode cX10_lossOf 50 = .ok (.iinc 6 1, 3) := by decide +kernel
theorem dX10_lossOf_53 : decode cX10_lossOf 53 = .ok (.goto (-44), 3) := by decide +kernel
theorem dX10_lossOf_56 : decode cX10_lossOf 56 = .ok (.iload 4, 2) := by decide +kernel
theorem dX10_lossOf_58 : decode cX10_lossOf 58 = .ok (.ireturn, 1) := by decide +kernel
theorem dX10_loss_0 : decode cX10_loss 0 = .ok (.iload_n 1, 1) := by decide +kernel
theorem dX10_loss_1 : decode cX10_loss 1 = .ok (.iload_n 2, 1) := by decide +kernel
theorem dX10_loss_2 : decode cX10_loss 2 = .ok (.iload_n 3, 1) := by decide +kernel
theorem dX10_loss_3 : decode cX10_loss 3 = .ok (.invokestatic 289, 3) := by decide +kernel
theorem dX10_loss_6 : decode cX10_loss 6 = .ok (.ifCond .eq 24, 3) := by decide +kernel
theorem dX10_loss_9 : decode cX10_loss 9 = .ok (.iload 4, 2) := by decide +kernel
theorem dX10_loss_11 : decode cX10_loss 11 = .ok (.iconst 0, 1) := by decide +kernel
theorem dX10_loss_12 : decode cX10_loss 12 = .ok (.bipush 9, 2) := by decide +kernel
theorem dX10_loss_14 : decode cX10_loss 14 = .ok (.invokestatic 92, 3) := by decide +kernel
theorem dX10_loss_17 : decode cX10_loss 17 = .ok (.ifCond .eq 13, 3) := by decide +kernel
theorem dX10_loss_20 : decode cX10_loss 20 = .ok (.iload 5, 2) := by decide +kernel
theorem dX10_loss_22 : decode cX10_loss 22 = .ok (.iconst 0, 1) := by decide +kernel
theorem dX10_loss_23 : decode cX10_loss 23 = .ok (.iconst 1, 1) := by decide +kernel
theorem dX10_loss_24 : decode cX10_loss 24 = .ok (.invokestatic 92, 3) := by decide +kernel
theorem dX10_loss_27 : decode cX10_loss 27 = .ok (.ifCond .ne 7, 3) := by decide +kernel
theorem dX10_loss_30 : decode cX10_loss 30 = .ok (.ldc2_w 90, 3) := by decide +kernel
theorem dX10_loss_33 : decode cX10_loss 33 = .ok (.lreturn, 1) := by decide +kernel
theorem dX10_loss_34 : decode cX10_loss 34 = .ok (.iconst 0, 1) := by decide +kernel
theorem dX10_loss_35 : decode cX10_loss 35 = .ok (.istore 6, 2) := by decide +kernel
theorem dX10_loss_37 : decode cX10_loss 37 = .ok (.iload_n 1, 1) := by decide +kernel
theorem dX10_loss_38 : decode cX10_loss 38 = .ok (.istore 7, 2) := by decide +kernel
theorem dX10_loss_40 : decode cX10_loss 40 = .ok (.iload 7, 2) := by decide +kernel
theorem dX10_loss_42 : decode cX10_loss 42 = .ok (.ifCond .le 23, 3) := by decide +kernel
theorem dX10_loss_45 : decode cX10_loss 45 = .ok (.iload 6, 2) := by decide +kernel
theorem dX10_loss_47 : decode cX10_loss 47 = .ok (.iload 7, 2) := by decide +kernel
theorem dX10_loss_49 : decode cX10_loss 49 = .ok (.bipush 10, 2) := by decide +kernel
theorem dX10_loss_51 : decode cX10_loss 51 = .ok (.irem, 1) := by decide +kernel
theorem dX10_loss_52 : decode cX10_loss 52 = .ok (.iadd, 1) := by decide +kernel
theorem dX10_loss_53 : decode cX10_loss 53 = .ok (.istore 6, 2) := by decide +kernel
theorem dX10_loss_55 : decode cX10_loss 55 = .ok (.iload 7, 2) := by decide +kernel
theorem dX10_loss_57 : decode cX10_loss 57 = .ok (.bipush 10, 2) := by decide +kernel
theorem dX10_loss_59 : decode cX10_loss 59 = .ok (.idiv, 1) := by decide +kernel
theorem dX10_loss_60 : decode cX10_loss 60 = .ok (.istore 7, 2) := by decide +kernel
theorem dX10_loss_62 : decode cX10_loss 62 = .ok (.goto (-22), 3) := by decide +kernel
theorem dX10_loss_65 : decode cX10_loss 65 = .ok (.iload_n 1, 1) := by decide +kernel
theorem dX10_loss_66 : decode cX10_loss 66 = .ok (.iload_n 2, 1) := by decide +kernel
theorem dX10_loss_67 : decode cX10_loss 67 = .ok (.iload_n 3, 1) := by decide +kernel
theorem dX10_loss_68 : decode cX10_loss 68 = .ok (.iload 4, 2) := by decide +kernel
theorem dX10_loss_70 : decode cX10_loss 70 = .ok (.invokestatic 292, 3) := by decide +kernel
theorem dX10_loss_73 : decode cX10_loss 73 = .ok (.i2l, 1) := by decide +kernel
theorem dX10_loss_74 : decode cX10_loss 74 = .ok (.iload 6, 2) := by decide +kernel
theorem dX10_loss_76 : decode cX10_loss 76 = .ok (.i2l, 1) := by decide +kernel
theorem dX10_loss_77 : decode cX10_loss 77 = .ok (.iload 5, 2) := by decide +kernel
theorem dX10_loss_79 : decode cX10_loss 79 = .ok (.invokestatic 235, 3) := by decide +kernel
theorem dX10_loss_82 : decode cX10_loss 82 = .ok (.lreturn, 1) := by decide +kernel
theorem dX10_patience_0 : decode cX10_patience 0 = .ok (.iload_n 1, 1) := by decide +kernel
theorem dX10_patience_1 : decode cX10_patience 1 = .ok (.iload_n 2, 1) := by decide +kernel
theorem dX10_patience_2 : decode cX10_patience 2 = .ok (.iload_n 3, 1) := by decide +kernel
theorem dX10_patience_3 : decode cX10_patience 3 = .ok (.invokestatic 289, 3) := by decide +kernel
theorem dX10_patience_6 : decode cX10_patience 6 = .ok (.ifCond .ne 6, 3) := by decide +kernel
theorem dX10_patience_9 : decode cX10_patience 9 = .ok (.bipush (-2), 2) := by decide +kernel
theorem dX10_patience_11 : decode cX10_patience 11 = .ok (.ireturn, 1) := by decide +kernel
theorem dX10_patience_12 : decode cX10_patience 12 = .ok (.iconst 0, 1) := by decide +kernel
theorem dX10_patience_13 : decode cX10_patience 13 = .ok (.istore 4, 2) := by decide +kernel
theorem dX10_patience_15 : decode cX10_patience 15 = .ok (.iconst 1, 1) := by decide +kernel
theorem dX10_patience_16 : decode cX10_patience 16 = .ok (.istore 5, 2) := by decide +kernel
theorem dX10_patience_18 : decode cX10_patience 18 = .ok (.iload 5, 2) := by decide +kernel
theorem dX10_patience_20 : decode cX10_patience 20 = .ok (.bipush 10, 2) := by decide +kernel
theorem dX10_patience_22 : decode cX10_patience 22 = .ok (.if_icmp .ge 32, 3) := by decide +kernel
theorem dX10_patience_25 : decode cX10_patience 25 = .ok (.iload_n 1, 1) := by decide +kernel
theorem dX10_patience_26 : decode cX10_patience 26 = .ok (.iload_n 2, 1) := by decide +kernel
theorem dX10_patience_27 : decode cX10_patience 27 = .ok (.iload_n 3, 1) := by decide +kernel
theorem dX10_patience_28 : decode cX10_patience 28 = .ok (.iload 5, 2) := by decide +kernel
theorem dX10_patience_30 : decode cX10_patience 30 = .ok (.invokestatic 292, 3) := by decide +kernel
theorem dX10_patience_33 : decode cX10_patience 33 = .ok (.iload_n 1, 1) := by decide +kernel
theorem dX10_patience_34 : decode cX10_patience 34 = .ok (.iload_n 2, 1) := by decide +kernel
theorem dX10_patience_35 : decode cX10_patience 35 = .ok (.iload_n 3, 1) := by decide +kernel
theorem dX10_patience_36 : decode cX10_patience 36 = .ok (.iload 4, 2) := by decide +kernel
theorem dX10_patience_38 : decode cX10_patience 38 = .ok (.invokestatic 292, 3) := by decide +kernel
theorem dX10_patience_41 : decode cX10_patience 41 = .ok (.if_icmp .ge 7, 3) := by decide +kernel
theorem dX10_patience_44 : decode cX10_patience 44 = .ok (.iload 5, 2) := by decide +kernel
theorem dX10_patience_46 : decode cX10_patience 46 = .ok (.istore 4, 2) := by decide +kernel
theorem dX10_patience_48 : decode cX10_patience 48 = .ok (.iinc 5 1, 3) := by decide +kernel
theorem dX10_patience_51 : decode cX10_patience 51 = .ok (.goto (-33), 3) := by decide +kernel
theorem dX10_patience_54 : decode cX10_patience 54 = .ok (.iload 4, 2) := by decide +kernel
theorem dX10_patience_56 : decode cX10_patience 56 = .ok (.ireturn, 1) := by decide +kernel
theorem dX10_helper_0 : decode cX10_helper 0 = .ok (.iload_n 1, 1) := by decide +kernel
theorem dX10_helper_1 : decode cX10_helper 1 = .ok (.iconst 0, 1) := by decide +kernel
theorem dX10_helper_2 : decode cX10_helper 2 = .ok (.bipush 31, 2) := by decide +kernel
theorem dX10_helper_4 : decode cX10_helper 4 = .ok (.invokestatic 92, 3) := by decide +kernel
theorem dX10_helper_7 : decode cX10_helper 7 = .ok (.ifCond .ne 6, 3) := by decide +kernel
theorem dX10_helper_10 : decode cX10_helper 10 = .ok (.bipush (-2), 2) := by decide +kernel
theorem dX10_helper_12 : decode cX10_helper 12 = .ok (.ireturn, 1) := by decide +kernel
theorem dX10_helper_13 : decode cX10_helper 13 = .ok (.aload_n 0, 1) := by decide +kernel
theorem dX10_helper_14 : decode cX10_helper 14 = .ok (.getfield 295, 3) := by decide +kernel
theorem dX10_helper_17 : decode cX10_helper 17 = .ok (.iconst 5, 1) := by decide +kernel
theorem dX10_helper_18 : decode cX10_helper 18 = .ok (.if_icmp .ne 6, 3) := by decide +kernel
theorem dX10_helper_21 : decode cX10_helper 21 = .ok (.bipush (-4), 2) := by decide +kernel
theorem dX10_helper_23 : decode cX10_helper 23 = .ok (.ireturn, 1) := by decide +kernel
theorem dX10_helper_24 : decode cX10_helper 24 = .ok (.aload_n 0, 1) := by decide +kernel
theorem dX10_helper_25 : decode cX10_helper 25 = .ok (.getfield 78, 3) := by decide +kernel
theorem dX10_helper_28 : decode cX10_helper 28 = .ok (.aload_n 0, 1) := by decide +kernel
theorem dX10_helper_29 : decode cX10_helper 29 = .ok (.getfield 295, 3) := by decide +kernel
theorem dX10_helper_32 : decode cX10_helper 32 = .ok (.iload_n 1, 1) := by decide +kernel
theorem dX10_helper_33 : decode cX10_helper 33 = .ok (.iastore, 1) := by decide +kernel
theorem dX10_helper_34 : decode cX10_helper 34 = .ok (.aload_n 0, 1) := by decide +kernel
theorem dX10_helper_35 : decode cX10_helper 35 = .ok (.dup, 1) := by decide +kernel
theorem dX10_helper_36 : decode cX10_helper 36 = .ok (.getfield 295, 3) := by decide +kernel
theorem dX10_helper_39 : decode cX10_helper 39 = .ok (.iconst 1, 1) := by decide +kernel
theorem dX10_helper_40 : decode cX10_helper 40 = .ok (.iadd, 1) := by decide +kernel
theorem dX10_helper_41 : decode cX10_helper 41 = .ok (.putfield 295, 3) := by decide +kernel
theorem dX10_helper_44 : decode cX10_helper 44 = .ok (.aload_n 0, 1) := by decide +kernel
theorem dX10_helper_45 : decode cX10_helper 45 = .ok (.getfield 295, 3) := by decide +kernel
theorem dX10_helper_48 : decode cX10_helper 48 = .ok (.iconst 1, 1) := by decide +kernel
theorem dX10_helper_49 : decode cX10_helper 49 = .ok (.isub, 1) := by decide +kernel
theorem dX10_helper_50 : decode cX10_helper 50 = .ok (.ireturn, 1) := by decide +kernel
theorem dX10_days_0 : decode cX10_days 0 = .ok (.iload_n 1, 1) := by decide +kernel
theorem dX10_days_1 : decode cX10_days 1 = .ok (.ifCond .lt 11, 3) := by decide +kernel
theorem dX10_days_4 : decode cX10_days 4 = .ok (.iload_n 1, 1) := by decide +kernel
theorem dX10_days_5 : decode cX10_days 5 = .ok (.aload_n 0, 1) := by decide +kernel
theorem dX10_days_6 : decode cX10_days 6 = .ok (.getfield 295, 3) := by decide +kernel
theorem dX10_days_9 : decode cX10_days 9 = .ok (.if_icmp .lt 5, 3) := by decide +kernel
theorem dX10_days_12 : decode cX10_days 12 = .ok (.iconst (-1), 1) := by decide +kernel
theorem dX10_days_13 : decode cX10_days 13 = .ok (.ireturn, 1) := by decide +kernel
theorem dX10_days_14 : decode cX10_days 14 = .ok (.iload_n 2, 1) := by decide +kernel
theorem dX10_days_15 : decode cX10_days 15 = .ok (.iconst 0, 1) := by decide +kernel
theorem dX10_days_16 : decode cX10_days 16 = .ok (.bipush 31, 2) := by decide +kernel
theorem dX10_days_18 : decode cX10_days 18 = .ok (.invokestatic 92, 3) := by decide +kernel
theorem dX10_days_21 : decode cX10_days 21 = .ok (.ifCond .ne 6, 3) := by decide +kernel
theorem dX10_days_24 : decode cX10_days 24 = .ok (.bipush (-2), 2) := by decide +kernel
theorem dX10_days_26 : decode cX10_days 26 = .ok (.ireturn, 1) := by decide +kernel
theorem dX10_days_27 : decode cX10_days 27 = .ok (.aload_n 0, 1) := by decide +kernel
theorem dX10_days_28 : decode cX10_days 28 = .ok (.getfield 78, 3) := by decide +kernel
theorem dX10_days_31 : decode cX10_days 31 = .ok (.iload_n 1, 1) := by decide +kernel
theorem dX10_days_32 : decode cX10_days 32 = .ok (.iaload, 1) := by decide +kernel
theorem dX10_days_33 : decode cX10_days 33 = .ok (.istore_n 3, 1) := by decide +kernel
theorem dX10_days_34 : decode cX10_days 34 = .ok (.aload_n 0, 1) := by decide +kernel
theorem dX10_days_35 : decode cX10_days 35 = .ok (.getfield 78, 3) := by decide +kernel
theorem dX10_days_38 : decode cX10_days 38 = .ok (.iload_n 1, 1) := by decide +kernel
theorem dX10_days_39 : decode cX10_days 39 = .ok (.iload_n 2, 1) := by decide +kernel
theorem dX10_days_40 : decode cX10_days 40 = .ok (.iastore, 1) := by decide +kernel
theorem dX10_days_41 : decode cX10_days 41 = .ok (.iload_n 3, 1) := by decide +kernel
theorem dX10_days_42 : decode cX10_days 42 = .ok (.ireturn, 1) := by decide +kernel
theorem dX10_mayHelp_0 : decode cX10_mayHelp 0 = .ok (.iload_n 1, 1) := by decide +kernel
theorem dX10_mayHelp_1 : decode cX10_mayHelp 1 = .ok (.invokestatic 211, 3) := by decide +kernel
theorem dX10_mayHelp_4 : decode cX10_mayHelp 4 = .ok (.iload_n 3, 1) := by decide +kernel
theorem dX10_mayHelp_5 : decode cX10_mayHelp 5 = .ok (.if_icmp .eq 5, 3) := by decide +kernel
theorem dX10_mayHelp_8 : decode cX10_mayHelp 8 = .ok (.iconst 0, 1) := by decide +kernel
theorem dX10_mayHelp_9 : decode cX10_mayHelp 9 = .ok (.ireturn, 1) := by decide +kernel
theorem dX10_mayHelp_10 : decode cX10_mayHelp 10 = .ok (.iconst 0, 1) := by decide +kernel
theorem dX10_mayHelp_11 : decode cX10_mayHelp 11 = .ok (.istore 4, 2) := by decide +kernel
theorem dX10_mayHelp_13 : decode cX10_mayHelp 13 = .ok (.iload 4, 2) := by decide +kernel
theorem dX10_mayHelp_15 : decode cX10_mayHelp 15 = .ok (.aload_n 0, 1) := by decide +kernel
theorem dX10_mayHelp_16 : decode cX10_mayHelp 16 = .ok (.getfield 295, 3) := by decide +kernel
theorem dX10_mayHelp_19 : decode cX10_mayHelp 19 = .ok (.if_icmp .ge 34, 3) := by decide +kernel
theorem dX10_mayHelp_22 : decode cX10_mayHelp 22 = .ok (.iload_n 1, 1) := by decide +kernel
theorem dX10_mayHelp_23 : decode cX10_mayHelp 23 = .ok (.iload 4, 2) := by decide +kernel
theorem dX10_mayHelp_25 : decode cX10_mayHelp 25 = .ok (.invokestatic 178, 3) := by decide +kernel
theorem dX10_mayHelp_28 : decode cX10_mayHelp 28 = .ok (.ifCond .eq 19, 3) := by decide +kernel
theorem dX10_mayHelp_31 : decode cX10_mayHelp 31 = .ok (.aload_n 0, 1) := by decide +kernel
theorem dX10_mayHelp_32 : decode cX10_mayHelp 32 = .ok (.getfield 78, 3) := by decide +kernel
theorem dX10_mayHelp_35 : decode cX10_mayHelp 35 = .ok (.iload 4, 2) := by decide +kernel
theorem dX10_mayHelp_37 : decode cX10_mayHelp 37 = .ok (.iaload, 1) := by decide +kernel
theorem dX10_mayHelp_38 : decode cX10_mayHelp 38 = .ok (.iload_n 2, 1) := by decide +kernel
theorem dX10_mayHelp_39 : decode cX10_mayHelp 39 = .ok (.invokestatic 178, 3) := by decide +kernel
theorem dX10_mayHelp_42 : decode cX10_mayHelp 42 = .ok (.ifCond .ne 5, 3) := by decide +kernel
theorem dX10_mayHelp_45 : decode cX10_mayHelp 45 = .ok (.iconst 0, 1) := by decide +kernel
theorem dX10_mayHelp_46 : decode cX10_mayHelp 46 = .ok (.ireturn, 1) := by decide +kernel
theorem dX10_mayHelp_47 : decode cX10_mayHelp 47 = .ok (.iinc 4 1, 3) := by decide +kernel
theorem dX10_mayHelp_50 : decode cX10_mayHelp 50 = .ok (.goto (-37), 3) := by decide +kernel
theorem dX10_mayHelp_53 : decode cX10_mayHelp 53 = .ok (.iconst 1, 1) := by decide +kernel
theorem dX10_mayHelp_54 : decode cX10_mayHelp 54 = .ok (.ireturn, 1) := by decide +kernel
theorem dX10_mostDays_0 : decode cX10_mostDays 0 = .ok (.iconst 0, 1) := by decide +kernel
theorem dX10_mostDays_1 : decode cX10_mostDays 1 = .ok (.istore_n 2, 1) := by decide +kernel
theorem dX10_mostDays_2 : decode cX10_mostDays 2 = .ok (.iconst 0, 1) := by decide +kernel
theorem dX10_mostDays_3 : decode cX10_mostDays 3 = .ok (.istore_n 3, 1) := by decide +kernel
theorem dX10_mostDays_4 : decode cX10_mostDays 4 = .ok (.iload_n 3, 1) := by decide +kernel
theorem dX10_mostDays_5 : decode cX10_mostDays 5 = .ok (.aload_n 0, 1) := by decide +kernel
theorem dX10_mostDays_6 : decode cX10_mostDays 6 = .ok (.getfield 295, 3) := by decide +kernel
theorem dX10_mostDays_9 : decode cX10_mostDays 9 = .ok (.if_icmp .ge 56, 3) := by decide +kernel
theorem dX10_mostDays_12 : decode cX10_mostDays 12 = .ok (.iconst 0, 1) := by decide +kernel
theorem dX10_mostDays_13 : decode cX10_mostDays 13 = .ok (.istore 4, 2) := by decide +kernel
theorem dX10_mostDays_15 : decode cX10_mostDays 15 = .ok (.iconst 0, 1) := by decide +kernel
theorem dX10_mostDays_16 : decode cX10_mostDays 16 = .ok (.istore 5, 2) := by decide +kernel
theorem dX10_mostDays_18 : decode cX10_mostDays 18 = .ok (.iload 5, 2) := by decide +kernel
theorem dX10_mostDays_20 : decode cX10_mostDays 20 = .ok (.iload_n 1, 1) := by decide +kernel
theorem dX10_mostDays_21 : decode cX10_mostDays 21 = .ok (.if_icmp .gt 25, 3) := by decide +kernel
theorem dX10_mostDays_24 : decode cX10_mostDays 24 = .ok (.iload 4, 2) := by decide +kernel
theorem dX10_mostDays_26 : decode cX10_mostDays 26 = .ok (.aload_n 0, 1) := by decide +kernel
theorem dX10_mostDays_27 : decode cX10_mostDays 27 = .ok (.getfield 81, 3) := by decide +kernel
theorem dX10_mostDays_30 : decode cX10_mostDays 30 = .ok (.iload 5, 2) := by decide +kernel
theorem dX10_mostDays_32 : decode cX10_mostDays 32 = .ok (.iaload, 1) := by decide +kernel
theorem dX10_mostDays_33 : decode cX10_mostDays 33 = .ok (.iload_n 3, 1) := by decide +kernel
theorem dX10_mostDays_34 : decode cX10_mostDays 34 = .ok (.ishr, 1) := by decide +kernel
theorem dX10_mostDays_35 : decode cX10_mostDays 35 = .ok (.iconst 1, 1) := by decide +kernel
theorem dX10_mostDays_36 : decode cX10_mostDays 36 = .ok (.iand, 1) := by decide +kernel
theorem dX10_mostDays_37 : decode cX10_mostDays 37 = .ok (.iadd, 1) := by decide +kernel
theorem dX10_mostDays_38 : decode cX10_mostDays 38 = .ok (.istore 4, 2) := by decide +kernel
theorem dX10_mostDays_40 : decode cX10_mostDays 40 = .ok (.iinc 5 1, 3) := by decide +kernel
theorem dX10_mostDays_43 : decode cX10_mostDays 43 = .ok (.goto (-25), 3) := by decide +kernel
theorem dX10_mostDays_46 : decode cX10_mostDays 46 = .ok (.iload 4, 2) := by decide +kernel
theorem dX10_mostDays_48 : decode cX10_mostDays 48 = .ok (.iload_n 2, 1) := by decide +kernel
theorem dX10_mostDays_49 : decode cX10_mostDays 49 = .ok (.if_icmp .le 8, 3) := by decide +kernel
theorem dX10_mostDays_52 : decode cX10_mostDays 52 = .ok (.iload 4, 2) := by decide +kernel
theorem dX10_mostDays_54 : decode cX10_mostDays 54 = .ok (.goto 4, 3) := by decide +kernel
theorem dX10_mostDays_57 : decode cX10_mostDays 57 = .ok (.iload_n 2, 1) := by decide +kernel
theorem dX10_mostDays_58 : decode cX10_mostDays 58 = .ok (.istore_n 2, 1) := by decide +kernel
theorem dX10_mostDays_59 : decode cX10_mostDays 59 = .ok (.iinc 3 1, 3) := by decide +kernel
theorem dX10_mostDays_62 : decode cX10_mostDays 62 = .ok (.goto (-58), 3) := by decide +kernel
theorem dX10_mostDays_65 : decode cX10_mostDays 65 = .ok (.iload_n 2, 1) := by decide +kernel
theorem dX10_mostDays_66 : decode cX10_mostDays 66 = .ok (.ireturn, 1) := by decide +kernel
theorem dX10_layWeek_0 : decode cX10_layWeek 0 = .ok (.aload_n 0, 1) := by decide +kernel
theorem dX10_layWeek_1 : decode cX10_layWeek 1 = .ok (.bipush (-9), 2) := by decide +kernel
theorem dX10_layWeek_3 : decode cX10_layWeek 3 = .ok (.putfield 298, 3) := by decide +kernel
theorem dX10_layWeek_6 : decode cX10_layWeek 6 = .ok (.iconst 0, 1) := by decide +kernel
theorem dX10_layWeek_7 : decode cX10_layWeek 7 = .ok (.istore_n 2, 1) := by decide +kernel
theorem dX10_layWeek_8 : decode cX10_layWeek 8 = .ok (.aload_n 0, 1) := by decide +kernel
theorem dX10_layWeek_9 : decode cX10_layWeek 9 = .ok (.getfield 81, 3) := by decide +kernel
theorem dX10_layWeek_12 : decode cX10_layWeek 12 = .ok (.iconst 0, 1) := by decide +kernel
theorem dX10_layWeek_13 : decode cX10_layWeek 13 = .ok (.iconst (-1), 1) := by decide +kernel
theorem dX10_layWeek_14 : decode cX10_layWeek 14 = .ok (.iastore, 1) := by decide +kernel
theorem dX10_layWeek_15 : decode cX10_layWeek 15 = .ok (.iload_n 2, 1) := by decide +kernel
theorem dX10_layWeek_16 : decode cX10_layWeek 16 = .ok (.ifCond .lt 145, 3) := by decide +kernel
theorem dX10_layWeek_19 : decode cX10_layWeek 19 = .ok (.aload_n 0, 1) := by decide +kernel
theorem dX10_layWeek_20 : decode cX10_layWeek 20 = .ok (.getfield 81, 3) := by decide +kernel
theorem dX10_layWeek_23 : decode cX10_layWeek 23 = .ok (.iload_n 2, 1) := by decide +kernel
theorem dX10_layWeek_24 : decode cX10_layWeek 24 = .ok (.iaload, 1) := by decide +kernel
theorem dX10_layWeek_25 : decode cX10_layWeek 25 = .ok (.iconst 1, 1) := by decide +kernel
theorem dX10_layWeek_26 : decode cX10_layWeek 26 = .ok (.iadd, 1) := by decide +kernel
theorem dX10_layWeek_27 : decode cX10_layWeek 27 = .ok (.istore_n 3, 1) := by decide +kernel
theorem dX10_layWeek_28 : decode cX10_layWeek 28 = .ok (.iload_n 3, 1) := by decide +kernel
theorem dX10_layWeek_29 : decode cX10_layWeek 29 = .ok (.iconst 1, 1) := by decide +kernel
theorem dX10_layWeek_30 : decode cX10_layWeek 30 = .ok (.aload_n 0, 1) := by decide +kernel
theorem dX10_layWeek_31 : decode cX10_layWeek 31 = .ok (.getfield 295, 3) := by decide +kernel
theorem dX10_layWeek_34 : decode cX10_layWeek 34 = .ok (.ishl, 1) := by decide +kernel
theorem dX10_layWeek_35 : decode cX10_layWeek 35 = .ok (.if_icmp .ge 19, 3) := by decide +kernel
theorem dX10_layWeek_38 : decode cX10_layWeek 38 = .ok (.aload_n 0, 1) := by decide +kernel
theorem dX10_layWeek_39 : decode cX10_layWeek 39 = .ok (.iload_n 3, 1) := by decide +kernel
theorem dX10_layWeek_40 : decode cX10_layWeek 40 = .ok (.iload_n 2, 1) := by decide +kernel
theorem dX10_layWeek_41 : decode cX10_layWeek 41 = .ok (.iload_n 1, 1) := by decide +kernel
theorem dX10_layWeek_42 : decode cX10_layWeek 42 = .ok (.invokevirtual 301, 3) := by decide +kernel
theorem dX10_layWeek_45 : decode cX10_layWeek 45 = .ok (.ifCond .ne 9, 3) := by decide +kernel
theorem dX10_layWeek_48 : decode cX10_layWeek 48 = .ok (.iinc 3 1, 3) := by decide +kernel
theorem dX10_layWeek_51 : decode cX10_layWeek 51 = .ok (.goto (-23), 3) := by decide +kernel
theorem dX10_layWeek_54 : decode cX10_layWeek 54 = .ok (.iload_n 3, 1) := by decide +kernel
theorem dX10_layWeek_55 : decode cX10_layWeek 55 = .ok (.iconst 1, 1) := by decide +kernel
theorem dX10_layWeek_56 : decode cX10_layWeek 56 = .ok (.aload_n 0, 1) := by decide +kernel
theorem dX10_layWeek_57 : decode cX10_layWeek 57 = .ok (.getfield 295, 3) := by decide +kernel
theorem dX10_layWeek_60 : decode cX10_layWeek 60 = .ok (.ishl, 1) := by decide +kernel
theorem dX10_layWeek_61 : decode cX10_layWeek 61 = .ok (.if_icmp .ne 9, 3) := by decide +kernel
theorem dX10_layWeek_64 : decode cX10_layWeek 64 = .ok (.iinc 2 (-1), 3) := by decide +kernel
theorem dX10_layWeek_67 : decode cX10_layWeek 67 = .ok (.goto (-52), 3) := by decide +kernel
theorem dX10_layWeek_70 : decode cX10_layWeek 70 = .ok (.aload_n 0, 1) := by decide +kernel
theorem dX10_layWeek_71 : decode cX10_layWeek 71 = .ok (.getfield 81, 3) := by decide +kernel
theorem dX10_layWeek_74 : decode cX10_layWeek 74 = .ok (.iload_n 2, 1) := by decide +kernel
theorem dX10_layWeek_75 : decode cX10_layWeek 75 = .ok (.iload_n 3, 1) := by decide +kernel
theorem dX10_layWeek_76 : decode cX10_layWeek 76 = .ok (.iastore, 1) := by decide +kernel
theorem dX10_layWeek_77 : decode cX10_layWeek 77 = .ok (.aload_n 0, 1) := by decide +kernel
theorem dX10_layWeek_78 : decode cX10_layWeek 78 = .ok (.iload_n 2, 1) := by decide +kernel
theorem dX10_layWeek_79 : decode cX10_layWeek 79 = .ok (.invokevirtual 304, 3) := by decide +kernel
theorem dX10_layWeek_82 : decode cX10_layWeek 82 = .ok (.istore 4, 2) := by decide +kernel
theorem dX10_layWeek_84 : decode cX10_layWeek 84 = .ok (.aload_n 0, 1) := by decide +kernel
theorem dX10_layWeek_85 : decode cX10_layWeek 85 = .ok (.getfield 298, 3) := by decide +kernel
theorem dX10_layWeek_88 : decode cX10_layWeek 88 = .ok (.bipush (-9), 2) := by decide +kernel
theorem dX10_layWeek_90 : decode cX10_layWeek 90 = .ok (.if_icmp .eq 15, 3) := by decide +kernel
theorem dX10_layWeek_93 : decode cX10_layWeek 93 = .ok (.iload 4, 2) := by decide +kernel
theorem dX10_layWeek_95 : decode cX10_layWeek 95 = .ok (.aload_n 0, 1) := by decide +kernel
theorem dX10_layWeek_96 : decode cX10_layWeek 96 = .ok (.getfield 298, 3) := by decide +kernel
theorem dX10_layWeek_99 : decode cX10_layWeek 99 = .ok (.if_icmp .lt 6, 3) := by decide +kernel
theorem dX10_layWeek_102 : decode cX10_layWeek 102 = .ok (.goto (-87), 3) := by decide +kernel
theorem dX10_layWeek_105 : decode cX10_layWeek 105 = .ok (.iload_n 2, 1) := by decide +kernel
theorem dX10_layWeek_106 : decode cX10_layWeek 106 = .ok (.iconst 4, 1) := by decide +kernel
theorem dX10_layWeek_107 : decode cX10_layWeek 107 = .ok (.if_icmp .ne 41, 3) := by decide +kernel
theorem dX10_layWeek_110 : decode cX10_layWeek 110 = .ok (.aload_n 0, 1) := by decide +kernel
theorem dX10_layWeek_111 : decode cX10_layWeek 111 = .ok (.iload 4, 2) := by decide +kernel
theorem dX10_layWeek_113 : decode cX10_layWeek 113 = .ok (.putfield 298, 3) := by decide +kernel
theorem dX10_layWeek_116 : decode cX10_layWeek 116 = .ok (.iconst 0, 1) := by decide +kernel
theorem dX10_layWeek_117 : decode cX10_layWeek 117 = .ok (.istore 5, 2) := by decide +kernel
theorem dX10_layWeek_119 : decode cX10_layWeek 119 = .ok (.iload 5, 2) := by decide +kernel
theorem dX10_layWeek_121 : decode cX10_layWeek 121 = .ok (.iconst 5, 1) := by decide +kernel
theorem dX10_layWeek_122 : decode cX10_layWeek 122 = .ok (.if_icmp .ge 23, 3) := by decide +kernel
theorem dX10_layWeek_125 : decode cX10_layWeek 125 = .ok (.aload_n 0, 1) := by decide +kernel
theorem dX10_layWeek_126 : decode cX10_layWeek 126 = .ok (.getfield 84, 3) := by decide +kernel
theorem dX10_layWeek_129 : decode cX10_layWeek 129 = .ok (.iload 5, 2) := by decide +kernel
theorem dX10_layWeek_131 : decode cX10_layWeek 131 = .ok (.aload_n 0, 1) := by decide +kernel
theorem dX10_layWeek_132 : decode cX10_layWeek 132 = .ok (.getfield 81, 3) := by decide +kernel
theorem dX10_layWeek_135 : decode cX10_layWeek 135 = .ok (.iload 5, 2) := by decide +kernel
theorem dX10_layWeek_137 : decode cX10_layWeek 137 = .ok (.iaload, 1) := by decide +kernel
theorem dX10_layWeek_138 : decode cX10_layWeek 138 = .ok (.iastore, 1) := by decide +kernel
theorem dX10_layWeek_139 : decode cX10_layWeek 139 = .ok (.iinc 5 1, 3) := by decide +kernel
theorem dX10_layWeek_142 : decode cX10_layWeek 142 = .ok (.goto (-23), 3) := by decide +kernel
theorem dX10_layWeek_145 : decode cX10_layWeek 145 = .ok (.goto (-130), 3) := by decide +kernel
theorem dX10_layWeek_148 : decode cX10_layWeek 148 = .ok (.iinc 2 1, 3) := by decide +kernel
theorem dX10_layWeek_151 : decode cX10_layWeek 151 = .ok (.aload_n 0, 1) := by decide +kernel
theorem dX10_layWeek_152 : decode cX10_layWeek 152 = .ok (.getfield 81, 3) := by decide +kernel
theorem dX10_layWeek_155 : decode cX10_layWeek 155 = .ok (.iload_n 2, 1) := by decide +kernel
theorem dX10_layWeek_156 : decode cX10_layWeek 156 = .ok (.iconst (-1), 1) := by decide +kernel
theorem dX10_layWeek_157 : decode cX10_layWeek 157 = .ok (.iastore, 1) := by decide +kernel
theorem dX10_layWeek_158 : decode cX10_layWeek 158 = .ok (.goto (-143), 3) := by decide +kernel
theorem dX10_layWeek_161 : decode cX10_layWeek 161 = .ok (.return_, 1) := by decide +kernel
theorem dX10_week_0 : decode cX10_week 0 = .ok (.iload_n 1, 1) := by decide +kernel
theorem dX10_week_1 : decode cX10_week 1 = .ok (.iconst 0, 1) := by decide +kernel
theorem dX10_week_2 : decode cX10_week 2 = .ok (.iconst 3, 1) := by decide +kernel
theorem dX10_week_3 : decode cX10_week 3 = .ok (.invokestatic 92, 3) := by decide +kernel
theorem dX10_week_6 : decode cX10_week 6 = .ok (.ifCond .ne 6, 3) := by decide +kernel
theorem dX10_week_9 : decode cX10_week 9 = .ok (.bipush (-2), 2) := by decide +kernel
theorem dX10_week_11 : decode cX10_week 11 = .ok (.ireturn, 1) := by decide +kernel
theorem dX10_week_12 : decode cX10_week 12 = .ok (.iload_n 2, 1) := by decide +kernel
theorem dX10_week_13 : decode cX10_week 13 = .ok (.iconst (-1), 1) := by decide +kernel
theorem dX10_week_14 : decode cX10_week 14 = .ok (.iconst 4, 1) := by decide +kernel
theorem dX10_week_15 : decode cX10_week 15 = .ok (.invokestatic 92, 3) := by decide +kernel
theorem dX10_week_18 : decode cX10_week 18 = .ok (.ifCond .ne 5, 3) := by decide +kernel
theorem dX10_week_21 : decode cX10_week 21 = .ok (.iconst (-1), 1) := by decide +kernel
theorem dX10_week_22 : decode cX10_week 22 = .ok (.ireturn, 1) := by decide +kernel
theorem dX10_week_23 : decode cX10_week 23 = .ok (.aload_n 0, 1) := by decide +kernel
theorem dX10_week_24 : decode cX10_week 24 = .ok (.iload_n 1, 1) := by decide +kernel
theorem dX10_week_25 : decode cX10_week 25 = .ok (.invokevirtual 307, 3) := by decide +kernel
theorem dX10_week_28 : decode cX10_week 28 = .ok (.iload_n 2, 1) := by decide +kernel
theorem dX10_week_29 : decode cX10_week 29 = .ok (.iconst (-1), 1) := by decide +kernel
theorem dX10_week_30 : decode cX10_week 30 = .ok (.if_icmp .ne 10, 3) := by decide +kernel
theorem dX10_week_33 : decode cX10_week 33 = .ok (.aload_n 0, 1) := by decide +kernel
theorem dX10_week_34 : decode cX10_week 34 = .ok (.getfield 298, 3) := by decide +kernel
theorem dX10_week_37 : decode cX10_week 37 = .ok (.goto 23, 3) := by decide +kernel
theorem dX10_week_40 : decode cX10_week 40 = .ok (.aload_n 0, 1) := by decide +kernel
theorem dX10_week_41 : decode cX10_week 41 = .ok (.getfield 298, 3) := by decide +kernel
theorem dX10_week_44 : decode cX10_week 44 = .ok (.bipush (-9), 2) := by decide +kernel
theorem dX10_week_46 : decode cX10_week 46 = .ok (.if_icmp .ne 8, 3) := by decide +kernel
theorem dX10_week_49 : decode cX10_week 49 = .ok (.bipush (-9), 2) := by decide +kernel
theorem dX10_week_51 : decode cX10_week 51 = .ok (.goto 9, 3) := by decide +kernel
theorem dX10_week_54 : decode cX10_week 54 = .ok (.aload_n 0, 1) := by decide +kernel
theorem dX10_week_55 : decode cX10_week 55 = .ok (.getfield 84, 3) := by decide +kernel
theorem dX10_week_58 : decode cX10_week 58 = .ok (.iload_n 2, 1) := by decide +kernel
theorem dX10_week_59 : decode cX10_week 59 = .ok (.iaload, 1) := by decide +kernel
theorem dX10_week_60 : decode cX10_week 60 = .ok (.ireturn, 1) := by decide +kernel
theorem dX10_sheet_0 : decode cX10_sheet 0 = .ok (.aload_n 0, 1) := by decide +kernel
theorem dX10_sheet_1 : decode cX10_sheet 1 = .ok (.iconst 0, 1) := by decide +kernel
theorem dX10_sheet_2 : decode cX10_sheet 2 = .ok (.putfield 87, 3) := by decide +kernel
theorem dX10_sheet_5 : decode cX10_sheet 5 = .ok (.iload_n 1, 1) := by decide +kernel
theorem dX10_sheet_6 : decode cX10_sheet 6 = .ok (.invokestatic 99, 3) := by decide +kernel
theorem dX10_sheet_9 : decode cX10_sheet 9 = .ok (.ifCond .ne 5, 3) := by decide +kernel
theorem dX10_sheet_12 : decode cX10_sheet 12 = .ok (.iconst (-1), 1) := by decide +kernel
theorem dX10_sheet_13 : decode cX10_sheet 13 = .ok (.ireturn, 1) := by decide +kernel
theorem dX10_sheet_14 : decode cX10_sheet 14 = .ok (.iload_n 2, 1) := by decide +kernel
theorem dX10_sheet_15 : decode cX10_sheet 15 = .ok (.invokestatic 103, 3) := by decide +kernel
theorem dX10_sheet_18 : decode cX10_sheet 18 = .ok (.ifCond .eq 9, 3) := by decide +kernel
theorem dX10_sheet_21 : decode cX10_sheet 21 = .ok (.iload_n 3, 1) := by decide +kernel
theorem dX10_sheet_22 : decode cX10_sheet 22 = .ok (.bipush 100, 2) := by decide +kernel
theorem dX10_sheet_24 : decode cX10_sheet 24 = .ok (.if_icmp .le 6, 3) := by decide +kernel
theorem dX10_sheet_27 : decode cX10_sheet 27 = .ok (.bipush (-2), 2) := by decide +kernel
theorem dX10_sheet_29 : decode cX10_sheet 29 = .ok (.ireturn, 1) := by decide +kernel
theorem dX10_sheet_30 : decode cX10_sheet 30 = .ok (.iload_n 3, 1) := by decide +kernel
theorem dX10_sheet_31 : decode cX10_sheet 31 = .ok (.ifCond .ge 9, 3) := by decide +kernel
theorem dX10_sheet_34 : decode cX10_sheet 34 = .ok (.aload_n 0, 1) := by decide +kernel
theorem dX10_sheet_35 : decode cX10_sheet 35 = .ok (.iconst 4, 1) := by decide +kernel
theorem dX10_sheet_36 : decode cX10_sheet 36 = .ok (.invokevirtual 110, 3) := by decide +kernel
theorem dX10_sheet_39 : decode cX10_sheet 39 = .ok (.ireturn, 1) := by decide +kernel
theorem dX10_sheet_40 : decode cX10_sheet 40 = .ok (.aload_n 0, 1) := by decide +kernel
theorem dX10_sheet_41 : decode cX10_sheet 41 = .ok (.getfield 9, 3) := by decide +kernel
theorem dX10_sheet_44 : decode cX10_sheet 44 = .ok (.iload_n 1, 1) := by decide +kernel
theorem dX10_sheet_45 : decode cX10_sheet 45 = .ok (.iload_n 2, 1) := by decide +kernel
theorem dX10_sheet_46 : decode cX10_sheet 46 = .ok (.iastore, 1) := by decide +kernel
theorem dX10_sheet_47 : decode cX10_sheet 47 = .ok (.aload_n 0, 1) := by decide +kernel
theorem dX10_sheet_48 : decode cX10_sheet 48 = .ok (.getfield 13, 3) := by decide +kernel
theorem dX10_sheet_51 : decode cX10_sheet 51 = .ok (.iload_n 1, 1) := by decide +kernel
theorem dX10_sheet_52 : decode cX10_sheet 52 = .ok (.iload_n 3, 1) := by decide +kernel
theorem dX10_sheet_53 : decode cX10_sheet 53 = .ok (.iastore, 1) := by decide +kernel
theorem dX10_sheet_54 : decode cX10_sheet 54 = .ok (.iconst 0, 1) := by decide +kernel
theorem dX10_sheet_55 : decode cX10_sheet 55 = .ok (.istore 4, 2) := by decide +kernel
theorem dX10_sheet_57 : decode cX10_sheet 57 = .ok (.iload 4, 2) := by decide +kernel
theorem dX10_sheet_59 : decode cX10_sheet 59 = .ok (.bipush 100, 2) := by decide +kernel
theorem dX10_sheet_61 : decode cX10_sheet 61 = .ok (.if_icmp .ge 22, 3) := by decide +kernel
theorem dX10_sheet_64 : decode cX10_sheet 64 = .ok (.aload_n 0, 1) := by decide +kernel
theorem dX10_sheet_65 : decode cX10_sheet 65 = .ok (.getfield 16, 3) := by decide +kernel
theorem dX10_sheet_68 : decode cX10_sheet 68 = .ok (.bipush 100, 2) := by decide +kernel
theorem dX10_sheet_70 : decode cX10_sheet 70 = .ok (.iload_n 1, 1) := by decide +kernel
theorem dX10_sheet_71 : decode cX10_sheet 71 = .ok (.imul, 1) := by decide +kernel
theorem dX10_sheet_72 : decode cX10_sheet 72 = .ok (.iload 4, 2) := by decide +kernel
theorem dX10_sheet_74 : decode cX10_sheet 74 = .ok (.iadd, 1) := by decide +kernel
theorem dX10_sheet_75 : decode cX10_sheet 75 = .ok (.iconst 0, 1) := by decide +kernel
theorem dX10_sheet_76 : decode cX10_sheet 76 = .ok (.iastore, 1) := by decide +kernel
theorem dX10_sheet_77 : decode cX10_sheet 77 = .ok (.iinc 4 1, 3) := by decide +kernel
theorem dX10_sheet_80 : decode cX10_sheet 80 = .ok (.goto (-23), 3) := by decide +kernel
theorem dX10_sheet_83 : decode cX10_sheet 83 = .ok (.iconst 1, 1) := by decide +kernel
theorem dX10_sheet_84 : decode cX10_sheet 84 = .ok (.ireturn, 1) := by decide +kernel
theorem dX10_lose_0 : decode cX10_lose 0 = .ok (.iload_n 1, 1) := by decide +kernel
theorem dX10_lose_1 : decode cX10_lose 1 = .ok (.invokestatic 99, 3) := by decide +kernel
theorem dX10_lose_4 : decode cX10_lose 4 = .ok (.ifCond .ne 5, 3) := by decide +kernel
theorem dX10_lose_7 : decode cX10_lose 7 = .ok (.iconst (-1), 1) := by decide +kernel
theorem dX10_lose_8 : decode cX10_lose 8 = .ok (.ireturn, 1) := by decide +kernel
theorem dX10_lose_9 : decode cX10_lose 9 = .ok (.aload_n 0, 1) := by decide +kernel
theorem dX10_lose_10 : decode cX10_lose 10 = .ok (.getfield 9, 3) := by decide +kernel
theorem dX10_lose_13 : decode cX10_lose 13 = .ok (.iload_n 1, 1) := by decide +kernel
theorem dX10_lose_14 : decode cX10_lose 14 = .ok (.iaload, 1) := by decide +kernel
theorem dX10_lose_15 : decode cX10_lose 15 = .ok (.bipush (-9), 2) := by decide +kernel
theorem dX10_lose_17 : decode cX10_lose 17 = .ok (.if_icmp .ne 7, 3) := by decide +kernel
theorem dX10_lose_20 : decode cX10_lose 20 = .ok (.iconst 0, 1) := by decide +kernel
theorem dX10_lose_21 : decode cX10_lose 21 = .ok (.goto 4, 3) := by decide +kernel
theorem dX10_lose_24 : decode cX10_lose 24 = .ok (.iconst 1, 1) := by decide +kernel
theorem dX10_lose_25 : decode cX10_lose 25 = .ok (.istore_n 2, 1) := by decide +kernel
theorem dX10_lose_26 : decode cX10_lose 26 = .ok (.aload_n 0, 1) := by decide +kernel
theorem dX10_lose_27 : decode cX10_lose 27 = .ok (.getfield 9, 3) := by decide +kernel
theorem dX10_lose_30 : decode cX10_lose 30 = .ok (.iload_n 1, 1) := by decide +kernel
theorem dX10_lose_31 : decode cX10_lose 31 = .ok (.bipush (-9), 2) := by decide +kernel
theorem dX10_lose_33 : decode cX10_lose 33 = .ok (.iastore, 1) := by decide +kernel
theorem dX10_lose_34 : decode cX10_lose 34 = .ok (.iload_n 2, 1) := by decide +kernel
theorem dX10_lose_35 : decode cX10_lose 35 = .ok (.ireturn, 1) := by decide +kernel
theorem dX10_put_0 : decode cX10_put 0 = .ok (.aload_n 0, 1) := by decide +kernel
theorem dX10_put_1 : decode cX10_put 1 = .ok (.iconst 0, 1) := by decide +kernel
theorem dX10_put_2 : decode cX10_put 2 = .ok (.putfield 87, 3) := by decide +kernel
theorem dX10_put_5 : decode cX10_put 5 = .ok (.iload_n 1, 1) := by decide +kernel
theorem dX10_put_6 : decode cX10_put 6 = .ok (.invokestatic 99, 3) := by decide +kernel
theorem dX10_put_9 : decode cX10_put 9 = .ok (.ifCond .ne 5, 3) := by decide +kernel
theorem dX10_put_12 : decode cX10_put 12 = .ok (.iconst (-1), 1) := by decide +kernel
theorem dX10_put_13 : decode cX10_put 13 = .ok (.ireturn, 1) := by decide +kernel
theorem dX10_put_14 : decode cX10_put 14 = .ok (.aload_n 0, 1) := by decide +kernel
theorem dX10_put_15 : decode cX10_put 15 = .ok (.getfield 9, 3) := by decide +kernel
theorem dX10_put_18 : decode cX10_put 18 = .ok (.iload_n 1, 1) := by decide +kernel
theorem dX10_put_19 : decode cX10_put 19 = .ok (.iaload, 1) := by decide +kernel
theorem dX10_put_20 : decode cX10_put 20 = .ok (.bipush (-9), 2) := by decide +kernel
theorem dX10_put_22 : decode cX10_put 22 = .ok (.if_icmp .ne 9, 3) := by decide +kernel
theorem dX10_put_25 : decode cX10_put 25 = .ok (.aload_n 0, 1) := by decide +kernel
theorem dX10_put_26 : decode cX10_put 26 = .ok (.iconst 1, 1) := by decide +kernel
theorem dX10_put_27 : decode cX10_put 27 = .ok (.invokevirtual 110, 3) := by decide +kernel
theorem dX10_put_30 : decode cX10_put 30 = .ok (.ireturn, 1) := by decide +kernel
theorem dX10_put_31 : decode cX10_put 31 = .ok (.iload_n 2, 1) := by decide +kernel
theorem dX10_put_32 : decode cX10_put 32 = .ok (.iconst 0, 1) := by decide +kernel
theorem dX10_put_33 : decode cX10_put 33 = .ok (.aload_n 0, 1) := by decide +kernel
theorem dX10_put_34 : decode cX10_put 34 = .ok (.getfield 13, 3) := by decide +kernel
theorem dX10_put_37 : decode cX10_put 37 = .ok (.iload_n 1, 1) := by decide +kernel
theorem dX10_put_38 : decode cX10_put 38 = .ok (.iaload, 1) := by decide +kernel
theorem dX10_put_39 : decode cX10_put 39 = .ok (.iconst 1, 1) := by decide +kernel
theorem dX10_put_40 : decode cX10_put 40 = .ok (.isub, 1) := by decide +kernel
theorem dX10_put_41 : decode cX10_put 41 = .ok (.invokestatic 92, 3) := by decide +kernel
theorem dX10_put_44 : decode cX10_put 44 = .ok (.ifCond .ne 9, 3) := by decide +kernel
theorem dX10_put_47 : decode cX10_put 47 = .ok (.aload_n 0, 1) := by decide +kernel
theorem dX10_put_48 : decode cX10_put 48 = .ok (.iconst 3, 1) := by decide +kernel
theorem dX10_put_49 : decode cX10_put 49 = .ok (.invokevirtual 110, 3) := by decide +kernel
theorem dX10_put_52 : decode cX10_put 52 = .ok (.ireturn, 1) := by decide +kernel
theorem dX10_put_53 : decode cX10_put 53 = .ok (.aload_n 0, 1) := by decide +kernel
theorem dX10_put_54 : decode cX10_put 54 = .ok (.getfield 16, 3) := by decide +kernel
theorem dX10_put_57 : decode cX10_put 57 = .ok (.bipush 100, 2) := by decide +kernel
theorem dX10_put_59 : decode cX10_put 59 = .ok (.iload_n 1, 1) := by decide +kernel
theorem dX10_put_60 : decode cX10_put 60 = .ok (.imul, 1) := by decide +kernel
theorem dX10_put_61 : decode cX10_put 61 = .ok (.iload_n 2, 1) := by decide +kernel
theorem dX10_put_62 : decode cX10_put 62 = .ok (.iadd, 1) := by decide +kernel
theorem dX10_put_63 : decode cX10_put 63 = .ok (.aload_n 0, 1) := by decide +kernel
theorem dX10_put_64 : decode cX10_put 64 = .ok (.getfield 9, 3) := by decide +kernel
theorem dX10_put_67 : decode cX10_put 67 = .ok (.iload_n 1, 1) := by decide +kernel
theorem dX10_put_68 : decode cX10_put 68 = .ok (.iaload, 1) := by decide +kernel
theorem dX10_put_69 : decode cX10_put 69 = .ok (.ifCond .ne 8, 3) := by decide +kernel
theorem dX10_put_72 : decode cX10_put 72 = .ok (.iload_n 3, 1) := by decide +kernel
theorem dX10_put_73 : decode cX10_put 73 = .ok (.i2b, 1) := by decide +kernel
theorem dX10_put_74 : decode cX10_put 74 = .ok (.goto 19, 3) := by decide +kernel
theorem dX10_put_77 : decode cX10_put 77 = .ok (.aload_n 0, 1) := by decide +kernel
theorem dX10_put_78 : decode cX10_put 78 = .ok (.getfield 9, 3) := by decide +kernel
theorem dX10_put_81 : decode cX10_put 81 = .ok (.iload_n 1, 1) := by decide +kernel
theorem dX10_put_82 : decode cX10_put 82 = .ok (.iaload, 1) := by decide +kernel
theorem dX10_put_83 : decode cX10_put 83 = .ok (.iconst 1, 1) := by decide +kernel
theorem dX10_put_84 : decode cX10_put 84 = .ok (.if_icmp .ne 8, 3) := by decide +kernel
theorem dX10_put_87 : decode cX10_put 87 = .ok (.iload_n 3, 1) := by decide +kernel
theorem dX10_put_88 : decode cX10_put 88 = .ok (.i2s, 1) := by decide +kernel
theorem dX10_put_89 : decode cX10_put 89 = .ok (.goto 4, 3) := by decide +kernel
theorem dX10_put_92 : decode cX10_put 92 = .ok (.iload_n 3, 1) := by decide +kernel
theorem dX10_put_93 : decode cX10_put 93 = .ok (.iastore, 1) := by decide +kernel
theorem dX10_put_94 : decode cX10_put 94 = .ok (.iconst 1, 1) := by decide +kernel
theorem dX10_put_95 : decode cX10_put 95 = .ok (.ireturn, 1) := by decide +kernel
theorem dX10_cell_0 : decode cX10_cell 0 = .ok (.aload_n 0, 1) := by decide +kernel
theorem dX10_cell_1 : decode cX10_cell 1 = .ok (.iconst 0, 1) := by decide +kernel
theorem dX10_cell_2 : decode cX10_cell 2 = .ok (.putfield 87, 3) := by decide +kernel
theorem dX10_cell_5 : decode cX10_cell 5 = .ok (.iload_n 1, 1) := by decide +kernel
theorem dX10_cell_6 : decode cX10_cell 6 = .ok (.invokestatic 99, 3) := by decide +kernel
theorem dX10_cell_9 : decode cX10_cell 9 = .ok (.ifCond .eq 10, 3) := by decide +kernel
theorem dX10_cell_12 : decode cX10_cell 12 = .ok (.iload_n 3, 1) := by decide +kernel
theorem dX10_cell_13 : decode cX10_cell 13 = .ok (.invokestatic 103, 3) := by decide +kernel
theorem dX10_cell_16 : decode cX10_cell 16 = .ok (.ifCond .ne 7, 3) := by decide +kernel
theorem dX10_cell_19 : decode cX10_cell 19 = .ok (.ldc2_w 90, 3) := by decide +kernel
theorem dX10_cell_22 : decode cX10_cell 22 = .ok (.lreturn, 1) := by decide +kernel
theorem dX10_cell_23 : decode cX10_cell 23 = .ok (.aload_n 0, 1) := by decide +kernel
theorem dX10_cell_24 : decode cX10_cell 24 = .ok (.getfield 9, 3) := by decide +kernel
theorem dX10_cell_27 : decode cX10_cell 27 = .ok (.iload_n 1, 1) := by decide +kernel
theorem dX10_cell_28 : decode cX10_cell 28 = .ok (.iaload, 1) := by decide +kernel
theorem dX10_cell_29 : decode cX10_cell 29 = .ok (.bipush (-9), 2) := by decide +kernel
theorem dX10_cell_31 : decode cX10_cell 31 = .ok (.if_icmp .eq 19, 3) := by decide +kernel
theorem dX10_cell_34 : decode cX10_cell 34 = .ok (.aload_n 0, 1) := by decide +kernel
theorem dX10_cell_35 : decode cX10_cell 35 = .ok (.getfield 9, 3) := by decide +kernel
theorem dX10_cell_38 : decode cX10_cell 38 = .ok (.iload_n 1, 1) := by decide +kernel
theorem dX10_cell_39 : decode cX10_cell 39 = .ok (.iaload, 1) := by decide +kernel
theorem dX10_cell_40 : decode cX10_cell 40 = .ok (.iload_n 3, 1) := by decide +kernel
theorem dX10_cell_41 : decode cX10_cell 41 = .ok (.if_icmp .eq 9, 3) := by decide +kernel
theorem dX10_cell_44 : decode cX10_cell 44 = .ok (.aload_n 0, 1) := by decide +kernel
theorem dX10_cell_45 : decode cX10_cell 45 = .ok (.iconst 2, 1) := by decide +kernel
theorem dX10_cell_46 : decode cX10_cell 46 = .ok (.invokevirtual 224, 3) := by decide +kernel
theorem dX10_cell_49 : decode cX10_cell 49 = .ok (.lreturn, 1) := by decide +kernel
theorem dX10_cell_50 : decode cX10_cell 50 = .ok (.aload_n 0, 1) := by decide +kernel
theorem dX10_cell_51 : decode cX10_cell 51 = .ok (.getfield 9, 3) := by decide +kernel
theorem dX10_cell_54 : decode cX10_cell 54 = .ok (.iload_n 1, 1) := by decide +kernel
theorem dX10_cell_55 : decode cX10_cell 55 = .ok (.iaload, 1) := by decide +kernel
theorem dX10_cell_56 : decode cX10_cell 56 = .ok (.bipush (-9), 2) := by decide +kernel
theorem dX10_cell_58 : decode cX10_cell 58 = .ok (.if_icmp .ne 9, 3) := by decide +kernel
theorem dX10_cell_61 : decode cX10_cell 61 = .ok (.aload_n 0, 1) := by decide +kernel
theorem dX10_cell_62 : decode cX10_cell 62 = .ok (.iconst 1, 1) := by decide +kernel
theorem dX10_cell_63 : decode cX10_cell 63 = .ok (.invokevirtual 224, 3) := by decide +kernel
theorem dX10_cell_66 : decode cX10_cell 66 = .ok (.lreturn, 1) := by decide +kernel
theorem dX10_cell_67 : decode cX10_cell 67 = .ok (.iload_n 2, 1) := by decide +kernel
theorem dX10_cell_68 : decode cX10_cell 68 = .ok (.iconst 0, 1) := by decide +kernel
theorem dX10_cell_69 : decode cX10_cell 69 = .ok (.aload_n 0, 1) := by decide +kernel
theorem dX10_cell_70 : decode cX10_cell 70 = .ok (.getfield 13, 3) := by decide +kernel
theorem dX10_cell_73 : decode cX10_cell 73 = .ok (.iload_n 1, 1) := by decide +kernel
theorem dX10_cell_74 : decode cX10_cell 74 = .ok (.iaload, 1) := by decide +kernel
theorem dX10_cell_75 : decode cX10_cell 75 = .ok (.iconst 1, 1) := by decide +kernel
theorem dX10_cell_76 : decode cX10_cell 76 = .ok (.isub, 1) := by decide +kernel
theorem dX10_cell_77 : decode cX10_cell 77 = .ok (.invokestatic 92, 3) := by decide +kernel
theorem dX10_cell_80 : decode cX10_cell 80 = .ok (.ifCond .ne 9, 3) := by decide +kernel
theorem dX10_cell_83 : decode cX10_cell 83 = .ok (.aload_n 0, 1) := by decide +kernel
theorem dX10_cell_84 : decode cX10_cell 84 = .ok (.iconst 3, 1) := by decide +kernel
theorem dX10_cell_85 : decode cX10_cell 85 = .ok (.invokevirtual 224, 3) := by decide +kernel
theorem dX10_cell_88 : decode cX10_cell 88 = .ok (.lreturn, 1) := by decide +kernel
theorem dX10_cell_89 : decode cX10_cell 89 = .ok (.aload_n 0, 1) := by decide +kernel
theorem dX10_cell_90 : decode cX10_cell 90 = .ok (.getfield 16, 3) := by decide +kernel
theorem dX10_cell_93 : decode cX10_cell 93 = .ok (.bipush 100, 2) := by decide +kernel
theorem dX10_cell_95 : decode cX10_cell 95 = .ok (.iload_n 1, 1) := by decide +kernel
theorem dX10_cell_96 : decode cX10_cell 96 = .ok (.imul, 1) := by decide +kernel
theorem dX10_cell_97 : decode cX10_cell 97 = .ok (.iload_n 2, 1) := by decide +kernel
theorem dX10_cell_98 : decode cX10_cell 98 = .ok (.iadd, 1) := by decide +kernel
theorem dX10_cell_99 : decode cX10_cell 99 = .ok (.iaload, 1) := by decide +kernel
theorem dX10_cell_100 : decode cX10_cell 100 = .ok (.i2l, 1) := by decide +kernel
theorem dX10_cell_101 : decode cX10_cell 101 = .ok (.lreturn, 1) := by decide +kernel
theorem dX10_copy_0 : decode cX10_copy 0 = .ok (.aload_n 0, 1) := by decide +kernel
theorem dX10_copy_1 : decode cX10_copy 1 = .ok (.iconst 0, 1) := by decide +kernel
theorem dX10_copy_2 : decode cX10_copy 2 = .ok (.putfield 87, 3) := by decide +kernel
theorem dX10_copy_5 : decode cX10_copy 5 = .ok (.iload_n 1, 1) := by decide +kernel
theorem dX10_copy_6 : decode cX10_copy 6 = .ok (.invokestatic 99, 3) := by decide +kernel
theorem dX10_copy_9 : decode cX10_copy 9 = .ok (.ifCond .eq 10, 3) := by decide +kernel
theorem dX10_copy_12 : decode cX10_copy 12 = .ok (.iload_n 3, 1) := by decide +kernel
theorem dX10_copy_13 : decode cX10_copy 13 = .ok (.invokestatic 99, 3) := by decide +kernel
theorem dX10_copy_16 : decode cX10_copy 16 = .ok (.ifCond .ne 5, 3) := by decide +kernel
theorem dX10_copy_19 : decode cX10_copy 19 = .ok (.iconst (-1), 1) := by decide +kernel
theorem dX10_copy_20 : decode cX10_copy 20 = .ok (.ireturn, 1) := by decide +kernel
theorem dX10_copy_21 : decode cX10_copy 21 = .ok (.aload_n 0, 1) := by decide +kernel
theorem dX10_copy_22 : decode cX10_copy 22 = .ok (.getfield 9, 3) := by decide +kernel
theorem dX10_copy_25 : decode cX10_copy 25 = .ok (.iload_n 1, 1) := by decide +kernel
theorem dX10_copy_26 : decode cX10_copy 26 = .ok (.iaload, 1) := by decide +kernel
theorem dX10_copy_27 : decode cX10_copy 27 = .ok (.bipush (-9), 2) := by decide +kernel
theorem dX10_copy_29 : decode cX10_copy 29 = .ok (.if_icmp .eq 14, 3) := by decide +kernel
theorem dX10_copy_32 : decode cX10_copy 32 = .ok (.aload_n 0, 1) := by decide +kernel
theorem dX10_copy_33 : decode cX10_copy 33 = .ok (.getfield 9, 3) := by decide +kernel
theorem dX10_copy_36 : decode cX10_copy 36 = .ok (.iload_n 3, 1) := by decide +kernel
theorem dX10_copy_37 : decode cX10_copy 37 = .ok (.iaload, 1) := by decide +kernel
theorem dX10_copy_38 : decode cX10_copy 38 = .ok (.bipush (-9), 2) := by decide +kernel
theorem dX10_copy_40 : decode cX10_copy 40 = .ok (.if_icmp .ne 9, 3) := by decide +kernel
theorem dX10_copy_43 : decode cX10_copy 43 = .ok (.aload_n 0, 1) := by decide +kernel
theorem dX10_copy_44 : decode cX10_copy 44 = .ok (.iconst 1, 1) := by decide +kernel
theorem dX10_copy_45 : decode cX10_copy 45 = .ok (.invokevirtual 110, 3) := by decide +kernel
theorem dX10_copy_48 : decode cX10_copy 48 = .ok (.ireturn, 1) := by decide +kernel
theorem dX10_copy_49 : decode cX10_copy 49 = .ok (.aload_n 0, 1) := by decide +kernel
theorem dX10_copy_50 : decode cX10_copy 50 = .ok (.getfield 9, 3) := by decide +kernel
theorem dX10_copy_53 : decode cX10_copy 53 = .ok (.iload_n 1, 1) := by decide +kernel
theorem dX10_copy_54 : decode cX10_copy 54 = .ok (.iaload, 1) := by decide +kernel
theorem dX10_copy_55 : decode cX10_copy 55 = .ok (.aload_n 0, 1) := by decide +kernel
theorem dX10_copy_56 : decode cX10_copy 56 = .ok (.getfield 9, 3) := by decide +kernel
theorem dX10_copy_59 : decode cX10_copy 59 = .ok (.iload_n 3, 1) := by decide +kernel
theorem dX10_copy_60 : decode cX10_copy 60 = .ok (.iaload, 1) := by decide +kernel
theorem dX10_copy_61 : decode cX10_copy 61 = .ok (.if_icmp .eq 9, 3) := by decide +kernel
theorem dX10_copy_64 : decode cX10_copy 64 = .ok (.aload_n 0, 1) := by decide +kernel
theorem dX10_copy_65 : decode cX10_copy 65 = .ok (.iconst 2, 1) := by decide +kernel
theorem dX10_copy_66 : decode cX10_copy 66 = .ok (.invokevirtual 110, 3) := by decide +kernel
theorem dX10_copy_69 : decode cX10_copy 69 = .ok (.ireturn, 1) := by decide +kernel
theorem dX10_copy_70 : decode cX10_copy 70 = .ok (.iload_n 2, 1) := by decide +kernel
theorem dX10_copy_71 : decode cX10_copy 71 = .ok (.ifCond .lt 38, 3) := by decide +kernel
theorem dX10_copy_74 : decode cX10_copy 74 = .ok (.iload 4, 2) := by decide +kernel
theorem dX10_copy_76 : decode cX10_copy 76 = .ok (.ifCond .lt 33, 3) := by decide +kernel
theorem dX10_copy_79 : decode cX10_copy 79 = .ok (.iload 5, 2) := by decide +kernel
theorem dX10_copy_81 : decode cX10_copy 81 = .ok (.ifCond .lt 28, 3) := by decide +kernel
theorem dX10_copy_84 : decode cX10_copy 84 = .ok (.iload_n 2, 1) := by decide +kernel
theorem dX10_copy_85 : decode cX10_copy 85 = .ok (.aload_n 0, 1) := by decide +kernel
theorem dX10_copy_86 : decode cX10_copy 86 = .ok (.getfield 13, 3) := by decide +kernel
theorem dX10_copy_89 : decode cX10_copy 89 = .ok (.iload_n 1, 1) := by decide +kernel
theorem dX10_copy_90 : decode cX10_copy 90 = .ok (.iaload, 1) := by decide +kernel
theorem dX10_copy_91 : decode cX10_copy 91 = .ok (.if_icmp .gt 18, 3) := by decide +kernel
theorem dX10_copy_94 : decode cX10_copy 94 = .ok (.iload 4, 2) := by decide +kernel
theorem dX10_copy_96 : decode cX10_copy 96 = .ok (.aload_n 0, 1) := by decide +kernel
theorem dX10_copy_97 : decode cX10_copy 97 = .ok (.getfield 13, 3) := by decide +kernel
theorem dX10_copy_100 : decode cX10_copy 100 = .ok (.iload_n 3, 1) := by decide +kernel
theorem dX10_copy_101 : decode cX10_copy 101 = .ok (.iaload, 1) := by decide +kernel
theorem dX10_copy_102 : decode cX10_copy 102 = .ok (.if_icmp .gt 7, 3) := by decide +kernel
theorem dX10_copy_105 : decode cX10_copy 105 = .ok (.iconst 1, 1) := by decide +kernel
theorem dX10_copy_106 : decode cX10_copy 106 = .ok (.goto 4, 3) := by decide +kernel
theorem dX10_copy_109 : decode cX10_copy 109 = .ok (.iconst 0, 1) := by decide +kernel
theorem dX10_copy_110 : decode cX10_copy 110 = .ok (.istore 6, 2) := by decide +kernel
theorem dX10_copy_112 : decode cX10_copy 112 = .ok (.iload 6, 2) := by decide +kernel
theorem dX10_copy_114 : decode cX10_copy 114 = .ok (.ifCond .eq 30, 3) := by decide +kernel
theorem dX10_copy_117 : decode cX10_copy 117 = .ok (.iload 5, 2) := by decide +kernel
theorem dX10_copy_119 : decode cX10_copy 119 = .ok (.aload_n 0, 1) := by decide +kernel
theorem dX10_copy_120 : decode cX10_copy 120 = .ok (.getfield 13, 3) := by decide +kernel
theorem dX10_copy_123 : decode cX10_copy 123 = .ok (.iload_n 1, 1) := by decide +kernel
theorem dX10_copy_124 : decode cX10_copy 124 = .ok (.iaload, 1) := by decide +kernel
theorem dX10_copy_125 : decode cX10_copy 125 = .ok (.iload_n 2, 1) := by decide +kernel
theorem dX10_copy_126 : decode cX10_copy 126 = .ok (.isub, 1) := by decide +kernel
theorem dX10_copy_127 : decode cX10_copy 127 = .ok (.if_icmp .gt 17, 3) := by decide +kernel
theorem dX10_copy_130 : decode cX10_copy 130 = .ok (.iload 5, 2) := by decide +kernel
theorem dX10_copy_132 : decode cX10_copy 132 = .ok (.aload_n 0, 1) := by decide +kernel
theorem dX10_copy_133 : decode cX10_copy 133 = .ok (.getfield 13, 3) := by decide +kernel
theorem dX10_copy_136 : decode cX10_copy 136 = .ok (.iload_n 3, 1) := by decide +kernel
theorem dX10_copy_137 : decode cX10_copy 137 = .ok (.iaload, 1) := by decide +kernel
theorem dX10_copy_138 : decode cX10_copy 138 = .ok (.iload 4, 2) := by decide +kernel
theorem dX10_copy_140 : decode cX10_copy 140 = .ok (.isub, 1) := by decide +kernel
theorem dX10_copy_141 : decode cX10_copy 141 = .ok (.if_icmp .le 9, 3) := by decide +kernel
theorem dX10_copy_144 : decode cX10_copy 144 = .ok (.aload_n 0, 1) := by decide +kernel
theorem dX10_copy_145 : decode cX10_copy 145 = .ok (.iconst 3, 1) := by decide +kernel
theorem dX10_copy_146 : decode cX10_copy 146 = .ok (.invokevirtual 110, 3) := by decide +kernel
theorem dX10_copy_149 : decode cX10_copy 149 = .ok (.ireturn, 1) := by decide +kernel
theorem dX10_copy_150 : decode cX10_copy 150 = .ok (.iload_n 2, 1) := by decide +kernel
theorem dX10_copy_151 : decode cX10_copy 151 = .ok (.iload 4, 2) := by decide +kernel
theorem dX10_copy_153 : decode cX10_copy 153 = .ok (.if_icmp .ge 7, 3) := by decide +kernel
theorem dX10_copy_156 : decode cX10_copy 156 = .ok (.iconst 1, 1) := by decide +kernel
theorem dX10_copy_157 : decode cX10_copy 157 = .ok (.goto 4, 3) := by decide +kernel
theorem dX10_copy_160 : decode cX10_copy 160 = .ok (.iconst 0, 1) := by decide +kernel
theorem dX10_copy_161 : decode cX10_copy 161 = .ok (.istore 7, 2) := by decide +kernel
theorem dX10_copy_163 : decode cX10_copy 163 = .ok (.iconst 0, 1) := by decide +kernel
theorem dX10_copy_164 : decode cX10_copy 164 = .ok (.istore 8, 2) := by decide +kernel
theorem dX10_copy_166 : decode cX10_copy 166 = .ok (.iload 8, 2) := by decide +kernel
theorem dX10_copy_168 : decode cX10_copy 168 = .ok (.iload 5, 2) := by decide +kernel
theorem dX10_copy_170 : decode cX10_copy 170 = .ok (.if_icmp .ge 57, 3) := by decide +kernel
theorem dX10_copy_173 : decode cX10_copy 173 = .ok (.iload 7, 2) := by decide +kernel
theorem dX10_copy_175 : decode cX10_copy 175 = .ok (.ifCond .eq 13, 3) := by decide +kernel
theorem dX10_copy_178 : decode cX10_copy 178 = .ok (.iload 5, 2) := by decide +kernel
theorem dX10_copy_180 : decode cX10_copy 180 = .ok (.iconst 1, 1) := by decide +kernel
theorem dX10_copy_181 : decode cX10_copy 181 = .ok (.isub, 1) := by decide +kernel
theorem dX10_copy_182 : decode cX10_copy 182 = .ok (.iload 8, 2) := by decide +kernel
theorem dX10_copy_184 : decode cX10_copy 184 = .ok (.isub, 1) := by decide +kernel
theorem dX10_copy_185 : decode cX10_copy 185 = .ok (.goto 5, 3) := by decide +kernel
theorem dX10_copy_188 : decode cX10_copy 188 = .ok (.iload 8, 2) := by decide +kernel
theorem dX10_copy_190 : decode cX10_copy 190 = .ok (.istore 9, 2) := by decide +kernel
theorem dX10_copy_192 : decode cX10_copy 192 = .ok (.aload_n 0, 1) := by decide +kernel
theorem dX10_copy_193 : decode cX10_copy 193 = .ok (.getfield 16, 3) := by decide +kernel
theorem dX10_copy_196 : decode cX10_copy 196 = .ok (.bipush 100, 2) := by decide +kernel
theorem dX10_copy_198 : decode cX10_copy 198 = .ok (.iload_n 3, 1) := by decide +kernel
theorem dX10_copy_199 : decode cX10_copy 199 = .ok (.imul, 1) := by decide +kernel
theorem dX10_copy_200 : decode cX10_copy 200 = .ok (.iload 4, 2) := by decide +kernel
theorem dX10_copy_202 : decode cX10_copy 202 = .ok (.iadd, 1) := by decide +kernel
theorem dX10_copy_203 : decode cX10_copy 203 = .ok (.iload 9, 2) := by decide +kernel
theorem dX10_copy_205 : decode cX10_copy 205 = .ok (.iadd, 1) := by decide +kernel
theorem dX10_copy_206 : decode cX10_copy 206 = .ok (.aload_n 0, 1) := by decide +kernel
theorem dX10_copy_207 : decode cX10_copy 207 = .ok (.getfield 16, 3) := by decide +kernel
theorem dX10_copy_210 : decode cX10_copy 210 = .ok (.bipush 100, 2) := by decide +kernel
theorem dX10_copy_212 : decode cX10_copy 212 = .ok (.iload_n 1, 1) := by decide +kernel
theorem dX10_copy_213 : decode cX10_copy 213 = .ok (.imul, 1) := by decide +kernel
theorem dX10_copy_214 : decode cX10_copy 214 = .ok (.iload_n 2, 1) := by decide +kernel
theorem dX10_copy_215 : decode cX10_copy 215 = .ok (.iadd, 1) := by decide +kernel
theorem dX10_copy_216 : decode cX10_copy 216 = .ok (.iload 9, 2) := by decide +kernel
theorem dX10_copy_218 : decode cX10_copy 218 = .ok (.iadd, 1) := by decide +kernel
theorem dX10_copy_219 : decode cX10_copy 219 = .ok (.iaload, 1) := by decide +kernel
theorem dX10_copy_220 : decode cX10_copy 220 = .ok (.iastore, 1) := by decide +kernel
theorem dX10_copy_221 : decode cX10_copy 221 = .ok (.iinc 8 1, 3) := by decide +kernel
theorem dX10_copy_224 : decode cX10_copy 224 = .ok (.goto (-58), 3) := by decide +kernel
theorem dX10_copy_227 : decode cX10_copy 227 = .ok (.iload 5, 2) := by decide +kernel
theorem dX10_copy_229 : decode cX10_copy 229 = .ok (.ireturn, 1) := by decide +kernel
theorem dX10_begins_0 : decode cX10_begins 0 = .ok (.aload_n 0, 1) := by decide +kernel
theorem dX10_begins_1 : decode cX10_begins 1 = .ok (.bipush 31, 2) := by decide +kernel
theorem dX10_begins_3 : decode cX10_begins 3 = .ok (.aload_n 0, 1) := by decide +kernel
theorem dX10_begins_4 : decode cX10_begins 4 = .ok (.getfield 310, 3) := by decide +kernel
theorem dX10_begins_7 : decode cX10_begins 7 = .ok (.imul, 1) := by decide +kernel
theorem dX10_begins_8 : decode cX10_begins 8 = .ok (.iload_n 1, 1) := by decide +kernel
theorem dX10_begins_9 : decode cX10_begins 9 = .ok (.iadd, 1) := by decide +kernel
theorem dX10_begins_10 : decode cX10_begins 10 = .ok (.putfield 310, 3) := by decide +kernel
theorem dX10_begins_13 : decode cX10_begins 13 = .ok (.return_, 1) := by decide +kernel
theorem dX10_tell_0 : decode cX10_tell 0 = .ok (.aload_n 0, 1) := by decide +kernel
theorem dX10_tell_1 : decode cX10_tell 1 = .ok (.iload_n 1, 1) := by decide +kernel
theorem dX10_tell_2 : decode cX10_tell 2 = .ok (.invokevirtual 169, 3) := by decide +kernel
theorem dX10_tell_5 : decode cX10_tell 5 = .ok (.ifCond .ne 5, 3) := by decide +kernel
theorem dX10_tell_8 : decode cX10_tell 8 = .ok (.iconst (-1), 1) := by decide +kernel
theorem dX10_tell_9 : decode cX10_tell 9 = .ok (.ireturn, 1) := by decide +kernel
theorem dX10_tell_10 : decode cX10_tell 10 = .ok (.aload_n 0, 1) := by decide +kernel
theorem dX10_tell_11 : decode cX10_tell 11 = .ok (.getfield 46, 3) := by decide +kernel
theorem dX10_tell_14 : decode cX10_tell 14 = .ok (.iload_n 1, 1) := by decide +kernel
theorem dX10_tell_15 : decode cX10_tell 15 = .ok (.iaload, 1) := by decide +kernel
theorem dX10_tell_16 : decode cX10_tell 16 = .ok (.istore_n 2, 1) := by decide +kernel
theorem dX10_tell_17 : decode cX10_tell 17 = .ok (.aload_n 0, 1) := by decide +kernel
theorem dX10_tell_18 : decode cX10_tell 18 = .ok (.getfield 40, 3) := by decide +kernel
theorem dX10_tell_21 : decode cX10_tell 21 = .ok (.iload_n 1, 1) := by decide +kernel
theorem dX10_tell_22 : decode cX10_tell 22 = .ok (.iaload, 1) := by decide +kernel
theorem dX10_tell_23 : decode cX10_tell 23 = .ok (.lookupswitch 67 #[(1, 25), (2, 40)], 25) := by decide +kernel
theorem dX10_tell_48 : decode cX10_tell 48 = .ok (.aload_n 0, 1) := by decide +kernel
theorem dX10_tell_49 : decode cX10_tell 49 = .ok (.iconst 2, 1) := by decide +kernel
theorem dX10_tell_50 : decode cX10_tell 50 = .ok (.invokevirtual 313, 3) := by decide +kernel
theorem dX10_tell_53 : decode cX10_tell 53 = .ok (.aload_n 0, 1) := by decide +kernel
theorem dX10_tell_54 : decode cX10_tell 54 = .ok (.iconst 1, 1) := by decide +kernel
theorem dX10_tell_55 : decode cX10_tell 55 = .ok (.invokevirtual 313, 3) := by decide +kernel
theorem dX10_tell_58 : decode cX10_tell 58 = .ok (.iload_n 2, 1) := by decide +kernel
theorem dX10_tell_59 : decode cX10_tell 59 = .ok (.bipush 100, 2) := by decide +kernel
theorem dX10_tell_61 : decode cX10_tell 61 = .ok (.iadd, 1) := by decide +kernel
theorem dX10_tell_62 : decode cX10_tell 62 = .ok (.ireturn, 1) := by decide +kernel
theorem dX10_tell_63 : decode cX10_tell 63 = .ok (.aload_n 0, 1) := by decide +kernel
theorem dX10_tell_64 : decode cX10_tell 64 = .ok (.iconst 3, 1) := by decide +kernel
theorem dX10_tell_65 : decode cX10_tell 65 = .ok (.invokevirtual 313, 3) := by decide +kernel
theorem dX10_tell_68 : decode cX10_tell 68 = .ok (.aload_n 0, 1) := by decide +kernel
theorem dX10_tell_69 : decode cX10_tell 69 = .ok (.iconst 2, 1) := by decide +kernel
theorem dX10_tell_70 : decode cX10_tell 70 = .ok (.invokevirtual 313, 3) := by decide +kernel
theorem dX10_tell_73 : decode cX10_tell 73 = .ok (.aload_n 0, 1) := by decide +kernel
theorem dX10_tell_74 : decode cX10_tell 74 = .ok (.iconst 1, 1) := by decide +kernel
theorem dX10_tell_75 : decode cX10_tell 75 = .ok (.invokevirtual 313, 3) := by decide +kernel
theorem dX10_tell_78 : decode cX10_tell 78 = .ok (.aload_n 0, 1) := by decide +kernel
theorem dX10_tell_79 : decode cX10_tell 79 = .ok (.iconst 1, 1) := by decide +kernel
theorem dX10_tell_80 : decode cX10_tell 80 = .ok (.invokevirtual 313, 3) := by decide +kernel
theorem dX10_tell_83 : decode cX10_tell 83 = .ok (.iconst 2, 1) := by decide +kernel
theorem dX10_tell_84 : decode cX10_tell 84 = .ok (.iload_n 2, 1) := by decide +kernel
theorem dX10_tell_85 : decode cX10_tell 85 = .ok (.imul, 1) := by decide +kernel
theorem dX10_tell_86 : decode cX10_tell 86 = .ok (.bipush 100, 2) := by decide +kernel
theorem dX10_tell_88 : decode cX10_tell 88 = .ok (.iadd, 1) := by decide +kernel
theorem dX10_tell_89 : decode cX10_tell 89 = .ok (.ireturn, 1) := by decide +kernel
theorem dX10_tell_90 : decode cX10_tell 90 = .ok (.aload_n 0, 1) := by decide +kernel
theorem dX10_tell_91 : decode cX10_tell 91 = .ok (.iconst 1, 1) := by decide +kernel
theorem dX10_tell_92 : decode cX10_tell 92 = .ok (.invokevirtual 313, 3) := by decide +kernel
theorem dX10_tell_95 : decode cX10_tell 95 = .ok (.iload_n 2, 1) := by decide +kernel
theorem dX10_tell_96 : decode cX10_tell 96 = .ok (.ireturn, 1) := by decide +kernel
theorem dX10_tag_0 : decode cX10_tag 0 = .ok (.aload_n 0, 1) := by decide +kernel
theorem dX10_tag_1 : decode cX10_tag 1 = .ok (.iload_n 1, 1) := by decide +kernel
theorem dX10_tag_2 : decode cX10_tag 2 = .ok (.invokevirtual 169, 3) := by decide +kernel
theorem dX10_tag_5 : decode cX10_tag 5 = .ok (.ifCond .ne 5, 3) := by decide +kernel
theorem dX10_tag_8 : decode cX10_tag 8 = .ok (.iconst (-1), 1) := by decide +kernel
theorem dX10_tag_9 : decode cX10_tag 9 = .ok (.ireturn, 1) := by decide +kernel
theorem dX10_tag_10 : decode cX10_tag 10 = .ok (.aload_n 0, 1) := by decide +kernel
theorem dX10_tag_11 : decode cX10_tag 11 = .ok (.aload_n 0, 1) := by decide +kernel
theorem dX10_tag_12 : decode cX10_tag 12 = .ok (.getfield 40, 3) := by decide +kernel
theorem dX10_tag_15 : decode cX10_tag 15 = .ok (.iload_n 1, 1) := by decide +kernel
theorem dX10_tag_16 : decode cX10_tag 16 = .ok (.iaload, 1) := by decide +kernel
theorem dX10_tag_17 : decode cX10_tag 17 = .ok (.iconst 2, 1) := by decide +kernel
theorem dX10_tag_18 : decode cX10_tag 18 = .ok (.if_icmp .ne 7, 3) := by decide +kernel
theorem dX10_tag_21 : decode cX10_tag 21 = .ok (.iconst 5, 1) := by decide +kernel
theorem dX10_tag_22 : decode cX10_tag 22 = .ok (.goto 4, 3) := by decide +kernel
theorem dX10_tag_25 : decode cX10_tag 25 = .ok (.iconst 4, 1) := by decide +kernel
theorem dX10_tag_26 : decode cX10_tag 26 = .ok (.invokevirtual 313, 3) := by decide +kernel
theorem dX10_tag_29 : decode cX10_tag 29 = .ok (.aload_n 0, 1) := by decide +kernel
theorem dX10_tag_30 : decode cX10_tag 30 = .ok (.getfield 40, 3) := by decide +kernel
theorem dX10_tag_33 : decode cX10_tag 33 = .ok (.iload_n 1, 1) := by decide +kernel
theorem dX10_tag_34 : decode cX10_tag 34 = .ok (.iaload, 1) := by decide +kernel
theorem dX10_tag_35 : decode cX10_tag 35 = .ok (.iconst 2, 1) := by decide +kernel
theorem dX10_tag_36 : decode cX10_tag 36 = .ok (.if_icmp .ne 8, 3) := by decide +kernel
theorem dX10_tag_39 : decode cX10_tag 39 = .ok (.bipush 60, 2) := by decide +kernel
theorem dX10_tag_41 : decode cX10_tag 41 = .ok (.goto 4, 3) := by decide +kernel
theorem dX10_tag_44 : decode cX10_tag 44 = .ok (.iload_n 1, 1) := by decide +kernel
theorem dX10_tag_45 : decode cX10_tag 45 = .ok (.ireturn, 1) := by decide +kernel
theorem dX10_as_0 : decode cX10_as 0 = .ok (.aload_n 0, 1) := by decide +kernel
theorem dX10_as_1 : decode cX10_as 1 = .ok (.iconst 0, 1) := by decide +kernel
theorem dX10_as_2 : decode cX10_as 2 = .ok (.putfield 87, 3) := by decide +kernel
theorem dX10_as_5 : decode cX10_as 5 = .ok (.aload_n 0, 1) := by decide +kernel
theorem dX10_as_6 : decode cX10_as 6 = .ok (.iload_n 1, 1) := by decide +kernel
theorem dX10_as_7 : decode cX10_as 7 = .ok (.invokevirtual 169, 3) := by decide +kernel
theorem dX10_as_10 : decode cX10_as 10 = .ok (.ifCond .ne 5, 3) := by decide +kernel
theorem dX10_as_13 : decode cX10_as 13 = .ok (.iconst (-1), 1) := by decide +kernel
theorem dX10_as_14 : decode cX10_as 14 = .ok (.ireturn, 1) := by decide +kernel
theorem dX10_as_15 : decode cX10_as 15 = .ok (.iload_n 2, 1) := by decide +kernel
theorem dX10_as_16 : decode cX10_as 16 = .ok (.iconst 0, 1) := by decide +kernel
theorem dX10_as_17 : decode cX10_as 17 = .ok (.iconst 2, 1) := by decide +kernel
theorem dX10_as_18 : decode cX10_as 18 = .ok (.invokestatic 92, 3) := by decide +kernel
theorem dX10_as_21 : decode cX10_as 21 = .ok (.ifCond .ne 6, 3) := by decide +kernel
theorem dX10_as_24 : decode cX10_as 24 = .ok (.bipush (-2), 2) := by decide +kernel
theorem dX10_as_26 : decode cX10_as 26 = .ok (.ireturn, 1) := by decide +kernel
theorem dX10_as_27 : decode cX10_as 27 = .ok (.aload_n 0, 1) := by decide +kernel
theorem dX10_as_28 : decode cX10_as 28 = .ok (.getfield 40, 3) := by decide +kernel
theorem dX10_as_31 : decode cX10_as 31 = .ok (.iload_n 1, 1) := by decide +kernel
theorem dX10_as_32 : decode cX10_as 32 = .ok (.iaload, 1) := by decide +kernel
theorem dX10_as_33 : decode cX10_as 33 = .ok (.iload_n 2, 1) := by decide +kernel
theorem dX10_as_34 : decode cX10_as 34 = .ok (.if_icmp .lt 7, 3) := by decide +kernel
theorem dX10_as_37 : decode cX10_as 37 = .ok (.iconst 1, 1) := by decide +kernel
theorem dX10_as_38 : decode cX10_as 38 = .ok (.goto 8, 3) := by decide +kernel
theorem dX10_as_41 : decode cX10_as 41 = .ok (.aload_n 0, 1) := by decide +kernel
theorem dX10_as_42 : decode cX10_as 42 = .ok (.iconst 2, 1) := by decide +kernel
theorem dX10_as_43 : decode cX10_as 43 = .ok (.invokevirtual 110, 3) := by decide +kernel
theorem dX10_as_46 : decode cX10_as 46 = .ok (.ireturn, 1) := by decide +kernel
theorem dX10_trace_0 : decode cX10_trace 0 = .ok (.aload_n 0, 1) := by decide +kernel
theorem dX10_trace_1 : decode cX10_trace 1 = .ok (.getfield 310, 3) := by decide +kernel
theorem dX10_trace_4 : decode cX10_trace 4 = .ok (.ireturn, 1) := by decide +kernel
theorem dX10_fault_0 : decode cX10_fault 0 = .ok (.aload_n 0, 1) := by decide +kernel
theorem dX10_fault_1 : decode cX10_fault 1 = .ok (.getfield 87, 3) := by decide +kernel
theorem dX10_fault_4 : decode cX10_fault 4 = .ok (.ireturn, 1) := by decide +kernel
theorem dX10_pairsOf_0 : decode cX10_pairsOf 0 = .ok (.iconst 0, 1) := by decide +kernel
theorem dX10_pairsOf_1 : decode cX10_pairsOf 1 = .ok (.istore_n 2, 1) := by decide +kernel
theorem dX10_pairsOf_2 : decode cX10_pairsOf 2 = .ok (.iconst 0, 1) := by decide +kernel
theorem dX10_pairsOf_3 : decode cX10_pairsOf 3 = .ok (.istore_n 3, 1) := by decide +kernel
theorem dX10_pairsOf_4 : decode cX10_pairsOf 4 = .ok (.iload_n 3, 1) := by decide +kernel
theorem dX10_pairsOf_5 : decode cX10_pairsOf 5 = .ok (.aload_n 0, 1) := by decide +kernel
theorem dX10_pairsOf_6 : decode cX10_pairsOf 6 = .ok (.getfield 133, 3) := by decide +kernel
theorem dX10_pairsOf_9 : decode cX10_pairsOf 9 = .ok (.if_icmp .ge 21, 3) := by decide +kernel
theorem dX10_pairsOf_12 : decode cX10_pairsOf 12 = .ok (.iload_n 2, 1) := by decide +kernel
theorem dX10_pairsOf_13 : decode cX10_pairsOf 13 = .ok (.aload_n 0, 1) := by decide +kernel
theorem dX10_pairsOf_14 : decode cX10_pairsOf 14 = .ok (.iload_n 3, 1) := by decide +kernel
theorem dX10_pairsOf_15 : decode cX10_pairsOf 15 = .ok (.iload_n 1, 1) := by decide +kernel
theorem dX10_pairsOf_16 : decode cX10_pairsOf 16 = .ok (.invokevirtual 175, 3) := by decide +kernel
theorem dX10_pairsOf_19 : decode cX10_pairsOf 19 = .ok (.invokestatic 211, 3) := by decide +kernel
theorem dX10_pairsOf_22 : decode cX10_pairsOf 22 = .ok (.iadd, 1) := by decide +kernel
theorem dX10_pairsOf_23 : decode cX10_pairsOf 23 = .ok (.istore_n 2, 1) := by decide +kernel
theorem dX10_pairsOf_24 : decode cX10_pairsOf 24 = .ok (.iinc 3 1, 3) := by decide +kernel
theorem dX10_pairsOf_27 : decode cX10_pairsOf 27 = .ok (.goto (-23), 3) := by decide +kernel
theorem dX10_pairsOf_30 : decode cX10_pairsOf 30 = .ok (.iload_n 2, 1) := by decide +kernel
theorem dX10_pairsOf_31 : decode cX10_pairsOf 31 = .ok (.iconst 2, 1) := by decide +kernel
theorem dX10_pairsOf_32 : decode cX10_pairsOf 32 = .ok (.idiv, 1) := by decide +kernel
theorem dX10_pairsOf_33 : decode cX10_pairsOf 33 = .ok (.ireturn, 1) := by decide +kernel
theorem dX10_crossingRoads_0 : decode cX10_crossingRoads 0 = .ok (.iconst 0, 1) := by decide +kernel
theorem dX10_crossingRoads_1 : decode cX10_crossingRoads 1 = .ok (.istore_n 1, 1) := by decide +kernel
theorem dX10_crossingRoads_2 : decode cX10_crossingRoads 2 = .ok (.iconst 0, 1) := by decide +kernel
theorem dX10_crossingRoads_3 : decode cX10_crossingRoads 3 = .ok (.istore_n 2, 1) := by decide +kernel
theorem dX10_crossingRoads_4 : decode cX10_crossingRoads 4 = .ok (.iload_n 2, 1) := by decide +kernel
theorem dX10_crossingRoads_5 : decode cX10_crossingRoads 5 = .ok (.aload_n 0, 1) := by decide +kernel
theorem dX10_crossingRoads_6 : decode cX10_crossingRoads 6 = .ok (.getfield 124, 3) := by decide +kernel
theorem dX10_crossingRoads_9 : decode cX10_crossingRoads 9 = .ok (.if_icmp .ge 26, 3) := by decide +kernel
theorem dX10_crossingRoads_12 : decode cX10_crossingRoads 12 = .ok (.iload_n 1, 1) := by decide +kernel
theorem dX10_crossingRoads_13 : decode cX10_crossingRoads 13 = .ok (.aload_n 0, 1) := by decide +kernel
theorem dX10_crossingRoads_14 : decode cX10_crossingRoads 14 = .ok (.getfield 28, 3) := by decide +kernel
theorem dX10_crossingRoads_17 : decode cX10_crossingRoads 17 = .ok (.iload_n 2, 1) := by decide +kernel
theorem dX10_crossingRoads_18 : decode cX10_crossingRoads 18 = .ok (.iaload, 1) := by decide +kernel
theorem dX10_crossingRoads_19 : decode cX10_crossingRoads 19 = .ok (.ifCond .le 7, 3) := by decide +kernel
theorem dX10_crossingRoads_22 : decode cX10_crossingRoads 22 = .ok (.iconst 1, 1) := by decide +kernel
theorem dX10_crossingRoads_23 : decode cX10_crossingRoads 23 = .ok (.goto 4, 3) := by decide +kernel
theorem dX10_crossingRoads_26 : decode cX10_crossingRoads 26 = .ok (.iconst 0, 1) := by decide +kernel
theorem dX10_crossingRoads_27 : decode cX10_crossingRoads 27 = .ok (.iadd, 1) := by decide +kernel
theorem dX10_crossingRoads_28 : decode cX10_crossingRoads 28 = .ok (.istore_n 1, 1) := by decide +kernel
theorem dX10_crossingRoads_29 : decode cX10_crossingRoads 29 = .ok (.iinc 2 1, 3) := by decide +kernel
theorem dX10_crossingRoads_32 : decode cX10_crossingRoads 32 = .ok (.goto (-28), 3) := by decide +kernel
theorem dX10_crossingRoads_35 : decode cX10_crossingRoads 35 = .ok (.iload_n 1, 1) := by decide +kernel
theorem dX10_crossingRoads_36 : decode cX10_crossingRoads 36 = .ok (.ireturn, 1) := by decide +kernel
theorem dX10_many_0 : decode cX10_many 0 = .ok (.iload_n 1, 1) := by decide +kernel
theorem dX10_many_1 : decode cX10_many 1 = .ok (.tableswitch 80 0 6 #[43, 48, 53, 58, 63, 68, 74], 43) := by decide +kernel
theorem dX10_many_44 : decode cX10_many 44 = .ok (.aload_n 0, 1) := by decide +kernel
theorem dX10_many_45 : decode cX10_many 45 = .ok (.getfield 96, 3) := by decide +kernel
theorem dX10_many_48 : decode cX10_many 48 = .ok (.ireturn, 1) := by decide +kernel
theorem dX10_many_49 : decode cX10_many 49 = .ok (.aload_n 0, 1) := by decide +kernel
theorem dX10_many_50 : decode cX10_many 50 = .ok (.getfield 124, 3) := by decide +kernel
theorem dX10_many_53 : decode cX10_many 53 = .ok (.ireturn, 1) := by decide +kernel
theorem dX10_many_54 : decode cX10_many 54 = .ok (.aload_n 0, 1) := by decide +kernel
theorem dX10_many_55 : decode cX10_many 55 = .ok (.invokevirtual 316, 3) := by decide +kernel
theorem dX10_many_58 : decode cX10_many 58 = .ok (.ireturn, 1) := by decide +kernel
theorem dX10_many_59 : decode cX10_many 59 = .ok (.aload_n 0, 1) := by decide +kernel
theorem dX10_many_60 : decode cX10_many 60 = .ok (.getfield 133, 3) := by decide +kernel
theorem dX10_many_63 : decode cX10_many 63 = .ok (.ireturn, 1) := by decide +kernel
theorem dX10_many_64 : decode cX10_many 64 = .ok (.aload_n 0, 1) := by decide +kernel
theorem dX10_many_65 : decode cX10_many 65 = .ok (.getfield 295, 3) := by decide +kernel
theorem dX10_many_68 : decode cX10_many 68 = .ok (.ireturn, 1) := by decide +kernel
theorem dX10_many_69 : decode cX10_many 69 = .ok (.aload_n 0, 1) := by decide +kernel
theorem dX10_many_70 : decode cX10_many 70 = .ok (.iconst 1, 1) := by decide +kernel
theorem dX10_many_71 : decode cX10_many 71 = .ok (.invokevirtual 320, 3) := by decide +kernel
theorem dX10_many_74 : decode cX10_many 74 = .ok (.ireturn, 1) := by decide +kernel
theorem dX10_many_75 : decode cX10_many 75 = .ok (.aload_n 0, 1) := by decide +kernel
theorem dX10_many_76 : decode cX10_many 76 = .ok (.iconst 2, 1) := by decide +kernel
theorem dX10_many_77 : decode cX10_many 77 = .ok (.invokevirtual 320, 3) := by decide +kernel
theorem dX10_many_80 : decode cX10_many 80 = .ok (.ireturn, 1) := by decide +kernel
theorem dX10_many_81 : decode cX10_many 81 = .ok (.bipush (-2), 2) := by decide +kernel
theorem dX10_many_83 : decode cX10_many 83 = .ok (.ireturn, 1) := by decide +kernel
