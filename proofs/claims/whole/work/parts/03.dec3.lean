theorem dX10_init_0 : decode cX10_init 0 = .ok (.aload_n 0, 1) := by decide +kernel
theorem dX10_init_1 : decode cX10_init 1 = .ok (.invokespecial 1, 3) := by decide +kernel
theorem dX10_init_4 : decode cX10_init 4 = .ok (.aload_n 0, 1) := by decide +kernel
theorem dX10_init_5 : decode cX10_init 5 = .ok (.iconst 4, 1) := by decide +kernel
theorem dX10_init_6 : decode cX10_init 6 = .ok (.newarray .int, 2) := by decide +kernel
theorem dX10_init_8 : decode cX10_init 8 = .ok (.dup, 1) := by decide +kernel
theorem dX10_init_9 : decode cX10_init 9 = .ok (.iconst 0, 1) := by decide +kernel
theorem dX10_init_10 : decode cX10_init 10 = .ok (.bipush (-9), 2) := by decide +kernel
theorem dX10_init_12 : decode cX10_init 12 = .ok (.iastore, 1) := by decide +kernel
theorem dX10_init_13 : decode cX10_init 13 = .ok (.dup, 1) := by decide +kernel
theorem dX10_init_14 : decode cX10_init 14 = .ok (.iconst 1, 1) := by decide +kernel
theorem dX10_init_15 : decode cX10_init 15 = .ok (.bipush (-9), 2) := by decide +kernel
theorem dX10_init_17 : decode cX10_init 17 = .ok (.iastore, 1) := by decide +kernel
theorem dX10_init_18 : decode cX10_init 18 = .ok (.dup, 1) := by decide +kernel
theorem dX10_init_19 : decode cX10_init 19 = .ok (.iconst 2, 1) := by decide +kernel
theorem dX10_init_20 : decode cX10_init 20 = .ok (.bipush (-9), 2) := by decide +kernel
theorem dX10_init_22 : decode cX10_init 22 = .ok (.iastore, 1) := by decide +kernel
theorem dX10_init_23 : decode cX10_init 23 = .ok (.dup, 1) := by decide +kernel
theorem dX10_init_24 : decode cX10_init 24 = .ok (.iconst 3, 1) := by decide +kernel
theorem dX10_init_25 : decode cX10_init 25 = .ok (.bipush (-9), 2) := by decide +kernel
theorem dX10_init_27 : decode cX10_init 27 = .ok (.iastore, 1) := by decide +kernel
theorem dX10_init_28 : decode cX10_init 28 = .ok (.putfield 9, 3) := by decide +kernel
theorem dX10_init_31 : decode cX10_init 31 = .ok (.aload_n 0, 1) := by decide +kernel
theorem dX10_init_32 : decode cX10_init 32 = .ok (.iconst 4, 1) := by decide +kernel
theorem dX10_init_33 : decode cX10_init 33 = .ok (.newarray .int, 2) := by decide +kernel
theorem dX10_init_35 : decode cX10_init 35 = .ok (.putfield 13, 3) := by decide +kernel
theorem dX10_init_38 : decode cX10_init 38 = .ok (.aload_n 0, 1) := by decide +kernel
theorem dX10_init_39 : decode cX10_init 39 = .ok (.sipush 400, 3) := by decide +kernel
theorem dX10_init_42 : decode cX10_init 42 = .ok (.newarray .int, 2) := by decide +kernel
theorem dX10_init_44 : decode cX10_init 44 = .ok (.putfield 16, 3) := by decide +kernel
theorem dX10_init_47 : decode cX10_init 47 = .ok (.aload_n 0, 1) := by decide +kernel
theorem dX10_init_48 : decode cX10_init 48 = .ok (.bipush 12, 2) := by decide +kernel
theorem dX10_init_50 : decode cX10_init 50 = .ok (.newarray .int, 2) := by decide +kernel
theorem dX10_init_52 : decode cX10_init 52 = .ok (.putfield 19, 3) := by decide +kernel
theorem dX10_init_55 : decode cX10_init 55 = .ok (.aload_n 0, 1) := by decide +kernel
theorem dX10_init_56 : decode cX10_init 56 = .ok (.bipush 12, 2) := by decide +kernel
theorem dX10_init_58 : decode cX10_init 58 = .ok (.newarray .int, 2) := by decide +kernel
theorem dX10_init_60 : decode cX10_init 60 = .ok (.putfield 22, 3) := by decide +kernel
theorem dX10_init_63 : decode cX10_init 63 = .ok (.aload_n 0, 1) := by decide +kernel
theorem dX10_init_64 : decode cX10_init 64 = .ok (.bipush 12, 2) := by decide +kernel
theorem dX10_init_66 : decode cX10_init 66 = .ok (.newarray .int, 2) := by decide +kernel
theorem dX10_init_68 : decode cX10_init 68 = .ok (.putfield 25, 3) := by decide +kernel
theorem dX10_init_71 : decode cX10_init 71 = .ok (.aload_n 0, 1) := by decide +kernel
theorem dX10_init_72 : decode cX10_init 72 = .ok (.bipush 12, 2) := by decide +kernel
theorem dX10_init_74 : decode cX10_init 74 = .ok (.newarray .int, 2) := by decide +kernel
theorem dX10_init_76 : decode cX10_init 76 = .ok (.putfield 28, 3) := by decide +kernel
theorem dX10_init_79 : decode cX10_init 79 = .ok (.aload_n 0, 1) := by decide +kernel
theorem dX10_init_80 : decode cX10_init 80 = .ok (.bipush 12, 2) := by decide +kernel
theorem dX10_init_82 : decode cX10_init 82 = .ok (.newarray .int, 2) := by decide +kernel
theorem dX10_init_84 : decode cX10_init 84 = .ok (.putfield 31, 3) := by decide +kernel
theorem dX10_init_87 : decode cX10_init 87 = .ok (.aload_n 0, 1) := by decide +kernel
theorem dX10_init_88 : decode cX10_init 88 = .ok (.bipush 49, 2) := by decide +kernel
theorem dX10_init_90 : decode cX10_init 90 = .ok (.newarray .int, 2) := by decide +kernel
theorem dX10_init_92 : decode cX10_init 92 = .ok (.putfield 34, 3) := by decide +kernel
theorem dX10_init_95 : decode cX10_init 95 = .ok (.aload_n 0, 1) := by decide +kernel
theorem dX10_init_96 : decode cX10_init 96 = .ok (.bipush 60, 2) := by decide +kernel
theorem dX10_init_98 : decode cX10_init 98 = .ok (.newarray .int, 2) := by decide +kernel
theorem dX10_init_100 : decode cX10_init 100 = .ok (.putfield 37, 3) := by decide +kernel
theorem dX10_init_103 : decode cX10_init 103 = .ok (.aload_n 0, 1) := by decide +kernel
theorem dX10_init_104 : decode cX10_init 104 = .ok (.bipush 10, 2) := by decide +kernel
theorem dX10_init_106 : decode cX10_init 106 = .ok (.newarray .int, 2) := by decide +kernel
theorem dX10_init_108 : decode cX10_init 108 = .ok (.putfield 40, 3) := by decide +kernel
theorem dX10_init_111 : decode cX10_init 111 = .ok (.aload_n 0, 1) := by decide +kernel
theorem dX10_init_112 : decode cX10_init 112 = .ok (.bipush 10, 2) := by decide +kernel
theorem dX10_init_114 : decode cX10_init 114 = .ok (.newarray .int, 2) := by decide +kernel
theorem dX10_init_116 : decode cX10_init 116 = .ok (.putfield 43, 3) := by decide +kernel
theorem dX10_init_119 : decode cX10_init 119 = .ok (.aload_n 0, 1) := by decide +kernel
theorem dX10_init_120 : decode cX10_init 120 = .ok (.bipush 10, 2) := by decide +kernel
theorem dX10_init_122 : decode cX10_init 122 = .ok (.newarray .int, 2) := by decide +kernel
theorem dX10_init_124 : decode cX10_init 124 = .ok (.putfield 46, 3) := by decide +kernel
theorem dX10_init_127 : decode cX10_init 127 = .ok (.aload_n 0, 1) := by decide +kernel
theorem dX10_init_128 : decode cX10_init 128 = .ok (.bipush 10, 2) := by decide +kernel
theorem dX10_init_130 : decode cX10_init 130 = .ok (.newarray .int, 2) := by decide +kernel
theorem dX10_init_132 : decode cX10_init 132 = .ok (.putfield 49, 3) := by decide +kernel
theorem dX10_init_135 : decode cX10_init 135 = .ok (.aload_n 0, 1) := by decide +kernel
theorem dX10_init_136 : decode cX10_init 136 = .ok (.bipush 100, 2) := by decide +kernel
theorem dX10_init_138 : decode cX10_init 138 = .ok (.newarray .int, 2) := by decide +kernel
theorem dX10_init_140 : decode cX10_init 140 = .ok (.putfield 52, 3) := by decide +kernel
theorem dX10_init_143 : decode cX10_init 143 = .ok (.aload_n 0, 1) := by decide +kernel
theorem dX10_init_144 : decode cX10_init 144 = .ok (.sipush 7001, 3) := by decide +kernel
theorem dX10_init_147 : decode cX10_init 147 = .ok (.newarray .long, 2) := by decide +kernel
theorem dX10_init_149 : decode cX10_init 149 = .ok (.putfield 55, 3) := by decide +kernel
theorem dX10_init_152 : decode cX10_init 152 = .ok (.aload_n 0, 1) := by decide +kernel
theorem dX10_init_153 : decode cX10_init 153 = .ok (.bipush 7, 2) := by decide +kernel
theorem dX10_init_155 : decode cX10_init 155 = .ok (.newarray .int, 2) := by decide +kernel
theorem dX10_init_157 : decode cX10_init 157 = .ok (.putfield 59, 3) := by decide +kernel
theorem dX10_init_160 : decode cX10_init 160 = .ok (.aload_n 0, 1) := by decide +kernel
theorem dX10_init_161 : decode cX10_init 161 = .ok (.iconst 4, 1) := by decide +kernel
theorem dX10_init_162 : decode cX10_init 162 = .ok (.newarray .int, 2) := by decide +kernel
theorem dX10_init_164 : decode cX10_init 164 = .ok (.putfield 62, 3) := by decide +kernel
theorem dX10_init_167 : decode cX10_init 167 = .ok (.aload_n 0, 1) := by decide +kernel
theorem dX10_init_168 : decode cX10_init 168 = .ok (.bipush 7, 2) := by decide +kernel
theorem dX10_init_170 : decode cX10_init 170 = .ok (.newarray .int, 2) := by decide +kernel
theorem dX10_init_172 : decode cX10_init 172 = .ok (.putfield 65, 3) := by decide +kernel
theorem dX10_init_175 : decode cX10_init 175 = .ok (.aload_n 0, 1) := by decide +kernel
theorem dX10_init_176 : decode cX10_init 176 = .ok (.bipush 6, 2) := by decide +kernel
theorem dX10_init_178 : decode cX10_init 178 = .ok (.putfield 68, 3) := by decide +kernel
theorem dX10_init_181 : decode cX10_init 181 = .ok (.aload_n 0, 1) := by decide +kernel
theorem dX10_init_182 : decode cX10_init 182 = .ok (.bipush 8, 2) := by decide +kernel
theorem dX10_init_184 : decode cX10_init 184 = .ok (.newarray .int, 2) := by decide +kernel
theorem dX10_init_186 : decode cX10_init 186 = .ok (.putfield 72, 3) := by decide +kernel
theorem dX10_init_189 : decode cX10_init 189 = .ok (.aload_n 0, 1) := by decide +kernel
theorem dX10_init_190 : decode cX10_init 190 = .ok (.bipush 8, 2) := by decide +kernel
theorem dX10_init_192 : decode cX10_init 192 = .ok (.newarray .int, 2) := by decide +kernel
theorem dX10_init_194 : decode cX10_init 194 = .ok (.putfield 75, 3) := by decide +kernel
theorem dX10_init_197 : decode cX10_init 197 = .ok (.aload_n 0, 1) := by decide +kernel
theorem dX10_init_198 : decode cX10_init 198 = .ok (.iconst 5, 1) := by decide +kernel
theorem dX10_init_199 : decode cX10_init 199 = .ok (.newarray .int, 2) := by decide +kernel
theorem dX10_init_201 : decode cX10_init 201 = .ok (.putfield 78, 3) := by decide +kernel
theorem dX10_init_204 : decode cX10_init 204 = .ok (.aload_n 0, 1) := by decide +kernel
theorem dX10_init_205 : decode cX10_init 205 = .ok (.iconst 5, 1) := by decide +kernel
theorem dX10_init_206 : decode cX10_init 206 = .ok (.newarray .int, 2) := by decide +kernel
theorem dX10_init_208 : decode cX10_init 208 = .ok (.putfield 81, 3) := by decide +kernel
theorem dX10_init_211 : decode cX10_init 211 = .ok (.aload_n 0, 1) := by decide +kernel
theorem dX10_init_212 : decode cX10_init 212 = .ok (.iconst 5, 1) := by decide +kernel
theorem dX10_init_213 : decode cX10_init 213 = .ok (.newarray .int, 2) := by decide +kernel
theorem dX10_init_215 : decode cX10_init 215 = .ok (.putfield 84, 3) := by decide +kernel
theorem dX10_init_218 : decode cX10_init 218 = .ok (.return_, 1) := by decide +kernel
theorem dX10_fails_0 : decode cX10_fails 0 = .ok (.aload_n 0, 1) := by decide +kernel
theorem dX10_fails_1 : decode cX10_fails 1 = .ok (.iload_n 1, 1) := by decide +kernel
theorem dX10_fails_2 : decode cX10_fails 2 = .ok (.putfield 87, 3) := by decide +kernel
theorem dX10_fails_5 : decode cX10_fails 5 = .ok (.bipush (-10), 2) := by decide +kernel
theorem dX10_fails_7 : decode cX10_fails 7 = .ok (.iload_n 1, 1) := by decide +kernel
theorem dX10_fails_8 : decode cX10_fails 8 = .ok (.isub, 1) := by decide +kernel
theorem dX10_fails_9 : decode cX10_fails 9 = .ok (.ireturn, 1) := by decide +kernel
theorem dX10_lost_0 : decode cX10_lost 0 = .ok (.aload_n 0, 1) := by decide +kernel
theorem dX10_lost_1 : decode cX10_lost 1 = .ok (.iload_n 1, 1) := by decide +kernel
theorem dX10_lost_2 : decode cX10_lost 2 = .ok (.putfield 87, 3) := by decide +kernel
theorem dX10_lost_5 : decode cX10_lost 5 = .ok (.ldc2_w 90, 3) := by decide +kernel
theorem dX10_lost_8 : decode cX10_lost 8 = .ok (.lreturn, 1) := by decide +kernel
theorem dX10_within_0 : decode cX10_within 0 = .ok (.iload_n 0, 1) := by decide +kernel
theorem dX10_within_1 : decode cX10_within 1 = .ok (.iload_n 1, 1) := by decide +kernel
theorem dX10_within_2 : decode cX10_within 2 = .ok (.if_icmp .lt 12, 3) := by decide +kernel
theorem dX10_within_5 : decode cX10_within 5 = .ok (.iload_n 0, 1) := by decide +kernel
theorem dX10_within_6 : decode cX10_within 6 = .ok (.iload_n 2, 1) := by decide +kernel
theorem dX10_within_7 : decode cX10_within 7 = .ok (.if_icmp .gt 7, 3) := by decide +kernel
theorem dX10_within_10 : decode cX10_within 10 = .ok (.iconst 1, 1) := by decide +kernel
theorem dX10_within_11 : decode cX10_within 11 = .ok (.goto 4, 3) := by decide +kernel
theorem dX10_within_14 : decode cX10_within 14 = .ok (.iconst 0, 1) := by decide +kernel
theorem dX10_within_15 : decode cX10_within 15 = .ok (.ireturn, 1) := by decide +kernel
theorem dX10_has_0 : decode cX10_has 0 = .ok (.iload_n 0, 1) := by decide +kernel
theorem dX10_has_1 : decode cX10_has 1 = .ok (.iload_n 1, 1) := by decide +kernel
theorem dX10_has_2 : decode cX10_has 2 = .ok (.ishr, 1) := by decide +kernel
theorem dX10_has_3 : decode cX10_has 3 = .ok (.iconst 1, 1) := by decide +kernel
theorem dX10_has_4 : decode cX10_has 4 = .ok (.iand, 1) := by decide +kernel
theorem dX10_has_5 : decode cX10_has 5 = .ok (.iconst 1, 1) := by decide +kernel
theorem dX10_has_6 : decode cX10_has 6 = .ok (.if_icmp .ne 7, 3) := by decide +kernel
theorem dX10_has_9 : decode cX10_has 9 = .ok (.iconst 1, 1) := by decide +kernel
theorem dX10_has_10 : decode cX10_has 10 = .ok (.goto 4, 3) := by decide +kernel
theorem dX10_has_13 : decode cX10_has 13 = .ok (.iconst 0, 1) := by decide +kernel
theorem dX10_has_14 : decode cX10_has 14 = .ok (.ireturn, 1) := by decide +kernel
theorem dX10_bitsOf_0 : decode cX10_bitsOf 0 = .ok (.iconst 0, 1) := by decide +kernel
theorem dX10_bitsOf_1 : decode cX10_bitsOf 1 = .ok (.istore_n 1, 1) := by decide +kernel
theorem dX10_bitsOf_2 : decode cX10_bitsOf 2 = .ok (.iconst 0, 1) := by decide +kernel
theorem dX10_bitsOf_3 : decode cX10_bitsOf 3 = .ok (.istore_n 2, 1) := by decide +kernel
theorem dX10_bitsOf_4 : decode cX10_bitsOf 4 = .ok (.iload_n 2, 1) := by decide +kernel
theorem dX10_bitsOf_5 : decode cX10_bitsOf 5 = .ok (.bipush 30, 2) := by decide +kernel
theorem dX10_bitsOf_7 : decode cX10_bitsOf 7 = .ok (.if_icmp .ge 17, 3) := by decide +kernel
theorem dX10_bitsOf_10 : decode cX10_bitsOf 10 = .ok (.iload_n 1, 1) := by decide +kernel
theorem dX10_bitsOf_11 : decode cX10_bitsOf 11 = .ok (.iload_n 0, 1) := by decide +kernel
theorem dX10_bitsOf_12 : decode cX10_bitsOf 12 = .ok (.iload_n 2, 1) := by decide +kernel
theorem dX10_bitsOf_13 : decode cX10_bitsOf 13 = .ok (.ishr, 1) := by decide +kernel
theorem dX10_bitsOf_14 : decode cX10_bitsOf 14 = .ok (.iconst 1, 1) := by decide +kernel
theorem dX10_bitsOf_15 : decode cX10_bitsOf 15 = .ok (.iand, 1) := by decide +kernel
theorem dX10_bitsOf_16 : decode cX10_bitsOf 16 = .ok (.iadd, 1) := by decide +kernel
theorem dX10_bitsOf_17 : decode cX10_bitsOf 17 = .ok (.istore_n 1, 1) := by decide +kernel
theorem dX10_bitsOf_18 : decode cX10_bitsOf 18 = .ok (.iinc 2 1, 3) := by decide +kernel
theorem dX10_bitsOf_21 : decode cX10_bitsOf 21 = .ok (.goto (-17), 3) := by decide +kernel
theorem dX10_bitsOf_24 : decode cX10_bitsOf 24 = .ok (.iload_n 1, 1) := by decide +kernel
theorem dX10_bitsOf_25 : decode cX10_bitsOf 25 = .ok (.ireturn, 1) := by decide +kernel
theorem dX10_isSheet_0 : decode cX10_isSheet 0 = .ok (.iload_n 0, 1) := by decide +kernel
theorem dX10_isSheet_1 : decode cX10_isSheet 1 = .ok (.iconst 0, 1) := by decide +kernel
theorem dX10_isSheet_2 : decode cX10_isSheet 2 = .ok (.iconst 3, 1) := by decide +kernel
theorem dX10_isSheet_3 : decode cX10_isSheet 3 = .ok (.invokestatic 92, 3) := by decide +kernel
theorem dX10_isSheet_6 : decode cX10_isSheet 6 = .ok (.ireturn, 1) := by decide +kernel
theorem dX10_isSort_0 : decode cX10_isSort 0 = .ok (.iload_n 0, 1) := by decide +kernel
theorem dX10_isSort_1 : decode cX10_isSort 1 = .ok (.iconst 0, 1) := by decide +kernel
theorem dX10_isSort_2 : decode cX10_isSort 2 = .ok (.iconst 2, 1) := by decide +kernel
theorem dX10_isSort_3 : decode cX10_isSort 3 = .ok (.invokestatic 92, 3) := by decide +kernel
theorem dX10_isSort_6 : decode cX10_isSort 6 = .ok (.ireturn, 1) := by decide +kernel
theorem dX10_against_0 : decode cX10_against 0 = .ok (.aload_n 0, 1) := by decide +kernel
theorem dX10_against_1 : decode cX10_against 1 = .ok (.getfield 9, 3) := by decide +kernel
theorem dX10_against_4 : decode cX10_against 4 = .ok (.iload_n 1, 1) := by decide +kernel
theorem dX10_against_5 : decode cX10_against 5 = .ok (.iaload, 1) := by decide +kernel
theorem dX10_against_6 : decode cX10_against 6 = .ok (.bipush (-9), 2) := by decide +kernel
theorem dX10_against_8 : decode cX10_against 8 = .ok (.if_icmp .eq 15, 3) := by decide +kernel
theorem dX10_against_11 : decode cX10_against 11 = .ok (.aload_n 0, 1) := by decide +kernel
theorem dX10_against_12 : decode cX10_against 12 = .ok (.getfield 9, 3) := by decide +kernel
theorem dX10_against_15 : decode cX10_against 15 = .ok (.iload_n 1, 1) := by decide +kernel
theorem dX10_against_16 : decode cX10_against 16 = .ok (.iaload, 1) := by decide +kernel
theorem dX10_against_17 : decode cX10_against 17 = .ok (.iload_n 2, 1) := by decide +kernel
theorem dX10_against_18 : decode cX10_against 18 = .ok (.if_icmp .eq 5, 3) := by decide +kernel
theorem dX10_against_21 : decode cX10_against 21 = .ok (.iconst 2, 1) := by decide +kernel
theorem dX10_against_22 : decode cX10_against 22 = .ok (.ireturn, 1) := by decide +kernel
theorem dX10_against_23 : decode cX10_against 23 = .ok (.aload_n 0, 1) := by decide +kernel
theorem dX10_against_24 : decode cX10_against 24 = .ok (.getfield 9, 3) := by decide +kernel
theorem dX10_against_27 : decode cX10_against 27 = .ok (.iload_n 1, 1) := by decide +kernel
theorem dX10_against_28 : decode cX10_against 28 = .ok (.iaload, 1) := by decide +kernel
theorem dX10_against_29 : decode cX10_against 29 = .ok (.bipush (-9), 2) := by decide +kernel
theorem dX10_against_31 : decode cX10_against 31 = .ok (.if_icmp .ne 5, 3) := by decide +kernel
theorem dX10_against_34 : decode cX10_against 34 = .ok (.iconst 1, 1) := by decide +kernel
theorem dX10_against_35 : decode cX10_against 35 = .ok (.ireturn, 1) := by decide +kernel
theorem dX10_against_36 : decode cX10_against 36 = .ok (.iload 4, 2) := by decide +kernel
theorem dX10_against_38 : decode cX10_against 38 = .ok (.ifCond .ge 5, 3) := by decide +kernel
theorem dX10_against_41 : decode cX10_against 41 = .ok (.iconst 4, 1) := by decide +kernel
theorem dX10_against_42 : decode cX10_against 42 = .ok (.ireturn, 1) := by decide +kernel
theorem dX10_against_43 : decode cX10_against 43 = .ok (.iload_n 3, 1) := by decide +kernel
theorem dX10_against_44 : decode cX10_against 44 = .ok (.ifCond .lt 26, 3) := by decide +kernel
theorem dX10_against_47 : decode cX10_against 47 = .ok (.iload_n 3, 1) := by decide +kernel
theorem dX10_against_48 : decode cX10_against 48 = .ok (.aload_n 0, 1) := by decide +kernel
theorem dX10_against_49 : decode cX10_against 49 = .ok (.getfield 13, 3) := by decide +kernel
theorem dX10_against_52 : decode cX10_against 52 = .ok (.iload_n 1, 1) := by decide +kernel
theorem dX10_against_53 : decode cX10_against 53 = .ok (.iaload, 1) := by decide +kernel
theorem dX10_against_54 : decode cX10_against 54 = .ok (.if_icmp .gt 16, 3) := by decide +kernel
theorem dX10_against_57 : decode cX10_against 57 = .ok (.iload 4, 2) := by decide +kernel
theorem dX10_against_59 : decode cX10_against 59 = .ok (.aload_n 0, 1) := by decide +kernel
theorem dX10_against_60 : decode cX10_against 60 = .ok (.getfield 13, 3) := by decide +kernel
theorem dX10_against_63 : decode cX10_against 63 = .ok (.iload_n 1, 1) := by decide +kernel
theorem dX10_against_64 : decode cX10_against 64 = .ok (.iaload, 1) := by decide +kernel
theorem dX10_against_65 : decode cX10_against 65 = .ok (.iload_n 3, 1) := by decide +kernel
theorem dX10_against_66 : decode cX10_against 66 = .ok (.isub, 1) := by decide +kernel
theorem dX10_against_67 : decode cX10_against 67 = .ok (.if_icmp .le 7, 3) := by decide +kernel
theorem dX10_against_70 : decode cX10_against 70 = .ok (.iconst 3, 1) := by decide +kernel
theorem dX10_against_71 : decode cX10_against 71 = .ok (.goto 4, 3) := by decide +kernel
theorem dX10_against_74 : decode cX10_against 74 = .ok (.iconst 0, 1) := by decide +kernel
theorem dX10_against_75 : decode cX10_against 75 = .ok (.ireturn, 1) := by decide +kernel
theorem dX10_isCorner_0 : decode cX10_isCorner 0 = .ok (.iload_n 1, 1) := by decide +kernel
theorem dX10_isCorner_1 : decode cX10_isCorner 1 = .ok (.ifCond .lt 15, 3) := by decide +kernel
theorem dX10_isCorner_4 : decode cX10_isCorner 4 = .ok (.iload_n 1, 1) := by decide +kernel
theorem dX10_isCorner_5 : decode cX10_isCorner 5 = .ok (.aload_n 0, 1) := by decide +kernel
theorem dX10_isCorner_6 : decode cX10_isCorner 6 = .ok (.getfield 96, 3) := by decide +kernel
theorem dX10_isCorner_9 : decode cX10_isCorner 9 = .ok (.if_icmp .ge 7, 3) := by decide +kernel
theorem dX10_isCorner_12 : decode cX10_isCorner 12 = .ok (.iconst 1, 1) := by decide +kernel
theorem dX10_isCorner_13 : decode cX10_isCorner 13 = .ok (.goto 4, 3) := by decide +kernel
theorem dX10_isCorner_16 : decode cX10_isCorner 16 = .ok (.iconst 0, 1) := by decide +kernel
theorem dX10_isCorner_17 : decode cX10_isCorner 17 = .ok (.ireturn, 1) := by decide +kernel
theorem dX10_streets_0 : decode cX10_streets 0 = .ok (.aload_n 0, 1) := by decide +kernel
theorem dX10_streets_1 : decode cX10_streets 1 = .ok (.iconst 0, 1) := by decide +kernel
theorem dX10_streets_2 : decode cX10_streets 2 = .ok (.putfield 87, 3) := by decide +kernel
theorem dX10_streets_5 : decode cX10_streets 5 = .ok (.iload_n 1, 1) := by decide +kernel
theorem dX10_streets_6 : decode cX10_streets 6 = .ok (.invokestatic 99, 3) := by decide +kernel
theorem dX10_streets_9 : decode cX10_streets 9 = .ok (.ifCond .ne 5, 3) := by decide +kernel
theorem dX10_streets_12 : decode cX10_streets 12 = .ok (.iconst (-1), 1) := by decide +kernel
theorem dX10_streets_13 : decode cX10_streets 13 = .ok (.ireturn, 1) := by decide +kernel
theorem dX10_streets_14 : decode cX10_streets 14 = .ok (.iload_n 2, 1) := by decide +kernel
theorem dX10_streets_15 : decode cX10_streets 15 = .ok (.invokestatic 103, 3) := by decide +kernel
theorem dX10_streets_18 : decode cX10_streets 18 = .ok (.ifCond .ne 6, 3) := by decide +kernel
theorem dX10_streets_21 : decode cX10_streets 21 = .ok (.bipush (-2), 2) := by decide +kernel
theorem dX10_streets_23 : decode cX10_streets 23 = .ok (.ireturn, 1) := by decide +kernel
theorem dX10_streets_24 : decode cX10_streets 24 = .ok (.aload_n 0, 1) := by decide +kernel
theorem dX10_streets_25 : decode cX10_streets 25 = .ok (.iload_n 1, 1) := by decide +kernel
theorem dX10_streets_26 : decode cX10_streets 26 = .ok (.iload_n 2, 1) := by decide +kernel
theorem dX10_streets_27 : decode cX10_streets 27 = .ok (.iload_n 3, 1) := by decide +kernel
theorem dX10_streets_28 : decode cX10_streets 28 = .ok (.iload 4, 2) := by decide +kernel
theorem dX10_streets_30 : decode cX10_streets 30 = .ok (.invokevirtual 106, 3) := by decide +kernel
theorem dX10_streets_33 : decode cX10_streets 33 = .ok (.istore 5, 2) := by decide +kernel
theorem dX10_streets_35 : decode cX10_streets 35 = .ok (.iload 5, 2) := by decide +kernel
theorem dX10_streets_37 : decode cX10_streets 37 = .ok (.ifCond .eq 10, 3) := by decide +kernel
theorem dX10_streets_40 : decode cX10_streets 40 = .ok (.aload_n 0, 1) := by decide +kernel
theorem dX10_streets_41 : decode cX10_streets 41 = .ok (.iload 5, 2) := by decide +kernel
theorem dX10_streets_43 : decode cX10_streets 43 = .ok (.invokevirtual 110, 3) := by decide +kernel
theorem dX10_streets_46 : decode cX10_streets 46 = .ok (.ireturn, 1) := by decide +kernel
theorem dX10_streets_47 : decode cX10_streets 47 = .ok (.aload_n 0, 1) := by decide +kernel
theorem dX10_streets_48 : decode cX10_streets 48 = .ok (.bipush 100, 2) := by decide +kernel
theorem dX10_streets_50 : decode cX10_streets 50 = .ok (.iload_n 1, 1) := by decide +kernel
theorem dX10_streets_51 : decode cX10_streets 51 = .ok (.imul, 1) := by decide +kernel
theorem dX10_streets_52 : decode cX10_streets 52 = .ok (.iload_n 3, 1) := by decide +kernel
theorem dX10_streets_53 : decode cX10_streets 53 = .ok (.iadd, 1) := by decide +kernel
theorem dX10_streets_54 : decode cX10_streets 54 = .ok (.iload 4, 2) := by decide +kernel
theorem dX10_streets_56 : decode cX10_streets 56 = .ok (.invokevirtual 114, 3) := by decide +kernel
theorem dX10_streets_59 : decode cX10_streets 59 = .ok (.istore 6, 2) := by decide +kernel
theorem dX10_streets_61 : decode cX10_streets 61 = .ok (.iload 6, 2) := by decide +kernel
theorem dX10_streets_63 : decode cX10_streets 63 = .ok (.bipush (-9), 2) := by decide +kernel
theorem dX10_streets_65 : decode cX10_streets 65 = .ok (.if_icmp .eq 9, 3) := by decide +kernel
theorem dX10_streets_68 : decode cX10_streets 68 = .ok (.bipush (-100), 2) := by decide +kernel
theorem dX10_streets_70 : decode cX10_streets 70 = .ok (.iload 6, 2) := by decide +kernel
theorem dX10_streets_72 : decode cX10_streets 72 = .ok (.isub, 1) := by decide +kernel
theorem dX10_streets_73 : decode cX10_streets 73 = .ok (.ireturn, 1) := by decide +kernel
theorem dX10_streets_74 : decode cX10_streets 74 = .ok (.aload_n 0, 1) := by decide +kernel
theorem dX10_streets_75 : decode cX10_streets 75 = .ok (.aload_n 0, 1) := by decide +kernel
theorem dX10_streets_76 : decode cX10_streets 76 = .ok (.getfield 118, 3) := by decide +kernel
theorem dX10_streets_79 : decode cX10_streets 79 = .ok (.putfield 96, 3) := by decide +kernel
theorem dX10_streets_82 : decode cX10_streets 82 = .ok (.aload_n 0, 1) := by decide +kernel
theorem dX10_streets_83 : decode cX10_streets 83 = .ok (.aload_n 0, 1) := by decide +kernel
theorem dX10_streets_84 : decode cX10_streets 84 = .ok (.getfield 121, 3) := by decide +kernel
theorem dX10_streets_87 : decode cX10_streets 87 = .ok (.putfield 124, 3) := by decide +kernel
theorem dX10_streets_90 : decode cX10_streets 90 = .ok (.aload_n 0, 1) := by decide +kernel
theorem dX10_streets_91 : decode cX10_streets 91 = .ok (.aload_n 0, 1) := by decide +kernel
theorem dX10_streets_92 : decode cX10_streets 92 = .ok (.getfield 127, 3) := by decide +kernel
theorem dX10_streets_95 : decode cX10_streets 95 = .ok (.putfield 130, 3) := by decide +kernel
theorem dX10_streets_98 : decode cX10_streets 98 = .ok (.iconst 0, 1) := by decide +kernel
theorem dX10_streets_99 : decode cX10_streets 99 = .ok (.istore 7, 2) := by decide +kernel
theorem dX10_streets_101 : decode cX10_streets 101 = .ok (.iload 7, 2) := by decide +kernel
theorem dX10_streets_103 : decode cX10_streets 103 = .ok (.aload_n 0, 1) := by decide +kernel
theorem dX10_streets_104 : decode cX10_streets 104 = .ok (.getfield 124, 3) := by decide +kernel
theorem dX10_streets_107 : decode cX10_streets 107 = .ok (.if_icmp .ge 97, 3) := by decide +kernel
theorem dX10_streets_110 : decode cX10_streets 110 = .ok (.aload_n 0, 1) := by decide +kernel
theorem dX10_streets_111 : decode cX10_streets 111 = .ok (.getfield 19, 3) := by decide +kernel
theorem dX10_streets_114 : decode cX10_streets 114 = .ok (.iload 7, 2) := by decide +kernel
theorem dX10_streets_116 : decode cX10_streets 116 = .ok (.aload_n 0, 1) := by decide +kernel
theorem dX10_streets_117 : decode cX10_streets 117 = .ok (.getfield 37, 3) := by decide +kernel
theorem dX10_streets_120 : decode cX10_streets 120 = .ok (.iconst 5, 1) := by decide +kernel
theorem dX10_streets_121 : decode cX10_streets 121 = .ok (.iload 7, 2) := by decide +kernel
theorem dX10_streets_123 : decode cX10_streets 123 = .ok (.imul, 1) := by decide +kernel
theorem dX10_streets_124 : decode cX10_streets 124 = .ok (.iaload, 1) := by decide +kernel
theorem dX10_streets_125 : decode cX10_streets 125 = .ok (.iastore, 1) := by decide +kernel
theorem dX10_streets_126 : decode cX10_streets 126 = .ok (.aload_n 0, 1) := by decide +kernel
theorem dX10_streets_127 : decode cX10_streets 127 = .ok (.getfield 22, 3) := by decide +kernel
theorem dX10_streets_130 : decode cX10_streets 130 = .ok (.iload 7, 2) := by decide +kernel
theorem dX10_streets_132 : decode cX10_streets 132 = .ok (.aload_n 0, 1) := by decide +kernel
theorem dX10_streets_133 : decode cX10_streets 133 = .ok (.getfield 37, 3) := by decide +kernel
theorem dX10_streets_136 : decode cX10_streets 136 = .ok (.iconst 5, 1) := by decide +kernel
theorem dX10_streets_137 : decode cX10_streets 137 = .ok (.iload 7, 2) := by decide +kernel
theorem dX10_streets_139 : decode cX10_streets 139 = .ok (.imul, 1) := by decide +kernel
theorem dX10_streets_140 : decode cX10_streets 140 = .ok (.iconst 1, 1) := by decide +kernel
theorem dX10_streets_141 : decode cX10_streets 141 = .ok (.iadd, 1) := by decide +kernel
theorem dX10_streets_142 : decode cX10_streets 142 = .ok (.iaload, 1) := by decide +kernel
theorem dX10_streets_143 : decode cX10_streets 143 = .ok (.iastore, 1) := by decide +kernel
theorem dX10_streets_144 : decode cX10_streets 144 = .ok (.aload_n 0, 1) := by decide +kernel
theorem dX10_streets_145 : decode cX10_streets 145 = .ok (.getfield 25, 3) := by decide +kernel
theorem dX10_streets_148 : decode cX10_streets 148 = .ok (.iload 7, 2) := by decide +kernel
theorem dX10_streets_150 : decode cX10_streets 150 = .ok (.aload_n 0, 1) := by decide +kernel
theorem dX10_streets_151 : decode cX10_streets 151 = .ok (.getfield 37, 3) := by decide +kernel
theorem dX10_streets_154 : decode cX10_streets 154 = .ok (.iconst 5, 1) := by decide +kernel
theorem dX10_streets_155 : decode cX10_streets 155 = .ok (.iload 7, 2) := by decide +kernel
theorem dX10_streets_157 : decode cX10_streets 157 = .ok (.imul, 1) := by decide +kernel
theorem dX10_streets_158 : decode cX10_streets 158 = .ok (.iconst 2, 1) := by decide +kernel
theorem dX10_streets_159 : decode cX10_streets 159 = .ok (.iadd, 1) := by decide +kernel
theorem dX10_streets_160 : decode cX10_streets 160 = .ok (.iaload, 1) := by decide +kernel
theorem dX10_streets_161 : decode cX10_streets 161 = .ok (.iastore, 1) := by decide +kernel
theorem dX10_streets_162 : decode cX10_streets 162 = .ok (.aload_n 0, 1) := by decide +kernel
theorem dX10_streets_163 : decode cX10_streets 163 = .ok (.getfield 28, 3) := by decide +kernel
theorem dX10_streets_166 : decode cX10_streets 166 = .ok (.iload 7, 2) := by decide +kernel
theorem dX10_streets_168 : decode cX10_streets 168 = .ok (.aload_n 0, 1) := by decide +kernel
theorem dX10_streets_169 : decode cX10_streets 169 = .ok (.getfield 37, 3) := by decide +kernel
theorem dX10_streets_172 : decode cX10_streets 172 = .ok (.iconst 5, 1) := by decide +kernel
theorem dX10_streets_173 : decode cX10_streets 173 = .ok (.iload 7, 2) := by decide +kernel
theorem dX10_streets_175 : decode cX10_streets 175 = .ok (.imul, 1) := by decide +kernel
theorem dX10_streets_176 : decode cX10_streets 176 = .ok (.iconst 3, 1) := by decide +kernel
theorem dX10_streets_177 : decode cX10_streets 177 = .ok (.iadd, 1) := by decide +kernel
theorem dX10_streets_178 : decode cX10_streets 178 = .ok (.iaload, 1) := by decide +kernel
theorem dX10_streets_179 : decode cX10_streets 179 = .ok (.iastore, 1) := by decide +kernel
theorem dX10_streets_180 : decode cX10_streets 180 = .ok (.aload_n 0, 1) := by decide +kernel
theorem dX10_streets_181 : decode cX10_streets 181 = .ok (.getfield 31, 3) := by decide +kernel
theorem dX10_streets_184 : decode cX10_streets 184 = .ok (.iload 7, 2) := by decide +kernel
theorem dX10_streets_186 : decode cX10_streets 186 = .ok (.aload_n 0, 1) := by decide +kernel
theorem dX10_streets_187 : decode cX10_streets 187 = .ok (.getfield 37, 3) := by decide +kernel
theorem dX10_streets_190 : decode cX10_streets 190 = .ok (.iconst 5, 1) := by decide +kernel
theorem dX10_streets_191 : decode cX10_streets 191 = .ok (.iload 7, 2) := by decide +kernel
theorem dX10_streets_193 : decode cX10_streets 193 = .ok (.imul, 1) := by decide +kernel
theorem dX10_streets_194 : decode cX10_streets 194 = .ok (.iconst 4, 1) := by decide +kernel
theorem dX10_streets_195 : decode cX10_streets 195 = .ok (.iadd, 1) := by decide +kernel
theorem dX10_streets_196 : decode cX10_streets 196 = .ok (.iaload, 1) := by decide +kernel
theorem dX10_streets_197 : decode cX10_streets 197 = .ok (.iastore, 1) := by decide +kernel
theorem dX10_streets_198 : decode cX10_streets 198 = .ok (.iinc 7 1, 3) := by decide +kernel
theorem dX10_streets_201 : decode cX10_streets 201 = .ok (.goto (-100), 3) := by decide +kernel
theorem dX10_streets_204 : decode cX10_streets 204 = .ok (.aload_n 0, 1) := by decide +kernel
theorem dX10_streets_205 : decode cX10_streets 205 = .ok (.iconst 0, 1) := by decide +kernel
theorem dX10_streets_206 : decode cX10_streets 206 = .ok (.putfield 133, 3) := by decide +kernel
theorem dX10_streets_209 : decode cX10_streets 209 = .ok (.aload_n 0, 1) := by decide +kernel
theorem dX10_streets_210 : decode cX10_streets 210 = .ok (.invokevirtual 136, 3) := by decide +kernel
theorem dX10_streets_213 : decode cX10_streets 213 = .ok (.aload_n 0, 1) := by decide +kernel
theorem dX10_streets_214 : decode cX10_streets 214 = .ok (.getfield 124, 3) := by decide +kernel
theorem dX10_streets_217 : decode cX10_streets 217 = .ok (.ireturn, 1) := by decide +kernel
theorem dX10_digitAt_0 : decode cX10_digitAt 0 = .ok (.iload_n 1, 1) := by decide +kernel
theorem dX10_digitAt_1 : decode cX10_digitAt 1 = .ok (.iload_n 2, 1) := by decide +kernel
theorem dX10_digitAt_2 : decode cX10_digitAt 2 = .ok (.if_icmp .ge 31, 3) := by decide +kernel
theorem dX10_digitAt_5 : decode cX10_digitAt 5 = .ok (.aload_n 0, 1) := by decide +kernel
theorem dX10_digitAt_6 : decode cX10_digitAt 6 = .ok (.getfield 16, 3) := by decide +kernel
theorem dX10_digitAt_9 : decode cX10_digitAt 9 = .ok (.iload_n 1, 1) := by decide +kernel
theorem dX10_digitAt_10 : decode cX10_digitAt 10 = .ok (.iaload, 1) := by decide +kernel
theorem dX10_digitAt_11 : decode cX10_digitAt 11 = .ok (.bipush 48, 2) := by decide +kernel
theorem dX10_digitAt_13 : decode cX10_digitAt 13 = .ok (.bipush 57, 2) := by decide +kernel
theorem dX10_digitAt_15 : decode cX10_digitAt 15 = .ok (.invokestatic 92, 3) := by decide +kernel
theorem dX10_digitAt_18 : decode cX10_digitAt 18 = .ok (.ifCond .eq 15, 3) := by decide +kernel
theorem dX10_digitAt_21 : decode cX10_digitAt 21 = .ok (.aload_n 0, 1) := by decide +kernel
theorem dX10_digitAt_22 : decode cX10_digitAt 22 = .ok (.getfield 16, 3) := by decide +kernel
theorem dX10_digitAt_25 : decode cX10_digitAt 25 = .ok (.iload_n 1, 1) := by decide +kernel
theorem dX10_digitAt_26 : decode cX10_digitAt 26 = .ok (.iaload, 1) := by decide +kernel
theorem dX10_digitAt_27 : decode cX10_digitAt 27 = .ok (.bipush 48, 2) := by decide +kernel
theorem dX10_digitAt_29 : decode cX10_digitAt 29 = .ok (.isub, 1) := by decide +kernel
theorem dX10_digitAt_30 : decode cX10_digitAt 30 = .ok (.goto 5, 3) := by decide +kernel
theorem dX10_digitAt_33 : decode cX10_digitAt 33 = .ok (.bipush (-9), 2) := by decide +kernel
theorem dX10_digitAt_35 : decode cX10_digitAt 35 = .ok (.ireturn, 1) := by decide +kernel
theorem dX10_readStreets_0 : decode cX10_readStreets 0 = .ok (.iload_n 1, 1) := by decide +kernel
theorem dX10_readStreets_1 : decode cX10_readStreets 1 = .ok (.iload_n 2, 1) := by decide +kernel
theorem dX10_readStreets_2 : decode cX10_readStreets 2 = .ok (.iadd, 1) := by decide +kernel
theorem dX10_readStreets_3 : decode cX10_readStreets 3 = .ok (.istore_n 3, 1) := by decide +kernel
theorem dX10_readStreets_4 : decode cX10_readStreets 4 = .ok (.aload_n 0, 1) := by decide +kernel
theorem dX10_readStreets_5 : decode cX10_readStreets 5 = .ok (.iconst 0, 1) := by decide +kernel
theorem dX10_readStreets_6 : decode cX10_readStreets 6 = .ok (.putfield 121, 3) := by decide +kernel
theorem dX10_readStreets_9 : decode cX10_readStreets 9 = .ok (.iload_n 2, 1) := by decide +kernel
theorem dX10_readStreets_10 : decode cX10_readStreets 10 = .ok (.iconst 1, 1) := by decide +kernel
theorem dX10_readStreets_11 : decode cX10_readStreets 11 = .ok (.if_icmp .lt 14, 3) := by decide +kernel
theorem dX10_readStreets_14 : decode cX10_readStreets 14 = .ok (.aload_n 0, 1) := by decide +kernel
theorem dX10_readStreets_15 : decode cX10_readStreets 15 = .ok (.getfield 16, 3) := by decide +kernel
theorem dX10_readStreets_18 : decode cX10_readStreets 18 = .ok (.iload_n 1, 1) := by decide +kernel
theorem dX10_readStreets_19 : decode cX10_readStreets 19 = .ok (.iaload, 1) := by decide +kernel
theorem dX10_readStreets_20 : decode cX10_readStreets 20 = .ok (.bipush 110, 2) := by decide +kernel
theorem dX10_readStreets_22 : decode cX10_readStreets 22 = .ok (.if_icmp .eq 5, 3) := by decide +kernel
theorem dX10_readStreets_25 : decode cX10_readStreets 25 = .ok (.iconst 0, 1) := by decide +kernel
theorem dX10_readStreets_26 : decode cX10_readStreets 26 = .ok (.ireturn, 1) := by decide +kernel
theorem dX10_readStreets_27 : decode cX10_readStreets 27 = .ok (.aload_n 0, 1) := by decide +kernel
theorem dX10_readStreets_28 : decode cX10_readStreets 28 = .ok (.aload_n 0, 1) := by decide +kernel
theorem dX10_readStreets_29 : decode cX10_readStreets 29 = .ok (.iload_n 1, 1) := by decide +kernel
theorem dX10_readStreets_30 : decode cX10_readStreets 30 = .ok (.iconst 1, 1) := by decide +kernel
theorem dX10_readStreets_31 : decode cX10_readStreets 31 = .ok (.iadd, 1) := by decide +kernel
theorem dX10_readStreets_32 : decode cX10_readStreets 32 = .ok (.iload_n 3, 1) := by decide +kernel
theorem dX10_readStreets_33 : decode cX10_readStreets 33 = .ok (.invokevirtual 139, 3) := by decide +kernel
theorem dX10_readStreets_36 : decode cX10_readStreets 36 = .ok (.putfield 118, 3) := by decide +kernel
theorem dX10_readStreets_39 : decode cX10_readStreets 39 = .ok (.aload_n 0, 1) := by decide +kernel
theorem dX10_readStreets_40 : decode cX10_readStreets 40 = .ok (.getfield 118, 3) := by decide +kernel
theorem dX10_readStreets_43 : decode cX10_readStreets 43 = .ok (.iconst 2, 1) := by decide +kernel
theorem dX10_readStreets_44 : decode cX10_readStreets 44 = .ok (.bipush 7, 2) := by decide +kernel
theorem dX10_readStreets_46 : decode cX10_readStreets 46 = .ok (.invokestatic 92, 3) := by decide +kernel
theorem dX10_readStreets_49 : decode cX10_readStreets 49 = .ok (.ifCond .ne 5, 3) := by decide +kernel
theorem dX10_readStreets_52 : decode cX10_readStreets 52 = .ok (.iconst 1, 1) := by decide +kernel
theorem dX10_readStreets_53 : decode cX10_readStreets 53 = .ok (.ireturn, 1) := by decide +kernel
theorem dX10_readStreets_54 : decode cX10_readStreets 54 = .ok (.aload_n 0, 1) := by decide +kernel
theorem dX10_readStreets_55 : decode cX10_readStreets 55 = .ok (.iload_n 1, 1) := by decide +kernel
theorem dX10_readStreets_56 : decode cX10_readStreets 56 = .ok (.iconst 2, 1) := by decide +kernel
theorem dX10_readStreets_57 : decode cX10_readStreets 57 = .ok (.iadd, 1) := by decide +kernel
theorem dX10_readStreets_58 : decode cX10_readStreets 58 = .ok (.putfield 142, 3) := by decide +kernel
theorem dX10_readStreets_61 : decode cX10_readStreets 61 = .ok (.aload_n 0, 1) := by decide +kernel
theorem dX10_readStreets_62 : decode cX10_readStreets 62 = .ok (.getfield 142, 3) := by decide +kernel
theorem dX10_readStreets_65 : decode cX10_readStreets 65 = .ok (.iload_n 3, 1) := by decide +kernel
theorem dX10_readStreets_66 : decode cX10_readStreets 66 = .ok (.if_icmp .ge 17, 3) := by decide +kernel
theorem dX10_readStreets_69 : decode cX10_readStreets 69 = .ok (.aload_n 0, 1) := by decide +kernel
theorem dX10_readStreets_70 : decode cX10_readStreets 70 = .ok (.getfield 16, 3) := by decide +kernel
theorem dX10_readStreets_73 : decode cX10_readStreets 73 = .ok (.aload_n 0, 1) := by decide +kernel
theorem dX10_readStreets_74 : decode cX10_readStreets 74 = .ok (.getfield 142, 3) := by decide +kernel
theorem dX10_readStreets_77 : decode cX10_readStreets 77 = .ok (.iaload, 1) := by decide +kernel
theorem dX10_readStreets_78 : decode cX10_readStreets 78 = .ok (.bipush 59, 2) := by decide +kernel
theorem dX10_readStreets_80 : decode cX10_readStreets 80 = .ok (.if_icmp .eq 10, 3) := by decide +kernel
theorem dX10_readStreets_83 : decode cX10_readStreets 83 = .ok (.aload_n 0, 1) := by decide +kernel
theorem dX10_readStreets_84 : decode cX10_readStreets 84 = .ok (.getfield 142, 3) := by decide +kernel
theorem dX10_readStreets_87 : decode cX10_readStreets 87 = .ok (.iload_n 1, 1) := by decide +kernel
theorem dX10_readStreets_88 : decode cX10_readStreets 88 = .ok (.isub, 1) := by decide +kernel
theorem dX10_readStreets_89 : decode cX10_readStreets 89 = .ok (.ireturn, 1) := by decide +kernel
theorem dX10_readStreets_90 : decode cX10_readStreets 90 = .ok (.aload_n 0, 1) := by decide +kernel
theorem dX10_readStreets_91 : decode cX10_readStreets 91 = .ok (.dup, 1) := by decide +kernel
theorem dX10_readStreets_92 : decode cX10_readStreets 92 = .ok (.getfield 142, 3) := by decide +kernel
theorem dX10_readStreets_95 : decode cX10_readStreets 95 = .ok (.iconst 1, 1) := by decide +kernel
theorem dX10_readStreets_96 : decode cX10_readStreets 96 = .ok (.iadd, 1) := by decide +kernel
theorem dX10_readStreets_97 : decode cX10_readStreets 97 = .ok (.putfield 142, 3) := by decide +kernel
theorem dX10_readStreets_100 : decode cX10_readStreets 100 = .ok (.aload_n 0, 1) := by decide +kernel
theorem dX10_readStreets_101 : decode cX10_readStreets 101 = .ok (.getfield 121, 3) := by decide +kernel
theorem dX10_readStreets_104 : decode cX10_readStreets 104 = .ok (.ifCond .le 102, 3) := by decide +kernel
theorem dX10_readStreets_107 : decode cX10_readStreets 107 = .ok (.aload_n 0, 1) := by decide +kernel
theorem dX10_readStreets_108 : decode cX10_readStreets 108 = .ok (.getfield 142, 3) := by decide +kernel
theorem dX10_readStreets_111 : decode cX10_readStreets 111 = .ok (.iload_n 3, 1) := by decide +kernel
theorem dX10_readStreets_112 : decode cX10_readStreets 112 = .ok (.if_icmp .ge 94, 3) := by decide +kernel
theorem dX10_readStreets_115 : decode cX10_readStreets 115 = .ok (.aload_n 0, 1) := by decide +kernel
theorem dX10_readStreets_116 : decode cX10_readStreets 116 = .ok (.getfield 16, 3) := by decide +kernel
theorem dX10_readStreets_119 : decode cX10_readStreets 119 = .ok (.aload_n 0, 1) := by decide +kernel
theorem dX10_readStreets_120 : decode cX10_readStreets 120 = .ok (.getfield 142, 3) := by decide +kernel
theorem dX10_readStreets_123 : decode cX10_readStreets 123 = .ok (.iaload, 1) := by decide +kernel
theorem dX10_readStreets_124 : decode cX10_readStreets 124 = .ok (.bipush 115, 2) := by decide +kernel
theorem dX10_readStreets_126 : decode cX10_readStreets 126 = .ok (.if_icmp .ne 80, 3) := by decide +kernel
theorem dX10_readStreets_129 : decode cX10_readStreets 129 = .ok (.aload_n 0, 1) := by decide +kernel
theorem dX10_readStreets_130 : decode cX10_readStreets 130 = .ok (.dup, 1) := by decide +kernel
theorem dX10_readStreets_131 : decode cX10_readStreets 131 = .ok (.getfield 142, 3) := by decide +kernel
theorem dX10_readStreets_134 : decode cX10_readStreets 134 = .ok (.iconst 1, 1) := by decide +kernel
theorem dX10_readStreets_135 : decode cX10_readStreets 135 = .ok (.iadd, 1) := by decide +kernel
theorem dX10_readStreets_136 : decode cX10_readStreets 136 = .ok (.putfield 142, 3) := by decide +kernel
theorem dX10_readStreets_139 : decode cX10_readStreets 139 = .ok (.aload_n 0, 1) := by decide +kernel
theorem dX10_readStreets_140 : decode cX10_readStreets 140 = .ok (.aload_n 0, 1) := by decide +kernel
theorem dX10_readStreets_141 : decode cX10_readStreets 141 = .ok (.aload_n 0, 1) := by decide +kernel
theorem dX10_readStreets_142 : decode cX10_readStreets 142 = .ok (.getfield 142, 3) := by decide +kernel
theorem dX10_readStreets_145 : decode cX10_readStreets 145 = .ok (.iload_n 3, 1) := by decide +kernel
theorem dX10_readStreets_146 : decode cX10_readStreets 146 = .ok (.invokevirtual 139, 3) := by decide +kernel
theorem dX10_readStreets_149 : decode cX10_readStreets 149 = .ok (.putfield 127, 3) := by decide +kernel
theorem dX10_readStreets_152 : decode cX10_readStreets 152 = .ok (.aload_n 0, 1) := by decide +kernel
theorem dX10_readStreets_153 : decode cX10_readStreets 153 = .ok (.getfield 127, 3) := by decide +kernel
theorem dX10_readStreets_156 : decode cX10_readStreets 156 = .ok (.iconst 0, 1) := by decide +kernel
theorem dX10_readStreets_157 : decode cX10_readStreets 157 = .ok (.aload_n 0, 1) := by decide +kernel
theorem dX10_readStreets_158 : decode cX10_readStreets 158 = .ok (.getfield 118, 3) := by decide +kernel
theorem dX10_readStreets_161 : decode cX10_readStreets 161 = .ok (.iconst 1, 1) := by decide +kernel
theorem dX10_readStreets_162 : decode cX10_readStreets 162 = .ok (.isub, 1) := by decide +kernel
theorem dX10_readStreets_163 : decode cX10_readStreets 163 = .ok (.invokestatic 92, 3) := by decide +kernel
theorem dX10_readStreets_166 : decode cX10_readStreets 166 = .ok (.ifCond .ne 10, 3) := by decide +kernel
theorem dX10_readStreets_169 : decode cX10_readStreets 169 = .ok (.aload_n 0, 1) := by decide +kernel
theorem dX10_readStreets_170 : decode cX10_readStreets 170 = .ok (.getfield 142, 3) := by decide +kernel
theorem dX10_readStreets_173 : decode cX10_readStreets 173 = .ok (.iload_n 1, 1) := by decide +kernel
theorem dX10_readStreets_174 : decode cX10_readStreets 174 = .ok (.isub, 1) := by decide +kernel
theorem dX10_readStreets_175 : decode cX10_readStreets 175 = .ok (.ireturn, 1) := by decide +kernel
theorem dX10_readStreets_176 : decode cX10_readStreets 176 = .ok (.aload_n 0, 1) := by decide +kernel
theorem dX10_readStreets_177 : decode cX10_readStreets 177 = .ok (.dup, 1) := by decide +kernel
theorem dX10_readStreets_178 : decode cX10_readStreets 178 = .ok (.getfield 142, 3) := by decide +kernel
theorem dX10_readStreets_181 : decode cX10_readStreets 181 = .ok (.iconst 1, 1) := by decide +kernel
theorem dX10_readStreets_182 : decode cX10_readStreets 182 = .ok (.iadd, 1) := by decide +kernel
theorem dX10_readStreets_183 : decode cX10_readStreets 183 = .ok (.putfield 142, 3) := by decide +kernel
theorem dX10_readStreets_186 : decode cX10_readStreets 186 = .ok (.aload_n 0, 1) := by decide +kernel
theorem dX10_readStreets_187 : decode cX10_readStreets 187 = .ok (.getfield 142, 3) := by decide +kernel
theorem dX10_readStreets_190 : decode cX10_readStreets 190 = .ok (.iload_n 3, 1) := by decide +kernel
theorem dX10_readStreets_191 : decode cX10_readStreets 191 = .ok (.if_icmp .ge 12, 3) := by decide +kernel
theorem dX10_readStreets_194 : decode cX10_readStreets 194 = .ok (.aload_n 0, 1) := by decide +kernel
theorem dX10_readStreets_195 : decode cX10_readStreets 195 = .ok (.getfield 142, 3) := by decide +kernel
theorem dX10_readStreets_198 : decode cX10_readStreets 198 = .ok (.iload_n 1, 1) := by decide +kernel
theorem dX10_readStreets_199 : decode cX10_readStreets 199 = .ok (.isub, 1) := by decide +kernel
theorem dX10_readStreets_200 : decode cX10_readStreets 200 = .ok (.goto 5, 3) := by decide +kernel
theorem dX10_readStreets_203 : decode cX10_readStreets 203 = .ok (.bipush (-9), 2) := by decide +kernel
theorem dX10_readStreets_205 : decode cX10_readStreets 205 = .ok (.ireturn, 1) := by decide +kernel
theorem dX10_readStreets_206 : decode cX10_readStreets 206 = .ok (.aload_n 0, 1) := by decide +kernel
theorem dX10_readStreets_207 : decode cX10_readStreets 207 = .ok (.getfield 121, 3) := by decide +kernel
theorem dX10_readStreets_210 : decode cX10_readStreets 210 = .ok (.bipush 12, 2) := by decide +kernel
theorem dX10_readStreets_212 : decode cX10_readStreets 212 = .ok (.if_icmp .eq 11, 3) := by decide +kernel
theorem dX10_readStreets_215 : decode cX10_readStreets 215 = .ok (.aload_n 0, 1) := by decide +kernel
theorem dX10_readStreets_216 : decode cX10_readStreets 216 = .ok (.iload_n 3, 1) := by decide +kernel
theorem dX10_readStreets_217 : decode cX10_readStreets 217 = .ok (.invokevirtual 145, 3) := by decide +kernel
theorem dX10_readStreets_220 : decode cX10_readStreets 220 = .ok (.ifCond .ne 10, 3) := by decide +kernel
theorem dX10_readStreets_223 : decode cX10_readStreets 223 = .ok (.aload_n 0, 1) := by decide +kernel
theorem dX10_readStreets_224 : decode cX10_readStreets 224 = .ok (.getfield 142, 3) := by decide +kernel
theorem dX10_readStreets_227 : decode cX10_readStreets 227 = .ok (.iload_n 1, 1) := by decide +kernel
theorem dX10_readStreets_228 : decode cX10_readStreets 228 = .ok (.isub, 1) := by decide +kernel
theorem dX10_readStreets_229 : decode cX10_readStreets 229 = .ok (.ireturn, 1) := by decide +kernel
theorem dX10_readStreets_230 : decode cX10_readStreets 230 = .ok (.aload_n 0, 1) := by decide +kernel
theorem dX10_readStreets_231 : decode cX10_readStreets 231 = .ok (.dup, 1) := by decide +kernel
theorem dX10_readStreets_232 : decode cX10_readStreets 232 = .ok (.getfield 121, 3) := by decide +kernel
theorem dX10_readStreets_235 : decode cX10_readStreets 235 = .ok (.iconst 1, 1) := by decide +kernel
theorem dX10_readStreets_236 : decode cX10_readStreets 236 = .ok (.iadd, 1) := by decide +kernel
theorem dX10_readStreets_237 : decode cX10_readStreets 237 = .ok (.putfield 121, 3) := by decide +kernel
theorem dX10_readStreets_240 : decode cX10_readStreets 240 = .ok (.goto (-179), 3) := by decide +kernel
theorem dX10_takes_0 : decode cX10_takes 0 = .ok (.aload_n 0, 1) := by decide +kernel
theorem dX10_takes_1 : decode cX10_takes 1 = .ok (.aload_n 0, 1) := by decide +kernel
theorem dX10_takes_2 : decode cX10_takes 2 = .ok (.getfield 142, 3) := by decide +kernel
theorem dX10_takes_5 : decode cX10_takes 5 = .ok (.iload_n 1, 1) := by decide +kernel
theorem dX10_takes_6 : decode cX10_takes 6 = .ok (.invokevirtual 139, 3) := by decide +kernel
theorem dX10_takes_9 : decode cX10_takes 9 = .ok (.istore 5, 2) := by decide +kernel
theorem dX10_takes_11 : decode cX10_takes 11 = .ok (.iload 5, 2) := by decide +kernel
theorem dX10_takes_13 : decode cX10_takes 13 = .ok (.iload_n 3, 1) := by decide +kernel
theorem dX10_takes_14 : decode cX10_takes 14 = .ok (.iload 4, 2) := by decide +kernel
theorem dX10_takes_16 : decode cX10_takes 16 = .ok (.invokestatic 92, 3) := by decide +kernel
theorem dX10_takes_19 : decode cX10_takes 19 = .ok (.ifCond .ne 5, 3) := by decide +kernel
theorem dX10_takes_22 : decode cX10_takes 22 = .ok (.iconst 0, 1) := by decide +kernel
theorem dX10_takes_23 : decode cX10_takes 23 = .ok (.ireturn, 1) := by decide +kernel
theorem dX10_takes_24 : decode cX10_takes 24 = .ok (.aload_n 0, 1) := by decide +kernel
theorem dX10_takes_25 : decode cX10_takes 25 = .ok (.getfield 37, 3) := by decide +kernel
theorem dX10_takes_28 : decode cX10_takes 28 = .ok (.iconst 5, 1) := by decide +kernel
theorem dX10_takes_29 : decode cX10_takes 29 = .ok (.aload_n 0, 1) := by decide +kernel
theorem dX10_takes_30 : decode cX10_takes 30 = .ok (.getfield 121, 3) := by decide +kernel
theorem dX10_takes_33 : decode cX10_takes 33 = .ok (.imul, 1) := by decide +kernel
theorem dX10_takes_34 : decode cX10_takes 34 = .ok (.iload_n 2, 1) := by decide +kernel
theorem dX10_takes_35 : decode cX10_takes 35 = .ok (.iadd, 1) := by decide +kernel
theorem dX10_takes_36 : decode cX10_takes 36 = .ok (.iload 5, 2) := by decide +kernel
theorem dX10_takes_38 : decode cX10_takes 38 = .ok (.iastore, 1) := by decide +kernel
theorem dX10_takes_39 : decode cX10_takes 39 = .ok (.aload_n 0, 1) := by decide +kernel
theorem dX10_takes_40 : decode cX10_takes 40 = .ok (.dup, 1) := by decide +kernel
theorem dX10_takes_41 : decode cX10_takes 41 = .ok (.getfield 142, 3) := by decide +kernel
theorem dX10_takes_44 : decode cX10_takes 44 = .ok (.iconst 1, 1) := by decide +kernel
theorem dX10_takes_45 : decode cX10_takes 45 = .ok (.iadd, 1) := by decide +kernel
theorem dX10_takes_46 : decode cX10_takes 46 = .ok (.putfield 142, 3) := by decide +kernel
theorem dX10_takes_49 : decode cX10_takes 49 = .ok (.iconst 1, 1) := by decide +kernel
theorem dX10_takes_50 : decode cX10_takes 50 = .ok (.ireturn, 1) := by decide +kernel
theorem dX10_readRoad_0 : decode cX10_readRoad 0 = .ok (.aload_n 0, 1) := by decide +kernel
theorem dX10_readRoad_1 : decode cX10_readRoad 1 = .ok (.iload_n 1, 1) := by decide +kernel
theorem dX10_readRoad_2 : decode cX10_readRoad 2 = .ok (.iconst 0, 1) := by decide +kernel
theorem dX10_readRoad_3 : decode cX10_readRoad 3 = .ok (.iconst 0, 1) := by decide +kernel
theorem dX10_readRoad_4 : decode cX10_readRoad 4 = .ok (.aload_n 0, 1) := by decide +kernel
theorem dX10_readRoad_5 : decode cX10_readRoad 5 = .ok (.getfield 118, 3) := by decide +kernel
theorem dX10_readRoad_8 : decode cX10_readRoad 8 = .ok (.iconst 1, 1) := by decide +kernel
theorem dX10_readRoad_9 : decode cX10_readRoad 9 = .ok (.isub, 1) := by decide +kernel
theorem dX10_readRoad_10 : decode cX10_readRoad 10 = .ok (.invokevirtual 148, 3) := by decide +kernel
theorem dX10_readRoad_13 : decode cX10_readRoad 13 = .ok (.ifCond .ne 5, 3) := by decide +kernel
theorem dX10_readRoad_16 : decode cX10_readRoad 16 = .ok (.iconst 0, 1) := by decide +kernel
theorem dX10_readRoad_17 : decode cX10_readRoad 17 = .ok (.ireturn, 1) := by decide +kernel
theorem dX10_readRoad_18 : decode cX10_readRoad 18 = .ok (.aload_n 0, 1) := by decide +kernel
theorem dX10_readRoad_19 : decode cX10_readRoad 19 = .ok (.aload_n 0, 1) := by decide +kernel
theorem dX10_readRoad_20 : decode cX10_readRoad 20 = .ok (.getfield 142, 3) := by decide +kernel
theorem dX10_readRoad_23 : decode cX10_readRoad 23 = .ok (.iload_n 1, 1) := by decide +kernel
theorem dX10_readRoad_24 : decode cX10_readRoad 24 = .ok (.invokevirtual 139, 3) := by decide +kernel
theorem dX10_readRoad_27 : decode cX10_readRoad 27 = .ok (.aload_n 0, 1) := by decide +kernel
theorem dX10_readRoad_28 : decode cX10_readRoad 28 = .ok (.getfield 37, 3) := by decide +kernel
theorem dX10_readRoad_31 : decode cX10_readRoad 31 = .ok (.iconst 5, 1) := by decide +kernel
theorem dX10_readRoad_32 : decode cX10_readRoad 32 = .ok (.aload_n 0, 1) := by decide +kernel
theorem dX10_readRoad_33 : decode cX10_readRoad 33 = .ok (.getfield 121, 3) := by decide +kernel
theorem dX10_readRoad_36 : decode cX10_readRoad 36 = .ok (.imul, 1) := by decide +kernel
theorem dX10_readRoad_37 : decode cX10_readRoad 37 = .ok (.iaload, 1) := by decide +kernel
theorem dX10_readRoad_38 : decode cX10_readRoad 38 = .ok (.if_icmp .eq 19, 3) := by decide +kernel
theorem dX10_readRoad_41 : decode cX10_readRoad 41 = .ok (.aload_n 0, 1) := by decide +kernel
theorem dX10_readRoad_42 : decode cX10_readRoad 42 = .ok (.iload_n 1, 1) := by decide +kernel
theorem dX10_readRoad_43 : decode cX10_readRoad 43 = .ok (.iconst 1, 1) := by decide +kernel
theorem dX10_readRoad_44 : decode cX10_readRoad 44 = .ok (.iconst 0, 1) := by decide +kernel
theorem dX10_readRoad_45 : decode cX10_readRoad 45 = .ok (.aload_n 0, 1) := by decide +kernel
theorem dX10_readRoad_46 : decode cX10_readRoad 46 = .ok (.getfield 118, 3) := by decide +kernel
theorem dX10_readRoad_49 : decode cX10_readRoad 49 = .ok (.iconst 1, 1) := by decide +kernel
theorem dX10_readRoad_50 : decode cX10_readRoad 50 = .ok (.isub, 1) := by decide +kernel
theorem dX10_readRoad_51 : decode cX10_readRoad 51 = .ok (.invokevirtual 148, 3) := by decide +kernel
theorem dX10_readRoad_54 : decode cX10_readRoad 54 = .ok (.ifCond .ne 5, 3) := by decide +kernel
theorem dX10_readRoad_57 : decode cX10_readRoad 57 = .ok (.iconst 0, 1) := by decide +kernel
theorem dX10_readRoad_58 : decode cX10_readRoad 58 = .ok (.ireturn, 1) := by decide +kernel
theorem dX10_readRoad_59 : decode cX10_readRoad 59 = .ok (.aload_n 0, 1) := by decide +kernel
theorem dX10_readRoad_60 : decode cX10_readRoad 60 = .ok (.aload_n 0, 1) := by decide +kernel
theorem dX10_readRoad_61 : decode cX10_readRoad 61 = .ok (.getfield 142, 3) := by decide +kernel
theorem dX10_readRoad_64 : decode cX10_readRoad 64 = .ok (.iload_n 1, 1) := by decide +kernel
theorem dX10_readRoad_65 : decode cX10_readRoad 65 = .ok (.invokevirtual 139, 3) := by decide +kernel
theorem dX10_readRoad_68 : decode cX10_readRoad 68 = .ok (.istore_n 2, 1) := by decide +kernel
theorem dX10_readRoad_69 : decode cX10_readRoad 69 = .ok (.aload_n 0, 1) := by decide +kernel
theorem dX10_readRoad_70 : decode cX10_readRoad 70 = .ok (.aload_n 0, 1) := by decide +kernel
theorem dX10_readRoad_71 : decode cX10_readRoad 71 = .ok (.getfield 142, 3) := by decide +kernel
theorem dX10_readRoad_74 : decode cX10_readRoad 74 = .ok (.iconst 1, 1) := by decide +kernel
theorem dX10_readRoad_75 : decode cX10_readRoad 75 = .ok (.iadd, 1) := by decide +kernel
theorem dX10_readRoad_76 : decode cX10_readRoad 76 = .ok (.iload_n 1, 1) := by decide +kernel
theorem dX10_readRoad_77 : decode cX10_readRoad 77 = .ok (.invokevirtual 139, 3) := by decide +kernel
theorem dX10_readRoad_80 : decode cX10_readRoad 80 = .ok (.istore_n 3, 1) := by decide +kernel
theorem dX10_readRoad_81 : decode cX10_readRoad 81 = .ok (.iload_n 2, 1) := by decide +kernel
theorem dX10_readRoad_82 : decode cX10_readRoad 82 = .ok (.bipush (-9), 2) := by decide +kernel
theorem dX10_readRoad_84 : decode cX10_readRoad 84 = .ok (.if_icmp .eq 9, 3) := by decide +kernel
theorem dX10_readRoad_87 : decode cX10_readRoad 87 = .ok (.iload_n 3, 1) := by decide +kernel
theorem dX10_readRoad_88 : decode cX10_readRoad 88 = .ok (.bipush (-9), 2) := by decide +kernel
theorem dX10_readRoad_90 : decode cX10_readRoad 90 = .ok (.if_icmp .ne 7, 3) := by decide +kernel
theorem dX10_readRoad_93 : decode cX10_readRoad 93 = .ok (.iload_n 2, 1) := by decide +kernel
theorem dX10_readRoad_94 : decode cX10_readRoad 94 = .ok (.goto 9, 3) := by decide +kernel
theorem dX10_readRoad_97 : decode cX10_readRoad 97 = .ok (.bipush 10, 2) := by decide +kernel
theorem dX10_readRoad_99 : decode cX10_readRoad 99 = .ok (.iload_n 2, 1) := by decide +kernel
theorem dX10_readRoad_100 : decode cX10_readRoad 100 = .ok (.imul, 1) := by decide +kernel
theorem dX10_readRoad_101 : decode cX10_readRoad 101 = .ok (.iload_n 3, 1) := by decide +kernel
theorem dX10_readRoad_102 : decode cX10_readRoad 102 = .ok (.iadd, 1) := by decide +kernel
theorem dX10_readRoad_103 : decode cX10_readRoad 103 = .ok (.istore 4, 2) := by decide +kernel
theorem dX10_readRoad_105 : decode cX10_readRoad 105 = .ok (.iload 4, 2) := by decide +kernel
theorem dX10_readRoad_107 : decode cX10_readRoad 107 = .ok (.iconst 1, 1) := by decide +kernel
theorem dX10_readRoad_108 : decode cX10_readRoad 108 = .ok (.bipush 30, 2) := by decide +kernel
theorem dX10_readRoad_110 : decode cX10_readRoad 110 = .ok (.invokestatic 92, 3) := by decide +kernel
theorem dX10_readRoad_113 : decode cX10_readRoad 113 = .ok (.ifCond .ne 5, 3) := by decide +kernel
theorem dX10_readRoad_116 : decode cX10_readRoad 116 = .ok (.iconst 0, 1) := by decide +kernel
theorem dX10_readRoad_117 : decode cX10_readRoad 117 = .ok (.ireturn, 1) := by decide +kernel
theorem dX10_readRoad_118 : decode cX10_readRoad 118 = .ok (.aload_n 0, 1) := by decide +kernel
theorem dX10_readRoad_119 : decode cX10_readRoad 119 = .ok (.getfield 37, 3) := by decide +kernel
theorem dX10_readRoad_122 : decode cX10_readRoad 122 = .ok (.iconst 5, 1) := by decide +kernel
theorem dX10_readRoad_123 : decode cX10_readRoad 123 = .ok (.aload_n 0, 1) := by decide +kernel
theorem dX10_readRoad_124 : decode cX10_readRoad 124 = .ok (.getfield 121, 3) := by decide +kernel
theorem dX10_readRoad_127 : decode cX10_readRoad 127 = .ok (.imul, 1) := by decide +kernel
theorem dX10_readRoad_128 : decode cX10_readRoad 128 = .ok (.iconst 2, 1) := by decide +kernel
theorem dX10_readRoad_129 : decode cX10_readRoad 129 = .ok (.iadd, 1) := by decide +kernel
theorem dX10_readRoad_130 : decode cX10_readRoad 130 = .ok (.iload 4, 2) := by decide +kernel
theorem dX10_readRoad_132 : decode cX10_readRoad 132 = .ok (.iastore, 1) := by decide +kernel
theorem dX10_readRoad_133 : decode cX10_readRoad 133 = .ok (.aload_n 0, 1) := by decide +kernel
theorem dX10_readRoad_134 : decode cX10_readRoad 134 = .ok (.dup, 1) := by decide +kernel
theorem dX10_readRoad_135 : decode cX10_readRoad 135 = .ok (.getfield 142, 3) := by decide +kernel
theorem dX10_readRoad_138 : decode cX10_readRoad 138 = .ok (.iload_n 3, 1) := by decide +kernel
theorem dX10_readRoad_139 : decode cX10_readRoad 139 = .ok (.bipush (-9), 2) := by decide +kernel
theorem dX10_readRoad_141 : decode cX10_readRoad 141 = .ok (.if_icmp .ne 7, 3) := by decide +kernel
theorem dX10_readRoad_144 : decode cX10_readRoad 144 = .ok (.iconst 1, 1) := by decide +kernel
theorem dX10_readRoad_145 : decode cX10_readRoad 145 = .ok (.goto 4, 3) := by decide +kernel
theorem dX10_readRoad_148 : decode cX10_readRoad 148 = .ok (.iconst 2, 1) := by decide +kernel
theorem dX10_readRoad_149 : decode cX10_readRoad 149 = .ok (.iadd, 1) := by decide +kernel
theorem dX10_readRoad_150 : decode cX10_readRoad 150 = .ok (.putfield 142, 3) := by decide +kernel
theorem dX10_readRoad_153 : decode cX10_readRoad 153 = .ok (.aload_n 0, 1) := by decide +kernel
theorem dX10_readRoad_154 : decode cX10_readRoad 154 = .ok (.getfield 37, 3) := by decide +kernel
theorem dX10_readRoad_157 : decode cX10_readRoad 157 = .ok (.iconst 5, 1) := by decide +kernel
theorem dX10_readRoad_158 : decode cX10_readRoad 158 = .ok (.aload_n 0, 1) := by decide +kernel
theorem dX10_readRoad_159 : decode cX10_readRoad 159 = .ok (.getfield 121, 3) := by decide +kernel
theorem dX10_readRoad_162 : decode cX10_readRoad 162 = .ok (.imul, 1) := by decide +kernel
theorem dX10_readRoad_163 : decode cX10_readRoad 163 = .ok (.iconst 3, 1) := by decide +kernel
theorem dX10_readRoad_164 : decode cX10_readRoad 164 = .ok (.iadd, 1) := by decide +kernel
theorem dX10_readRoad_165 : decode cX10_readRoad 165 = .ok (.iconst 0, 1) := by decide +kernel
theorem dX10_readRoad_166 : decode cX10_readRoad 166 = .ok (.iastore, 1) := by decide +kernel
theorem dX10_readRoad_167 : decode cX10_readRoad 167 = .ok (.aload_n 0, 1) := by decide +kernel
theorem dX10_readRoad_168 : decode cX10_readRoad 168 = .ok (.getfield 37, 3) := by decide +kernel
theorem dX10_readRoad_171 : decode cX10_readRoad 171 = .ok (.iconst 5, 1) := by decide +kernel
theorem dX10_readRoad_172 : decode cX10_readRoad 172 = .ok (.aload_n 0, 1) := by decide +kernel
theorem dX10_readRoad_173 : decode cX10_readRoad 173 = .ok (.getfield 121, 3) := by decide +kernel
theorem dX10_readRoad_176 : decode cX10_readRoad 176 = .ok (.imul, 1) := by decide +kernel
theorem dX10_readRoad_177 : decode cX10_readRoad 177 = .ok (.iconst 4, 1) := by decide +kernel
theorem dX10_readRoad_178 : decode cX10_readRoad 178 = .ok (.iadd, 1) := by decide +kernel
theorem dX10_readRoad_179 : decode cX10_readRoad 179 = .ok (.iconst 0, 1) := by decide +kernel
theorem dX10_readRoad_180 : decode cX10_readRoad 180 = .ok (.iastore, 1) := by decide +kernel
theorem dX10_readRoad_181 : decode cX10_readRoad 181 = .ok (.aload_n 0, 1) := by decide +kernel
theorem dX10_readRoad_182 : decode cX10_readRoad 182 = .ok (.getfield 142, 3) := by decide +kernel
theorem dX10_readRoad_185 : decode cX10_readRoad 185 = .ok (.iload_n 1, 1) := by decide +kernel
theorem dX10_readRoad_186 : decode cX10_readRoad 186 = .ok (.if_icmp .ge 17, 3) := by decide +kernel
theorem dX10_readRoad_189 : decode cX10_readRoad 189 = .ok (.aload_n 0, 1) := by decide +kernel
theorem dX10_readRoad_190 : decode cX10_readRoad 190 = .ok (.getfield 16, 3) := by decide +kernel
theorem dX10_readRoad_193 : decode cX10_readRoad 193 = .ok (.aload_n 0, 1) := by decide +kernel
theorem dX10_readRoad_194 : decode cX10_readRoad 194 = .ok (.getfield 142, 3) := by decide +kernel
theorem dX10_readRoad_197 : decode cX10_readRoad 197 = .ok (.iaload, 1) := by decide +kernel
theorem dX10_readRoad_198 : decode cX10_readRoad 198 = .ok (.bipush 99, 2) := by decide +kernel
theorem dX10_readRoad_200 : decode cX10_readRoad 200 = .ok (.if_icmp .eq 5, 3) := by decide +kernel
theorem dX10_readRoad_203 : decode cX10_readRoad 203 = .ok (.iconst 1, 1) := by decide +kernel
theorem dX10_readRoad_204 : decode cX10_readRoad 204 = .ok (.ireturn, 1) := by decide +kernel
theorem dX10_readRoad_205 : decode cX10_readRoad 205 = .ok (.aload_n 0, 1) := by decide +kernel
theorem dX10_readRoad_206 : decode cX10_readRoad 206 = .ok (.dup, 1) := by decide +kernel
theorem dX10_readRoad_207 : decode cX10_readRoad 207 = .ok (.getfield 142, 3) := by decide +kernel
theorem dX10_readRoad_210 : decode cX10_readRoad 210 = .ok (.iconst 1, 1) := by decide +kernel
theorem dX10_readRoad_211 : decode cX10_readRoad 211 = .ok (.iadd, 1) := by decide +kernel
theorem dX10_readRoad_212 : decode cX10_readRoad 212 = .ok (.putfield 142, 3) := by decide +kernel
theorem dX10_readRoad_215 : decode cX10_readRoad 215 = .ok (.aload_n 0, 1) := by decide +kernel
theorem dX10_readRoad_216 : decode cX10_readRoad 216 = .ok (.iload_n 1, 1) := by decide +kernel
theorem dX10_readRoad_217 : decode cX10_readRoad 217 = .ok (.iconst 3, 1) := by decide +kernel
theorem dX10_readRoad_218 : decode cX10_readRoad 218 = .ok (.iconst 1, 1) := by decide +kernel
theorem dX10_readRoad_219 : decode cX10_readRoad 219 = .ok (.bipush 9, 2) := by decide +kernel
theorem dX10_readRoad_221 : decode cX10_readRoad 221 = .ok (.invokevirtual 148, 3) := by decide +kernel
theorem dX10_readRoad_224 : decode cX10_readRoad 224 = .ok (.ifCond .eq 19, 3) := by decide +kernel
theorem dX10_readRoad_227 : decode cX10_readRoad 227 = .ok (.aload_n 0, 1) := by decide +kernel
theorem dX10_readRoad_228 : decode cX10_readRoad 228 = .ok (.iload_n 1, 1) := by decide +kernel
theorem dX10_readRoad_229 : decode cX10_readRoad 229 = .ok (.iconst 4, 1) := by decide +kernel
theorem dX10_readRoad_230 : decode cX10_readRoad 230 = .ok (.iconst 1, 1) := by decide +kernel
theorem dX10_readRoad_231 : decode cX10_readRoad 231 = .ok (.bipush 9, 2) := by decide +kernel
theorem dX10_readRoad_233 : decode cX10_readRoad 233 = .ok (.invokevirtual 148, 3) := by decide +kernel
theorem dX10_readRoad_236 : decode cX10_readRoad 236 = .ok (.ifCond .eq 7, 3) := by decide +kernel
theorem dX10_readRoad_239 : decode cX10_readRoad 239 = .ok (.iconst 1, 1) := by decide +kernel
theorem dX10_readRoad_240 : decode cX10_readRoad 240 = .ok (.goto 4, 3) := by decide +kernel
theorem dX10_readRoad_243 : decode cX10_readRoad 243 = .ok (.iconst 0, 1) := by decide +kernel
theorem dX10_readRoad_244 : decode cX10_readRoad 244 = .ok (.ireturn, 1) := by decide +kernel
theorem dX10_costOf_0 : decode cX10_costOf 0 = .ok (.bipush 100, 2) := by decide +kernel
theorem dX10_costOf_2 : decode cX10_costOf 2 = .ok (.aload_n 0, 1) := by decide +kernel
theorem dX10_costOf_3 : decode cX10_costOf 3 = .ok (.getfield 25, 3) := by decide +kernel
theorem dX10_costOf_6 : decode cX10_costOf 6 = .ok (.iload_n 1, 1) := by decide +kernel
theorem dX10_costOf_7 : decode cX10_costOf 7 = .ok (.iaload, 1) := by decide +kernel
theorem dX10_costOf_8 : decode cX10_costOf 8 = .ok (.imul, 1) := by decide +kernel
theorem dX10_costOf_9 : decode cX10_costOf 9 = .ok (.aload_n 0, 1) := by decide +kernel
theorem dX10_costOf_10 : decode cX10_costOf 10 = .ok (.getfield 28, 3) := by decide +kernel
theorem dX10_costOf_13 : decode cX10_costOf 13 = .ok (.iload_n 1, 1) := by decide +kernel
theorem dX10_costOf_14 : decode cX10_costOf 14 = .ok (.iaload, 1) := by decide +kernel
theorem dX10_costOf_15 : decode cX10_costOf 15 = .ok (.ifCond .le 7, 3) := by decide +kernel
theorem dX10_costOf_18 : decode cX10_costOf 18 = .ok (.iconst 1, 1) := by decide +kernel
theorem dX10_costOf_19 : decode cX10_costOf 19 = .ok (.goto 4, 3) := by decide +kernel
theorem dX10_costOf_22 : decode cX10_costOf 22 = .ok (.iconst 0, 1) := by decide +kernel
theorem dX10_costOf_23 : decode cX10_costOf 23 = .ok (.iadd, 1) := by decide +kernel
theorem dX10_costOf_24 : decode cX10_costOf 24 = .ok (.ireturn, 1) := by decide +kernel
theorem dX10_layFar_0 : decode cX10_layFar 0 = .ok (.iconst 0, 1) := by decide +kernel
theorem dX10_layFar_1 : decode cX10_layFar 1 = .ok (.istore_n 1, 1) := by decide +kernel
theorem dX10_layFar_2 : decode cX10_layFar 2 = .ok (.iload_n 1, 1) := by decide +kernel
theorem dX10_layFar_3 : decode cX10_layFar 3 = .ok (.bipush 49, 2) := by decide +kernel
theorem dX10_layFar_5 : decode cX10_layFar 5 = .ok (.if_icmp .ge 32, 3) := by decide +kernel
theorem dX10_layFar_8 : decode cX10_layFar 8 = .ok (.aload_n 0, 1) := by decide +kernel
theorem dX10_layFar_9 : decode cX10_layFar 9 = .ok (.getfield 34, 3) := by decide +kernel
theorem dX10_layFar_12 : decode cX10_layFar 12 = .ok (.iload_n 1, 1) := by decide +kernel
theorem dX10_layFar_13 : decode cX10_layFar 13 = .ok (.iload_n 1, 1) := by decide +kernel
theorem dX10_layFar_14 : decode cX10_layFar 14 = .ok (.bipush 7, 2) := by decide +kernel
theorem dX10_layFar_16 : decode cX10_layFar 16 = .ok (.idiv, 1) := by decide +kernel
theorem dX10_layFar_17 : decode cX10_layFar 17 = .ok (.iload_n 1, 1) := by decide +kernel
theorem dX10_layFar_18 : decode cX10_layFar 18 = .ok (.bipush 7, 2) := by decide +kernel
theorem dX10_layFar_20 : decode cX10_layFar 20 = .ok (.irem, 1) := by decide +kernel
theorem dX10_layFar_21 : decode cX10_layFar 21 = .ok (.if_icmp .ne 7, 3) := by decide +kernel
theorem dX10_layFar_24 : decode cX10_layFar 24 = .ok (.iconst 0, 1) := by decide +kernel
theorem dX10_layFar_25 : decode cX10_layFar 25 = .ok (.goto 5, 3) := by decide +kernel
theorem dX10_layFar_28 : decode cX10_layFar 28 = .ok (.ldc 152, 2) := by decide +kernel
theorem dX10_layFar_30 : decode cX10_layFar 30 = .ok (.iastore, 1) := by decide +kernel
theorem dX10_layFar_31 : decode cX10_layFar 31 = .ok (.iinc 1 1, 3) := by decide +kernel
theorem dX10_layFar_34 : decode cX10_layFar 34 = .ok (.goto (-32), 3) := by decide +kernel
theorem dX10_layFar_37 : decode cX10_layFar 37 = .ok (.iconst 0, 1) := by decide +kernel
theorem dX10_layFar_38 : decode cX10_layFar 38 = .ok (.istore_n 1, 1) := by decide +kernel
theorem dX10_layFar_39 : decode cX10_layFar 39 = .ok (.iload_n 1, 1) := by decide +kernel
theorem dX10_layFar_40 : decode cX10_layFar 40 = .ok (.bipush 7, 2) := by decide +kernel
theorem dX10_layFar_42 : decode cX10_layFar 42 = .ok (.if_icmp .ge 153, 3) := by decide +kernel
theorem dX10_layFar_45 : decode cX10_layFar 45 = .ok (.iconst 0, 1) := by decide +kernel
theorem dX10_layFar_46 : decode cX10_layFar 46 = .ok (.istore_n 2, 1) := by decide +kernel
theorem dX10_layFar_47 : decode cX10_layFar 47 = .ok (.iload_n 2, 1) := by decide +kernel
theorem dX10_layFar_48 : decode cX10_layFar 48 = .ok (.aload_n 0, 1) := by decide +kernel
theorem dX10_layFar_49 : decode cX10_layFar 49 = .ok (.getfield 124, 3) := by decide +kernel
theorem dX10_layFar_52 : decode cX10_layFar 52 = .ok (.if_icmp .ge 137, 3) := by decide +kernel
theorem dX10_layFar_55 : decode cX10_layFar 55 = .ok (.iconst 0, 1) := by decide +kernel
theorem dX10_layFar_56 : decode cX10_layFar 56 = .ok (.istore_n 3, 1) := by decide +kernel
theorem dX10_layFar_57 : decode cX10_layFar 57 = .ok (.iload_n 3, 1) := by decide +kernel
theorem dX10_layFar_58 : decode cX10_layFar 58 = .ok (.aload_n 0, 1) := by decide +kernel
theorem dX10_layFar_59 : decode cX10_layFar 59 = .ok (.getfield 96, 3) := by decide +kernel
theorem dX10_layFar_62 : decode cX10_layFar 62 = .ok (.if_icmp .ge 121, 3) := by decide +kernel
theorem dX10_layFar_65 : decode cX10_layFar 65 = .ok (.bipush 7, 2) := by decide +kernel
theorem dX10_layFar_67 : decode cX10_layFar 67 = .ok (.aload_n 0, 1) := by decide +kernel
theorem dX10_layFar_68 : decode cX10_layFar 68 = .ok (.getfield 19, 3) := by decide +kernel
theorem dX10_layFar_71 : decode cX10_layFar 71 = .ok (.iload_n 2, 1) := by decide +kernel
theorem dX10_layFar_72 : decode cX10_layFar 72 = .ok (.iaload, 1) := by decide +kernel
theorem dX10_layFar_73 : decode cX10_layFar 73 = .ok (.imul, 1) := by decide +kernel
theorem dX10_layFar_74 : decode cX10_layFar 74 = .ok (.iload_n 3, 1) := by decide +kernel
theorem dX10_layFar_75 : decode cX10_layFar 75 = .ok (.iadd, 1) := by decide +kernel
theorem dX10_layFar_76 : decode cX10_layFar 76 = .ok (.istore 4, 2) := by decide +kernel
theorem dX10_layFar_78 : decode cX10_layFar 78 = .ok (.bipush 7, 2) := by decide +kernel
theorem dX10_layFar_80 : decode cX10_layFar 80 = .ok (.aload_n 0, 1) := by decide +kernel
theorem dX10_layFar_81 : decode cX10_layFar 81 = .ok (.getfield 22, 3) := by decide +kernel
theorem dX10_layFar_84 : decode cX10_layFar 84 = .ok (.iload_n 2, 1) := by decide +kernel
theorem dX10_layFar_85 : decode cX10_layFar 85 = .ok (.iaload, 1) := by decide +kernel
theorem dX10_layFar_86 : decode cX10_layFar 86 = .ok (.imul, 1) := by decide +kernel
theorem dX10_layFar_87 : decode cX10_layFar 87 = .ok (.iload_n 3, 1) := by decide +kernel
theorem dX10_layFar_88 : decode cX10_layFar 88 = .ok (.iadd, 1) := by decide +kernel
theorem dX10_layFar_89 : decode cX10_layFar 89 = .ok (.istore 5, 2) := by decide +kernel
theorem dX10_layFar_91 : decode cX10_layFar 91 = .ok (.aload_n 0, 1) := by decide +kernel
theorem dX10_layFar_92 : decode cX10_layFar 92 = .ok (.getfield 34, 3) := by decide +kernel
theorem dX10_layFar_95 : decode cX10_layFar 95 = .ok (.iload 5, 2) := by decide +kernel
theorem dX10_layFar_97 : decode cX10_layFar 97 = .ok (.iaload, 1) := by decide +kernel
theorem dX10_layFar_98 : decode cX10_layFar 98 = .ok (.aload_n 0, 1) := by decide +kernel
theorem dX10_layFar_99 : decode cX10_layFar 99 = .ok (.iload_n 2, 1) := by decide +kernel
theorem dX10_layFar_100 : decode cX10_layFar 100 = .ok (.invokevirtual 153, 3) := by decide +kernel
theorem dX10_layFar_103 : decode cX10_layFar 103 = .ok (.iadd, 1) := by decide +kernel
theorem dX10_layFar_104 : decode cX10_layFar 104 = .ok (.aload_n 0, 1) := by decide +kernel
theorem dX10_layFar_105 : decode cX10_layFar 105 = .ok (.getfield 34, 3) := by decide +kernel
theorem dX10_layFar_108 : decode cX10_layFar 108 = .ok (.iload 4, 2) := by decide +kernel
theorem dX10_layFar_110 : decode cX10_layFar 110 = .ok (.iaload, 1) := by decide +kernel
theorem dX10_layFar_111 : decode cX10_layFar 111 = .ok (.if_icmp .ge 23, 3) := by decide +kernel
theorem dX10_layFar_114 : decode cX10_layFar 114 = .ok (.aload_n 0, 1) := by decide +kernel
theorem dX10_layFar_115 : decode cX10_layFar 115 = .ok (.getfield 34, 3) := by decide +kernel
theorem dX10_layFar_118 : decode cX10_layFar 118 = .ok (.iload 4, 2) := by decide +kernel
theorem dX10_layFar_120 : decode cX10_layFar 120 = .ok (.aload_n 0, 1) := by decide +kernel
theorem dX10_layFar_121 : decode cX10_layFar 121 = .ok (.getfield 34, 3) := by decide +kernel
theorem dX10_layFar_124 : decode cX10_layFar 124 = .ok (.iload 5, 2) := by decide +kernel
theorem dX10_layFar_126 : decode cX10_layFar 126 = .ok (.iaload, 1) := by decide +kernel
theorem dX10_layFar_127 : decode cX10_layFar 127 = .ok (.aload_n 0, 1) := by decide +kernel
theorem dX10_layFar_128 : decode cX10_layFar 128 = .ok (.iload_n 2, 1) := by decide +kernel
theorem dX10_layFar_129 : decode cX10_layFar 129 = .ok (.invokevirtual 153, 3) := by decide +kernel
theorem dX10_layFar_132 : decode cX10_layFar 132 = .ok (.iadd, 1) := by decide +kernel
theorem dX10_layFar_133 : decode cX10_layFar 133 = .ok (.iastore, 1) := by decide +kernel
theorem dX10_layFar_134 : decode cX10_layFar 134 = .ok (.aload_n 0, 1) := by decide +kernel
theorem dX10_layFar_135 : decode cX10_layFar 135 = .ok (.getfield 34, 3) := by decide +kernel
theorem dX10_layFar_138 : decode cX10_layFar 138 = .ok (.iload 4, 2) := by decide +kernel
theorem dX10_layFar_140 : decode cX10_layFar 140 = .ok (.iaload, 1) := by decide +kernel
theorem dX10_layFar_141 : decode cX10_layFar 141 = .ok (.aload_n 0, 1) := by decide +kernel
theorem dX10_layFar_142 : decode cX10_layFar 142 = .ok (.iload_n 2, 1) := by decide +kernel
theorem dX10_layFar_143 : decode cX10_layFar 143 = .ok (.invokevirtual 153, 3) := by decide +kernel
theorem dX10_layFar_146 : decode cX10_layFar 146 = .ok (.iadd, 1) := by decide +kernel
theorem dX10_layFar_147 : decode cX10_layFar 147 = .ok (.aload_n 0, 1) := by decide +kernel
theorem dX10_layFar_148 : decode cX10_layFar 148 = .ok (.getfield 34, 3) := by decide +kernel
theorem dX10_layFar_151 : decode cX10_layFar 151 = .ok (.iload 5, 2) := by decide +kernel
theorem dX10_layFar_153 : decode cX10_layFar 153 = .ok (.iaload, 1) := by decide +kernel
theorem dX10_layFar_154 : decode cX10_layFar 154 = .ok (.if_icmp .ge 23, 3) := by decide +kernel
theorem dX10_layFar_157 : decode cX10_layFar 157 = .ok (.aload_n 0, 1) := by decide +kernel
theorem dX10_layFar_158 : decode cX10_layFar 158 = .ok (.getfield 34, 3) := by decide +kernel
theorem dX10_layFar_161 : decode cX10_layFar 161 = .ok (.iload 5, 2) := by decide +kernel
theorem dX10_layFar_163 : decode cX10_layFar 163 = .ok (.aload_n 0, 1) := by decide +kernel
theorem dX10_layFar_164 : decode cX10_layFar 164 = .ok (.getfield 34, 3) := by decide +kernel
theorem dX10_layFar_167 : decode cX10_layFar 167 = .ok (.iload 4, 2) := by decide +kernel
theorem dX10_layFar_169 : decode cX10_layFar 169 = .ok (.iaload, 1) := by decide +kernel
theorem dX10_layFar_170 : decode cX10_layFar 170 = .ok (.aload_n 0, 1) := by decide +kernel
theorem dX10_layFar_171 : decode cX10_layFar 171 = .ok (.iload_n 2, 1) := by decide +kernel
theorem dX10_layFar_172 : decode cX10_layFar 172 = .ok (.invokevirtual 153, 3) := by decide +kernel
theorem dX10_layFar_175 : decode cX10_layFar 175 = .ok (.iadd, 1) := by decide +kernel
theorem dX10_layFar_176 : decode cX10_layFar 176 = .ok (.iastore, 1) := by decide +kernel
theorem dX10_layFar_177 : decode cX10_layFar 177 = .ok (.iinc 3 1, 3) := by decide +kernel
theorem dX10_layFar_180 : decode cX10_layFar 180 = .ok (.goto (-123), 3) := by decide +kernel
theorem dX10_layFar_183 : decode cX10_layFar 183 = .ok (.iinc 2 1, 3) := by decide +kernel
theorem dX10_layFar_186 : decode cX10_layFar 186 = .ok (.goto (-139), 3) := by decide +kernel
theorem dX10_layFar_189 : decode cX10_layFar 189 = .ok (.iinc 1 1, 3) := by decide +kernel
theorem dX10_layFar_192 : decode cX10_layFar 192 = .ok (.goto (-153), 3) := by decide +kernel
theorem dX10_layFar_195 : decode cX10_layFar 195 = .ok (.return_, 1) := by decide +kernel
theorem dX10_ofRoad_0 : decode cX10_ofRoad 0 = .ok (.iload_n 1, 1) := by decide +kernel
theorem dX10_ofRoad_1 : decode cX10_ofRoad 1 = .ok (.ifCond .lt 11, 3) := by decide +kernel
theorem dX10_ofRoad_4 : decode cX10_ofRoad 4 = .ok (.iload_n 1, 1) := by decide +kernel
theorem dX10_ofRoad_5 : decode cX10_ofRoad 5 = .ok (.aload_n 0, 1) := by decide +kernel
theorem dX10_ofRoad_6 : decode cX10_ofRoad 6 = .ok (.getfield 124, 3) := by decide +kernel
theorem dX10_ofRoad_9 : decode cX10_ofRoad 9 = .ok (.if_icmp .lt 5, 3) := by decide +kernel
theorem dX10_ofRoad_12 : decode cX10_ofRoad 12 = .ok (.iconst (-1), 1) := by decide +kernel
theorem dX10_ofRoad_13 : decode cX10_ofRoad 13 = .ok (.ireturn, 1) := by decide +kernel
theorem dX10_ofRoad_14 : decode cX10_ofRoad 14 = .ok (.iload_n 2, 1) := by decide +kernel
theorem dX10_ofRoad_15 : decode cX10_ofRoad 15 = .ok (.tableswitch 68 0 4 #[33, 40, 47, 54, 61], 33) := by decide +kernel
theorem dX10_ofRoad_48 : decode cX10_ofRoad 48 = .ok (.aload_n 0, 1) := by decide +kernel
theorem dX10_ofRoad_49 : decode cX10_ofRoad 49 = .ok (.getfield 19, 3) := by decide +kernel
theorem dX10_ofRoad_52 : decode cX10_ofRoad 52 = .ok (.iload_n 1, 1) := by decide +kernel
theorem dX10_ofRoad_53 : decode cX10_ofRoad 53 = .ok (.iaload, 1) := by decide +kernel
theorem dX10_ofRoad_54 : decode cX10_ofRoad 54 = .ok (.ireturn, 1) := by decide +kernel
theorem dX10_ofRoad_55 : decode cX10_ofRoad 55 = .ok (.aload_n 0, 1) := by decide +kernel
theorem dX10_ofRoad_56 : decode cX10_ofRoad 56 = .ok (.getfield 22, 3) := by decide +kernel
theorem dX10_ofRoad_59 : decode cX10_ofRoad 59 = .ok (.iload_n 1, 1) := by decide +kernel
theorem dX10_ofRoad_60 : decode cX10_ofRoad 60 = .ok (.iaload, 1) := by decide +kernel
theorem dX10_ofRoad_61 : decode cX10_ofRoad 61 = .ok (.ireturn, 1) := by decide +kernel
theorem dX10_ofRoad_62 : decode cX10_ofRoad 62 = .ok (.aload_n 0, 1) := by decide +kernel
theorem dX10_ofRoad_63 : decode cX10_ofRoad 63 = .ok (.getfield 25, 3) := by decide +kernel
theorem dX10_ofRoad_66 : decode cX10_ofRoad 66 = .ok (.iload_n 1, 1) := by decide +kernel
theorem dX10_ofRoad_67 : decode cX10_ofRoad 67 = .ok (.iaload, 1) := by decide +kernel
theorem dX10_ofRoad_68 : decode cX10_ofRoad 68 = .ok (.ireturn, 1) := by decide +kernel
theorem dX10_ofRoad_69 : decode cX10_ofRoad 69 = .ok (.aload_n 0, 1) := by decide +kernel
theorem dX10_ofRoad_70 : decode cX10_ofRoad 70 = .ok (.getfield 28, 3) := by decide +kernel
theorem dX10_ofRoad_73 : decode cX10_ofRoad 73 = .ok (.iload_n 1, 1) := by decide +kernel
theorem dX10_ofRoad_74 : decode cX10_ofRoad 74 = .ok (.iaload, 1) := by decide +kernel
theorem dX10_ofRoad_75 : decode cX10_ofRoad 75 = .ok (.ireturn, 1) := by decide +kernel
theorem dX10_ofRoad_76 : decode cX10_ofRoad 76 = .ok (.aload_n 0, 1) := by decide +kernel
theorem dX10_ofRoad_77 : decode cX10_ofRoad 77 = .ok (.getfield 31, 3) := by decide +kernel
theorem dX10_ofRoad_80 : decode cX10_ofRoad 80 = .ok (.iload_n 1, 1) := by decide +kernel
theorem dX10_ofRoad_81 : decode cX10_ofRoad 81 = .ok (.iaload, 1) := by decide +kernel
theorem dX10_ofRoad_82 : decode cX10_ofRoad 82 = .ok (.ireturn, 1) := by decide +kernel
theorem dX10_ofRoad_83 : decode cX10_ofRoad 83 = .ok (.bipush (-2), 2) := by decide +kernel
theorem dX10_ofRoad_85 : decode cX10_ofRoad 85 = .ok (.ireturn, 1) := by decide +kernel
theorem dX10_nextRoad_0 : decode cX10_nextRoad 0 = .ok (.iconst 0, 1) := by decide +kernel
theorem dX10_nextRoad_1 : decode cX10_nextRoad 1 = .ok (.istore_n 3, 1) := by decide +kernel
theorem dX10_nextRoad_2 : decode cX10_nextRoad 2 = .ok (.iload_n 3, 1) := by decide +kernel
theorem dX10_nextRoad_3 : decode cX10_nextRoad 3 = .ok (.aload_n 0, 1) := by decide +kernel
theorem dX10_nextRoad_4 : decode cX10_nextRoad 4 = .ok (.getfield 124, 3) := by decide +kernel
theorem dX10_nextRoad_7 : decode cX10_nextRoad 7 = .ok (.if_icmp .ge 92, 3) := by decide +kernel
theorem dX10_nextRoad_10 : decode cX10_nextRoad 10 = .ok (.aload_n 0, 1) := by decide +kernel
theorem dX10_nextRoad_11 : decode cX10_nextRoad 11 = .ok (.getfield 19, 3) := by decide +kernel
theorem dX10_nextRoad_14 : decode cX10_nextRoad 14 = .ok (.iload_n 3, 1) := by decide +kernel
theorem dX10_nextRoad_15 : decode cX10_nextRoad 15 = .ok (.iaload, 1) := by decide +kernel
theorem dX10_nextRoad_16 : decode cX10_nextRoad 16 = .ok (.iload_n 1, 1) := by decide +kernel
theorem dX10_nextRoad_17 : decode cX10_nextRoad 17 = .ok (.if_icmp .ne 12, 3) := by decide +kernel
theorem dX10_nextRoad_20 : decode cX10_nextRoad 20 = .ok (.aload_n 0, 1) := by decide +kernel
theorem dX10_nextRoad_21 : decode cX10_nextRoad 21 = .ok (.getfield 22, 3) := by decide +kernel
theorem dX10_nextRoad_24 : decode cX10_nextRoad 24 = .ok (.iload_n 3, 1) := by decide +kernel
theorem dX10_nextRoad_25 : decode cX10_nextRoad 25 = .ok (.iaload, 1) := by decide +kernel
theorem dX10_nextRoad_26 : decode cX10_nextRoad 26 = .ok (.goto 24, 3) := by decide +kernel
theorem dX10_nextRoad_29 : decode cX10_nextRoad 29 = .ok (.aload_n 0, 1) := by decide +kernel
theorem dX10_nextRoad_30 : decode cX10_nextRoad 30 = .ok (.getfield 22, 3) := by decide +kernel
theorem dX10_nextRoad_33 : decode cX10_nextRoad 33 = .ok (.iload_n 3, 1) := by decide +kernel
theorem dX10_nextRoad_34 : decode cX10_nextRoad 34 = .ok (.iaload, 1) := by decide +kernel
theorem dX10_nextRoad_35 : decode cX10_nextRoad 35 = .ok (.iload_n 1, 1) := by decide +kernel
theorem dX10_nextRoad_36 : decode cX10_nextRoad 36 = .ok (.if_icmp .ne 12, 3) := by decide +kernel
theorem dX10_nextRoad_39 : decode cX10_nextRoad 39 = .ok (.aload_n 0, 1) := by decide +kernel
theorem dX10_nextRoad_40 : decode cX10_nextRoad 40 = .ok (.getfield 19, 3) := by decide +kernel
theorem dX10_nextRoad_43 : decode cX10_nextRoad 43 = .ok (.iload_n 3, 1) := by decide +kernel
theorem dX10_nextRoad_44 : decode cX10_nextRoad 44 = .ok (.iaload, 1) := by decide +kernel
theorem dX10_nextRoad_45 : decode cX10_nextRoad 45 = .ok (.goto 5, 3) := by decide +kernel
theorem dX10_nextRoad_48 : decode cX10_nextRoad 48 = .ok (.bipush (-9), 2) := by decide +kernel
theorem dX10_nextRoad_50 : decode cX10_nextRoad 50 = .ok (.istore 4, 2) := by decide +kernel
theorem dX10_nextRoad_52 : decode cX10_nextRoad 52 = .ok (.iload 4, 2) := by decide +kernel
theorem dX10_nextRoad_54 : decode cX10_nextRoad 54 = .ok (.bipush (-9), 2) := by decide +kernel
theorem dX10_nextRoad_56 : decode cX10_nextRoad 56 = .ok (.if_icmp .eq 37, 3) := by decide +kernel
theorem dX10_nextRoad_59 : decode cX10_nextRoad 59 = .ok (.aload_n 0, 1) := by decide +kernel
theorem dX10_nextRoad_60 : decode cX10_nextRoad 60 = .ok (.getfield 34, 3) := by decide +kernel
theorem dX10_nextRoad_63 : decode cX10_nextRoad 63 = .ok (.bipush 7, 2) := by decide +kernel
theorem dX10_nextRoad_65 : decode cX10_nextRoad 65 = .ok (.iload 4, 2) := by decide +kernel
theorem dX10_nextRoad_67 : decode cX10_nextRoad 67 = .ok (.imul, 1) := by decide +kernel
theorem dX10_nextRoad_68 : decode cX10_nextRoad 68 = .ok (.iload_n 2, 1) := by decide +kernel
theorem dX10_nextRoad_69 : decode cX10_nextRoad 69 = .ok (.iadd, 1) := by decide +kernel
theorem dX10_nextRoad_70 : decode cX10_nextRoad 70 = .ok (.iaload, 1) := by decide +kernel
theorem dX10_nextRoad_71 : decode cX10_nextRoad 71 = .ok (.aload_n 0, 1) := by decide +kernel
theorem dX10_nextRoad_72 : decode cX10_nextRoad 72 = .ok (.iload_n 3, 1) := by decide +kernel
theorem dX10_nextRoad_73 : decode cX10_nextRoad 73 = .ok (.invokevirtual 153, 3) := by decide +kernel
theorem dX10_nextRoad_76 : decode cX10_nextRoad 76 = .ok (.iadd, 1) := by decide +kernel
theorem dX10_nextRoad_77 : decode cX10_nextRoad 77 = .ok (.aload_n 0, 1) := by decide +kernel
theorem dX10_nextRoad_78 : decode cX10_nextRoad 78 = .ok (.getfield 34, 3) := by decide +kernel
theorem dX10_nextRoad_81 : decode cX10_nextRoad 81 = .ok (.bipush 7, 2) := by decide +kernel
theorem dX10_nextRoad_83 : decode cX10_nextRoad 83 = .ok (.iload_n 1, 1) := by decide +kernel
theorem dX10_nextRoad_84 : decode cX10_nextRoad 84 = .ok (.imul, 1) := by decide +kernel
theorem dX10_nextRoad_85 : decode cX10_nextRoad 85 = .ok (.iload_n 2, 1) := by decide +kernel
theorem dX10_nextRoad_86 : decode cX10_nextRoad 86 = .ok (.iadd, 1) := by decide +kernel
theorem dX10_nextRoad_87 : decode cX10_nextRoad 87 = .ok (.iaload, 1) := by decide +kernel
theorem dX10_nextRoad_88 : decode cX10_nextRoad 88 = .ok (.if_icmp .ne 5, 3) := by decide +kernel
theorem dX10_nextRoad_91 : decode cX10_nextRoad 91 = .ok (.iload_n 3, 1) := by decide +kernel
theorem dX10_nextRoad_92 : decode cX10_nextRoad 92 = .ok (.ireturn, 1) := by decide +kernel
theorem dX10_nextRoad_93 : decode cX10_nextRoad 93 = .ok (.iinc 3 1, 3) := by decide +kernel
theorem dX10_nextRoad_96 : decode cX10_nextRoad 96 = .ok (.goto (-94), 3) := by decide +kernel
theorem dX10_nextRoad_99 : decode cX10_nextRoad 99 = .ok (.bipush (-9), 2) := by decide +kernel
theorem dX10_nextRoad_101 : decode cX10_nextRoad 101 = .ok (.ireturn, 1) := by decide +kernel
theorem dX10_isWay_0 : decode cX10_isWay 0 = .ok (.aload_n 0, 1) := by decide +kernel
theorem dX10_isWay_1 : decode cX10_isWay 1 = .ok (.getfield 34, 3) := by decide +kernel
theorem dX10_isWay_4 : decode cX10_isWay 4 = .ok (.bipush 7, 2) := by decide +kernel
theorem dX10_isWay_6 : decode cX10_isWay 6 = .ok (.iload_n 1, 1) := by decide +kernel
theorem dX10_isWay_7 : decode cX10_isWay 7 = .ok (.imul, 1) := by decide +kernel
theorem dX10_isWay_8 : decode cX10_isWay 8 = .ok (.iload_n 2, 1) := by decide +kernel
theorem dX10_isWay_9 : decode cX10_isWay 9 = .ok (.iadd, 1) := by decide +kernel
theorem dX10_isWay_10 : decode cX10_isWay 10 = .ok (.iaload, 1) := by decide +kernel
theorem dX10_isWay_11 : decode cX10_isWay 11 = .ok (.ldc 152, 2) := by decide +kernel
theorem dX10_isWay_13 : decode cX10_isWay 13 = .ok (.if_icmp .ge 7, 3) := by decide +kernel
theorem dX10_isWay_16 : decode cX10_isWay 16 = .ok (.iconst 1, 1) := by decide +kernel
theorem dX10_isWay_17 : decode cX10_isWay 17 = .ok (.goto 4, 3) := by decide +kernel
theorem dX10_isWay_20 : decode cX10_isWay 20 = .ok (.iconst 0, 1) := by decide +kernel
theorem dX10_isWay_21 : decode cX10_isWay 21 = .ok (.ireturn, 1) := by decide +kernel
theorem dX10_roadsOf_0 : decode cX10_roadsOf 0 = .ok (.iconst 0, 1) := by decide +kernel
theorem dX10_roadsOf_1 : decode cX10_roadsOf 1 = .ok (.istore_n 3, 1) := by decide +kernel
theorem dX10_roadsOf_2 : decode cX10_roadsOf 2 = .ok (.iload_n 1, 1) := by decide +kernel
theorem dX10_roadsOf_3 : decode cX10_roadsOf 3 = .ok (.istore 4, 2) := by decide +kernel
theorem dX10_roadsOf_5 : decode cX10_roadsOf 5 = .ok (.iload 4, 2) := by decide +kernel
theorem dX10_roadsOf_7 : decode cX10_roadsOf 7 = .ok (.iload_n 2, 1) := by decide +kernel
theorem dX10_roadsOf_8 : decode cX10_roadsOf 8 = .ok (.if_icmp .eq 49, 3) := by decide +kernel
theorem dX10_roadsOf_11 : decode cX10_roadsOf 11 = .ok (.aload_n 0, 1) := by decide +kernel
theorem dX10_roadsOf_12 : decode cX10_roadsOf 12 = .ok (.iload 4, 2) := by decide +kernel
theorem dX10_roadsOf_14 : decode cX10_roadsOf 14 = .ok (.iload_n 2, 1) := by decide +kernel
theorem dX10_roadsOf_15 : decode cX10_roadsOf 15 = .ok (.invokevirtual 156, 3) := by decide +kernel
theorem dX10_roadsOf_18 : decode cX10_roadsOf 18 = .ok (.istore 5, 2) := by decide +kernel
theorem dX10_roadsOf_20 : decode cX10_roadsOf 20 = .ok (.aload_n 0, 1) := by decide +kernel
theorem dX10_roadsOf_21 : decode cX10_roadsOf 21 = .ok (.getfield 19, 3) := by decide +kernel
theorem dX10_roadsOf_24 : decode cX10_roadsOf 24 = .ok (.iload 5, 2) := by decide +kernel
theorem dX10_roadsOf_26 : decode cX10_roadsOf 26 = .ok (.iaload, 1) := by decide +kernel
theorem dX10_roadsOf_27 : decode cX10_roadsOf 27 = .ok (.iload 4, 2) := by decide +kernel
theorem dX10_roadsOf_29 : decode cX10_roadsOf 29 = .ok (.if_icmp .ne 13, 3) := by decide +kernel
theorem dX10_roadsOf_32 : decode cX10_roadsOf 32 = .ok (.aload_n 0, 1) := by decide +kernel
theorem dX10_roadsOf_33 : decode cX10_roadsOf 33 = .ok (.getfield 22, 3) := by decide +kernel
theorem dX10_roadsOf_36 : decode cX10_roadsOf 36 = .ok (.iload 5, 2) := by decide +kernel
theorem dX10_roadsOf_38 : decode cX10_roadsOf 38 = .ok (.iaload, 1) := by decide +kernel
theorem dX10_roadsOf_39 : decode cX10_roadsOf 39 = .ok (.goto 10, 3) := by decide +kernel
theorem dX10_roadsOf_42 : decode cX10_roadsOf 42 = .ok (.aload_n 0, 1) := by decide +kernel
theorem dX10_roadsOf_43 : decode cX10_roadsOf 43 = .ok (.getfield 19, 3) := by decide +kernel
theorem dX10_roadsOf_46 : decode cX10_roadsOf 46 = .ok (.iload 5, 2) := by decide +kernel
theorem dX10_roadsOf_48 : decode cX10_roadsOf 48 = .ok (.iaload, 1) := by decide +kernel
theorem dX10_roadsOf_49 : decode cX10_roadsOf 49 = .ok (.istore 4, 2) := by decide +kernel
theorem dX10_roadsOf_51 : decode cX10_roadsOf 51 = .ok (.iinc 3 1, 3) := by decide +kernel
theorem dX10_roadsOf_54 : decode cX10_roadsOf 54 = .ok (.goto (-49), 3) := by decide +kernel
theorem dX10_roadsOf_57 : decode cX10_roadsOf 57 = .ok (.iload_n 3, 1) := by decide +kernel
theorem dX10_roadsOf_58 : decode cX10_roadsOf 58 = .ok (.ireturn, 1) := by decide +kernel
theorem dX10_way_0 : decode cX10_way 0 = .ok (.aload_n 0, 1) := by decide +kernel
theorem dX10_way_1 : decode cX10_way 1 = .ok (.iload_n 1, 1) := by decide +kernel
theorem dX10_way_2 : decode cX10_way 2 = .ok (.invokevirtual 159, 3) := by decide +kernel
theorem dX10_way_5 : decode cX10_way 5 = .ok (.ifCond .eq 11, 3) := by decide +kernel
theorem dX10_way_8 : decode cX10_way 8 = .ok (.aload_n 0, 1) := by decide +kernel
theorem dX10_way_9 : decode cX10_way 9 = .ok (.iload_n 2, 1) := by decide +kernel
theorem dX10_way_10 : decode cX10_way 10 = .ok (.invokevirtual 159, 3) := by decide +kernel
theorem dX10_way_13 : decode cX10_way 13 = .ok (.ifCond .ne 5, 3) := by decide +kernel
theorem dX10_way_16 : decode cX10_way 16 = .ok (.iconst (-1), 1) := by decide +kernel
theorem dX10_way_17 : decode cX10_way 17 = .ok (.ireturn, 1) := by decide +kernel
theorem dX10_way_18 : decode cX10_way 18 = .ok (.iload_n 3, 1) := by decide +kernel
theorem dX10_way_19 : decode cX10_way 19 = .ok (.iconst 0, 1) := by decide +kernel
theorem dX10_way_20 : decode cX10_way 20 = .ok (.iconst 2, 1) := by decide +kernel
theorem dX10_way_21 : decode cX10_way 21 = .ok (.invokestatic 92, 3) := by decide +kernel
theorem dX10_way_24 : decode cX10_way 24 = .ok (.ifCond .ne 6, 3) := by decide +kernel
theorem dX10_way_27 : decode cX10_way 27 = .ok (.bipush (-2), 2) := by decide +kernel
theorem dX10_way_29 : decode cX10_way 29 = .ok (.ireturn, 1) := by decide +kernel
theorem dX10_way_30 : decode cX10_way 30 = .ok (.aload_n 0, 1) := by decide +kernel
theorem dX10_way_31 : decode cX10_way 31 = .ok (.iload_n 1, 1) := by decide +kernel
theorem dX10_way_32 : decode cX10_way 32 = .ok (.iload_n 2, 1) := by decide +kernel
theorem dX10_way_33 : decode cX10_way 33 = .ok (.invokevirtual 162, 3) := by decide +kernel
theorem dX10_way_36 : decode cX10_way 36 = .ok (.ifCond .ne 6, 3) := by decide +kernel
theorem dX10_way_39 : decode cX10_way 39 = .ok (.bipush (-9), 2) := by decide +kernel
theorem dX10_way_41 : decode cX10_way 41 = .ok (.ireturn, 1) := by decide +kernel
theorem dX10_way_42 : decode cX10_way 42 = .ok (.iload_n 3, 1) := by decide +kernel
theorem dX10_way_43 : decode cX10_way 43 = .ok (.ifCond .ne 20, 3) := by decide +kernel
theorem dX10_way_46 : decode cX10_way 46 = .ok (.aload_n 0, 1) := by decide +kernel
theorem dX10_way_47 : decode cX10_way 47 = .ok (.getfield 34, 3) := by decide +kernel
theorem dX10_way_50 : decode cX10_way 50 = .ok (.bipush 7, 2) := by decide +kernel
theorem dX10_way_52 : decode cX10_way 52 = .ok (.iload_n 1, 1) := by decide +kernel
theorem dX10_way_53 : decode cX10_way 53 = .ok (.imul, 1) := by decide +kernel
theorem dX10_way_54 : decode cX10_way 54 = .ok (.iload_n 2, 1) := by decide +kernel
theorem dX10_way_55 : decode cX10_way 55 = .ok (.iadd, 1) := by decide +kernel
theorem dX10_way_56 : decode cX10_way 56 = .ok (.iaload, 1) := by decide +kernel
theorem dX10_way_57 : decode cX10_way 57 = .ok (.bipush 100, 2) := by decide +kernel
theorem dX10_way_59 : decode cX10_way 59 = .ok (.idiv, 1) := by decide +kernel
theorem dX10_way_60 : decode cX10_way 60 = .ok (.goto 31, 3) := by decide +kernel
theorem dX10_way_63 : decode cX10_way 63 = .ok (.iload_n 3, 1) := by decide +kernel
theorem dX10_way_64 : decode cX10_way 64 = .ok (.iconst 1, 1) := by decide +kernel
theorem dX10_way_65 : decode cX10_way 65 = .ok (.if_icmp .ne 20, 3) := by decide +kernel
theorem dX10_way_68 : decode cX10_way 68 = .ok (.aload_n 0, 1) := by decide +kernel
theorem dX10_way_69 : decode cX10_way 69 = .ok (.getfield 34, 3) := by decide +kernel
theorem dX10_way_72 : decode cX10_way 72 = .ok (.bipush 7, 2) := by decide +kernel
theorem dX10_way_74 : decode cX10_way 74 = .ok (.iload_n 1, 1) := by decide +kernel
theorem dX10_way_75 : decode cX10_way 75 = .ok (.imul, 1) := by decide +kernel
theorem dX10_way_76 : decode cX10_way 76 = .ok (.iload_n 2, 1) := by decide +kernel
theorem dX10_way_77 : decode cX10_way 77 = .ok (.iadd, 1) := by decide +kernel
theorem dX10_way_78 : decode cX10_way 78 = .ok (.iaload, 1) := by decide +kernel
theorem dX10_way_79 : decode cX10_way 79 = .ok (.bipush 100, 2) := by decide +kernel
theorem dX10_way_81 : decode cX10_way 81 = .ok (.irem, 1) := by decide +kernel
theorem dX10_way_82 : decode cX10_way 82 = .ok (.goto 9, 3) := by decide +kernel
theorem dX10_way_85 : decode cX10_way 85 = .ok (.aload_n 0, 1) := by decide +kernel
theorem dX10_way_86 : decode cX10_way 86 = .ok (.iload_n 1, 1) := by decide +kernel
theorem dX10_way_87 : decode cX10_way 87 = .ok (.iload_n 2, 1) := by decide +kernel
theorem dX10_way_88 : decode cX10_way 88 = .ok (.invokevirtual 166, 3) := by decide +kernel
theorem dX10_way_91 : decode cX10_way 91 = .ok (.ireturn, 1) := by decide +kernel
theorem dX10_along_0 : decode cX10_along 0 = .ok (.aload_n 0, 1) := by decide +kernel
theorem dX10_along_1 : decode cX10_along 1 = .ok (.iload_n 1, 1) := by decide +kernel
theorem dX10_along_2 : decode cX10_along 2 = .ok (.invokevirtual 159, 3) := by decide +kernel
theorem dX10_along_5 : decode cX10_along 5 = .ok (.ifCond .eq 11, 3) := by decide +kernel
theorem dX10_along_8 : decode cX10_along 8 = .ok (.aload_n 0, 1) := by decide +kernel
theorem dX10_along_9 : decode cX10_along 9 = .ok (.iload_n 2, 1) := by decide +kernel
theorem dX10_along_10 : decode cX10_along 10 = .ok (.invokevirtual 159, 3) := by decide +kernel
theorem dX10_along_13 : decode cX10_along 13 = .ok (.ifCond .ne 5, 3) := by decide +kernel
theorem dX10_along_16 : decode cX10_along 16 = .ok (.iconst (-1), 1) := by decide +kernel
theorem dX10_along_17 : decode cX10_along 17 = .ok (.ireturn, 1) := by decide +kernel
theorem dX10_along_18 : decode cX10_along 18 = .ok (.iload_n 3, 1) := by decide +kernel
theorem dX10_along_19 : decode cX10_along 19 = .ok (.ifCond .ge 6, 3) := by decide +kernel
theorem dX10_along_22 : decode cX10_along 22 = .ok (.bipush (-2), 2) := by decide +kernel
theorem dX10_along_24 : decode cX10_along 24 = .ok (.ireturn, 1) := by decide +kernel
theorem dX10_along_25 : decode cX10_along 25 = .ok (.aload_n 0, 1) := by decide +kernel
theorem dX10_along_26 : decode cX10_along 26 = .ok (.iload_n 1, 1) := by decide +kernel
theorem dX10_along_27 : decode cX10_along 27 = .ok (.iload_n 2, 1) := by decide +kernel
theorem dX10_along_28 : decode cX10_along 28 = .ok (.invokevirtual 162, 3) := by decide +kernel
theorem dX10_along_31 : decode cX10_along 31 = .ok (.ifCond .ne 6, 3) := by decide +kernel
theorem dX10_along_34 : decode cX10_along 34 = .ok (.bipush (-9), 2) := by decide +kernel
theorem dX10_along_36 : decode cX10_along 36 = .ok (.ireturn, 1) := by decide +kernel
theorem dX10_along_37 : decode cX10_along 37 = .ok (.iload_n 1, 1) := by decide +kernel
theorem dX10_along_38 : decode cX10_along 38 = .ok (.istore 4, 2) := by decide +kernel
theorem dX10_along_40 : decode cX10_along 40 = .ok (.iconst 0, 1) := by decide +kernel
theorem dX10_along_41 : decode cX10_along 41 = .ok (.istore 5, 2) := by decide +kernel
theorem dX10_along_43 : decode cX10_along 43 = .ok (.iload 4, 2) := by decide +kernel
theorem dX10_along_45 : decode cX10_along 45 = .ok (.iload_n 2, 1) := by decide +kernel
theorem dX10_along_46 : decode cX10_along 46 = .ok (.if_icmp .eq 58, 3) := by decide +kernel
theorem dX10_along_49 : decode cX10_along 49 = .ok (.aload_n 0, 1) := by decide +kernel
theorem dX10_along_50 : decode cX10_along 50 = .ok (.iload 4, 2) := by decide +kernel
theorem dX10_along_52 : decode cX10_along 52 = .ok (.iload_n 2, 1) := by decide +kernel
theorem dX10_along_53 : decode cX10_along 53 = .ok (.invokevirtual 156, 3) := by decide +kernel
theorem dX10_along_56 : decode cX10_along 56 = .ok (.istore 6, 2) := by decide +kernel
theorem dX10_along_58 : decode cX10_along 58 = .ok (.iload 5, 2) := by decide +kernel
theorem dX10_along_60 : decode cX10_along 60 = .ok (.iload_n 3, 1) := by decide +kernel
theorem dX10_along_61 : decode cX10_along 61 = .ok (.if_icmp .ne 6, 3) := by decide +kernel
theorem dX10_along_64 : decode cX10_along 64 = .ok (.iload 6, 2) := by decide +kernel
theorem dX10_along_66 : decode cX10_along 66 = .ok (.ireturn, 1) := by decide +kernel
theorem dX10_along_67 : decode cX10_along 67 = .ok (.aload_n 0, 1) := by decide +kernel
theorem dX10_along_68 : decode cX10_along 68 = .ok (.getfield 19, 3) := by decide +kernel
theorem dX10_along_71 : decode cX10_along 71 = .ok (.iload 6, 2) := by decide +kernel
theorem dX10_along_73 : decode cX10_along 73 = .ok (.iaload, 1) := by decide +kernel
theorem dX10_along_74 : decode cX10_along 74 = .ok (.iload 4, 2) := by decide +kernel
theorem dX10_along_76 : decode cX10_along 76 = .ok (.if_icmp .ne 13, 3) := by decide +kernel
theorem dX10_along_79 : decode cX10_along 79 = .ok (.aload_n 0, 1) := by decide +kernel
theorem dX10_along_80 : decode cX10_along 80 = .ok (.getfield 22, 3) := by decide +kernel
theorem dX10_along_83 : decode cX10_along 83 = .ok (.iload 6, 2) := by decide +kernel
theorem dX10_along_85 : decode cX10_along 85 = .ok (.iaload, 1) := by decide +kernel
theorem dX10_along_86 : decode cX10_along 86 = .ok (.goto 10, 3) := by decide +kernel
theorem dX10_along_89 : decode cX10_along 89 = .ok (.aload_n 0, 1) := by decide +kernel
theorem dX10_along_90 : decode cX10_along 90 = .ok (.getfield 19, 3) := by decide +kernel
theorem dX10_along_93 : decode cX10_along 93 = .ok (.iload 6, 2) := by decide +kernel
theorem dX10_along_95 : decode cX10_along 95 = .ok (.iaload, 1) := by decide +kernel
theorem dX10_along_96 : decode cX10_along 96 = .ok (.istore 4, 2) := by decide +kernel
theorem dX10_along_98 : decode cX10_along 98 = .ok (.iinc 5 1, 3) := by decide +kernel
theorem dX10_along_101 : decode cX10_along 101 = .ok (.goto (-58), 3) := by decide +kernel
theorem dX10_along_104 : decode cX10_along 104 = .ok (.bipush (-9), 2) := by decide +kernel
theorem dX10_along_106 : decode cX10_along 106 = .ok (.ireturn, 1) := by decide +kernel
theorem dX10_isChild_0 : decode cX10_isChild 0 = .ok (.iload_n 1, 1) := by decide +kernel
theorem dX10_isChild_1 : decode cX10_isChild 1 = .ok (.ifCond .lt 15, 3) := by decide +kernel
theorem dX10_isChild_4 : decode cX10_isChild 4 = .ok (.iload_n 1, 1) := by decide +kernel
theorem dX10_isChild_5 : decode cX10_isChild 5 = .ok (.aload_n 0, 1) := by decide +kernel
theorem dX10_isChild_6 : decode cX10_isChild 6 = .ok (.getfield 133, 3) := by decide +kernel
theorem dX10_isChild_9 : decode cX10_isChild 9 = .ok (.if_icmp .ge 7, 3) := by decide +kernel
theorem dX10_isChild_12 : decode cX10_isChild 12 = .ok (.iconst 1, 1) := by decide +kernel
theorem dX10_isChild_13 : decode cX10_isChild 13 = .ok (.goto 4, 3) := by decide +kernel
theorem dX10_isChild_16 : decode cX10_isChild 16 = .ok (.iconst 0, 1) := by decide +kernel
theorem dX10_isChild_17 : decode cX10_isChild 17 = .ok (.ireturn, 1) := by decide +kernel
theorem dX10_child_0 : decode cX10_child 0 = .ok (.aload_n 0, 1) := by decide +kernel
theorem dX10_child_1 : decode cX10_child 1 = .ok (.iload_n 2, 1) := by decide +kernel
theorem dX10_child_2 : decode cX10_child 2 = .ok (.invokevirtual 159, 3) := by decide +kernel
theorem dX10_child_5 : decode cX10_child 5 = .ok (.ifCond .ne 5, 3) := by decide +kernel
theorem dX10_child_8 : decode cX10_child 8 = .ok (.iconst (-1), 1) := by decide +kernel
theorem dX10_child_9 : decode cX10_child 9 = .ok (.ireturn, 1) := by decide +kernel
theorem dX10_child_10 : decode cX10_child 10 = .ok (.iload_n 1, 1) := by decide +kernel
theorem dX10_child_11 : decode cX10_child 11 = .ok (.iconst 0, 1) := by decide +kernel
theorem dX10_child_12 : decode cX10_child 12 = .ok (.iconst 2, 1) := by decide +kernel
theorem dX10_child_13 : decode cX10_child 13 = .ok (.invokestatic 92, 3) := by decide +kernel
theorem dX10_child_16 : decode cX10_child 16 = .ok (.ifCond .eq 24, 3) := by decide +kernel
theorem dX10_child_19 : decode cX10_child 19 = .ok (.iload_n 3, 1) := by decide +kernel
theorem dX10_child_20 : decode cX10_child 20 = .ok (.iconst 4, 1) := by decide +kernel
theorem dX10_child_21 : decode cX10_child 21 = .ok (.bipush 11, 2) := by decide +kernel
theorem dX10_child_23 : decode cX10_child 23 = .ok (.invokestatic 92, 3) := by decide +kernel
theorem dX10_child_26 : decode cX10_child 26 = .ok (.ifCond .eq 14, 3) := by decide +kernel
theorem dX10_child_29 : decode cX10_child 29 = .ok (.iload 4, 2) := by decide +kernel
theorem dX10_child_31 : decode cX10_child 31 = .ok (.iconst 0, 1) := by decide +kernel
theorem dX10_child_32 : decode cX10_child 32 = .ok (.bipush 60, 2) := by decide +kernel
theorem dX10_child_34 : decode cX10_child 34 = .ok (.invokestatic 92, 3) := by decide +kernel
theorem dX10_child_37 : decode cX10_child 37 = .ok (.ifCond .ne 6, 3) := by decide +kernel
theorem dX10_child_40 : decode cX10_child 40 = .ok (.bipush (-2), 2) := by decide +kernel
theorem dX10_child_42 : decode cX10_child 42 = .ok (.ireturn, 1) := by decide +kernel
theorem dX10_child_43 : decode cX10_child 43 = .ok (.aload_n 0, 1) := by decide +kernel
theorem dX10_child_44 : decode cX10_child 44 = .ok (.getfield 133, 3) := by decide +kernel
theorem dX10_child_47 : decode cX10_child 47 = .ok (.bipush 10, 2) := by decide +kernel
theorem dX10_child_49 : decode cX10_child 49 = .ok (.if_icmp .ne 6, 3) := by decide +kernel
theorem dX10_child_52 : decode cX10_child 52 = .ok (.bipush (-4), 2) := by decide +kernel
theorem dX10_child_54 : decode cX10_child 54 = .ok (.ireturn, 1) := by decide +kernel
theorem dX10_child_55 : decode cX10_child 55 = .ok (.aload_n 0, 1) := by decide +kernel
theorem dX10_child_56 : decode cX10_child 56 = .ok (.getfield 40, 3) := by decide +kernel
theorem dX10_child_59 : decode cX10_child 59 = .ok (.aload_n 0, 1) := by decide +kernel
theorem dX10_child_60 : decode cX10_child 60 = .ok (.getfield 133, 3) := by decide +kernel
theorem dX10_child_63 : decode cX10_child 63 = .ok (.iload_n 1, 1) := by decide +kernel
theorem dX10_child_64 : decode cX10_child 64 = .ok (.iastore, 1) := by decide +kernel
theorem dX10_child_65 : decode cX10_child 65 = .ok (.aload_n 0, 1) := by decide +kernel
theorem dX10_child_66 : decode cX10_child 66 = .ok (.getfield 43, 3) := by decide +kernel
theorem dX10_child_69 : decode cX10_child 69 = .ok (.aload_n 0, 1) := by decide +kernel
theorem dX10_child_70 : decode cX10_child 70 = .ok (.getfield 133, 3) := by decide +kernel
theorem dX10_child_73 : decode cX10_child 73 = .ok (.iload_n 2, 1) := by decide +kernel
theorem dX10_child_74 : decode cX10_child 74 = .ok (.iastore, 1) := by decide +kernel
theorem dX10_child_75 : decode cX10_child 75 = .ok (.aload_n 0, 1) := by decide +kernel
theorem dX10_child_76 : decode cX10_child 76 = .ok (.getfield 46, 3) := by decide +kernel
theorem dX10_child_79 : decode cX10_child 79 = .ok (.aload_n 0, 1) := by decide +kernel
theorem dX10_child_80 : decode cX10_child 80 = .ok (.getfield 133, 3) := by decide +kernel
theorem dX10_child_83 : decode cX10_child 83 = .ok (.iload_n 3, 1) := by decide +kernel
theorem dX10_child_84 : decode cX10_child 84 = .ok (.iastore, 1) := by decide +kernel
theorem dX10_child_85 : decode cX10_child 85 = .ok (.aload_n 0, 1) := by decide +kernel
theorem dX10_child_86 : decode cX10_child 86 = .ok (.getfield 49, 3) := by decide +kernel
theorem dX10_child_89 : decode cX10_child 89 = .ok (.aload_n 0, 1) := by decide +kernel
theorem dX10_child_90 : decode cX10_child 90 = .ok (.getfield 133, 3) := by decide +kernel
theorem dX10_child_93 : decode cX10_child 93 = .ok (.iload 4, 2) := by decide +kernel
theorem dX10_child_95 : decode cX10_child 95 = .ok (.iastore, 1) := by decide +kernel
theorem dX10_child_96 : decode cX10_child 96 = .ok (.iconst 0, 1) := by decide +kernel
theorem dX10_child_97 : decode cX10_child 97 = .ok (.istore 5, 2) := by decide +kernel
theorem dX10_child_99 : decode cX10_child 99 = .ok (.iload 5, 2) := by decide +kernel
theorem dX10_child_101 : decode cX10_child 101 = .ok (.bipush 10, 2) := by decide +kernel
theorem dX10_child_103 : decode cX10_child 103 = .ok (.if_icmp .ge 41, 3) := by decide +kernel
theorem dX10_child_106 : decode cX10_child 106 = .ok (.aload_n 0, 1) := by decide +kernel
theorem dX10_child_107 : decode cX10_child 107 = .ok (.getfield 52, 3) := by decide +kernel
theorem dX10_child_110 : decode cX10_child 110 = .ok (.bipush 10, 2) := by decide +kernel
theorem dX10_child_112 : decode cX10_child 112 = .ok (.aload_n 0, 1) := by decide +kernel
theorem dX10_child_113 : decode cX10_child 113 = .ok (.getfield 133, 3) := by decide +kernel
theorem dX10_child_116 : decode cX10_child 116 = .ok (.imul, 1) := by decide +kernel
theorem dX10_child_117 : decode cX10_child 117 = .ok (.iload 5, 2) := by decide +kernel
theorem dX10_child_119 : decode cX10_child 119 = .ok (.iadd, 1) := by decide +kernel
theorem dX10_child_120 : decode cX10_child 120 = .ok (.iconst 0, 1) := by decide +kernel
theorem dX10_child_121 : decode cX10_child 121 = .ok (.iastore, 1) := by decide +kernel
theorem dX10_child_122 : decode cX10_child 122 = .ok (.aload_n 0, 1) := by decide +kernel
theorem dX10_child_123 : decode cX10_child 123 = .ok (.getfield 52, 3) := by decide +kernel
theorem dX10_child_126 : decode cX10_child 126 = .ok (.bipush 10, 2) := by decide +kernel
theorem dX10_child_128 : decode cX10_child 128 = .ok (.iload 5, 2) := by decide +kernel
theorem dX10_child_130 : decode cX10_child 130 = .ok (.imul, 1) := by decide +kernel
theorem dX10_child_131 : decode cX10_child 131 = .ok (.aload_n 0, 1) := by decide +kernel
theorem dX10_child_132 : decode cX10_child 132 = .ok (.getfield 133, 3) := by decide +kernel
theorem dX10_child_135 : decode cX10_child 135 = .ok (.iadd, 1) := by decide +kernel
theorem dX10_child_136 : decode cX10_child 136 = .ok (.iconst 0, 1) := by decide +kernel
theorem dX10_child_137 : decode cX10_child 137 = .ok (.iastore, 1) := by decide +kernel
theorem dX10_child_138 : decode cX10_child 138 = .ok (.iinc 5 1, 3) := by decide +kernel
theorem dX10_child_141 : decode cX10_child 141 = .ok (.goto (-42), 3) := by decide +kernel
theorem dX10_child_144 : decode cX10_child 144 = .ok (.aload_n 0, 1) := by decide +kernel
theorem dX10_child_145 : decode cX10_child 145 = .ok (.dup, 1) := by decide +kernel
theorem dX10_child_146 : decode cX10_child 146 = .ok (.getfield 133, 3) := by decide +kernel
theorem dX10_child_149 : decode cX10_child 149 = .ok (.iconst 1, 1) := by decide +kernel
theorem dX10_child_150 : decode cX10_child 150 = .ok (.iadd, 1) := by decide +kernel
theorem dX10_child_151 : decode cX10_child 151 = .ok (.putfield 133, 3) := by decide +kernel
theorem dX10_child_154 : decode cX10_child 154 = .ok (.aload_n 0, 1) := by decide +kernel
theorem dX10_child_155 : decode cX10_child 155 = .ok (.getfield 133, 3) := by decide +kernel
theorem dX10_child_158 : decode cX10_child 158 = .ok (.iconst 1, 1) := by decide +kernel
theorem dX10_child_159 : decode cX10_child 159 = .ok (.isub, 1) := by decide +kernel
theorem dX10_child_160 : decode cX10_child 160 = .ok (.ireturn, 1) := by decide +kernel
theorem dX10_paceOf_0 : decode cX10_paceOf 0 = .ok (.aload_n 0, 1) := by decide +kernel
theorem dX10_paceOf_1 : decode cX10_paceOf 1 = .ok (.getfield 46, 3) := by decide +kernel
theorem dX10_paceOf_4 : decode cX10_paceOf 4 = .ok (.iload_n 1, 1) := by decide +kernel
theorem dX10_paceOf_5 : decode cX10_paceOf 5 = .ok (.iaload, 1) := by decide +kernel
theorem dX10_paceOf_6 : decode cX10_paceOf 6 = .ok (.istore_n 2, 1) := by decide +kernel
theorem dX10_paceOf_7 : decode cX10_paceOf 7 = .ok (.iload_n 2, 1) := by decide +kernel
theorem dX10_paceOf_8 : decode cX10_paceOf 8 = .ok (.bipush 6, 2) := by decide +kernel
theorem dX10_paceOf_10 : decode cX10_paceOf 10 = .ok (.if_icmp .ge 7, 3) := by decide +kernel
theorem dX10_paceOf_13 : decode cX10_paceOf 13 = .ok (.iconst 3, 1) := by decide +kernel
theorem dX10_paceOf_14 : decode cX10_paceOf 14 = .ok (.goto 14, 3) := by decide +kernel
theorem dX10_paceOf_17 : decode cX10_paceOf 17 = .ok (.iload_n 2, 1) := by decide +kernel
theorem dX10_paceOf_18 : decode cX10_paceOf 18 = .ok (.bipush 9, 2) := by decide +kernel
theorem dX10_paceOf_20 : decode cX10_paceOf 20 = .ok (.if_icmp .ge 7, 3) := by decide +kernel
theorem dX10_paceOf_23 : decode cX10_paceOf 23 = .ok (.iconst 2, 1) := by decide +kernel
theorem dX10_paceOf_24 : decode cX10_paceOf 24 = .ok (.goto 4, 3) := by decide +kernel
theorem dX10_paceOf_27 : decode cX10_paceOf 27 = .ok (.iconst 1, 1) := by decide +kernel
theorem dX10_paceOf_28 : decode cX10_paceOf 28 = .ok (.istore_n 3, 1) := by decide +kernel
theorem dX10_paceOf_29 : decode cX10_paceOf 29 = .ok (.aload_n 0, 1) := by decide +kernel
theorem dX10_paceOf_30 : decode cX10_paceOf 30 = .ok (.getfield 40, 3) := by decide +kernel
theorem dX10_paceOf_33 : decode cX10_paceOf 33 = .ok (.iload_n 1, 1) := by decide +kernel
theorem dX10_paceOf_34 : decode cX10_paceOf 34 = .ok (.iaload, 1) := by decide +kernel
theorem dX10_paceOf_35 : decode cX10_paceOf 35 = .ok (.ifCond .le 9, 3) := by decide +kernel
theorem dX10_paceOf_38 : decode cX10_paceOf 38 = .ok (.iload_n 3, 1) := by decide +kernel
theorem dX10_paceOf_39 : decode cX10_paceOf 39 = .ok (.iconst 1, 1) := by decide +kernel
theorem dX10_paceOf_40 : decode cX10_paceOf 40 = .ok (.iadd, 1) := by decide +kernel
theorem dX10_paceOf_41 : decode cX10_paceOf 41 = .ok (.goto 4, 3) := by decide +kernel
theorem dX10_paceOf_44 : decode cX10_paceOf 44 = .ok (.iload_n 3, 1) := by decide +kernel
theorem dX10_paceOf_45 : decode cX10_paceOf 45 = .ok (.ireturn, 1) := by decide +kernel
theorem dX10_tiedTo_0 : decode cX10_tiedTo 0 = .ok (.iconst 0, 1) := by decide +kernel
theorem dX10_tiedTo_1 : decode cX10_tiedTo 1 = .ok (.istore_n 3, 1) := by decide +kernel
theorem dX10_tiedTo_2 : decode cX10_tiedTo 2 = .ok (.iconst 0, 1) := by decide +kernel
theorem dX10_tiedTo_3 : decode cX10_tiedTo 3 = .ok (.istore 4, 2) := by decide +kernel
theorem dX10_tiedTo_5 : decode cX10_tiedTo 5 = .ok (.iload 4, 2) := by decide +kernel
theorem dX10_tiedTo_7 : decode cX10_tiedTo 7 = .ok (.aload_n 0, 1) := by decide +kernel
theorem dX10_tiedTo_8 : decode cX10_tiedTo 8 = .ok (.getfield 133, 3) := by decide +kernel
theorem dX10_tiedTo_11 : decode cX10_tiedTo 11 = .ok (.if_icmp .ge 36, 3) := by decide +kernel
theorem dX10_tiedTo_14 : decode cX10_tiedTo 14 = .ok (.iload_n 3, 1) := by decide +kernel
theorem dX10_tiedTo_15 : decode cX10_tiedTo 15 = .ok (.aload_n 0, 1) := by decide +kernel
theorem dX10_tiedTo_16 : decode cX10_tiedTo 16 = .ok (.getfield 52, 3) := by decide +kernel
theorem dX10_tiedTo_19 : decode cX10_tiedTo 19 = .ok (.bipush 10, 2) := by decide +kernel
theorem dX10_tiedTo_21 : decode cX10_tiedTo 21 = .ok (.iload_n 1, 1) := by decide +kernel
theorem dX10_tiedTo_22 : decode cX10_tiedTo 22 = .ok (.imul, 1) := by decide +kernel
theorem dX10_tiedTo_23 : decode cX10_tiedTo 23 = .ok (.iload 4, 2) := by decide +kernel
theorem dX10_tiedTo_25 : decode cX10_tiedTo 25 = .ok (.iadd, 1) := by decide +kernel
theorem dX10_tiedTo_26 : decode cX10_tiedTo 26 = .ok (.iaload, 1) := by decide +kernel
theorem dX10_tiedTo_27 : decode cX10_tiedTo 27 = .ok (.iload_n 2, 1) := by decide +kernel
theorem dX10_tiedTo_28 : decode cX10_tiedTo 28 = .ok (.if_icmp .ne 10, 3) := by decide +kernel
theorem dX10_tiedTo_31 : decode cX10_tiedTo 31 = .ok (.iconst 1, 1) := by decide +kernel
theorem dX10_tiedTo_32 : decode cX10_tiedTo 32 = .ok (.iload 4, 2) := by decide +kernel
theorem dX10_tiedTo_34 : decode cX10_tiedTo 34 = .ok (.ishl, 1) := by decide +kernel
theorem dX10_tiedTo_35 : decode cX10_tiedTo 35 = .ok (.goto 4, 3) := by decide +kernel
theorem dX10_tiedTo_38 : decode cX10_tiedTo 38 = .ok (.iconst 0, 1) := by decide +kernel
theorem dX10_tiedTo_39 : decode cX10_tiedTo 39 = .ok (.ior, 1) := by decide +kernel
theorem dX10_tiedTo_40 : decode cX10_tiedTo 40 = .ok (.istore_n 3, 1) := by decide +kernel
theorem dX10_tiedTo_41 : decode cX10_tiedTo 41 = .ok (.iinc 4 1, 3) := by decide +kernel
theorem dX10_tiedTo_44 : decode cX10_tiedTo 44 = .ok (.goto (-39), 3) := by decide +kernel
theorem dX10_tiedTo_47 : decode cX10_tiedTo 47 = .ok (.iload_n 3, 1) := by decide +kernel
theorem dX10_tiedTo_48 : decode cX10_tiedTo 48 = .ok (.ireturn, 1) := by decide +kernel
theorem dX10_ofChild_0 : decode cX10_ofChild 0 = .ok (.aload_n 0, 1) := by decide +kernel
theorem dX10_ofChild_1 : decode cX10_ofChild 1 = .ok (.iload_n 1, 1) := by decide +kernel
theorem dX10_ofChild_2 : decode cX10_ofChild 2 = .ok (.invokevirtual 169, 3) := by decide +kernel
theorem dX10_ofChild_5 : decode cX10_ofChild 5 = .ok (.ifCond .ne 5, 3) := by decide +kernel
theorem dX10_ofChild_8 : decode cX10_ofChild 8 = .ok (.iconst (-1), 1) := by decide +kernel
theorem dX10_ofChild_9 : decode cX10_ofChild 9 = .ok (.ireturn, 1) := by decide +kernel
theorem dX10_ofChild_10 : decode cX10_ofChild 10 = .ok (.iload_n 2, 1) := by decide +kernel
theorem dX10_ofChild_11 : decode cX10_ofChild 11 = .ok (.tableswitch 109 0 7 #[45, 52, 59, 66, 73, 79, 95, 102], 45) := by decide +kernel
theorem dX10_ofChild_56 : decode cX10_ofChild 56 = .ok (.aload_n 0, 1) := by decide +kernel
theorem dX10_ofChild_57 : decode cX10_ofChild 57 = .ok (.getfield 40, 3) := by decide +kernel
theorem dX10_ofChild_60 : decode cX10_ofChild 60 = .ok (.iload_n 1, 1) := by decide +kernel
theorem dX10_ofChild_61 : decode cX10_ofChild 61 = .ok (.iaload, 1) := by decide +kernel
theorem dX10_ofChild_62 : decode cX10_ofChild 62 = .ok (.ireturn, 1) := by decide +kernel
theorem dX10_ofChild_63 : decode cX10_ofChild 63 = .ok (.aload_n 0, 1) := by decide +kernel
theorem dX10_ofChild_64 : decode cX10_ofChild 64 = .ok (.getfield 43, 3) := by decide +kernel
theorem dX10_ofChild_67 : decode cX10_ofChild 67 = .ok (.iload_n 1, 1) := by decide +kernel
theorem dX10_ofChild_68 : decode cX10_ofChild 68 = .ok (.iaload, 1) := by decide +kernel
theorem dX10_ofChild_69 : decode cX10_ofChild 69 = .ok (.ireturn, 1) := by decide +kernel
theorem dX10_ofChild_70 : decode cX10_ofChild 70 = .ok (.aload_n 0, 1) := by decide +kernel
theorem dX10_ofChild_71 : decode cX10_ofChild 71 = .ok (.getfield 46, 3) := by decide +kernel
theorem dX10_ofChild_74 : decode cX10_ofChild 74 = .ok (.iload_n 1, 1) := by decide +kernel
theorem dX10_ofChild_75 : decode cX10_ofChild 75 = .ok (.iaload, 1) := by decide +kernel
theorem dX10_ofChild_76 : decode cX10_ofChild 76 = .ok (.ireturn, 1) := by decide +kernel
theorem dX10_ofChild_77 : decode cX10_ofChild 77 = .ok (.aload_n 0, 1) := by decide +kernel
theorem dX10_ofChild_78 : decode cX10_ofChild 78 = .ok (.getfield 49, 3) := by decide +kernel
theorem dX10_ofChild_81 : decode cX10_ofChild 81 = .ok (.iload_n 1, 1) := by decide +kernel
theorem dX10_ofChild_82 : decode cX10_ofChild 82 = .ok (.iaload, 1) := by decide +kernel
theorem dX10_ofChild_83 : decode cX10_ofChild 83 = .ok (.ireturn, 1) := by decide +kernel
theorem dX10_ofChild_84 : decode cX10_ofChild 84 = .ok (.aload_n 0, 1) := by decide +kernel
theorem dX10_ofChild_85 : decode cX10_ofChild 85 = .ok (.iload_n 1, 1) := by decide +kernel
theorem dX10_ofChild_86 : decode cX10_ofChild 86 = .ok (.invokevirtual 172, 3) := by decide +kernel
theorem dX10_ofChild_89 : decode cX10_ofChild 89 = .ok (.ireturn, 1) := by decide +kernel
theorem dX10_ofChild_90 : decode cX10_ofChild 90 = .ok (.aload_n 0, 1) := by decide +kernel
theorem dX10_ofChild_91 : decode cX10_ofChild 91 = .ok (.getfield 40, 3) := by decide +kernel
theorem dX10_ofChild_94 : decode cX10_ofChild 94 = .ok (.iload_n 1, 1) := by decide +kernel
theorem dX10_ofChild_95 : decode cX10_ofChild 95 = .ok (.iaload, 1) := by decide +kernel
theorem dX10_ofChild_96 : decode cX10_ofChild 96 = .ok (.iconst 2, 1) := by decide +kernel
theorem dX10_ofChild_97 : decode cX10_ofChild 97 = .ok (.if_icmp .ne 7, 3) := by decide +kernel
theorem dX10_ofChild_100 : decode cX10_ofChild 100 = .ok (.iconst 3, 1) := by decide +kernel
theorem dX10_ofChild_101 : decode cX10_ofChild 101 = .ok (.goto 4, 3) := by decide +kernel
theorem dX10_ofChild_104 : decode cX10_ofChild 104 = .ok (.iconst 1, 1) := by decide +kernel
theorem dX10_ofChild_105 : decode cX10_ofChild 105 = .ok (.ireturn, 1) := by decide +kernel
theorem dX10_ofChild_106 : decode cX10_ofChild 106 = .ok (.aload_n 0, 1) := by decide +kernel
theorem dX10_ofChild_107 : decode cX10_ofChild 107 = .ok (.iload_n 1, 1) := by decide +kernel
theorem dX10_ofChild_108 : decode cX10_ofChild 108 = .ok (.iconst 1, 1) := by decide +kernel
theorem dX10_ofChild_109 : decode cX10_ofChild 109 = .ok (.invokevirtual 175, 3) := by decide +kernel
theorem dX10_ofChild_112 : decode cX10_ofChild 112 = .ok (.ireturn, 1) := by decide +kernel
theorem dX10_ofChild_113 : decode cX10_ofChild 113 = .ok (.aload_n 0, 1) := by decide +kernel
theorem dX10_ofChild_114 : decode cX10_ofChild 114 = .ok (.iload_n 1, 1) := by decide +kernel
theorem dX10_ofChild_115 : decode cX10_ofChild 115 = .ok (.iconst 2, 1) := by decide +kernel
theorem dX10_ofChild_116 : decode cX10_ofChild 116 = .ok (.invokevirtual 175, 3) := by decide +kernel
theorem dX10_ofChild_119 : decode cX10_ofChild 119 = .ok (.ireturn, 1) := by decide +kernel
theorem dX10_ofChild_120 : decode cX10_ofChild 120 = .ok (.bipush (-2), 2) := by decide +kernel
theorem dX10_ofChild_122 : decode cX10_ofChild 122 = .ok (.ireturn, 1) := by decide +kernel
theorem dX10_ready_0 : decode cX10_ready 0 = .ok (.aload_n 0, 1) := by decide +kernel
theorem dX10_ready_1 : decode cX10_ready 1 = .ok (.iload_n 1, 1) := by decide +kernel
theorem dX10_ready_2 : decode cX10_ready 2 = .ok (.invokevirtual 169, 3) := by decide +kernel
theorem dX10_ready_5 : decode cX10_ready 5 = .ok (.ifCond .ne 5, 3) := by decide +kernel
theorem dX10_ready_8 : decode cX10_ready 8 = .ok (.iconst (-1), 1) := by decide +kernel
theorem dX10_ready_9 : decode cX10_ready 9 = .ok (.ireturn, 1) := by decide +kernel
theorem dX10_ready_10 : decode cX10_ready 10 = .ok (.iload_n 2, 1) := by decide +kernel
theorem dX10_ready_11 : decode cX10_ready 11 = .ok (.iconst 0, 1) := by decide +kernel
theorem dX10_ready_12 : decode cX10_ready 12 = .ok (.bipush 60, 2) := by decide +kernel
theorem dX10_ready_14 : decode cX10_ready 14 = .ok (.invokestatic 92, 3) := by decide +kernel
theorem dX10_ready_17 : decode cX10_ready 17 = .ok (.ifCond .ne 6, 3) := by decide +kernel
theorem dX10_ready_20 : decode cX10_ready 20 = .ok (.bipush (-2), 2) := by decide +kernel
theorem dX10_ready_22 : decode cX10_ready 22 = .ok (.ireturn, 1) := by decide +kernel
theorem dX10_ready_23 : decode cX10_ready 23 = .ok (.aload_n 0, 1) := by decide +kernel
theorem dX10_ready_24 : decode cX10_ready 24 = .ok (.getfield 49, 3) := by decide +kernel
theorem dX10_ready_27 : decode cX10_ready 27 = .ok (.iload_n 1, 1) := by decide +kernel
theorem dX10_ready_28 : decode cX10_ready 28 = .ok (.iaload, 1) := by decide +kernel
theorem dX10_ready_29 : decode cX10_ready 29 = .ok (.istore_n 3, 1) := by decide +kernel
theorem dX10_ready_30 : decode cX10_ready 30 = .ok (.aload_n 0, 1) := by decide +kernel
theorem dX10_ready_31 : decode cX10_ready 31 = .ok (.getfield 49, 3) := by decide +kernel
theorem dX10_ready_34 : decode cX10_ready 34 = .ok (.iload_n 1, 1) := by decide +kernel
theorem dX10_ready_35 : decode cX10_ready 35 = .ok (.iload_n 2, 1) := by decide +kernel
theorem dX10_ready_36 : decode cX10_ready 36 = .ok (.iastore, 1) := by decide +kernel
theorem dX10_ready_37 : decode cX10_ready 37 = .ok (.iload_n 3, 1) := by decide +kernel
theorem dX10_ready_38 : decode cX10_ready 38 = .ok (.ireturn, 1) := by decide +kernel
theorem dX10_tie_0 : decode cX10_tie 0 = .ok (.aload_n 0, 1) := by decide +kernel
theorem dX10_tie_1 : decode cX10_tie 1 = .ok (.iload_n 1, 1) := by decide +kernel
theorem dX10_tie_2 : decode cX10_tie 2 = .ok (.invokevirtual 169, 3) := by decide +kernel
theorem dX10_tie_5 : decode cX10_tie 5 = .ok (.ifCond .eq 11, 3) := by decide +kernel
theorem dX10_tie_8 : decode cX10_tie 8 = .ok (.aload_n 0, 1) := by decide +kernel
theorem dX10_tie_9 : decode cX10_tie 9 = .ok (.iload_n 2, 1) := by decide +kernel
theorem dX10_tie_10 : decode cX10_tie 10 = .ok (.invokevirtual 169, 3) := by decide +kernel
theorem dX10_tie_13 : decode cX10_tie 13 = .ok (.ifCond .ne 5, 3) := by decide +kernel
theorem dX10_tie_16 : decode cX10_tie 16 = .ok (.iconst (-1), 1) := by decide +kernel
theorem dX10_tie_17 : decode cX10_tie 17 = .ok (.ireturn, 1) := by decide +kernel
theorem dX10_tie_18 : decode cX10_tie 18 = .ok (.iload_n 1, 1) := by decide +kernel
theorem dX10_tie_19 : decode cX10_tie 19 = .ok (.iload_n 2, 1) := by decide +kernel
theorem dX10_tie_20 : decode cX10_tie 20 = .ok (.if_icmp .eq 12, 3) := by decide +kernel
theorem dX10_tie_23 : decode cX10_tie 23 = .ok (.iload_n 3, 1) := by decide +kernel
theorem dX10_tie_24 : decode cX10_tie 24 = .ok (.iconst 0, 1) := by decide +kernel
theorem dX10_tie_25 : decode cX10_tie 25 = .ok (.iconst 2, 1) := by decide +kernel
theorem dX10_tie_26 : decode cX10_tie 26 = .ok (.invokestatic 92, 3) := by decide +kernel
theorem dX10_tie_29 : decode cX10_tie 29 = .ok (.ifCond .ne 6, 3) := by decide +kernel
theorem dX10_tie_32 : decode cX10_tie 32 = .ok (.bipush (-2), 2) := by decide +kernel
theorem dX10_tie_34 : decode cX10_tie 34 = .ok (.ireturn, 1) := by decide +kernel
theorem dX10_tie_35 : decode cX10_tie 35 = .ok (.aload_n 0, 1) := by decide +kernel
theorem dX10_tie_36 : decode cX10_tie 36 = .ok (.getfield 52, 3) := by decide +kernel
theorem dX10_tie_39 : decode cX10_tie 39 = .ok (.bipush 10, 2) := by decide +kernel
theorem dX10_tie_41 : decode cX10_tie 41 = .ok (.iload_n 1, 1) := by decide +kernel
theorem dX10_tie_42 : decode cX10_tie 42 = .ok (.imul, 1) := by decide +kernel
theorem dX10_tie_43 : decode cX10_tie 43 = .ok (.iload_n 2, 1) := by decide +kernel
theorem dX10_tie_44 : decode cX10_tie 44 = .ok (.iadd, 1) := by decide +kernel
theorem dX10_tie_45 : decode cX10_tie 45 = .ok (.iaload, 1) := by decide +kernel
theorem dX10_tie_46 : decode cX10_tie 46 = .ok (.istore 4, 2) := by decide +kernel
theorem dX10_tie_48 : decode cX10_tie 48 = .ok (.aload_n 0, 1) := by decide +kernel
theorem dX10_tie_49 : decode cX10_tie 49 = .ok (.getfield 52, 3) := by decide +kernel
theorem dX10_tie_52 : decode cX10_tie 52 = .ok (.bipush 10, 2) := by decide +kernel
theorem dX10_tie_54 : decode cX10_tie 54 = .ok (.iload_n 1, 1) := by decide +kernel
theorem dX10_tie_55 : decode cX10_tie 55 = .ok (.imul, 1) := by decide +kernel
theorem dX10_tie_56 : decode cX10_tie 56 = .ok (.iload_n 2, 1) := by decide +kernel
theorem dX10_tie_57 : decode cX10_tie 57 = .ok (.iadd, 1) := by decide +kernel
theorem dX10_tie_58 : decode cX10_tie 58 = .ok (.iload_n 3, 1) := by decide +kernel
theorem dX10_tie_59 : decode cX10_tie 59 = .ok (.iastore, 1) := by decide +kernel
theorem dX10_tie_60 : decode cX10_tie 60 = .ok (.aload_n 0, 1) := by decide +kernel
theorem dX10_tie_61 : decode cX10_tie 61 = .ok (.getfield 52, 3) := by decide +kernel
theorem dX10_tie_64 : decode cX10_tie 64 = .ok (.bipush 10, 2) := by decide +kernel
theorem dX10_tie_66 : decode cX10_tie 66 = .ok (.iload_n 2, 1) := by decide +kernel
theorem dX10_tie_67 : decode cX10_tie 67 = .ok (.imul, 1) := by decide +kernel
theorem dX10_tie_68 : decode cX10_tie 68 = .ok (.iload_n 1, 1) := by decide +kernel
theorem dX10_tie_69 : decode cX10_tie 69 = .ok (.iadd, 1) := by decide +kernel
theorem dX10_tie_70 : decode cX10_tie 70 = .ok (.iload_n 3, 1) := by decide +kernel
theorem dX10_tie_71 : decode cX10_tie 71 = .ok (.iastore, 1) := by decide +kernel
theorem dX10_tie_72 : decode cX10_tie 72 = .ok (.iload 4, 2) := by decide +kernel
theorem dX10_tie_74 : decode cX10_tie 74 = .ok (.ireturn, 1) := by decide +kernel
theorem dX10_isSet_0 : decode cX10_isSet 0 = .ok (.iload_n 1, 1) := by decide +kernel
theorem dX10_isSet_1 : decode cX10_isSet 1 = .ok (.ifCond .le 17, 3) := by decide +kernel
theorem dX10_isSet_4 : decode cX10_isSet 4 = .ok (.iload_n 1, 1) := by decide +kernel
theorem dX10_isSet_5 : decode cX10_isSet 5 = .ok (.iconst 1, 1) := by decide +kernel
theorem dX10_isSet_6 : decode cX10_isSet 6 = .ok (.aload_n 0, 1) := by decide +kernel
theorem dX10_isSet_7 : decode cX10_isSet 7 = .ok (.getfield 133, 3) := by decide +kernel
theorem dX10_isSet_10 : decode cX10_isSet 10 = .ok (.ishl, 1) := by decide +kernel
theorem dX10_isSet_11 : decode cX10_isSet 11 = .ok (.if_icmp .ge 7, 3) := by decide +kernel
theorem dX10_isSet_14 : decode cX10_isSet 14 = .ok (.iconst 1, 1) := by decide +kernel
theorem dX10_isSet_15 : decode cX10_isSet 15 = .ok (.goto 4, 3) := by decide +kernel
theorem dX10_isSet_18 : decode cX10_isSet 18 = .ok (.iconst 0, 1) := by decide +kernel
theorem dX10_isSet_19 : decode cX10_isSet 19 = .ok (.ireturn, 1) := by decide +kernel
theorem dX10_cornersOf_0 : decode cX10_cornersOf 0 = .ok (.iconst 0, 1) := by decide +kernel
theorem dX10_cornersOf_1 : decode cX10_cornersOf 1 = .ok (.istore_n 2, 1) := by decide +kernel
theorem dX10_cornersOf_2 : decode cX10_cornersOf 2 = .ok (.iconst 0, 1) := by decide +kernel
theorem dX10_cornersOf_3 : decode cX10_cornersOf 3 = .ok (.istore_n 3, 1) := by decide +kernel
theorem dX10_cornersOf_4 : decode cX10_cornersOf 4 = .ok (.iload_n 3, 1) := by decide +kernel
theorem dX10_cornersOf_5 : decode cX10_cornersOf 5 = .ok (.aload_n 0, 1) := by decide +kernel
theorem dX10_cornersOf_6 : decode cX10_cornersOf 6 = .ok (.getfield 133, 3) := by decide +kernel
theorem dX10_cornersOf_9 : decode cX10_cornersOf 9 = .ok (.if_icmp .ge 32, 3) := by decide +kernel
theorem dX10_cornersOf_12 : decode cX10_cornersOf 12 = .ok (.iload_n 2, 1) := by decide +kernel
theorem dX10_cornersOf_13 : decode cX10_cornersOf 13 = .ok (.iload_n 1, 1) := by decide +kernel
theorem dX10_cornersOf_14 : decode cX10_cornersOf 14 = .ok (.iload_n 3, 1) := by decide +kernel
theorem dX10_cornersOf_15 : decode cX10_cornersOf 15 = .ok (.invokestatic 178, 3) := by decide +kernel
theorem dX10_cornersOf_18 : decode cX10_cornersOf 18 = .ok (.ifCond .eq 14, 3) := by decide +kernel
theorem dX10_cornersOf_21 : decode cX10_cornersOf 21 = .ok (.iconst 1, 1) := by decide +kernel
theorem dX10_cornersOf_22 : decode cX10_cornersOf 22 = .ok (.aload_n 0, 1) := by decide +kernel
theorem dX10_cornersOf_23 : decode cX10_cornersOf 23 = .ok (.getfield 43, 3) := by decide +kernel
theorem dX10_cornersOf_26 : decode cX10_cornersOf 26 = .ok (.iload_n 3, 1) := by decide +kernel
theorem dX10_cornersOf_27 : decode cX10_cornersOf 27 = .ok (.iaload, 1) := by decide +kernel
theorem dX10_cornersOf_28 : decode cX10_cornersOf 28 = .ok (.ishl, 1) := by decide +kernel
theorem dX10_cornersOf_29 : decode cX10_cornersOf 29 = .ok (.goto 4, 3) := by decide +kernel
theorem dX10_cornersOf_32 : decode cX10_cornersOf 32 = .ok (.iconst 0, 1) := by decide +kernel
theorem dX10_cornersOf_33 : decode cX10_cornersOf 33 = .ok (.ior, 1) := by decide +kernel
theorem dX10_cornersOf_34 : decode cX10_cornersOf 34 = .ok (.istore_n 2, 1) := by decide +kernel
theorem dX10_cornersOf_35 : decode cX10_cornersOf 35 = .ok (.iinc 3 1, 3) := by decide +kernel
theorem dX10_cornersOf_38 : decode cX10_cornersOf 38 = .ok (.goto (-34), 3) := by decide +kernel
theorem dX10_cornersOf_41 : decode cX10_cornersOf 41 = .ok (.iload_n 2, 1) := by decide +kernel
theorem dX10_cornersOf_42 : decode cX10_cornersOf 42 = .ok (.ireturn, 1) := by decide +kernel
theorem dX10_crossingsOf_0 : decode cX10_crossingsOf 0 = .ok (.iconst 0, 1) := by decide +kernel
theorem dX10_crossingsOf_1 : decode cX10_crossingsOf 1 = .ok (.istore_n 2, 1) := by decide +kernel
theorem dX10_crossingsOf_2 : decode cX10_crossingsOf 2 = .ok (.iload_n 1, 1) := by decide +kernel
theorem dX10_crossingsOf_3 : decode cX10_crossingsOf 3 = .ok (.istore_n 3, 1) := by decide +kernel
theorem dX10_crossingsOf_4 : decode cX10_crossingsOf 4 = .ok (.iconst 0, 1) := by decide +kernel
theorem dX10_crossingsOf_5 : decode cX10_crossingsOf 5 = .ok (.istore 4, 2) := by decide +kernel
theorem dX10_crossingsOf_7 : decode cX10_crossingsOf 7 = .ok (.iload 4, 2) := by decide +kernel
theorem dX10_crossingsOf_9 : decode cX10_crossingsOf 9 = .ok (.aload_n 0, 1) := by decide +kernel
theorem dX10_crossingsOf_10 : decode cX10_crossingsOf 10 = .ok (.getfield 181, 3) := by decide +kernel
theorem dX10_crossingsOf_13 : decode cX10_crossingsOf 13 = .ok (.if_icmp .gt 68, 3) := by decide +kernel
theorem dX10_crossingsOf_16 : decode cX10_crossingsOf 16 = .ok (.iload 4, 2) := by decide +kernel
theorem dX10_crossingsOf_18 : decode cX10_crossingsOf 18 = .ok (.aload_n 0, 1) := by decide +kernel
theorem dX10_crossingsOf_19 : decode cX10_crossingsOf 19 = .ok (.getfield 181, 3) := by decide +kernel
theorem dX10_crossingsOf_22 : decode cX10_crossingsOf 22 = .ok (.if_icmp .ne 10, 3) := by decide +kernel
theorem dX10_crossingsOf_25 : decode cX10_crossingsOf 25 = .ok (.aload_n 0, 1) := by decide +kernel
theorem dX10_crossingsOf_26 : decode cX10_crossingsOf 26 = .ok (.getfield 130, 3) := by decide +kernel
theorem dX10_crossingsOf_29 : decode cX10_crossingsOf 29 = .ok (.goto 10, 3) := by decide +kernel
theorem dX10_crossingsOf_32 : decode cX10_crossingsOf 32 = .ok (.aload_n 0, 1) := by decide +kernel
theorem dX10_crossingsOf_33 : decode cX10_crossingsOf 33 = .ok (.getfield 59, 3) := by decide +kernel
theorem dX10_crossingsOf_36 : decode cX10_crossingsOf 36 = .ok (.iload 4, 2) := by decide +kernel
theorem dX10_crossingsOf_38 : decode cX10_crossingsOf 38 = .ok (.iaload, 1) := by decide +kernel
theorem dX10_crossingsOf_39 : decode cX10_crossingsOf 39 = .ok (.istore 5, 2) := by decide +kernel
theorem dX10_crossingsOf_41 : decode cX10_crossingsOf 41 = .ok (.aload_n 0, 1) := by decide +kernel
theorem dX10_crossingsOf_42 : decode cX10_crossingsOf 42 = .ok (.iload_n 3, 1) := by decide +kernel
theorem dX10_crossingsOf_43 : decode cX10_crossingsOf 43 = .ok (.iload 5, 2) := by decide +kernel
theorem dX10_crossingsOf_45 : decode cX10_crossingsOf 45 = .ok (.invokevirtual 162, 3) := by decide +kernel
theorem dX10_crossingsOf_48 : decode cX10_crossingsOf 48 = .ok (.ifCond .ne 6, 3) := by decide +kernel
theorem dX10_crossingsOf_51 : decode cX10_crossingsOf 51 = .ok (.bipush (-9), 2) := by decide +kernel
theorem dX10_crossingsOf_53 : decode cX10_crossingsOf 53 = .ok (.ireturn, 1) := by decide +kernel
theorem dX10_crossingsOf_54 : decode cX10_crossingsOf 54 = .ok (.iload_n 2, 1) := by decide +kernel
theorem dX10_crossingsOf_55 : decode cX10_crossingsOf 55 = .ok (.aload_n 0, 1) := by decide +kernel
theorem dX10_crossingsOf_56 : decode cX10_crossingsOf 56 = .ok (.getfield 34, 3) := by decide +kernel
theorem dX10_crossingsOf_59 : decode cX10_crossingsOf 59 = .ok (.bipush 7, 2) := by decide +kernel
theorem dX10_crossingsOf_61 : decode cX10_crossingsOf 61 = .ok (.iload_n 3, 1) := by decide +kernel
theorem dX10_crossingsOf_62 : decode cX10_crossingsOf 62 = .ok (.imul, 1) := by decide +kernel
theorem dX10_crossingsOf_63 : decode cX10_crossingsOf 63 = .ok (.iload 5, 2) := by decide +kernel
theorem dX10_crossingsOf_65 : decode cX10_crossingsOf 65 = .ok (.iadd, 1) := by decide +kernel
theorem dX10_crossingsOf_66 : decode cX10_crossingsOf 66 = .ok (.iaload, 1) := by decide +kernel
theorem dX10_crossingsOf_67 : decode cX10_crossingsOf 67 = .ok (.bipush 100, 2) := by decide +kernel
theorem dX10_crossingsOf_69 : decode cX10_crossingsOf 69 = .ok (.irem, 1) := by decide +kernel
theorem dX10_crossingsOf_70 : decode cX10_crossingsOf 70 = .ok (.iadd, 1) := by decide +kernel
theorem dX10_crossingsOf_71 : decode cX10_crossingsOf 71 = .ok (.istore_n 2, 1) := by decide +kernel
theorem dX10_crossingsOf_72 : decode cX10_crossingsOf 72 = .ok (.iload 5, 2) := by decide +kernel
theorem dX10_crossingsOf_74 : decode cX10_crossingsOf 74 = .ok (.istore_n 3, 1) := by decide +kernel
theorem dX10_crossingsOf_75 : decode cX10_crossingsOf 75 = .ok (.iinc 4 1, 3) := by decide +kernel
theorem dX10_crossingsOf_78 : decode cX10_crossingsOf 78 = .ok (.goto (-71), 3) := by decide +kernel
theorem dX10_crossingsOf_81 : decode cX10_crossingsOf 81 = .ok (.iload_n 2, 1) := by decide +kernel
theorem dX10_crossingsOf_82 : decode cX10_crossingsOf 82 = .ok (.ireturn, 1) := by decide +kernel
theorem dX10_moveOn_0 : decode cX10_moveOn 0 = .ok (.iload_n 1, 1) := by decide +kernel
theorem dX10_moveOn_1 : decode cX10_moveOn 1 = .ok (.ifCond .ne 4, 3) := by decide +kernel
theorem dX10_moveOn_4 : decode cX10_moveOn 4 = .ok (.return_, 1) := by decide +kernel
theorem dX10_moveOn_5 : decode cX10_moveOn 5 = .ok (.aload_n 0, 1) := by decide +kernel
theorem dX10_moveOn_6 : decode cX10_moveOn 6 = .ok (.getfield 184, 3) := by decide +kernel
theorem dX10_moveOn_9 : decode cX10_moveOn 9 = .ok (.iconst 1, 1) := by decide +kernel
theorem dX10_moveOn_10 : decode cX10_moveOn 10 = .ok (.isub, 1) := by decide +kernel
theorem dX10_moveOn_11 : decode cX10_moveOn 11 = .ok (.istore_n 2, 1) := by decide +kernel
theorem dX10_moveOn_12 : decode cX10_moveOn 12 = .ok (.iload_n 2, 1) := by decide +kernel
theorem dX10_moveOn_13 : decode cX10_moveOn 13 = .ok (.ifCond .lt 52, 3) := by decide +kernel
theorem dX10_moveOn_16 : decode cX10_moveOn 16 = .ok (.aload_n 0, 1) := by decide +kernel
theorem dX10_moveOn_17 : decode cX10_moveOn 17 = .ok (.getfield 55, 3) := by decide +kernel
theorem dX10_moveOn_20 : decode cX10_moveOn 20 = .ok (.iload_n 2, 1) := by decide +kernel
theorem dX10_moveOn_21 : decode cX10_moveOn 21 = .ok (.laload, 1) := by decide +kernel
theorem dX10_moveOn_22 : decode cX10_moveOn 22 = .ok (.lstore_n 3, 1) := by decide +kernel
theorem dX10_moveOn_23 : decode cX10_moveOn 23 = .ok (.aload_n 0, 1) := by decide +kernel
theorem dX10_moveOn_24 : decode cX10_moveOn 24 = .ok (.getfield 55, 3) := by decide +kernel
theorem dX10_moveOn_27 : decode cX10_moveOn 27 = .ok (.iload_n 2, 1) := by decide +kernel
theorem dX10_moveOn_28 : decode cX10_moveOn 28 = .ok (.lconst 0, 1) := by decide +kernel
theorem dX10_moveOn_29 : decode cX10_moveOn 29 = .ok (.lastore, 1) := by decide +kernel
theorem dX10_moveOn_30 : decode cX10_moveOn 30 = .ok (.aload_n 0, 1) := by decide +kernel
theorem dX10_moveOn_31 : decode cX10_moveOn 31 = .ok (.getfield 55, 3) := by decide +kernel
theorem dX10_moveOn_34 : decode cX10_moveOn 34 = .ok (.iload_n 2, 1) := by decide +kernel
theorem dX10_moveOn_35 : decode cX10_moveOn 35 = .ok (.iload_n 1, 1) := by decide +kernel
theorem dX10_moveOn_36 : decode cX10_moveOn 36 = .ok (.iadd, 1) := by decide +kernel
theorem dX10_moveOn_37 : decode cX10_moveOn 37 = .ok (.aload_n 0, 1) := by decide +kernel
theorem dX10_moveOn_38 : decode cX10_moveOn 38 = .ok (.getfield 184, 3) := by decide +kernel
theorem dX10_moveOn_41 : decode cX10_moveOn 41 = .ok (.if_icmp .ge 9, 3) := by decide +kernel
theorem dX10_moveOn_44 : decode cX10_moveOn 44 = .ok (.iload_n 2, 1) := by decide +kernel
theorem dX10_moveOn_45 : decode cX10_moveOn 45 = .ok (.iload_n 1, 1) := by decide +kernel
theorem dX10_moveOn_46 : decode cX10_moveOn 46 = .ok (.iadd, 1) := by decide +kernel
theorem dX10_moveOn_47 : decode cX10_moveOn 47 = .ok (.goto 7, 3) := by decide +kernel
theorem dX10_moveOn_50 : decode cX10_moveOn 50 = .ok (.aload_n 0, 1) := by decide +kernel
theorem dX10_moveOn_51 : decode cX10_moveOn 51 = .ok (.getfield 184, 3) := by decide +kernel
theorem dX10_moveOn_54 : decode cX10_moveOn 54 = .ok (.dup2, 1) := by decide +kernel
theorem dX10_moveOn_55 : decode cX10_moveOn 55 = .ok (.laload, 1) := by decide +kernel
theorem dX10_moveOn_56 : decode cX10_moveOn 56 = .ok (.lload_n 3, 1) := by decide +kernel
theorem dX10_moveOn_57 : decode cX10_moveOn 57 = .ok (.ladd, 1) := by decide +kernel
theorem dX10_moveOn_58 : decode cX10_moveOn 58 = .ok (.lastore, 1) := by decide +kernel
theorem dX10_moveOn_59 : decode cX10_moveOn 59 = .ok (.iinc 2 (-1), 3) := by decide +kernel
theorem dX10_moveOn_62 : decode cX10_moveOn 62 = .ok (.goto (-50), 3) := by decide +kernel
theorem dX10_moveOn_65 : decode cX10_moveOn 65 = .ok (.return_, 1) := by decide +kernel
theorem dX10_cross_0 : decode cX10_cross 0 = .ok (.aload_n 0, 1) := by decide +kernel
theorem dX10_cross_1 : decode cX10_cross 1 = .ok (.getfield 55, 3) := by decide +kernel
theorem dX10_cross_4 : decode cX10_cross 4 = .ok (.aload_n 0, 1) := by decide +kernel
theorem dX10_cross_5 : decode cX10_cross 5 = .ok (.getfield 184, 3) := by decide +kernel
theorem dX10_cross_8 : decode cX10_cross 8 = .ok (.dup2, 1) := by decide +kernel
theorem dX10_cross_9 : decode cX10_cross 9 = .ok (.laload, 1) := by decide +kernel
theorem dX10_cross_10 : decode cX10_cross 10 = .ok (.ldc2_w 187, 3) := by decide +kernel
theorem dX10_cross_13 : decode cX10_cross 13 = .ok (.lmul, 1) := by decide +kernel
theorem dX10_cross_14 : decode cX10_cross 14 = .ok (.lastore, 1) := by decide +kernel
theorem dX10_cross_15 : decode cX10_cross 15 = .ok (.aload_n 0, 1) := by decide +kernel
theorem dX10_cross_16 : decode cX10_cross 16 = .ok (.getfield 184, 3) := by decide +kernel
theorem dX10_cross_19 : decode cX10_cross 19 = .ok (.iconst 1, 1) := by decide +kernel
theorem dX10_cross_20 : decode cX10_cross 20 = .ok (.isub, 1) := by decide +kernel
theorem dX10_cross_21 : decode cX10_cross 21 = .ok (.istore_n 3, 1) := by decide +kernel
theorem dX10_cross_22 : decode cX10_cross 22 = .ok (.iload_n 3, 1) := by decide +kernel
theorem dX10_cross_23 : decode cX10_cross 23 = .ok (.ifCond .lt 64, 3) := by decide +kernel
theorem dX10_cross_26 : decode cX10_cross 26 = .ok (.aload_n 0, 1) := by decide +kernel
theorem dX10_cross_27 : decode cX10_cross 27 = .ok (.getfield 55, 3) := by decide +kernel
theorem dX10_cross_30 : decode cX10_cross 30 = .ok (.iload_n 3, 1) := by decide +kernel
theorem dX10_cross_31 : decode cX10_cross 31 = .ok (.laload, 1) := by decide +kernel
theorem dX10_cross_32 : decode cX10_cross 32 = .ok (.lstore 4, 2) := by decide +kernel
theorem dX10_cross_34 : decode cX10_cross 34 = .ok (.aload_n 0, 1) := by decide +kernel
theorem dX10_cross_35 : decode cX10_cross 35 = .ok (.getfield 55, 3) := by decide +kernel
theorem dX10_cross_38 : decode cX10_cross 38 = .ok (.iload_n 3, 1) := by decide +kernel
theorem dX10_cross_39 : decode cX10_cross 39 = .ok (.lload 4, 2) := by decide +kernel
theorem dX10_cross_41 : decode cX10_cross 41 = .ok (.bipush 10, 2) := by decide +kernel
theorem dX10_cross_43 : decode cX10_cross 43 = .ok (.iload_n 1, 1) := by decide +kernel
theorem dX10_cross_44 : decode cX10_cross 44 = .ok (.isub, 1) := by decide +kernel
theorem dX10_cross_45 : decode cX10_cross 45 = .ok (.i2l, 1) := by decide +kernel
theorem dX10_cross_46 : decode cX10_cross 46 = .ok (.lmul, 1) := by decide +kernel
theorem dX10_cross_47 : decode cX10_cross 47 = .ok (.lastore, 1) := by decide +kernel
theorem dX10_cross_48 : decode cX10_cross 48 = .ok (.aload_n 0, 1) := by decide +kernel
theorem dX10_cross_49 : decode cX10_cross 49 = .ok (.getfield 55, 3) := by decide +kernel
theorem dX10_cross_52 : decode cX10_cross 52 = .ok (.iload_n 3, 1) := by decide +kernel
theorem dX10_cross_53 : decode cX10_cross 53 = .ok (.iload_n 2, 1) := by decide +kernel
theorem dX10_cross_54 : decode cX10_cross 54 = .ok (.iadd, 1) := by decide +kernel
theorem dX10_cross_55 : decode cX10_cross 55 = .ok (.aload_n 0, 1) := by decide +kernel
theorem dX10_cross_56 : decode cX10_cross 56 = .ok (.getfield 184, 3) := by decide +kernel
theorem dX10_cross_59 : decode cX10_cross 59 = .ok (.if_icmp .ge 9, 3) := by decide +kernel
theorem dX10_cross_62 : decode cX10_cross 62 = .ok (.iload_n 3, 1) := by decide +kernel
theorem dX10_cross_63 : decode cX10_cross 63 = .ok (.iload_n 2, 1) := by decide +kernel
theorem dX10_cross_64 : decode cX10_cross 64 = .ok (.iadd, 1) := by decide +kernel
theorem dX10_cross_65 : decode cX10_cross 65 = .ok (.goto 7, 3) := by decide +kernel
theorem dX10_cross_68 : decode cX10_cross 68 = .ok (.aload_n 0, 1) := by decide +kernel
theorem dX10_cross_69 : decode cX10_cross 69 = .ok (.getfield 184, 3) := by decide +kernel
theorem dX10_cross_72 : decode cX10_cross 72 = .ok (.dup2, 1) := by decide +kernel
theorem dX10_cross_73 : decode cX10_cross 73 = .ok (.laload, 1) := by decide +kernel
theorem dX10_cross_74 : decode cX10_cross 74 = .ok (.lload 4, 2) := by decide +kernel
theorem dX10_cross_76 : decode cX10_cross 76 = .ok (.iload_n 1, 1) := by decide +kernel
theorem dX10_cross_77 : decode cX10_cross 77 = .ok (.i2l, 1) := by decide +kernel
theorem dX10_cross_78 : decode cX10_cross 78 = .ok (.lmul, 1) := by decide +kernel
theorem dX10_cross_79 : decode cX10_cross 79 = .ok (.ladd, 1) := by decide +kernel
theorem dX10_cross_80 : decode cX10_cross 80 = .ok (.lastore, 1) := by decide +kernel
theorem dX10_cross_81 : decode cX10_cross 81 = .ok (.iinc 3 (-1), 3) := by decide +kernel
theorem dX10_cross_84 : decode cX10_cross 84 = .ok (.goto (-62), 3) := by decide +kernel
theorem dX10_cross_87 : decode cX10_cross 87 = .ok (.return_, 1) := by decide +kernel
theorem dX10_waitTill_0 : decode cX10_waitTill 0 = .ok (.iload_n 1, 1) := by decide +kernel
theorem dX10_waitTill_1 : decode cX10_waitTill 1 = .ok (.aload_n 0, 1) := by decide +kernel
theorem dX10_waitTill_2 : decode cX10_waitTill 2 = .ok (.getfield 184, 3) := by decide +kernel
theorem dX10_waitTill_5 : decode cX10_waitTill 5 = .ok (.if_icmp .ge 7, 3) := by decide +kernel
theorem dX10_waitTill_8 : decode cX10_waitTill 8 = .ok (.iload_n 1, 1) := by decide +kernel
theorem dX10_waitTill_9 : decode cX10_waitTill 9 = .ok (.goto 7, 3) := by decide +kernel
theorem dX10_waitTill_12 : decode cX10_waitTill 12 = .ok (.aload_n 0, 1) := by decide +kernel
theorem dX10_waitTill_13 : decode cX10_waitTill 13 = .ok (.getfield 184, 3) := by decide +kernel
theorem dX10_waitTill_16 : decode cX10_waitTill 16 = .ok (.istore_n 2, 1) := by decide +kernel
theorem dX10_waitTill_17 : decode cX10_waitTill 17 = .ok (.iconst 0, 1) := by decide +kernel
theorem dX10_waitTill_18 : decode cX10_waitTill 18 = .ok (.istore_n 3, 1) := by decide +kernel
theorem dX10_waitTill_19 : decode cX10_waitTill 19 = .ok (.iload_n 3, 1) := by decide +kernel
theorem dX10_waitTill_20 : decode cX10_waitTill 20 = .ok (.iload_n 2, 1) := by decide +kernel
theorem dX10_waitTill_21 : decode cX10_waitTill 21 = .ok (.if_icmp .ge 31, 3) := by decide +kernel
theorem dX10_waitTill_24 : decode cX10_waitTill 24 = .ok (.aload_n 0, 1) := by decide +kernel
theorem dX10_waitTill_25 : decode cX10_waitTill 25 = .ok (.getfield 55, 3) := by decide +kernel
theorem dX10_waitTill_28 : decode cX10_waitTill 28 = .ok (.iload_n 2, 1) := by decide +kernel
theorem dX10_waitTill_29 : decode cX10_waitTill 29 = .ok (.dup2, 1) := by decide +kernel
theorem dX10_waitTill_30 : decode cX10_waitTill 30 = .ok (.laload, 1) := by decide +kernel
theorem dX10_waitTill_31 : decode cX10_waitTill 31 = .ok (.aload_n 0, 1) := by decide +kernel
theorem dX10_waitTill_32 : decode cX10_waitTill 32 = .ok (.getfield 55, 3) := by decide +kernel
theorem dX10_waitTill_35 : decode cX10_waitTill 35 = .ok (.iload_n 3, 1) := by decide +kernel
theorem dX10_waitTill_36 : decode cX10_waitTill 36 = .ok (.laload, 1) := by decide +kernel
theorem dX10_waitTill_37 : decode cX10_waitTill 37 = .ok (.ladd, 1) := by decide +kernel
theorem dX10_waitTill_38 : decode cX10_waitTill 38 = .ok (.lastore, 1) := by decide +kernel
theorem dX10_waitTill_39 : decode cX10_waitTill 39 = .ok (.aload_n 0, 1) := by decide +kernel
theorem dX10_waitTill_40 : decode cX10_waitTill 40 = .ok (.getfield 55, 3) := by decide +kernel
theorem dX10_waitTill_43 : decode cX10_waitTill 43 = .ok (.iload_n 3, 1) := by decide +kernel
theorem dX10_waitTill_44 : decode cX10_waitTill 44 = .ok (.lconst 0, 1) := by decide +kernel
theorem dX10_waitTill_45 : decode cX10_waitTill 45 = .ok (.lastore, 1) := by decide +kernel
theorem dX10_waitTill_46 : decode cX10_waitTill 46 = .ok (.iinc 3 1, 3) := by decide +kernel
theorem dX10_waitTill_49 : decode cX10_waitTill 49 = .ok (.goto (-30), 3) := by decide +kernel
theorem dX10_waitTill_52 : decode cX10_waitTill 52 = .ok (.return_, 1) := by decide +kernel
theorem dX10_goWay_0 : decode cX10_goWay 0 = .ok (.iload_n 1, 1) := by decide +kernel
theorem dX10_goWay_1 : decode cX10_goWay 1 = .ok (.istore 4, 2) := by decide +kernel
theorem dX10_goWay_3 : decode cX10_goWay 3 = .ok (.iload 4, 2) := by decide +kernel
theorem dX10_goWay_5 : decode cX10_goWay 5 = .ok (.iload_n 2, 1) := by decide +kernel
theorem dX10_goWay_6 : decode cX10_goWay 6 = .ok (.if_icmp .eq 87, 3) := by decide +kernel
theorem dX10_goWay_9 : decode cX10_goWay 9 = .ok (.aload_n 0, 1) := by decide +kernel
theorem dX10_goWay_10 : decode cX10_goWay 10 = .ok (.iload 4, 2) := by decide +kernel
theorem dX10_goWay_12 : decode cX10_goWay 12 = .ok (.iload_n 2, 1) := by decide +kernel
theorem dX10_goWay_13 : decode cX10_goWay 13 = .ok (.invokevirtual 156, 3) := by decide +kernel
theorem dX10_goWay_16 : decode cX10_goWay 16 = .ok (.istore 5, 2) := by decide +kernel
theorem dX10_goWay_18 : decode cX10_goWay 18 = .ok (.aload_n 0, 1) := by decide +kernel
theorem dX10_goWay_19 : decode cX10_goWay 19 = .ok (.aload_n 0, 1) := by decide +kernel
theorem dX10_goWay_20 : decode cX10_goWay 20 = .ok (.getfield 25, 3) := by decide +kernel
theorem dX10_goWay_23 : decode cX10_goWay 23 = .ok (.iload 5, 2) := by decide +kernel
theorem dX10_goWay_25 : decode cX10_goWay 25 = .ok (.iaload, 1) := by decide +kernel
theorem dX10_goWay_26 : decode cX10_goWay 26 = .ok (.iload_n 3, 1) := by decide +kernel
theorem dX10_goWay_27 : decode cX10_goWay 27 = .ok (.imul, 1) := by decide +kernel
theorem dX10_goWay_28 : decode cX10_goWay 28 = .ok (.invokevirtual 189, 3) := by decide +kernel
theorem dX10_goWay_31 : decode cX10_goWay 31 = .ok (.aload_n 0, 1) := by decide +kernel
theorem dX10_goWay_32 : decode cX10_goWay 32 = .ok (.getfield 28, 3) := by decide +kernel
theorem dX10_goWay_35 : decode cX10_goWay 35 = .ok (.iload 5, 2) := by decide +kernel
theorem dX10_goWay_37 : decode cX10_goWay 37 = .ok (.iaload, 1) := by decide +kernel
theorem dX10_goWay_38 : decode cX10_goWay 38 = .ok (.ifCond .le 21, 3) := by decide +kernel
theorem dX10_goWay_41 : decode cX10_goWay 41 = .ok (.aload_n 0, 1) := by decide +kernel
theorem dX10_goWay_42 : decode cX10_goWay 42 = .ok (.aload_n 0, 1) := by decide +kernel
theorem dX10_goWay_43 : decode cX10_goWay 43 = .ok (.getfield 28, 3) := by decide +kernel
theorem dX10_goWay_46 : decode cX10_goWay 46 = .ok (.iload 5, 2) := by decide +kernel
theorem dX10_goWay_48 : decode cX10_goWay 48 = .ok (.iaload, 1) := by decide +kernel
theorem dX10_goWay_49 : decode cX10_goWay 49 = .ok (.aload_n 0, 1) := by decide +kernel
theorem dX10_goWay_50 : decode cX10_goWay 50 = .ok (.getfield 31, 3) := by decide +kernel
theorem dX10_goWay_53 : decode cX10_goWay 53 = .ok (.iload 5, 2) := by decide +kernel
theorem dX10_goWay_55 : decode cX10_goWay 55 = .ok (.iaload, 1) := by decide +kernel
theorem dX10_goWay_56 : decode cX10_goWay 56 = .ok (.invokevirtual 193, 3) := by decide +kernel
theorem dX10_goWay_59 : decode cX10_goWay 59 = .ok (.aload_n 0, 1) := by decide +kernel
theorem dX10_goWay_60 : decode cX10_goWay 60 = .ok (.getfield 19, 3) := by decide +kernel
theorem dX10_goWay_63 : decode cX10_goWay 63 = .ok (.iload 5, 2) := by decide +kernel
theorem dX10_goWay_65 : decode cX10_goWay 65 = .ok (.iaload, 1) := by decide +kernel
theorem dX10_goWay_66 : decode cX10_goWay 66 = .ok (.iload 4, 2) := by decide +kernel
theorem dX10_goWay_68 : decode cX10_goWay 68 = .ok (.if_icmp .ne 13, 3) := by decide +kernel
theorem dX10_goWay_71 : decode cX10_goWay 71 = .ok (.aload_n 0, 1) := by decide +kernel
theorem dX10_goWay_72 : decode cX10_goWay 72 = .ok (.getfield 22, 3) := by decide +kernel
theorem dX10_goWay_75 : decode cX10_goWay 75 = .ok (.iload 5, 2) := by decide +kernel
theorem dX10_goWay_77 : decode cX10_goWay 77 = .ok (.iaload, 1) := by decide +kernel
theorem dX10_goWay_78 : decode cX10_goWay 78 = .ok (.goto 10, 3) := by decide +kernel
theorem dX10_goWay_81 : decode cX10_goWay 81 = .ok (.aload_n 0, 1) := by decide +kernel
theorem dX10_goWay_82 : decode cX10_goWay 82 = .ok (.getfield 19, 3) := by decide +kernel
theorem dX10_goWay_85 : decode cX10_goWay 85 = .ok (.iload 5, 2) := by decide +kernel
theorem dX10_goWay_87 : decode cX10_goWay 87 = .ok (.iaload, 1) := by decide +kernel
theorem dX10_goWay_88 : decode cX10_goWay 88 = .ok (.istore 4, 2) := by decide +kernel
theorem dX10_goWay_90 : decode cX10_goWay 90 = .ok (.goto (-87), 3) := by decide +kernel
theorem dX10_goWay_93 : decode cX10_goWay 93 = .ok (.return_, 1) := by decide +kernel
theorem dX10_goLine_0 : decode cX10_goLine 0 = .ok (.aload_n 0, 1) := by decide +kernel
theorem dX10_goLine_1 : decode cX10_goLine 1 = .ok (.iload 4, 2) := by decide +kernel
theorem dX10_goLine_3 : decode cX10_goLine 3 = .ok (.putfield 184, 3) := by decide +kernel
theorem dX10_goLine_6 : decode cX10_goLine 6 = .ok (.iconst 0, 1) := by decide +kernel
theorem dX10_goLine_7 : decode cX10_goLine 7 = .ok (.istore 5, 2) := by decide +kernel
theorem dX10_goLine_9 : decode cX10_goLine 9 = .ok (.iload 5, 2) := by decide +kernel
theorem dX10_goLine_11 : decode cX10_goLine 11 = .ok (.iload 4, 2) := by decide +kernel
theorem dX10_goLine_13 : decode cX10_goLine 13 = .ok (.if_icmp .gt 17, 3) := by decide +kernel
theorem dX10_goLine_16 : decode cX10_goLine 16 = .ok (.aload_n 0, 1) := by decide +kernel
theorem dX10_goLine_17 : decode cX10_goLine 17 = .ok (.getfield 55, 3) := by decide +kernel
theorem dX10_goLine_20 : decode cX10_goLine 20 = .ok (.iload 5, 2) := by decide +kernel
theorem dX10_goLine_22 : decode cX10_goLine 22 = .ok (.lconst 0, 1) := by decide +kernel
theorem dX10_goLine_23 : decode cX10_goLine 23 = .ok (.lastore, 1) := by decide +kernel
theorem dX10_goLine_24 : decode cX10_goLine 24 = .ok (.iinc 5 1, 3) := by decide +kernel
theorem dX10_goLine_27 : decode cX10_goLine 27 = .ok (.goto (-18), 3) := by decide +kernel
theorem dX10_goLine_30 : decode cX10_goLine 30 = .ok (.aload_n 0, 1) := by decide +kernel
theorem dX10_goLine_31 : decode cX10_goLine 31 = .ok (.getfield 55, 3) := by decide +kernel
theorem dX10_goLine_34 : decode cX10_goLine 34 = .ok (.iload_n 3, 1) := by decide +kernel
theorem dX10_goLine_35 : decode cX10_goLine 35 = .ok (.iload 4, 2) := by decide +kernel
theorem dX10_goLine_37 : decode cX10_goLine 37 = .ok (.if_icmp .ge 7, 3) := by decide +kernel
theorem dX10_goLine_40 : decode cX10_goLine 40 = .ok (.iload_n 3, 1) := by decide +kernel
theorem dX10_goLine_41 : decode cX10_goLine 41 = .ok (.goto 5, 3) := by decide +kernel
theorem dX10_goLine_44 : decode cX10_goLine 44 = .ok (.iload 4, 2) := by decide +kernel
theorem dX10_goLine_46 : decode cX10_goLine 46 = .ok (.lconst 1, 1) := by decide +kernel
theorem dX10_goLine_47 : decode cX10_goLine 47 = .ok (.lastore, 1) := by decide +kernel
theorem dX10_goLine_48 : decode cX10_goLine 48 = .ok (.iload_n 2, 1) := by decide +kernel
theorem dX10_goLine_49 : decode cX10_goLine 49 = .ok (.istore 5, 2) := by decide +kernel
theorem dX10_goLine_51 : decode cX10_goLine 51 = .ok (.iconst 1, 1) := by decide +kernel
theorem dX10_goLine_52 : decode cX10_goLine 52 = .ok (.istore 6, 2) := by decide +kernel
theorem dX10_goLine_54 : decode cX10_goLine 54 = .ok (.iconst 0, 1) := by decide +kernel
theorem dX10_goLine_55 : decode cX10_goLine 55 = .ok (.istore 7, 2) := by decide +kernel
theorem dX10_goLine_57 : decode cX10_goLine 57 = .ok (.iload 7, 2) := by decide +kernel
theorem dX10_goLine_59 : decode cX10_goLine 59 = .ok (.aload_n 0, 1) := by decide +kernel
theorem dX10_goLine_60 : decode cX10_goLine 60 = .ok (.getfield 181, 3) := by decide +kernel
theorem dX10_goLine_63 : decode cX10_goLine 63 = .ok (.if_icmp .ge 134, 3) := by decide +kernel
theorem dX10_goLine_66 : decode cX10_goLine 66 = .ok (.aload_n 0, 1) := by decide +kernel
theorem dX10_goLine_67 : decode cX10_goLine 67 = .ok (.iload 5, 2) := by decide +kernel
theorem dX10_goLine_69 : decode cX10_goLine 69 = .ok (.aload_n 0, 1) := by decide +kernel
theorem dX10_goLine_70 : decode cX10_goLine 70 = .ok (.getfield 59, 3) := by decide +kernel
theorem dX10_goLine_73 : decode cX10_goLine 73 = .ok (.iload 7, 2) := by decide +kernel
theorem dX10_goLine_75 : decode cX10_goLine 75 = .ok (.iaload, 1) := by decide +kernel
theorem dX10_goLine_76 : decode cX10_goLine 76 = .ok (.iload 6, 2) := by decide +kernel
theorem dX10_goLine_78 : decode cX10_goLine 78 = .ok (.invokevirtual 197, 3) := by decide +kernel
theorem dX10_goLine_81 : decode cX10_goLine 81 = .ok (.aload_n 0, 1) := by decide +kernel
theorem dX10_goLine_82 : decode cX10_goLine 82 = .ok (.getfield 59, 3) := by decide +kernel
theorem dX10_goLine_85 : decode cX10_goLine 85 = .ok (.iload 7, 2) := by decide +kernel
theorem dX10_goLine_87 : decode cX10_goLine 87 = .ok (.iaload, 1) := by decide +kernel
theorem dX10_goLine_88 : decode cX10_goLine 88 = .ok (.istore 5, 2) := by decide +kernel
theorem dX10_goLine_90 : decode cX10_goLine 90 = .ok (.iconst 0, 1) := by decide +kernel
theorem dX10_goLine_91 : decode cX10_goLine 91 = .ok (.istore 8, 2) := by decide +kernel
theorem dX10_goLine_93 : decode cX10_goLine 93 = .ok (.iconst 0, 1) := by decide +kernel
theorem dX10_goLine_94 : decode cX10_goLine 94 = .ok (.istore 9, 2) := by decide +kernel
theorem dX10_goLine_96 : decode cX10_goLine 96 = .ok (.iload 9, 2) := by decide +kernel
theorem dX10_goLine_98 : decode cX10_goLine 98 = .ok (.aload_n 0, 1) := by decide +kernel
theorem dX10_goLine_99 : decode cX10_goLine 99 = .ok (.getfield 133, 3) := by decide +kernel
theorem dX10_goLine_102 : decode cX10_goLine 102 = .ok (.if_icmp .ge 83, 3) := by decide +kernel
theorem dX10_goLine_105 : decode cX10_goLine 105 = .ok (.iload_n 1, 1) := by decide +kernel
theorem dX10_goLine_106 : decode cX10_goLine 106 = .ok (.iload 9, 2) := by decide +kernel
theorem dX10_goLine_108 : decode cX10_goLine 108 = .ok (.invokestatic 178, 3) := by decide +kernel
theorem dX10_goLine_111 : decode cX10_goLine 111 = .ok (.ifCond .eq 68, 3) := by decide +kernel
theorem dX10_goLine_114 : decode cX10_goLine 114 = .ok (.aload_n 0, 1) := by decide +kernel
theorem dX10_goLine_115 : decode cX10_goLine 115 = .ok (.getfield 43, 3) := by decide +kernel
theorem dX10_goLine_118 : decode cX10_goLine 118 = .ok (.iload 9, 2) := by decide +kernel
theorem dX10_goLine_120 : decode cX10_goLine 120 = .ok (.iaload, 1) := by decide +kernel
theorem dX10_goLine_121 : decode cX10_goLine 121 = .ok (.iload 5, 2) := by decide +kernel
theorem dX10_goLine_123 : decode cX10_goLine 123 = .ok (.if_icmp .eq 6, 3) := by decide +kernel
theorem dX10_goLine_126 : decode cX10_goLine 126 = .ok (.goto 53, 3) := by decide +kernel
theorem dX10_goLine_129 : decode cX10_goLine 129 = .ok (.aload_n 0, 1) := by decide +kernel
theorem dX10_goLine_130 : decode cX10_goLine 130 = .ok (.getfield 49, 3) := by decide +kernel
theorem dX10_goLine_133 : decode cX10_goLine 133 = .ok (.iload 9, 2) := by decide +kernel
theorem dX10_goLine_135 : decode cX10_goLine 135 = .ok (.iaload, 1) := by decide +kernel
theorem dX10_goLine_136 : decode cX10_goLine 136 = .ok (.iload 8, 2) := by decide +kernel
theorem dX10_goLine_138 : decode cX10_goLine 138 = .ok (.if_icmp .le 13, 3) := by decide +kernel
theorem dX10_goLine_141 : decode cX10_goLine 141 = .ok (.aload_n 0, 1) := by decide +kernel
theorem dX10_goLine_142 : decode cX10_goLine 142 = .ok (.getfield 49, 3) := by decide +kernel
theorem dX10_goLine_145 : decode cX10_goLine 145 = .ok (.iload 9, 2) := by decide +kernel
theorem dX10_goLine_147 : decode cX10_goLine 147 = .ok (.iaload, 1) := by decide +kernel
theorem dX10_goLine_148 : decode cX10_goLine 148 = .ok (.goto 5, 3) := by decide +kernel
theorem dX10_goLine_151 : decode cX10_goLine 151 = .ok (.iload 8, 2) := by decide +kernel
theorem dX10_goLine_153 : decode cX10_goLine 153 = .ok (.istore 8, 2) := by decide +kernel
theorem dX10_goLine_155 : decode cX10_goLine 155 = .ok (.aload_n 0, 1) := by decide +kernel
theorem dX10_goLine_156 : decode cX10_goLine 156 = .ok (.iload 9, 2) := by decide +kernel
theorem dX10_goLine_158 : decode cX10_goLine 158 = .ok (.invokevirtual 172, 3) := by decide +kernel
theorem dX10_goLine_161 : decode cX10_goLine 161 = .ok (.iload 6, 2) := by decide +kernel
theorem dX10_goLine_163 : decode cX10_goLine 163 = .ok (.if_icmp .le 12, 3) := by decide +kernel
theorem dX10_goLine_166 : decode cX10_goLine 166 = .ok (.aload_n 0, 1) := by decide +kernel
theorem dX10_goLine_167 : decode cX10_goLine 167 = .ok (.iload 9, 2) := by decide +kernel
theorem dX10_goLine_169 : decode cX10_goLine 169 = .ok (.invokevirtual 172, 3) := by decide +kernel
theorem dX10_goLine_172 : decode cX10_goLine 172 = .ok (.goto 5, 3) := by decide +kernel
theorem dX10_goLine_175 : decode cX10_goLine 175 = .ok (.iload 6, 2) := by decide +kernel
theorem dX10_goLine_177 : decode cX10_goLine 177 = .ok (.istore 6, 2) := by decide +kernel
theorem dX10_goLine_179 : decode cX10_goLine 179 = .ok (.iinc 9 1, 3) := by decide +kernel
theorem dX10_goLine_182 : decode cX10_goLine 182 = .ok (.goto (-86), 3) := by decide +kernel
theorem dX10_goLine_185 : decode cX10_goLine 185 = .ok (.aload_n 0, 1) := by decide +kernel
theorem dX10_goLine_186 : decode cX10_goLine 186 = .ok (.iload 8, 2) := by decide +kernel
theorem dX10_goLine_188 : decode cX10_goLine 188 = .ok (.invokevirtual 201, 3) := by decide +kernel
theorem dX10_goLine_191 : decode cX10_goLine 191 = .ok (.iinc 7 1, 3) := by decide +kernel
theorem dX10_goLine_194 : decode cX10_goLine 194 = .ok (.goto (-137), 3) := by decide +kernel
theorem dX10_goLine_197 : decode cX10_goLine 197 = .ok (.aload_n 0, 1) := by decide +kernel
theorem dX10_goLine_198 : decode cX10_goLine 198 = .ok (.iload 5, 2) := by decide +kernel
theorem dX10_goLine_200 : decode cX10_goLine 200 = .ok (.aload_n 0, 1) := by decide +kernel
theorem dX10_goLine_201 : decode cX10_goLine 201 = .ok (.getfield 130, 3) := by decide +kernel
theorem dX10_goLine_204 : decode cX10_goLine 204 = .ok (.iload 6, 2) := by decide +kernel
theorem dX10_goLine_206 : decode cX10_goLine 206 = .ok (.invokevirtual 197, 3) := by decide +kernel
theorem dX10_goLine_209 : decode cX10_goLine 209 = .ok (.return_, 1) := by decide +kernel
theorem dX10_tens_0 : decode cX10_tens 0 = .ok (.lconst 1, 1) := by decide +kernel
theorem dX10_tens_1 : decode cX10_tens 1 = .ok (.lstore_n 1, 1) := by decide +kernel
theorem dX10_tens_2 : decode cX10_tens 2 = .ok (.iconst 0, 1) := by decide +kernel
theorem dX10_tens_3 : decode cX10_tens 3 = .ok (.istore_n 3, 1) := by decide +kernel
theorem dX10_tens_4 : decode cX10_tens 4 = .ok (.iload_n 3, 1) := by decide +kernel
theorem dX10_tens_5 : decode cX10_tens 5 = .ok (.iload_n 0, 1) := by decide +kernel
theorem dX10_tens_6 : decode cX10_tens 6 = .ok (.if_icmp .ge 15, 3) := by decide +kernel
theorem dX10_tens_9 : decode cX10_tens 9 = .ok (.lload_n 1, 1) := by decide +kernel
theorem dX10_tens_10 : decode cX10_tens 10 = .ok (.ldc2_w 187, 3) := by decide +kernel
theorem dX10_tens_13 : decode cX10_tens 13 = .ok (.lmul, 1) := by decide +kernel
theorem dX10_tens_14 : decode cX10_tens 14 = .ok (.lstore_n 1, 1) := by decide +kernel
theorem dX10_tens_15 : decode cX10_tens 15 = .ok (.iinc 3 1, 3) := by decide +kernel
theorem dX10_tens_18 : decode cX10_tens 18 = .ok (.goto (-14), 3) := by decide +kernel
theorem dX10_tens_21 : decode cX10_tens 21 = .ok (.lload_n 1, 1) := by decide +kernel
theorem dX10_tens_22 : decode cX10_tens 22 = .ok (.lreturn, 1) := by decide +kernel
theorem dX10_common_0 : decode cX10_common 0 = .ok (.lload_n 0, 1) := by decide +kernel
theorem dX10_common_1 : decode cX10_common 1 = .ok (.lstore 4, 2) := by decide +kernel
theorem dX10_common_3 : decode cX10_common 3 = .ok (.lload_n 2, 1) := by decide +kernel
theorem dX10_common_4 : decode cX10_common 4 = .ok (.lstore 6, 2) := by decide +kernel
theorem dX10_common_6 : decode cX10_common 6 = .ok (.lload 6, 2) := by decide +kernel
theorem dX10_common_8 : decode cX10_common 8 = .ok (.lconst 0, 1) := by decide +kernel
theorem dX10_common_9 : decode cX10_common 9 = .ok (.lcmp, 1) := by decide +kernel
theorem dX10_common_10 : decode cX10_common 10 = .ok (.ifCond .eq 21, 3) := by decide +kernel
theorem dX10_common_13 : decode cX10_common 13 = .ok (.lload 4, 2) := by decide +kernel
theorem dX10_common_15 : decode cX10_common 15 = .ok (.lload 6, 2) := by decide +kernel
theorem dX10_common_17 : decode cX10_common 17 = .ok (.lrem, 1) := by decide +kernel
theorem dX10_common_18 : decode cX10_common 18 = .ok (.lstore 8, 2) := by decide +kernel
theorem dX10_common_20 : decode cX10_common 20 = .ok (.lload 6, 2) := by decide +kernel
theorem dX10_common_22 : decode cX10_common 22 = .ok (.lstore 4, 2) := by decide +kernel
theorem dX10_common_24 : decode cX10_common 24 = .ok (.lload 8, 2) := by decide +kernel
theorem dX10_common_26 : decode cX10_common 26 = .ok (.lstore 6, 2) := by decide +kernel
theorem dX10_common_28 : decode cX10_common 28 = .ok (.goto (-22), 3) := by decide +kernel
theorem dX10_common_31 : decode cX10_common 31 = .ok (.lload 4, 2) := by decide +kernel
theorem dX10_common_33 : decode cX10_common 33 = .ok (.lreturn, 1) := by decide +kernel
theorem dX10_part_0 : decode cX10_part 0 = .ok (.lload_n 0, 1) := by decide +kernel
theorem dX10_part_1 : decode cX10_part 1 = .ok (.lload_n 2, 1) := by decide +kernel
theorem dX10_part_2 : decode cX10_part 2 = .ok (.invokestatic 204, 3) := by decide +kernel
theorem dX10_part_5 : decode cX10_part 5 = .ok (.lstore 5, 2) := by decide +kernel
theorem dX10_part_7 : decode cX10_part 7 = .ok (.iload 4, 2) := by decide +kernel
theorem dX10_part_9 : decode cX10_part 9 = .ok (.ifCond .ne 10, 3) := by decide +kernel
theorem dX10_part_12 : decode cX10_part 12 = .ok (.lload_n 0, 1) := by decide +kernel
theorem dX10_part_13 : decode cX10_part 13 = .ok (.lload 5, 2) := by decide +kernel
theorem dX10_part_15 : decode cX10_part 15 = .ok (.ldiv, 1) := by decide +kernel
theorem dX10_part_16 : decode cX10_part 16 = .ok (.goto 7, 3) := by decide +kernel
theorem dX10_part_19 : decode cX10_part 19 = .ok (.lload_n 2, 1) := by decide +kernel
theorem dX10_part_20 : decode cX10_part 20 = .ok (.lload 5, 2) := by decide +kernel
theorem dX10_part_22 : decode cX10_part 22 = .ok (.ldiv, 1) := by decide +kernel
theorem dX10_part_23 : decode cX10_part 23 = .ok (.lreturn, 1) := by decide +kernel
theorem dX10_whyNotLine_0 : decode cX10_whyNotLine 0 = .ok (.aload_n 0, 1) := by decide +kernel
theorem dX10_whyNotLine_1 : decode cX10_whyNotLine 1 = .ok (.iload_n 3, 1) := by decide +kernel
theorem dX10_whyNotLine_2 : decode cX10_whyNotLine 2 = .ok (.iload 4, 2) := by decide +kernel
theorem dX10_whyNotLine_4 : decode cX10_whyNotLine 4 = .ok (.iload 5, 2) := by decide +kernel
theorem dX10_whyNotLine_6 : decode cX10_whyNotLine 6 = .ok (.iload 6, 2) := by decide +kernel
theorem dX10_whyNotLine_8 : decode cX10_whyNotLine 8 = .ok (.invokevirtual 106, 3) := by decide +kernel
theorem dX10_whyNotLine_11 : decode cX10_whyNotLine 11 = .ok (.istore 7, 2) := by decide +kernel
theorem dX10_whyNotLine_13 : decode cX10_whyNotLine 13 = .ok (.iload 7, 2) := by decide +kernel
theorem dX10_whyNotLine_15 : decode cX10_whyNotLine 15 = .ok (.ifCond .eq 9, 3) := by decide +kernel
theorem dX10_whyNotLine_18 : decode cX10_whyNotLine 18 = .ok (.bipush (-10), 2) := by decide +kernel
theorem dX10_whyNotLine_20 : decode cX10_whyNotLine 20 = .ok (.iload 7, 2) := by decide +kernel
theorem dX10_whyNotLine_22 : decode cX10_whyNotLine 22 = .ok (.isub, 1) := by decide +kernel
theorem dX10_whyNotLine_23 : decode cX10_whyNotLine 23 = .ok (.ireturn, 1) := by decide +kernel
theorem dX10_whyNotLine_24 : decode cX10_whyNotLine 24 = .ok (.aload_n 0, 1) := by decide +kernel
theorem dX10_whyNotLine_25 : decode cX10_whyNotLine 25 = .ok (.iload_n 1, 1) := by decide +kernel
theorem dX10_whyNotLine_26 : decode cX10_whyNotLine 26 = .ok (.invokevirtual 208, 3) := by decide +kernel
theorem dX10_whyNotLine_29 : decode cX10_whyNotLine 29 = .ok (.istore 8, 2) := by decide +kernel
theorem dX10_whyNotLine_31 : decode cX10_whyNotLine 31 = .ok (.iload 6, 2) := by decide +kernel
theorem dX10_whyNotLine_33 : decode cX10_whyNotLine 33 = .ok (.iload 8, 2) := by decide +kernel
theorem dX10_whyNotLine_35 : decode cX10_whyNotLine 35 = .ok (.invokestatic 211, 3) := by decide +kernel
theorem dX10_whyNotLine_38 : decode cX10_whyNotLine 38 = .ok (.if_icmp .eq 6, 3) := by decide +kernel
theorem dX10_whyNotLine_41 : decode cX10_whyNotLine 41 = .ok (.bipush (-2), 2) := by decide +kernel
theorem dX10_whyNotLine_43 : decode cX10_whyNotLine 43 = .ok (.ireturn, 1) := by decide +kernel
theorem dX10_whyNotLine_44 : decode cX10_whyNotLine 44 = .ok (.iconst 0, 1) := by decide +kernel
theorem dX10_whyNotLine_45 : decode cX10_whyNotLine 45 = .ok (.istore 9, 2) := by decide +kernel
theorem dX10_whyNotLine_47 : decode cX10_whyNotLine 47 = .ok (.iconst 0, 1) := by decide +kernel
theorem dX10_whyNotLine_48 : decode cX10_whyNotLine 48 = .ok (.istore 10, 2) := by decide +kernel
theorem dX10_whyNotLine_50 : decode cX10_whyNotLine 50 = .ok (.iload 10, 2) := by decide +kernel
theorem dX10_whyNotLine_52 : decode cX10_whyNotLine 52 = .ok (.iload 6, 2) := by decide +kernel
theorem dX10_whyNotLine_54 : decode cX10_whyNotLine 54 = .ok (.if_icmp .ge 78, 3) := by decide +kernel
theorem dX10_whyNotLine_57 : decode cX10_whyNotLine 57 = .ok (.aload_n 0, 1) := by decide +kernel
theorem dX10_whyNotLine_58 : decode cX10_whyNotLine 58 = .ok (.getfield 16, 3) := by decide +kernel
theorem dX10_whyNotLine_61 : decode cX10_whyNotLine 61 = .ok (.bipush 100, 2) := by decide +kernel
theorem dX10_whyNotLine_63 : decode cX10_whyNotLine 63 = .ok (.iload_n 3, 1) := by decide +kernel
theorem dX10_whyNotLine_64 : decode cX10_whyNotLine 64 = .ok (.imul, 1) := by decide +kernel
theorem dX10_whyNotLine_65 : decode cX10_whyNotLine 65 = .ok (.iload 5, 2) := by decide +kernel
theorem dX10_whyNotLine_67 : decode cX10_whyNotLine 67 = .ok (.iadd, 1) := by decide +kernel
theorem dX10_whyNotLine_68 : decode cX10_whyNotLine 68 = .ok (.iload 10, 2) := by decide +kernel
theorem dX10_whyNotLine_70 : decode cX10_whyNotLine 70 = .ok (.iadd, 1) := by decide +kernel
theorem dX10_whyNotLine_71 : decode cX10_whyNotLine 71 = .ok (.iaload, 1) := by decide +kernel
theorem dX10_whyNotLine_72 : decode cX10_whyNotLine 72 = .ok (.istore 11, 2) := by decide +kernel
theorem dX10_whyNotLine_74 : decode cX10_whyNotLine 74 = .ok (.iload 11, 2) := by decide +kernel
theorem dX10_whyNotLine_76 : decode cX10_whyNotLine 76 = .ok (.iconst 0, 1) := by decide +kernel
theorem dX10_whyNotLine_77 : decode cX10_whyNotLine 77 = .ok (.bipush 6, 2) := by decide +kernel
theorem dX10_whyNotLine_79 : decode cX10_whyNotLine 79 = .ok (.invokestatic 92, 3) := by decide +kernel
theorem dX10_whyNotLine_82 : decode cX10_whyNotLine 82 = .ok (.ifCond .eq 23, 3) := by decide +kernel
theorem dX10_whyNotLine_85 : decode cX10_whyNotLine 85 = .ok (.iload 8, 2) := by decide +kernel
theorem dX10_whyNotLine_87 : decode cX10_whyNotLine 87 = .ok (.iload 11, 2) := by decide +kernel
theorem dX10_whyNotLine_89 : decode cX10_whyNotLine 89 = .ok (.invokestatic 178, 3) := by decide +kernel
theorem dX10_whyNotLine_92 : decode cX10_whyNotLine 92 = .ok (.ifCond .eq 13, 3) := by decide +kernel
theorem dX10_whyNotLine_95 : decode cX10_whyNotLine 95 = .ok (.iload 9, 2) := by decide +kernel
theorem dX10_whyNotLine_97 : decode cX10_whyNotLine 97 = .ok (.iload 11, 2) := by decide +kernel
theorem dX10_whyNotLine_99 : decode cX10_whyNotLine 99 = .ok (.invokestatic 178, 3) := by decide +kernel
theorem dX10_whyNotLine_102 : decode cX10_whyNotLine 102 = .ok (.ifCond .eq 6, 3) := by decide +kernel
theorem dX10_whyNotLine_105 : decode cX10_whyNotLine 105 = .ok (.bipush (-2), 2) := by decide +kernel
theorem dX10_whyNotLine_107 : decode cX10_whyNotLine 107 = .ok (.ireturn, 1) := by decide +kernel
theorem dX10_whyNotLine_108 : decode cX10_whyNotLine 108 = .ok (.iload 9, 2) := by decide +kernel
theorem dX10_whyNotLine_110 : decode cX10_whyNotLine 110 = .ok (.iconst 1, 1) := by decide +kernel
theorem dX10_whyNotLine_111 : decode cX10_whyNotLine 111 = .ok (.iload 11, 2) := by decide +kernel
theorem dX10_whyNotLine_113 : decode cX10_whyNotLine 113 = .ok (.ishl, 1) := by decide +kernel
theorem dX10_whyNotLine_114 : decode cX10_whyNotLine 114 = .ok (.ior, 1) := by decide +kernel
theorem dX10_whyNotLine_115 : decode cX10_whyNotLine 115 = .ok (.istore 9, 2) := by decide +kernel
theorem dX10_whyNotLine_117 : decode cX10_whyNotLine 117 = .ok (.aload_n 0, 1) := by decide +kernel
theorem dX10_whyNotLine_118 : decode cX10_whyNotLine 118 = .ok (.getfield 59, 3) := by decide +kernel
theorem dX10_whyNotLine_121 : decode cX10_whyNotLine 121 = .ok (.iload 10, 2) := by decide +kernel
theorem dX10_whyNotLine_123 : decode cX10_whyNotLine 123 = .ok (.iload 11, 2) := by decide +kernel
theorem dX10_whyNotLine_125 : decode cX10_whyNotLine 125 = .ok (.iastore, 1) := by decide +kernel
theorem dX10_whyNotLine_126 : decode cX10_whyNotLine 126 = .ok (.iinc 10 1, 3) := by decide +kernel
theorem dX10_whyNotLine_129 : decode cX10_whyNotLine 129 = .ok (.goto (-79), 3) := by decide +kernel
theorem dX10_whyNotLine_132 : decode cX10_whyNotLine 132 = .ok (.aload_n 0, 1) := by decide +kernel
theorem dX10_whyNotLine_133 : decode cX10_whyNotLine 133 = .ok (.iload 6, 2) := by decide +kernel
theorem dX10_whyNotLine_135 : decode cX10_whyNotLine 135 = .ok (.putfield 181, 3) := by decide +kernel
theorem dX10_whyNotLine_138 : decode cX10_whyNotLine 138 = .ok (.aload_n 0, 1) := by decide +kernel
theorem dX10_whyNotLine_139 : decode cX10_whyNotLine 139 = .ok (.iload_n 2, 1) := by decide +kernel
theorem dX10_whyNotLine_140 : decode cX10_whyNotLine 140 = .ok (.invokevirtual 214, 3) := by decide +kernel
theorem dX10_whyNotLine_143 : decode cX10_whyNotLine 143 = .ok (.istore 10, 2) := by decide +kernel
theorem dX10_whyNotLine_145 : decode cX10_whyNotLine 145 = .ok (.iload 10, 2) := by decide +kernel
theorem dX10_whyNotLine_147 : decode cX10_whyNotLine 147 = .ok (.bipush (-9), 2) := by decide +kernel
theorem dX10_whyNotLine_149 : decode cX10_whyNotLine 149 = .ok (.if_icmp .eq 10, 3) := by decide +kernel
theorem dX10_whyNotLine_152 : decode cX10_whyNotLine 152 = .ok (.iload 10, 2) := by decide +kernel
theorem dX10_whyNotLine_154 : decode cX10_whyNotLine 154 = .ok (.bipush 15, 2) := by decide +kernel
theorem dX10_whyNotLine_156 : decode cX10_whyNotLine 156 = .ok (.if_icmp .le 8, 3) := by decide +kernel
theorem dX10_whyNotLine_159 : decode cX10_whyNotLine 159 = .ok (.bipush (-3), 2) := by decide +kernel
theorem dX10_whyNotLine_161 : decode cX10_whyNotLine 161 = .ok (.goto 4, 3) := by decide +kernel
theorem dX10_whyNotLine_164 : decode cX10_whyNotLine 164 = .ok (.iconst 0, 1) := by decide +kernel
theorem dX10_whyNotLine_165 : decode cX10_whyNotLine 165 = .ok (.ireturn, 1) := by decide +kernel
theorem dX10_late_0 : decode cX10_late 0 = .ok (.aload_n 0, 1) := by decide +kernel
theorem dX10_late_1 : decode cX10_late 1 = .ok (.iconst 0, 1) := by decide +kernel
theorem dX10_late_2 : decode cX10_late 2 = .ok (.putfield 87, 3) := by decide +kernel
theorem dX10_late_5 : decode cX10_late 5 = .ok (.iload 5, 2) := by decide +kernel
theorem dX10_late_7 : decode cX10_late 7 = .ok (.invokestatic 99, 3) := by decide +kernel
theorem dX10_late_10 : decode cX10_late 10 = .ok (.ifCond .eq 11, 3) := by decide +kernel
theorem dX10_late_13 : decode cX10_late 13 = .ok (.aload_n 0, 1) := by decide +kernel
theorem dX10_late_14 : decode cX10_late 14 = .ok (.iload_n 2, 1) := by decide +kernel
theorem dX10_late_15 : decode cX10_late 15 = .ok (.invokevirtual 159, 3) := by decide +kernel
theorem dX10_late_18 : decode cX10_late 18 = .ok (.ifCond .ne 7, 3) := by decide +kernel
theorem dX10_late_21 : decode cX10_late 21 = .ok (.ldc2_w 90, 3) := by decide +kernel
theorem dX10_late_24 : decode cX10_late 24 = .ok (.lreturn, 1) := by decide +kernel
theorem dX10_late_25 : decode cX10_late 25 = .ok (.iload 6, 2) := by decide +kernel
theorem dX10_late_27 : decode cX10_late 27 = .ok (.invokestatic 103, 3) := by decide +kernel
theorem dX10_late_30 : decode cX10_late 30 = .ok (.ifCond .eq 44, 3) := by decide +kernel
theorem dX10_late_33 : decode cX10_late 33 = .ok (.aload_n 0, 1) := by decide +kernel
theorem dX10_late_34 : decode cX10_late 34 = .ok (.iload_n 1, 1) := by decide +kernel
theorem dX10_late_35 : decode cX10_late 35 = .ok (.invokevirtual 217, 3) := by decide +kernel
theorem dX10_late_38 : decode cX10_late 38 = .ok (.ifCond .eq 36, 3) := by decide +kernel
theorem dX10_late_41 : decode cX10_late 41 = .ok (.iload_n 3, 1) := by decide +kernel
theorem dX10_late_42 : decode cX10_late 42 = .ok (.iconst 0, 1) := by decide +kernel
theorem dX10_late_43 : decode cX10_late 43 = .ok (.sipush 200, 3) := by decide +kernel
theorem dX10_late_46 : decode cX10_late 46 = .ok (.invokestatic 92, 3) := by decide +kernel
theorem dX10_late_49 : decode cX10_late 49 = .ok (.ifCond .eq 25, 3) := by decide +kernel
theorem dX10_late_52 : decode cX10_late 52 = .ok (.iload 4, 2) := by decide +kernel
theorem dX10_late_54 : decode cX10_late 54 = .ok (.iconst 0, 1) := by decide +kernel
theorem dX10_late_55 : decode cX10_late 55 = .ok (.sipush 200, 3) := by decide +kernel
theorem dX10_late_58 : decode cX10_late 58 = .ok (.invokestatic 92, 3) := by decide +kernel
theorem dX10_late_61 : decode cX10_late 61 = .ok (.ifCond .eq 13, 3) := by decide +kernel
theorem dX10_late_64 : decode cX10_late 64 = .ok (.iload 9, 2) := by decide +kernel
theorem dX10_late_66 : decode cX10_late 66 = .ok (.iconst 0, 1) := by decide +kernel
theorem dX10_late_67 : decode cX10_late 67 = .ok (.iconst 1, 1) := by decide +kernel
theorem dX10_late_68 : decode cX10_late 68 = .ok (.invokestatic 92, 3) := by decide +kernel
theorem dX10_late_71 : decode cX10_late 71 = .ok (.ifCond .ne 7, 3) := by decide +kernel
theorem dX10_late_74 : decode cX10_late 74 = .ok (.ldc2_w 90, 3) := by decide +kernel
theorem dX10_late_77 : decode cX10_late 77 = .ok (.lreturn, 1) := by decide +kernel
theorem dX10_late_78 : decode cX10_late 78 = .ok (.aload_n 0, 1) := by decide +kernel
theorem dX10_late_79 : decode cX10_late 79 = .ok (.iload_n 1, 1) := by decide +kernel
theorem dX10_late_80 : decode cX10_late 80 = .ok (.iload_n 2, 1) := by decide +kernel
theorem dX10_late_81 : decode cX10_late 81 = .ok (.iload 5, 2) := by decide +kernel
theorem dX10_late_83 : decode cX10_late 83 = .ok (.iload 6, 2) := by decide +kernel
theorem dX10_late_85 : decode cX10_late 85 = .ok (.iload 7, 2) := by decide +kernel
theorem dX10_late_87 : decode cX10_late 87 = .ok (.iload 8, 2) := by decide +kernel
theorem dX10_late_89 : decode cX10_late 89 = .ok (.invokevirtual 220, 3) := by decide +kernel
theorem dX10_late_92 : decode cX10_late 92 = .ok (.istore 10, 2) := by decide +kernel
theorem dX10_late_94 : decode cX10_late 94 = .ok (.iload 10, 2) := by decide +kernel
theorem dX10_late_96 : decode cX10_late 96 = .ok (.bipush (-10), 2) := by decide +kernel
theorem dX10_late_98 : decode cX10_late 98 = .ok (.if_icmp .ge 13, 3) := by decide +kernel
theorem dX10_late_101 : decode cX10_late 101 = .ok (.aload_n 0, 1) := by decide +kernel
theorem dX10_late_102 : decode cX10_late 102 = .ok (.bipush (-10), 2) := by decide +kernel
theorem dX10_late_104 : decode cX10_late 104 = .ok (.iload 10, 2) := by decide +kernel
theorem dX10_late_106 : decode cX10_late 106 = .ok (.isub, 1) := by decide +kernel
theorem dX10_late_107 : decode cX10_late 107 = .ok (.invokevirtual 224, 3) := by decide +kernel
theorem dX10_late_110 : decode cX10_late 110 = .ok (.lreturn, 1) := by decide +kernel
theorem dX10_late_111 : decode cX10_late 111 = .ok (.iload 10, 2) := by decide +kernel
theorem dX10_late_113 : decode cX10_late 113 = .ok (.ifCond .eq 7, 3) := by decide +kernel
theorem dX10_late_116 : decode cX10_late 116 = .ok (.ldc2_w 90, 3) := by decide +kernel
theorem dX10_late_119 : decode cX10_late 119 = .ok (.lreturn, 1) := by decide +kernel
theorem dX10_late_120 : decode cX10_late 120 = .ok (.aload_n 0, 1) := by decide +kernel
theorem dX10_late_121 : decode cX10_late 121 = .ok (.iload_n 1, 1) := by decide +kernel
theorem dX10_late_122 : decode cX10_late 122 = .ok (.iload_n 2, 1) := by decide +kernel
theorem dX10_late_123 : decode cX10_late 123 = .ok (.iload_n 3, 1) := by decide +kernel
theorem dX10_late_124 : decode cX10_late 124 = .ok (.iload 4, 2) := by decide +kernel
theorem dX10_late_126 : decode cX10_late 126 = .ok (.iconst 1, 1) := by decide +kernel
theorem dX10_late_127 : decode cX10_late 127 = .ok (.iadd, 1) := by decide +kernel
theorem dX10_late_128 : decode cX10_late 128 = .ok (.invokevirtual 228, 3) := by decide +kernel
theorem dX10_late_131 : decode cX10_late 131 = .ok (.aload_n 0, 1) := by decide +kernel
theorem dX10_late_132 : decode cX10_late 132 = .ok (.getfield 55, 3) := by decide +kernel
theorem dX10_late_135 : decode cX10_late 135 = .ok (.iload 4, 2) := by decide +kernel
theorem dX10_late_137 : decode cX10_late 137 = .ok (.iconst 1, 1) := by decide +kernel
theorem dX10_late_138 : decode cX10_late 138 = .ok (.iadd, 1) := by decide +kernel
theorem dX10_late_139 : decode cX10_late 139 = .ok (.laload, 1) := by decide +kernel
theorem dX10_late_140 : decode cX10_late 140 = .ok (.aload_n 0, 1) := by decide +kernel
theorem dX10_late_141 : decode cX10_late 141 = .ok (.iload_n 2, 1) := by decide +kernel
theorem dX10_late_142 : decode cX10_late 142 = .ok (.invokevirtual 214, 3) := by decide +kernel
theorem dX10_late_145 : decode cX10_late 145 = .ok (.invokestatic 232, 3) := by decide +kernel
theorem dX10_late_148 : decode cX10_late 148 = .ok (.iload 9, 2) := by decide +kernel
theorem dX10_late_150 : decode cX10_late 150 = .ok (.invokestatic 235, 3) := by decide +kernel
theorem dX10_late_153 : decode cX10_late 153 = .ok (.lreturn, 1) := by decide +kernel
theorem dX10_mean_0 : decode cX10_mean 0 = .ok (.aload_n 0, 1) := by decide +kernel
theorem dX10_mean_1 : decode cX10_mean 1 = .ok (.iconst 0, 1) := by decide +kernel
theorem dX10_mean_2 : decode cX10_mean 2 = .ok (.putfield 87, 3) := by decide +kernel
theorem dX10_mean_5 : decode cX10_mean 5 = .ok (.iload 4, 2) := by decide +kernel
theorem dX10_mean_7 : decode cX10_mean 7 = .ok (.invokestatic 99, 3) := by decide +kernel
theorem dX10_mean_10 : decode cX10_mean 10 = .ok (.ifCond .eq 11, 3) := by decide +kernel
theorem dX10_mean_13 : decode cX10_mean 13 = .ok (.aload_n 0, 1) := by decide +kernel
theorem dX10_mean_14 : decode cX10_mean 14 = .ok (.iload_n 2, 1) := by decide +kernel
theorem dX10_mean_15 : decode cX10_mean 15 = .ok (.invokevirtual 159, 3) := by decide +kernel
theorem dX10_mean_18 : decode cX10_mean 18 = .ok (.ifCond .ne 7, 3) := by decide +kernel
theorem dX10_mean_21 : decode cX10_mean 21 = .ok (.ldc2_w 90, 3) := by decide +kernel
theorem dX10_mean_24 : decode cX10_mean 24 = .ok (.lreturn, 1) := by decide +kernel
theorem dX10_mean_25 : decode cX10_mean 25 = .ok (.iload 5, 2) := by decide +kernel
theorem dX10_mean_27 : decode cX10_mean 27 = .ok (.invokestatic 103, 3) := by decide +kernel
theorem dX10_mean_30 : decode cX10_mean 30 = .ok (.ifCond .eq 32, 3) := by decide +kernel
theorem dX10_mean_33 : decode cX10_mean 33 = .ok (.aload_n 0, 1) := by decide +kernel
theorem dX10_mean_34 : decode cX10_mean 34 = .ok (.iload_n 1, 1) := by decide +kernel
theorem dX10_mean_35 : decode cX10_mean 35 = .ok (.invokevirtual 217, 3) := by decide +kernel
theorem dX10_mean_38 : decode cX10_mean 38 = .ok (.ifCond .eq 24, 3) := by decide +kernel
theorem dX10_mean_41 : decode cX10_mean 41 = .ok (.iload_n 3, 1) := by decide +kernel
theorem dX10_mean_42 : decode cX10_mean 42 = .ok (.iconst 0, 1) := by decide +kernel
theorem dX10_mean_43 : decode cX10_mean 43 = .ok (.sipush 200, 3) := by decide +kernel
theorem dX10_mean_46 : decode cX10_mean 46 = .ok (.invokestatic 92, 3) := by decide +kernel
theorem dX10_mean_49 : decode cX10_mean 49 = .ok (.ifCond .eq 13, 3) := by decide +kernel
theorem dX10_mean_52 : decode cX10_mean 52 = .ok (.iload 8, 2) := by decide +kernel
theorem dX10_mean_54 : decode cX10_mean 54 = .ok (.iconst 0, 1) := by decide +kernel
theorem dX10_mean_55 : decode cX10_mean 55 = .ok (.iconst 1, 1) := by decide +kernel
theorem dX10_mean_56 : decode cX10_mean 56 = .ok (.invokestatic 92, 3) := by decide +kernel
theorem dX10_mean_59 : decode cX10_mean 59 = .ok (.ifCond .ne 7, 3) := by decide +kernel
theorem dX10_mean_62 : decode cX10_mean 62 = .ok (.ldc2_w 90, 3) := by decide +kernel
theorem dX10_mean_65 : decode cX10_mean 65 = .ok (.lreturn, 1) := by decide +kernel
theorem dX10_mean_66 : decode cX10_mean 66 = .ok (.aload_n 0, 1) := by decide +kernel
theorem dX10_mean_67 : decode cX10_mean 67 = .ok (.iload_n 1, 1) := by decide +kernel
theorem dX10_mean_68 : decode cX10_mean 68 = .ok (.iload_n 2, 1) := by decide +kernel
theorem dX10_mean_69 : decode cX10_mean 69 = .ok (.iload 4, 2) := by decide +kernel
theorem dX10_mean_71 : decode cX10_mean 71 = .ok (.iload 5, 2) := by decide +kernel
theorem dX10_mean_73 : decode cX10_mean 73 = .ok (.iload 6, 2) := by decide +kernel
theorem dX10_mean_75 : decode cX10_mean 75 = .ok (.iload 7, 2) := by decide +kernel
theorem dX10_mean_77 : decode cX10_mean 77 = .ok (.invokevirtual 220, 3) := by decide +kernel
theorem dX10_mean_80 : decode cX10_mean 80 = .ok (.istore 9, 2) := by decide +kernel
theorem dX10_mean_82 : decode cX10_mean 82 = .ok (.iload 9, 2) := by decide +kernel
theorem dX10_mean_84 : decode cX10_mean 84 = .ok (.bipush (-10), 2) := by decide +kernel
theorem dX10_mean_86 : decode cX10_mean 86 = .ok (.if_icmp .ge 13, 3) := by decide +kernel
theorem dX10_mean_89 : decode cX10_mean 89 = .ok (.aload_n 0, 1) := by decide +kernel
theorem dX10_mean_90 : decode cX10_mean 90 = .ok (.bipush (-10), 2) := by decide +kernel
theorem dX10_mean_92 : decode cX10_mean 92 = .ok (.iload 9, 2) := by decide +kernel
theorem dX10_mean_94 : decode cX10_mean 94 = .ok (.isub, 1) := by decide +kernel
theorem dX10_mean_95 : decode cX10_mean 95 = .ok (.invokevirtual 224, 3) := by decide +kernel
theorem dX10_mean_98 : decode cX10_mean 98 = .ok (.lreturn, 1) := by decide +kernel
theorem dX10_mean_99 : decode cX10_mean 99 = .ok (.iload 9, 2) := by decide +kernel
theorem dX10_mean_101 : decode cX10_mean 101 = .ok (.ifCond .eq 7, 3) := by decide +kernel
theorem dX10_mean_104 : decode cX10_mean 104 = .ok (.ldc2_w 90, 3) := by decide +kernel
theorem dX10_mean_107 : decode cX10_mean 107 = .ok (.lreturn, 1) := by decide +kernel
theorem dX10_mean_108 : decode cX10_mean 108 = .ok (.aload_n 0, 1) := by decide +kernel
theorem dX10_mean_109 : decode cX10_mean 109 = .ok (.iload_n 1, 1) := by decide +kernel
theorem dX10_mean_110 : decode cX10_mean 110 = .ok (.iload_n 2, 1) := by decide +kernel
theorem dX10_mean_111 : decode cX10_mean 111 = .ok (.iload_n 3, 1) := by decide +kernel
theorem dX10_mean_112 : decode cX10_mean 112 = .ok (.sipush 7000, 3) := by decide +kernel
theorem dX10_mean_115 : decode cX10_mean 115 = .ok (.invokevirtual 228, 3) := by decide +kernel
theorem dX10_mean_118 : decode cX10_mean 118 = .ok (.lconst 0, 1) := by decide +kernel
theorem dX10_mean_119 : decode cX10_mean 119 = .ok (.lstore 10, 2) := by decide +kernel
theorem dX10_mean_121 : decode cX10_mean 121 = .ok (.iconst 0, 1) := by decide +kernel
theorem dX10_mean_122 : decode cX10_mean 122 = .ok (.istore 12, 2) := by decide +kernel
theorem dX10_mean_124 : decode cX10_mean 124 = .ok (.iload 12, 2) := by decide +kernel
theorem dX10_mean_126 : decode cX10_mean 126 = .ok (.sipush 7000, 3) := by decide +kernel
theorem dX10_mean_129 : decode cX10_mean 129 = .ok (.if_icmp .gt 25, 3) := by decide +kernel
theorem dX10_mean_132 : decode cX10_mean 132 = .ok (.lload 10, 2) := by decide +kernel
theorem dX10_mean_134 : decode cX10_mean 134 = .ok (.aload_n 0, 1) := by decide +kernel
theorem dX10_mean_135 : decode cX10_mean 135 = .ok (.getfield 55, 3) := by decide +kernel
theorem dX10_mean_138 : decode cX10_mean 138 = .ok (.iload 12, 2) := by decide +kernel
theorem dX10_mean_140 : decode cX10_mean 140 = .ok (.laload, 1) := by decide +kernel
theorem dX10_mean_141 : decode cX10_mean 141 = .ok (.iload 12, 2) := by decide +kernel
theorem dX10_mean_143 : decode cX10_mean 143 = .ok (.i2l, 1) := by decide +kernel
theorem dX10_mean_144 : decode cX10_mean 144 = .ok (.lmul, 1) := by decide +kernel
theorem dX10_mean_145 : decode cX10_mean 145 = .ok (.ladd, 1) := by decide +kernel
theorem dX10_mean_146 : decode cX10_mean 146 = .ok (.lstore 10, 2) := by decide +kernel
theorem dX10_mean_148 : decode cX10_mean 148 = .ok (.iinc 12 1, 3) := by decide +kernel
theorem dX10_mean_151 : decode cX10_mean 151 = .ok (.goto (-27), 3) := by decide +kernel
theorem dX10_mean_154 : decode cX10_mean 154 = .ok (.lload 10, 2) := by decide +kernel
theorem dX10_mean_156 : decode cX10_mean 156 = .ok (.aload_n 0, 1) := by decide +kernel
theorem dX10_mean_157 : decode cX10_mean 157 = .ok (.iload_n 2, 1) := by decide +kernel
theorem dX10_mean_158 : decode cX10_mean 158 = .ok (.invokevirtual 214, 3) := by decide +kernel
theorem dX10_mean_161 : decode cX10_mean 161 = .ok (.invokestatic 232, 3) := by decide +kernel
theorem dX10_mean_164 : decode cX10_mean 164 = .ok (.iload 8, 2) := by decide +kernel
theorem dX10_mean_166 : decode cX10_mean 166 = .ok (.invokestatic 235, 3) := by decide +kernel
theorem dX10_mean_169 : decode cX10_mean 169 = .ok (.lreturn, 1) := by decide +kernel
theorem dX10_startBy_0 : decode cX10_startBy 0 = .ok (.aload_n 0, 1) := by decide +kernel
theorem dX10_startBy_1 : decode cX10_startBy 1 = .ok (.iload_n 2, 1) := by decide +kernel
theorem dX10_startBy_2 : decode cX10_startBy 2 = .ok (.invokevirtual 214, 3) := by decide +kernel
theorem dX10_startBy_5 : decode cX10_startBy 5 = .ok (.invokestatic 232, 3) := by decide +kernel
theorem dX10_startBy_8 : decode cX10_startBy 8 = .ok (.lstore 5, 2) := by decide +kernel
theorem dX10_startBy_10 : decode cX10_startBy 10 = .ok (.iconst (-1), 1) := by decide +kernel
theorem dX10_startBy_11 : decode cX10_startBy 11 = .ok (.istore 7, 2) := by decide +kernel
theorem dX10_startBy_13 : decode cX10_startBy 13 = .ok (.iload_n 3, 1) := by decide +kernel
theorem dX10_startBy_14 : decode cX10_startBy 14 = .ok (.istore 8, 2) := by decide +kernel
theorem dX10_startBy_16 : decode cX10_startBy 16 = .ok (.iload 7, 2) := by decide +kernel
theorem dX10_startBy_18 : decode cX10_startBy 18 = .ok (.iload 8, 2) := by decide +kernel
theorem dX10_startBy_20 : decode cX10_startBy 20 = .ok (.if_icmp .ge 63, 3) := by decide +kernel
theorem dX10_startBy_23 : decode cX10_startBy 23 = .ok (.iload 7, 2) := by decide +kernel
theorem dX10_startBy_25 : decode cX10_startBy 25 = .ok (.iload 8, 2) := by decide +kernel
theorem dX10_startBy_27 : decode cX10_startBy 27 = .ok (.iadd, 1) := by decide +kernel
theorem dX10_startBy_28 : decode cX10_startBy 28 = .ok (.iconst 1, 1) := by decide +kernel
theorem dX10_startBy_29 : decode cX10_startBy 29 = .ok (.iadd, 1) := by decide +kernel
theorem dX10_startBy_30 : decode cX10_startBy 30 = .ok (.iconst 2, 1) := by decide +kernel
theorem dX10_startBy_31 : decode cX10_startBy 31 = .ok (.idiv, 1) := by decide +kernel
theorem dX10_startBy_32 : decode cX10_startBy 32 = .ok (.istore 9, 2) := by decide +kernel
theorem dX10_startBy_34 : decode cX10_startBy 34 = .ok (.aload_n 0, 1) := by decide +kernel
theorem dX10_startBy_35 : decode cX10_startBy 35 = .ok (.iload_n 1, 1) := by decide +kernel
theorem dX10_startBy_36 : decode cX10_startBy 36 = .ok (.iload_n 2, 1) := by decide +kernel
theorem dX10_startBy_37 : decode cX10_startBy 37 = .ok (.iload 9, 2) := by decide +kernel
theorem dX10_startBy_39 : decode cX10_startBy 39 = .ok (.iload_n 3, 1) := by decide +kernel
theorem dX10_startBy_40 : decode cX10_startBy 40 = .ok (.iconst 1, 1) := by decide +kernel
theorem dX10_startBy_41 : decode cX10_startBy 41 = .ok (.iadd, 1) := by decide +kernel
theorem dX10_startBy_42 : decode cX10_startBy 42 = .ok (.invokevirtual 228, 3) := by decide +kernel
theorem dX10_startBy_45 : decode cX10_startBy 45 = .ok (.ldc2_w 239, 3) := by decide +kernel
theorem dX10_startBy_48 : decode cX10_startBy 48 = .ok (.aload_n 0, 1) := by decide +kernel
theorem dX10_startBy_49 : decode cX10_startBy 49 = .ok (.getfield 55, 3) := by decide +kernel
theorem dX10_startBy_52 : decode cX10_startBy 52 = .ok (.iload_n 3, 1) := by decide +kernel
theorem dX10_startBy_53 : decode cX10_startBy 53 = .ok (.iconst 1, 1) := by decide +kernel
theorem dX10_startBy_54 : decode cX10_startBy 54 = .ok (.iadd, 1) := by decide +kernel
theorem dX10_startBy_55 : decode cX10_startBy 55 = .ok (.laload, 1) := by decide +kernel
theorem dX10_startBy_56 : decode cX10_startBy 56 = .ok (.lmul, 1) := by decide +kernel
theorem dX10_startBy_57 : decode cX10_startBy 57 = .ok (.iload 4, 2) := by decide +kernel
theorem dX10_startBy_59 : decode cX10_startBy 59 = .ok (.i2l, 1) := by decide +kernel
theorem dX10_startBy_60 : decode cX10_startBy 60 = .ok (.lload 5, 2) := by decide +kernel
theorem dX10_startBy_62 : decode cX10_startBy 62 = .ok (.lmul, 1) := by decide +kernel
theorem dX10_startBy_63 : decode cX10_startBy 63 = .ok (.lcmp, 1) := by decide +kernel
theorem dX10_startBy_64 : decode cX10_startBy 64 = .ok (.ifCond .gt 10, 3) := by decide +kernel
theorem dX10_startBy_67 : decode cX10_startBy 67 = .ok (.iload 9, 2) := by decide +kernel
theorem dX10_startBy_69 : decode cX10_startBy 69 = .ok (.istore 7, 2) := by decide +kernel
theorem dX10_startBy_71 : decode cX10_startBy 71 = .ok (.goto 9, 3) := by decide +kernel
theorem dX10_startBy_74 : decode cX10_startBy 74 = .ok (.iload 9, 2) := by decide +kernel
theorem dX10_startBy_76 : decode cX10_startBy 76 = .ok (.iconst 1, 1) := by decide +kernel
theorem dX10_startBy_77 : decode cX10_startBy 77 = .ok (.isub, 1) := by decide +kernel
theorem dX10_startBy_78 : decode cX10_startBy 78 = .ok (.istore 8, 2) := by decide +kernel
theorem dX10_startBy_80 : decode cX10_startBy 80 = .ok (.goto (-64), 3) := by decide +kernel
theorem dX10_startBy_83 : decode cX10_startBy 83 = .ok (.iload 7, 2) := by decide +kernel
theorem dX10_startBy_85 : decode cX10_startBy 85 = .ok (.ifCond .ge 8, 3) := by decide +kernel
theorem dX10_startBy_88 : decode cX10_startBy 88 = .ok (.bipush (-9), 2) := by decide +kernel
theorem dX10_startBy_90 : decode cX10_startBy 90 = .ok (.goto 5, 3) := by decide +kernel
theorem dX10_startBy_93 : decode cX10_startBy 93 = .ok (.iload 7, 2) := by decide +kernel
theorem dX10_startBy_95 : decode cX10_startBy 95 = .ok (.ireturn, 1) := by decide +kernel
theorem dX10_layOrder_0 : decode cX10_layOrder 0 = .ok (.iload_n 1, 1) := by decide +kernel
theorem dX10_layOrder_1 : decode cX10_layOrder 1 = .ok (.istore_n 2, 1) := by decide +kernel
theorem dX10_layOrder_2 : decode cX10_layOrder 2 = .ok (.iconst 0, 1) := by decide +kernel
theorem dX10_layOrder_3 : decode cX10_layOrder 3 = .ok (.istore_n 3, 1) := by decide +kernel
theorem dX10_layOrder_4 : decode cX10_layOrder 4 = .ok (.aload_n 0, 1) := by decide +kernel
theorem dX10_layOrder_5 : decode cX10_layOrder 5 = .ok (.getfield 181, 3) := by decide +kernel
theorem dX10_layOrder_8 : decode cX10_layOrder 8 = .ok (.iconst 1, 1) := by decide +kernel
theorem dX10_layOrder_9 : decode cX10_layOrder 9 = .ok (.isub, 1) := by decide +kernel
theorem dX10_layOrder_10 : decode cX10_layOrder 10 = .ok (.istore 4, 2) := by decide +kernel
theorem dX10_layOrder_12 : decode cX10_layOrder 12 = .ok (.iload 4, 2) := by decide +kernel
theorem dX10_layOrder_14 : decode cX10_layOrder 14 = .ok (.ifCond .lt 56, 3) := by decide +kernel
theorem dX10_layOrder_17 : decode cX10_layOrder 17 = .ok (.iload_n 2, 1) := by decide +kernel
theorem dX10_layOrder_18 : decode cX10_layOrder 18 = .ok (.aload_n 0, 1) := by decide +kernel
theorem dX10_layOrder_19 : decode cX10_layOrder 19 = .ok (.getfield 181, 3) := by decide +kernel
theorem dX10_layOrder_22 : decode cX10_layOrder 22 = .ok (.irem, 1) := by decide +kernel
theorem dX10_layOrder_23 : decode cX10_layOrder 23 = .ok (.istore 5, 2) := by decide +kernel
theorem dX10_layOrder_25 : decode cX10_layOrder 25 = .ok (.iload_n 2, 1) := by decide +kernel
theorem dX10_layOrder_26 : decode cX10_layOrder 26 = .ok (.aload_n 0, 1) := by decide +kernel
theorem dX10_layOrder_27 : decode cX10_layOrder 27 = .ok (.getfield 181, 3) := by decide +kernel
theorem dX10_layOrder_30 : decode cX10_layOrder 30 = .ok (.idiv, 1) := by decide +kernel
theorem dX10_layOrder_31 : decode cX10_layOrder 31 = .ok (.istore_n 2, 1) := by decide +kernel
theorem dX10_layOrder_32 : decode cX10_layOrder 32 = .ok (.iload_n 3, 1) := by decide +kernel
theorem dX10_layOrder_33 : decode cX10_layOrder 33 = .ok (.iload 5, 2) := by decide +kernel
theorem dX10_layOrder_35 : decode cX10_layOrder 35 = .ok (.invokestatic 178, 3) := by decide +kernel
theorem dX10_layOrder_38 : decode cX10_layOrder 38 = .ok (.ifCond .eq 5, 3) := by decide +kernel
theorem dX10_layOrder_41 : decode cX10_layOrder 41 = .ok (.iconst 0, 1) := by decide +kernel
theorem dX10_layOrder_42 : decode cX10_layOrder 42 = .ok (.ireturn, 1) := by decide +kernel
theorem dX10_layOrder_43 : decode cX10_layOrder 43 = .ok (.iload_n 3, 1) := by decide +kernel
theorem dX10_layOrder_44 : decode cX10_layOrder 44 = .ok (.iconst 1, 1) := by decide +kernel
theorem dX10_layOrder_45 : decode cX10_layOrder 45 = .ok (.iload 5, 2) := by decide +kernel
theorem dX10_layOrder_47 : decode cX10_layOrder 47 = .ok (.ishl, 1) := by decide +kernel
theorem dX10_layOrder_48 : decode cX10_layOrder 48 = .ok (.ior, 1) := by decide +kernel
theorem dX10_layOrder_49 : decode cX10_layOrder 49 = .ok (.istore_n 3, 1) := by decide +kernel
theorem dX10_layOrder_50 : decode cX10_layOrder 50 = .ok (.aload_n 0, 1) := by decide +kernel
theorem dX10_layOrder_51 : decode cX10_layOrder 51 = .ok (.getfield 59, 3) := by decide +kernel
theorem dX10_layOrder_54 : decode cX10_layOrder 54 = .ok (.iload 4, 2) := by decide +kernel
theorem dX10_layOrder_56 : decode cX10_layOrder 56 = .ok (.aload_n 0, 1) := by decide +kernel
theorem dX10_layOrder_57 : decode cX10_layOrder 57 = .ok (.getfield 65, 3) := by decide +kernel
theorem dX10_layOrder_60 : decode cX10_layOrder 60 = .ok (.iload 5, 2) := by decide +kernel
theorem dX10_layOrder_62 : decode cX10_layOrder 62 = .ok (.iaload, 1) := by decide +kernel
theorem dX10_layOrder_63 : decode cX10_layOrder 63 = .ok (.iastore, 1) := by decide +kernel
theorem dX10_layOrder_64 : decode cX10_layOrder 64 = .ok (.iinc 4 (-1), 3) := by decide +kernel
theorem dX10_layOrder_67 : decode cX10_layOrder 67 = .ok (.goto (-55), 3) := by decide +kernel
theorem dX10_layOrder_70 : decode cX10_layOrder 70 = .ok (.iconst 1, 1) := by decide +kernel
theorem dX10_layOrder_71 : decode cX10_layOrder 71 = .ok (.ireturn, 1) := by decide +kernel
theorem dX10_laySetGates_0 : decode cX10_laySetGates 0 = .ok (.aload_n 0, 1) := by decide +kernel
theorem dX10_laySetGates_1 : decode cX10_laySetGates 1 = .ok (.iload_n 1, 1) := by decide +kernel
theorem dX10_laySetGates_2 : decode cX10_laySetGates 2 = .ok (.invokevirtual 208, 3) := by decide +kernel
theorem dX10_laySetGates_5 : decode cX10_laySetGates 5 = .ok (.istore_n 2, 1) := by decide +kernel
theorem dX10_laySetGates_6 : decode cX10_laySetGates 6 = .ok (.iconst 0, 1) := by decide +kernel
theorem dX10_laySetGates_7 : decode cX10_laySetGates 7 = .ok (.istore_n 3, 1) := by decide +kernel
theorem dX10_laySetGates_8 : decode cX10_laySetGates 8 = .ok (.iconst 0, 1) := by decide +kernel
theorem dX10_laySetGates_9 : decode cX10_laySetGates 9 = .ok (.istore 4, 2) := by decide +kernel
theorem dX10_laySetGates_11 : decode cX10_laySetGates 11 = .ok (.iload 4, 2) := by decide +kernel
theorem dX10_laySetGates_13 : decode cX10_laySetGates 13 = .ok (.bipush 7, 2) := by decide +kernel
theorem dX10_laySetGates_15 : decode cX10_laySetGates 15 = .ok (.if_icmp .ge 29, 3) := by decide +kernel
theorem dX10_laySetGates_18 : decode cX10_laySetGates 18 = .ok (.iload_n 2, 1) := by decide +kernel
theorem dX10_laySetGates_19 : decode cX10_laySetGates 19 = .ok (.iload 4, 2) := by decide +kernel
theorem dX10_laySetGates_21 : decode cX10_laySetGates 21 = .ok (.invokestatic 178, 3) := by decide +kernel
theorem dX10_laySetGates_24 : decode cX10_laySetGates 24 = .ok (.ifCond .eq 14, 3) := by decide +kernel
theorem dX10_laySetGates_27 : decode cX10_laySetGates 27 = .ok (.aload_n 0, 1) := by decide +kernel
theorem dX10_laySetGates_28 : decode cX10_laySetGates 28 = .ok (.getfield 65, 3) := by decide +kernel
theorem dX10_laySetGates_31 : decode cX10_laySetGates 31 = .ok (.iload_n 3, 1) := by decide +kernel
theorem dX10_laySetGates_32 : decode cX10_laySetGates 32 = .ok (.iload 4, 2) := by decide +kernel
theorem dX10_laySetGates_34 : decode cX10_laySetGates 34 = .ok (.iastore, 1) := by decide +kernel
theorem dX10_laySetGates_35 : decode cX10_laySetGates 35 = .ok (.iinc 3 1, 3) := by decide +kernel
theorem dX10_laySetGates_38 : decode cX10_laySetGates 38 = .ok (.iinc 4 1, 3) := by decide +kernel
theorem dX10_laySetGates_41 : decode cX10_laySetGates 41 = .ok (.goto (-30), 3) := by decide +kernel
theorem dX10_laySetGates_44 : decode cX10_laySetGates 44 = .ok (.aload_n 0, 1) := by decide +kernel
theorem dX10_laySetGates_45 : decode cX10_laySetGates 45 = .ok (.iload_n 3, 1) := by decide +kernel
theorem dX10_laySetGates_46 : decode cX10_laySetGates 46 = .ok (.putfield 181, 3) := by decide +kernel
theorem dX10_laySetGates_49 : decode cX10_laySetGates 49 = .ok (.iconst 1, 1) := by decide +kernel
theorem dX10_laySetGates_50 : decode cX10_laySetGates 50 = .ok (.istore 4, 2) := by decide +kernel
theorem dX10_laySetGates_52 : decode cX10_laySetGates 52 = .ok (.iconst 0, 1) := by decide +kernel
theorem dX10_laySetGates_53 : decode cX10_laySetGates 53 = .ok (.istore 5, 2) := by decide +kernel
theorem dX10_laySetGates_55 : decode cX10_laySetGates 55 = .ok (.iload 5, 2) := by decide +kernel
theorem dX10_laySetGates_57 : decode cX10_laySetGates 57 = .ok (.iload_n 3, 1) := by decide +kernel
theorem dX10_laySetGates_58 : decode cX10_laySetGates 58 = .ok (.if_icmp .ge 15, 3) := by decide +kernel
theorem dX10_laySetGates_61 : decode cX10_laySetGates 61 = .ok (.iload 4, 2) := by decide +kernel
theorem dX10_laySetGates_63 : decode cX10_laySetGates 63 = .ok (.iload_n 3, 1) := by decide +kernel
theorem dX10_laySetGates_64 : decode cX10_laySetGates 64 = .ok (.imul, 1) := by decide +kernel
theorem dX10_laySetGates_65 : decode cX10_laySetGates 65 = .ok (.istore 4, 2) := by decide +kernel
theorem dX10_laySetGates_67 : decode cX10_laySetGates 67 = .ok (.iinc 5 1, 3) := by decide +kernel
theorem dX10_laySetGates_70 : decode cX10_laySetGates 70 = .ok (.goto (-15), 3) := by decide +kernel
theorem dX10_laySetGates_73 : decode cX10_laySetGates 73 = .ok (.iload 4, 2) := by decide +kernel
theorem dX10_laySetGates_75 : decode cX10_laySetGates 75 = .ok (.ireturn, 1) := by decide +kernel
theorem dX10_mayStart_0 : decode cX10_mayStart 0 = .ok (.aload_n 0, 1) := by decide +kernel
theorem dX10_mayStart_1 : decode cX10_mayStart 1 = .ok (.iload_n 1, 1) := by decide +kernel
theorem dX10_mayStart_2 : decode cX10_mayStart 2 = .ok (.invokevirtual 241, 3) := by decide +kernel
theorem dX10_mayStart_5 : decode cX10_mayStart 5 = .ok (.istore_n 3, 1) := by decide +kernel
theorem dX10_mayStart_6 : decode cX10_mayStart 6 = .ok (.aload_n 0, 1) := by decide +kernel
theorem dX10_mayStart_7 : decode cX10_mayStart 7 = .ok (.getfield 181, 3) := by decide +kernel
theorem dX10_mayStart_10 : decode cX10_mayStart 10 = .ok (.iconst 4, 1) := by decide +kernel
theorem dX10_mayStart_11 : decode cX10_mayStart 11 = .ok (.if_icmp .le 5, 3) := by decide +kernel
theorem dX10_mayStart_14 : decode cX10_mayStart 14 = .ok (.iconst 0, 1) := by decide +kernel
theorem dX10_mayStart_15 : decode cX10_mayStart 15 = .ok (.ireturn, 1) := by decide +kernel
theorem dX10_mayStart_16 : decode cX10_mayStart 16 = .ok (.iconst 1, 1) := by decide +kernel
theorem dX10_mayStart_17 : decode cX10_mayStart 17 = .ok (.istore 4, 2) := by decide +kernel
theorem dX10_mayStart_19 : decode cX10_mayStart 19 = .ok (.iconst 0, 1) := by decide +kernel
theorem dX10_mayStart_20 : decode cX10_mayStart 20 = .ok (.istore 5, 2) := by decide +kernel
theorem dX10_mayStart_22 : decode cX10_mayStart 22 = .ok (.iload 5, 2) := by decide +kernel
theorem dX10_mayStart_24 : decode cX10_mayStart 24 = .ok (.iload_n 3, 1) := by decide +kernel
theorem dX10_mayStart_25 : decode cX10_mayStart 25 = .ok (.if_icmp .ge 54, 3) := by decide +kernel
theorem dX10_mayStart_28 : decode cX10_mayStart 28 = .ok (.iload 4, 2) := by decide +kernel
theorem dX10_mayStart_30 : decode cX10_mayStart 30 = .ok (.ifCond .eq 49, 3) := by decide +kernel
theorem dX10_mayStart_33 : decode cX10_mayStart 33 = .ok (.aload_n 0, 1) := by decide +kernel
theorem dX10_mayStart_34 : decode cX10_mayStart 34 = .ok (.iload 5, 2) := by decide +kernel
theorem dX10_mayStart_36 : decode cX10_mayStart 36 = .ok (.invokevirtual 244, 3) := by decide +kernel
theorem dX10_mayStart_39 : decode cX10_mayStart 39 = .ok (.ifCond .ne 6, 3) := by decide +kernel
theorem dX10_mayStart_42 : decode cX10_mayStart 42 = .ok (.goto 31, 3) := by decide +kernel
theorem dX10_mayStart_45 : decode cX10_mayStart 45 = .ok (.aload_n 0, 1) := by decide +kernel
theorem dX10_mayStart_46 : decode cX10_mayStart 46 = .ok (.iload_n 2, 1) := by decide +kernel
theorem dX10_mayStart_47 : decode cX10_mayStart 47 = .ok (.invokevirtual 214, 3) := by decide +kernel
theorem dX10_mayStart_50 : decode cX10_mayStart 50 = .ok (.istore 6, 2) := by decide +kernel
theorem dX10_mayStart_52 : decode cX10_mayStart 52 = .ok (.iload 6, 2) := by decide +kernel
theorem dX10_mayStart_54 : decode cX10_mayStart 54 = .ok (.bipush (-9), 2) := by decide +kernel
theorem dX10_mayStart_56 : decode cX10_mayStart 56 = .ok (.if_icmp .eq 14, 3) := by decide +kernel
theorem dX10_mayStart_59 : decode cX10_mayStart 59 = .ok (.iload 6, 2) := by decide +kernel
theorem dX10_mayStart_61 : decode cX10_mayStart 61 = .ok (.bipush 15, 2) := by decide +kernel
theorem dX10_mayStart_63 : decode cX10_mayStart 63 = .ok (.if_icmp .gt 7, 3) := by decide +kernel
theorem dX10_mayStart_66 : decode cX10_mayStart 66 = .ok (.iconst 1, 1) := by decide +kernel
theorem dX10_mayStart_67 : decode cX10_mayStart 67 = .ok (.goto 4, 3) := by decide +kernel
theorem dX10_mayStart_70 : decode cX10_mayStart 70 = .ok (.iconst 0, 1) := by decide +kernel
theorem dX10_mayStart_71 : decode cX10_mayStart 71 = .ok (.istore 4, 2) := by decide +kernel
theorem dX10_mayStart_73 : decode cX10_mayStart 73 = .ok (.iinc 5 1, 3) := by decide +kernel
theorem dX10_mayStart_76 : decode cX10_mayStart 76 = .ok (.goto (-54), 3) := by decide +kernel
theorem dX10_mayStart_79 : decode cX10_mayStart 79 = .ok (.iload 4, 2) := by decide +kernel
theorem dX10_mayStart_81 : decode cX10_mayStart 81 = .ok (.ireturn, 1) := by decide +kernel
theorem dX10_findStart_0 : decode cX10_findStart 0 = .ok (.aload_n 0, 1) := by decide +kernel
theorem dX10_findStart_1 : decode cX10_findStart 1 = .ok (.bipush (-9), 2) := by decide +kernel
theorem dX10_findStart_3 : decode cX10_findStart 3 = .ok (.putfield 247, 3) := by decide +kernel
theorem dX10_findStart_6 : decode cX10_findStart 6 = .ok (.aload_n 0, 1) := by decide +kernel
theorem dX10_findStart_7 : decode cX10_findStart 7 = .ok (.iload_n 1, 1) := by decide +kernel
theorem dX10_findStart_8 : decode cX10_findStart 8 = .ok (.invokevirtual 241, 3) := by decide +kernel
theorem dX10_findStart_11 : decode cX10_findStart 11 = .ok (.istore 5, 2) := by decide +kernel
theorem dX10_findStart_13 : decode cX10_findStart 13 = .ok (.iconst 0, 1) := by decide +kernel
theorem dX10_findStart_14 : decode cX10_findStart 14 = .ok (.istore 6, 2) := by decide +kernel
theorem dX10_findStart_16 : decode cX10_findStart 16 = .ok (.iload 6, 2) := by decide +kernel
theorem dX10_findStart_18 : decode cX10_findStart 18 = .ok (.iload 5, 2) := by decide +kernel
theorem dX10_findStart_20 : decode cX10_findStart 20 = .ok (.if_icmp .ge 79, 3) := by decide +kernel
theorem dX10_findStart_23 : decode cX10_findStart 23 = .ok (.aload_n 0, 1) := by decide +kernel
theorem dX10_findStart_24 : decode cX10_findStart 24 = .ok (.iload 6, 2) := by decide +kernel
theorem dX10_findStart_26 : decode cX10_findStart 26 = .ok (.invokevirtual 244, 3) := by decide +kernel
theorem dX10_findStart_29 : decode cX10_findStart 29 = .ok (.ifCond .ne 6, 3) := by decide +kernel
theorem dX10_findStart_32 : decode cX10_findStart 32 = .ok (.goto 61, 3) := by decide +kernel
theorem dX10_findStart_35 : decode cX10_findStart 35 = .ok (.aload_n 0, 1) := by decide +kernel
theorem dX10_findStart_36 : decode cX10_findStart 36 = .ok (.iload_n 1, 1) := by decide +kernel
theorem dX10_findStart_37 : decode cX10_findStart 37 = .ok (.iload_n 2, 1) := by decide +kernel
theorem dX10_findStart_38 : decode cX10_findStart 38 = .ok (.iload_n 3, 1) := by decide +kernel
theorem dX10_findStart_39 : decode cX10_findStart 39 = .ok (.iload 4, 2) := by decide +kernel
theorem dX10_findStart_41 : decode cX10_findStart 41 = .ok (.invokevirtual 250, 3) := by decide +kernel
theorem dX10_findStart_44 : decode cX10_findStart 44 = .ok (.istore 7, 2) := by decide +kernel
theorem dX10_findStart_46 : decode cX10_findStart 46 = .ok (.iload 7, 2) := by decide +kernel
theorem dX10_findStart_48 : decode cX10_findStart 48 = .ok (.aload_n 0, 1) := by decide +kernel
theorem dX10_findStart_49 : decode cX10_findStart 49 = .ok (.getfield 247, 3) := by decide +kernel
theorem dX10_findStart_52 : decode cX10_findStart 52 = .ok (.if_icmp .le 41, 3) := by decide +kernel
theorem dX10_findStart_55 : decode cX10_findStart 55 = .ok (.aload_n 0, 1) := by decide +kernel
theorem dX10_findStart_56 : decode cX10_findStart 56 = .ok (.iload 7, 2) := by decide +kernel
theorem dX10_findStart_58 : decode cX10_findStart 58 = .ok (.putfield 247, 3) := by decide +kernel
theorem dX10_findStart_61 : decode cX10_findStart 61 = .ok (.iconst 0, 1) := by decide +kernel
theorem dX10_findStart_62 : decode cX10_findStart 62 = .ok (.istore 8, 2) := by decide +kernel
theorem dX10_findStart_64 : decode cX10_findStart 64 = .ok (.iload 8, 2) := by decide +kernel
theorem dX10_findStart_66 : decode cX10_findStart 66 = .ok (.aload_n 0, 1) := by decide +kernel
theorem dX10_findStart_67 : decode cX10_findStart 67 = .ok (.getfield 181, 3) := by decide +kernel
theorem dX10_findStart_70 : decode cX10_findStart 70 = .ok (.if_icmp .ge 23, 3) := by decide +kernel
theorem dX10_findStart_73 : decode cX10_findStart 73 = .ok (.aload_n 0, 1) := by decide +kernel
theorem dX10_findStart_74 : decode cX10_findStart 74 = .ok (.getfield 62, 3) := by decide +kernel
theorem dX10_findStart_77 : decode cX10_findStart 77 = .ok (.iload 8, 2) := by decide +kernel
theorem dX10_findStart_79 : decode cX10_findStart 79 = .ok (.aload_n 0, 1) := by decide +kernel
theorem dX10_findStart_80 : decode cX10_findStart 80 = .ok (.getfield 59, 3) := by decide +kernel
theorem dX10_findStart_83 : decode cX10_findStart 83 = .ok (.iload 8, 2) := by decide +kernel
theorem dX10_findStart_85 : decode cX10_findStart 85 = .ok (.iaload, 1) := by decide +kernel
theorem dX10_findStart_86 : decode cX10_findStart 86 = .ok (.iastore, 1) := by decide +kernel
theorem dX10_findStart_87 : decode cX10_findStart 87 = .ok (.iinc 8 1, 3) := by decide +kernel
theorem dX10_findStart_90 : decode cX10_findStart 90 = .ok (.goto (-26), 3) := by decide +kernel
theorem dX10_findStart_93 : decode cX10_findStart 93 = .ok (.iinc 6 1, 3) := by decide +kernel
theorem dX10_findStart_96 : decode cX10_findStart 96 = .ok (.goto (-80), 3) := by decide +kernel
theorem dX10_findStart_99 : decode cX10_findStart 99 = .ok (.return_, 1) := by decide +kernel
theorem dX10_isAsked_0 : decode cX10_isAsked 0 = .ok (.aload_n 0, 1) := by decide +kernel
theorem dX10_isAsked_1 : decode cX10_isAsked 1 = .ok (.iload_n 1, 1) := by decide +kernel
theorem dX10_isAsked_2 : decode cX10_isAsked 2 = .ok (.invokevirtual 217, 3) := by decide +kernel
theorem dX10_isAsked_5 : decode cX10_isAsked 5 = .ok (.ifCond .eq 28, 3) := by decide +kernel
theorem dX10_isAsked_8 : decode cX10_isAsked 8 = .ok (.iload_n 2, 1) := by decide +kernel
theorem dX10_isAsked_9 : decode cX10_isAsked 9 = .ok (.iconst 0, 1) := by decide +kernel
theorem dX10_isAsked_10 : decode cX10_isAsked 10 = .ok (.sipush 200, 3) := by decide +kernel
theorem dX10_isAsked_13 : decode cX10_isAsked 13 = .ok (.invokestatic 92, 3) := by decide +kernel
theorem dX10_isAsked_16 : decode cX10_isAsked 16 = .ok (.ifCond .eq 17, 3) := by decide +kernel
theorem dX10_isAsked_19 : decode cX10_isAsked 19 = .ok (.iload_n 3, 1) := by decide +kernel
theorem dX10_isAsked_20 : decode cX10_isAsked 20 = .ok (.iconst 0, 1) := by decide +kernel
theorem dX10_isAsked_21 : decode cX10_isAsked 21 = .ok (.bipush 100, 2) := by decide +kernel
theorem dX10_isAsked_23 : decode cX10_isAsked 23 = .ok (.invokestatic 92, 3) := by decide +kernel
theorem dX10_isAsked_26 : decode cX10_isAsked 26 = .ok (.ifCond .eq 7, 3) := by decide +kernel
theorem dX10_isAsked_29 : decode cX10_isAsked 29 = .ok (.iconst 1, 1) := by decide +kernel
theorem dX10_isAsked_30 : decode cX10_isAsked 30 = .ok (.goto 4, 3) := by decide +kernel
theorem dX10_isAsked_33 : decode cX10_isAsked 33 = .ok (.iconst 0, 1) := by decide +kernel
theorem dX10_isAsked_34 : decode cX10_isAsked 34 = .ok (.ireturn, 1) := by decide +kernel
theorem dX10_start_0 : decode cX10_start 0 = .ok (.aload_n 0, 1) := by decide +kernel
theorem dX10_start_1 : decode cX10_start 1 = .ok (.iload_n 2, 1) := by decide +kernel
theorem dX10_start_2 : decode cX10_start 2 = .ok (.invokevirtual 159, 3) := by decide +kernel
theorem dX10_start_5 : decode cX10_start 5 = .ok (.ifCond .ne 5, 3) := by decide +kernel
theorem dX10_start_8 : decode cX10_start 8 = .ok (.iconst (-1), 1) := by decide +kernel
theorem dX10_start_9 : decode cX10_start 9 = .ok (.ireturn, 1) := by decide +kernel
theorem dX10_start_10 : decode cX10_start 10 = .ok (.aload_n 0, 1) := by decide +kernel
theorem dX10_start_11 : decode cX10_start 11 = .ok (.iload_n 1, 1) := by decide +kernel
theorem dX10_start_12 : decode cX10_start 12 = .ok (.iload_n 3, 1) := by decide +kernel
theorem dX10_start_13 : decode cX10_start 13 = .ok (.iload 4, 2) := by decide +kernel
theorem dX10_start_15 : decode cX10_start 15 = .ok (.invokevirtual 253, 3) := by decide +kernel
theorem dX10_start_18 : decode cX10_start 18 = .ok (.ifCond .ne 6, 3) := by decide +kernel
theorem dX10_start_21 : decode cX10_start 21 = .ok (.bipush (-2), 2) := by decide +kernel
theorem dX10_start_23 : decode cX10_start 23 = .ok (.ireturn, 1) := by decide +kernel
theorem dX10_start_24 : decode cX10_start 24 = .ok (.aload_n 0, 1) := by decide +kernel
theorem dX10_start_25 : decode cX10_start 25 = .ok (.iload_n 1, 1) := by decide +kernel
theorem dX10_start_26 : decode cX10_start 26 = .ok (.iload_n 2, 1) := by decide +kernel
theorem dX10_start_27 : decode cX10_start 27 = .ok (.invokevirtual 256, 3) := by decide +kernel
theorem dX10_start_30 : decode cX10_start 30 = .ok (.ifCond .ne 6, 3) := by decide +kernel
theorem dX10_start_33 : decode cX10_start 33 = .ok (.bipush (-3), 2) := by decide +kernel
theorem dX10_start_35 : decode cX10_start 35 = .ok (.ireturn, 1) := by decide +kernel
theorem dX10_start_36 : decode cX10_start 36 = .ok (.aload_n 0, 1) := by decide +kernel
theorem dX10_start_37 : decode cX10_start 37 = .ok (.iload_n 1, 1) := by decide +kernel
theorem dX10_start_38 : decode cX10_start 38 = .ok (.iload_n 2, 1) := by decide +kernel
theorem dX10_start_39 : decode cX10_start 39 = .ok (.iload_n 3, 1) := by decide +kernel
theorem dX10_start_40 : decode cX10_start 40 = .ok (.iload 4, 2) := by decide +kernel
theorem dX10_start_42 : decode cX10_start 42 = .ok (.invokevirtual 259, 3) := by decide +kernel
theorem dX10_start_45 : decode cX10_start 45 = .ok (.aload_n 0, 1) := by decide +kernel
theorem dX10_start_46 : decode cX10_start 46 = .ok (.getfield 247, 3) := by decide +kernel
theorem dX10_start_49 : decode cX10_start 49 = .ok (.ireturn, 1) := by decide +kernel
theorem dX10_gate_0 : decode cX10_gate 0 = .ok (.aload_n 0, 1) := by decide +kernel
theorem dX10_gate_1 : decode cX10_gate 1 = .ok (.iload_n 2, 1) := by decide +kernel
theorem dX10_gate_2 : decode cX10_gate 2 = .ok (.invokevirtual 159, 3) := by decide +kernel
theorem dX10_gate_5 : decode cX10_gate 5 = .ok (.ifCond .eq 13, 3) := by decide +kernel
theorem dX10_gate_8 : decode cX10_gate 8 = .ok (.iload 5, 2) := by decide +kernel
theorem dX10_gate_10 : decode cX10_gate 10 = .ok (.iconst 0, 1) := by decide +kernel
theorem dX10_gate_11 : decode cX10_gate 11 = .ok (.iconst 3, 1) := by decide +kernel
theorem dX10_gate_12 : decode cX10_gate 12 = .ok (.invokestatic 92, 3) := by decide +kernel
theorem dX10_gate_15 : decode cX10_gate 15 = .ok (.ifCond .ne 5, 3) := by decide +kernel
theorem dX10_gate_18 : decode cX10_gate 18 = .ok (.iconst (-1), 1) := by decide +kernel
theorem dX10_gate_19 : decode cX10_gate 19 = .ok (.ireturn, 1) := by decide +kernel
theorem dX10_gate_20 : decode cX10_gate 20 = .ok (.aload_n 0, 1) := by decide +kernel
theorem dX10_gate_21 : decode cX10_gate 21 = .ok (.iload_n 1, 1) := by decide +kernel
theorem dX10_gate_22 : decode cX10_gate 22 = .ok (.iload_n 3, 1) := by decide +kernel
theorem dX10_gate_23 : decode cX10_gate 23 = .ok (.iload 4, 2) := by decide +kernel
theorem dX10_gate_25 : decode cX10_gate 25 = .ok (.invokevirtual 253, 3) := by decide +kernel
theorem dX10_gate_28 : decode cX10_gate 28 = .ok (.ifCond .ne 6, 3) := by decide +kernel
theorem dX10_gate_31 : decode cX10_gate 31 = .ok (.bipush (-2), 2) := by decide +kernel
theorem dX10_gate_33 : decode cX10_gate 33 = .ok (.ireturn, 1) := by decide +kernel
theorem dX10_gate_34 : decode cX10_gate 34 = .ok (.aload_n 0, 1) := by decide +kernel
theorem dX10_gate_35 : decode cX10_gate 35 = .ok (.iload_n 1, 1) := by decide +kernel
theorem dX10_gate_36 : decode cX10_gate 36 = .ok (.iload_n 2, 1) := by decide +kernel
theorem dX10_gate_37 : decode cX10_gate 37 = .ok (.invokevirtual 256, 3) := by decide +kernel
theorem dX10_gate_40 : decode cX10_gate 40 = .ok (.ifCond .ne 6, 3) := by decide +kernel
theorem dX10_gate_43 : decode cX10_gate 43 = .ok (.bipush (-3), 2) := by decide +kernel
theorem dX10_gate_45 : decode cX10_gate 45 = .ok (.ireturn, 1) := by decide +kernel
theorem dX10_gate_46 : decode cX10_gate 46 = .ok (.aload_n 0, 1) := by decide +kernel
theorem dX10_gate_47 : decode cX10_gate 47 = .ok (.iload_n 1, 1) := by decide +kernel
theorem dX10_gate_48 : decode cX10_gate 48 = .ok (.iload_n 2, 1) := by decide +kernel
theorem dX10_gate_49 : decode cX10_gate 49 = .ok (.iload_n 3, 1) := by decide +kernel
theorem dX10_gate_50 : decode cX10_gate 50 = .ok (.iload 4, 2) := by decide +kernel
theorem dX10_gate_52 : decode cX10_gate 52 = .ok (.invokevirtual 259, 3) := by decide +kernel
theorem dX10_gate_55 : decode cX10_gate 55 = .ok (.aload_n 0, 1) := by decide +kernel
theorem dX10_gate_56 : decode cX10_gate 56 = .ok (.getfield 247, 3) := by decide +kernel
theorem dX10_gate_59 : decode cX10_gate 59 = .ok (.bipush (-9), 2) := by decide +kernel
theorem dX10_gate_61 : decode cX10_gate 61 = .ok (.if_icmp .eq 12, 3) := by decide +kernel
theorem dX10_gate_64 : decode cX10_gate 64 = .ok (.iload 5, 2) := by decide +kernel
theorem dX10_gate_66 : decode cX10_gate 66 = .ok (.aload_n 0, 1) := by decide +kernel
theorem dX10_gate_67 : decode cX10_gate 67 = .ok (.getfield 181, 3) := by decide +kernel
theorem dX10_gate_70 : decode cX10_gate 70 = .ok (.if_icmp .lt 8, 3) := by decide +kernel
theorem dX10_gate_73 : decode cX10_gate 73 = .ok (.bipush (-9), 2) := by decide +kernel
theorem dX10_gate_75 : decode cX10_gate 75 = .ok (.goto 10, 3) := by decide +kernel
theorem dX10_gate_78 : decode cX10_gate 78 = .ok (.aload_n 0, 1) := by decide +kernel
theorem dX10_gate_79 : decode cX10_gate 79 = .ok (.getfield 62, 3) := by decide +kernel
theorem dX10_gate_82 : decode cX10_gate 82 = .ok (.iload 5, 2) := by decide +kernel
theorem dX10_gate_84 : decode cX10_gate 84 = .ok (.iaload, 1) := by decide +kernel
theorem dX10_gate_85 : decode cX10_gate 85 = .ok (.ireturn, 1) := by decide +kernel
theorem dX10_holds_0 : decode cX10_holds 0 = .ok (.iload_n 1, 1) := by decide +kernel
theorem dX10_holds_1 : decode cX10_holds 1 = .ok (.iconst 1, 1) := by decide +kernel
theorem dX10_holds_2 : decode cX10_holds 2 = .ok (.bipush 9, 2) := by decide +kernel
theorem dX10_holds_4 : decode cX10_holds 4 = .ok (.invokestatic 92, 3) := by decide +kernel
theorem dX10_holds_7 : decode cX10_holds 7 = .ok (.ifCond .ne 6, 3) := by decide +kernel
theorem dX10_holds_10 : decode cX10_holds 10 = .ok (.bipush (-2), 2) := by decide +kernel
theorem dX10_holds_12 : decode cX10_holds 12 = .ok (.ireturn, 1) := by decide +kernel
theorem dX10_holds_13 : decode cX10_holds 13 = .ok (.aload_n 0, 1) := by decide +kernel
theorem dX10_holds_14 : decode cX10_holds 14 = .ok (.getfield 68, 3) := by decide +kernel
theorem dX10_holds_17 : decode cX10_holds 17 = .ok (.istore_n 2, 1) := by decide +kernel
theorem dX10_holds_18 : decode cX10_holds 18 = .ok (.aload_n 0, 1) := by decide +kernel
theorem dX10_holds_19 : decode cX10_holds 19 = .ok (.iload_n 1, 1) := by decide +kernel
theorem dX10_holds_20 : decode cX10_holds 20 = .ok (.putfield 68, 3) := by decide +kernel
theorem dX10_holds_23 : decode cX10_holds 23 = .ok (.iload_n 2, 1) := by decide +kernel
theorem dX10_holds_24 : decode cX10_holds 24 = .ok (.ireturn, 1) := by decide +kernel
theorem dX10_grownOf_0 : decode cX10_grownOf 0 = .ok (.iconst 0, 1) := by decide +kernel
theorem dX10_grownOf_1 : decode cX10_grownOf 1 = .ok (.istore_n 2, 1) := by decide +kernel
theorem dX10_grownOf_2 : decode cX10_grownOf 2 = .ok (.iconst 0, 1) := by decide +kernel
theorem dX10_grownOf_3 : decode cX10_grownOf 3 = .ok (.istore_n 3, 1) := by decide +kernel
theorem dX10_grownOf_4 : decode cX10_grownOf 4 = .ok (.iload_n 3, 1) := by decide +kernel
theorem dX10_grownOf_5 : decode cX10_grownOf 5 = .ok (.aload_n 0, 1) := by decide +kernel
theorem dX10_grownOf_6 : decode cX10_grownOf 6 = .ok (.getfield 133, 3) := by decide +kernel
theorem dX10_grownOf_9 : decode cX10_grownOf 9 = .ok (.if_icmp .ge 35, 3) := by decide +kernel
theorem dX10_grownOf_12 : decode cX10_grownOf 12 = .ok (.iload_n 1, 1) := by decide +kernel
theorem dX10_grownOf_13 : decode cX10_grownOf 13 = .ok (.iload_n 3, 1) := by decide +kernel
theorem dX10_grownOf_14 : decode cX10_grownOf 14 = .ok (.invokestatic 178, 3) := by decide +kernel
theorem dX10_grownOf_17 : decode cX10_grownOf 17 = .ok (.ifCond .eq 21, 3) := by decide +kernel
theorem dX10_grownOf_20 : decode cX10_grownOf 20 = .ok (.iload_n 2, 1) := by decide +kernel
theorem dX10_grownOf_21 : decode cX10_grownOf 21 = .ok (.aload_n 0, 1) := by decide +kernel
theorem dX10_grownOf_22 : decode cX10_grownOf 22 = .ok (.getfield 40, 3) := by decide +kernel
theorem dX10_grownOf_25 : decode cX10_grownOf 25 = .ok (.iload_n 3, 1) := by decide +kernel
theorem dX10_grownOf_26 : decode cX10_grownOf 26 = .ok (.iaload, 1) := by decide +kernel
theorem dX10_grownOf_27 : decode cX10_grownOf 27 = .ok (.iconst 2, 1) := by decide +kernel
theorem dX10_grownOf_28 : decode cX10_grownOf 28 = .ok (.if_icmp .ne 7, 3) := by decide +kernel
theorem dX10_grownOf_31 : decode cX10_grownOf 31 = .ok (.iconst 3, 1) := by decide +kernel
theorem dX10_grownOf_32 : decode cX10_grownOf 32 = .ok (.goto 4, 3) := by decide +kernel
theorem dX10_grownOf_35 : decode cX10_grownOf 35 = .ok (.iconst 1, 1) := by decide +kernel
theorem dX10_grownOf_36 : decode cX10_grownOf 36 = .ok (.iadd, 1) := by decide +kernel
theorem dX10_grownOf_37 : decode cX10_grownOf 37 = .ok (.istore_n 2, 1) := by decide +kernel
theorem dX10_grownOf_38 : decode cX10_grownOf 38 = .ok (.iinc 3 1, 3) := by decide +kernel
theorem dX10_grownOf_41 : decode cX10_grownOf 41 = .ok (.goto (-37), 3) := by decide +kernel
theorem dX10_grownOf_44 : decode cX10_grownOf 44 = .ok (.iload_n 2, 1) := by decide +kernel
theorem dX10_grownOf_45 : decode cX10_grownOf 45 = .ok (.aload_n 0, 1) := by decide +kernel
theorem dX10_grownOf_46 : decode cX10_grownOf 46 = .ok (.getfield 68, 3) := by decide +kernel
theorem dX10_grownOf_49 : decode cX10_grownOf 49 = .ok (.iadd, 1) := by decide +kernel
theorem dX10_grownOf_50 : decode cX10_grownOf 50 = .ok (.iconst 1, 1) := by decide +kernel
theorem dX10_grownOf_51 : decode cX10_grownOf 51 = .ok (.isub, 1) := by decide +kernel
theorem dX10_grownOf_52 : decode cX10_grownOf 52 = .ok (.aload_n 0, 1) := by decide +kernel
theorem dX10_grownOf_53 : decode cX10_grownOf 53 = .ok (.getfield 68, 3) := by decide +kernel
theorem dX10_grownOf_56 : decode cX10_grownOf 56 = .ok (.idiv, 1) := by decide +kernel
theorem dX10_grownOf_57 : decode cX10_grownOf 57 = .ok (.ireturn, 1) := by decide +kernel
theorem dX10_grown_0 : decode cX10_grown 0 = .ok (.aload_n 0, 1) := by decide +kernel
theorem dX10_grown_1 : decode cX10_grown 1 = .ok (.iload_n 1, 1) := by decide +kernel
theorem dX10_grown_2 : decode cX10_grown 2 = .ok (.invokevirtual 217, 3) := by decide +kernel
theorem dX10_grown_5 : decode cX10_grown 5 = .ok (.ifCond .eq 11, 3) := by decide +kernel
theorem dX10_grown_8 : decode cX10_grown 8 = .ok (.aload_n 0, 1) := by decide +kernel
theorem dX10_grown_9 : decode cX10_grown 9 = .ok (.iload_n 1, 1) := by decide +kernel
theorem dX10_grown_10 : decode cX10_grown 10 = .ok (.invokevirtual 262, 3) := by decide +kernel
theorem dX10_grown_13 : decode cX10_grown 13 = .ok (.goto 5, 3) := by decide +kernel
theorem dX10_grown_16 : decode cX10_grown 16 = .ok (.bipush (-2), 2) := by decide +kernel
theorem dX10_grown_18 : decode cX10_grown 18 = .ok (.ireturn, 1) := by decide +kernel
theorem dX10_startOf_0 : decode cX10_startOf 0 = .ok (.aload_n 0, 1) := by decide +kernel
theorem dX10_startOf_1 : decode cX10_startOf 1 = .ok (.iload_n 1, 1) := by decide +kernel
theorem dX10_startOf_2 : decode cX10_startOf 2 = .ok (.iload_n 2, 1) := by decide +kernel
theorem dX10_startOf_3 : decode cX10_startOf 3 = .ok (.invokevirtual 256, 3) := by decide +kernel
theorem dX10_startOf_6 : decode cX10_startOf 6 = .ok (.ifCond .ne 6, 3) := by decide +kernel
theorem dX10_startOf_9 : decode cX10_startOf 9 = .ok (.bipush (-9), 2) := by decide +kernel
theorem dX10_startOf_11 : decode cX10_startOf 11 = .ok (.ireturn, 1) := by decide +kernel
theorem dX10_startOf_12 : decode cX10_startOf 12 = .ok (.aload_n 0, 1) := by decide +kernel
theorem dX10_startOf_13 : decode cX10_startOf 13 = .ok (.iload_n 1, 1) := by decide +kernel
theorem dX10_startOf_14 : decode cX10_startOf 14 = .ok (.iload_n 2, 1) := by decide +kernel
theorem dX10_startOf_15 : decode cX10_startOf 15 = .ok (.iload_n 3, 1) := by decide +kernel
theorem dX10_startOf_16 : decode cX10_startOf 16 = .ok (.iload 4, 2) := by decide +kernel
theorem dX10_startOf_18 : decode cX10_startOf 18 = .ok (.invokevirtual 259, 3) := by decide +kernel
theorem dX10_startOf_21 : decode cX10_startOf 21 = .ok (.aload_n 0, 1) := by decide +kernel
theorem dX10_startOf_22 : decode cX10_startOf 22 = .ok (.getfield 247, 3) := by decide +kernel
theorem dX10_startOf_25 : decode cX10_startOf 25 = .ok (.ireturn, 1) := by decide +kernel
theorem dX10_split_0 : decode cX10_split 0 = .ok (.aload_n 0, 1) := by decide +kernel
theorem dX10_split_1 : decode cX10_split 1 = .ok (.iload_n 2, 1) := by decide +kernel
theorem dX10_split_2 : decode cX10_split 2 = .ok (.invokevirtual 159, 3) := by decide +kernel
theorem dX10_split_5 : decode cX10_split 5 = .ok (.ifCond .ne 5, 3) := by decide +kernel
theorem dX10_split_8 : decode cX10_split 8 = .ok (.iconst (-1), 1) := by decide +kernel
theorem dX10_split_9 : decode cX10_split 9 = .ok (.ireturn, 1) := by decide +kernel
theorem dX10_split_10 : decode cX10_split 10 = .ok (.aload_n 0, 1) := by decide +kernel
theorem dX10_split_11 : decode cX10_split 11 = .ok (.iload_n 1, 1) := by decide +kernel
theorem dX10_split_12 : decode cX10_split 12 = .ok (.invokevirtual 217, 3) := by decide +kernel
theorem dX10_split_15 : decode cX10_split 15 = .ok (.ifCond .eq 37, 3) := by decide +kernel
theorem dX10_split_18 : decode cX10_split 18 = .ok (.iload_n 1, 1) := by decide +kernel
theorem dX10_split_19 : decode cX10_split 19 = .ok (.invokestatic 211, 3) := by decide +kernel
theorem dX10_split_22 : decode cX10_split 22 = .ok (.iconst 2, 1) := by decide +kernel
theorem dX10_split_23 : decode cX10_split 23 = .ok (.bipush 6, 2) := by decide +kernel
theorem dX10_split_25 : decode cX10_split 25 = .ok (.invokestatic 92, 3) := by decide +kernel
theorem dX10_split_28 : decode cX10_split 28 = .ok (.ifCond .eq 24, 3) := by decide +kernel
theorem dX10_split_31 : decode cX10_split 31 = .ok (.aload_n 0, 1) := by decide +kernel
theorem dX10_split_32 : decode cX10_split 32 = .ok (.iload_n 1, 1) := by decide +kernel
theorem dX10_split_33 : decode cX10_split 33 = .ok (.iload_n 3, 1) := by decide +kernel
theorem dX10_split_34 : decode cX10_split 34 = .ok (.iload 4, 2) := by decide +kernel
theorem dX10_split_36 : decode cX10_split 36 = .ok (.invokevirtual 253, 3) := by decide +kernel
theorem dX10_split_39 : decode cX10_split 39 = .ok (.ifCond .eq 13, 3) := by decide +kernel
theorem dX10_split_42 : decode cX10_split 42 = .ok (.iload 5, 2) := by decide +kernel
theorem dX10_split_44 : decode cX10_split 44 = .ok (.iconst 0, 1) := by decide +kernel
theorem dX10_split_45 : decode cX10_split 45 = .ok (.iconst 3, 1) := by decide +kernel
theorem dX10_split_46 : decode cX10_split 46 = .ok (.invokestatic 92, 3) := by decide +kernel
theorem dX10_split_49 : decode cX10_split 49 = .ok (.ifCond .ne 6, 3) := by decide +kernel
theorem dX10_split_52 : decode cX10_split 52 = .ok (.bipush (-2), 2) := by decide +kernel
theorem dX10_split_54 : decode cX10_split 54 = .ok (.ireturn, 1) := by decide +kernel
theorem dX10_split_55 : decode cX10_split 55 = .ok (.aload_n 0, 1) := by decide +kernel
theorem dX10_split_56 : decode cX10_split 56 = .ok (.iload_n 1, 1) := by decide +kernel
theorem dX10_split_57 : decode cX10_split 57 = .ok (.iload_n 2, 1) := by decide +kernel
theorem dX10_split_58 : decode cX10_split 58 = .ok (.invokevirtual 256, 3) := by decide +kernel
theorem dX10_split_61 : decode cX10_split 61 = .ok (.ifCond .ne 6, 3) := by decide +kernel
theorem dX10_split_64 : decode cX10_split 64 = .ok (.bipush (-3), 2) := by decide +kernel
theorem dX10_split_66 : decode cX10_split 66 = .ok (.ireturn, 1) := by decide +kernel
theorem dX10_split_67 : decode cX10_split 67 = .ok (.iload_n 1, 1) := by decide +kernel
theorem dX10_split_68 : decode cX10_split 68 = .ok (.iload_n 1, 1) := by decide +kernel
theorem dX10_split_69 : decode cX10_split 69 = .ok (.ineg, 1) := by decide +kernel
theorem dX10_split_70 : decode cX10_split 70 = .ok (.iand, 1) := by decide +kernel
theorem dX10_split_71 : decode cX10_split 71 = .ok (.istore 6, 2) := by decide +kernel
theorem dX10_split_73 : decode cX10_split 73 = .ok (.bipush (-9), 2) := by decide +kernel
theorem dX10_split_75 : decode cX10_split 75 = .ok (.istore 7, 2) := by decide +kernel
theorem dX10_split_77 : decode cX10_split 77 = .ok (.iconst 0, 1) := by decide +kernel
