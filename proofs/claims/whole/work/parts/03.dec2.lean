theorem dX9_init_0 : decode cX9_init 0 = .ok (.aload_n 0, 1) := by decide +kernel
theorem dX9_init_1 : decode cX9_init 1 = .ok (.invokespecial 5, 3) := by decide +kernel
theorem dX9_init_4 : decode cX9_init 4 = .ok (.aload_n 0, 1) := by decide +kernel
theorem dX9_init_5 : decode cX9_init 5 = .ok (.iconst 4, 1) := by decide +kernel
theorem dX9_init_6 : decode cX9_init 6 = .ok (.anewarray 11, 3) := by decide +kernel
theorem dX9_init_9 : decode cX9_init 9 = .ok (.putfield 13, 3) := by decide +kernel
theorem dX9_init_12 : decode cX9_init 12 = .ok (.aload_n 0, 1) := by decide +kernel
theorem dX9_init_13 : decode cX9_init 13 = .ok (.new 17, 3) := by decide +kernel
theorem dX9_init_16 : decode cX9_init 16 = .ok (.dup, 1) := by decide +kernel
theorem dX9_init_17 : decode cX9_init 17 = .ok (.invokespecial 19, 3) := by decide +kernel
theorem dX9_init_20 : decode cX9_init 20 = .ok (.putfield 20, 3) := by decide +kernel
theorem dX9_init_23 : decode cX9_init 23 = .ok (.aload_n 0, 1) := by decide +kernel
theorem dX9_init_24 : decode cX9_init 24 = .ok (.new 24, 3) := by decide +kernel
theorem dX9_init_27 : decode cX9_init 27 = .ok (.dup, 1) := by decide +kernel
theorem dX9_init_28 : decode cX9_init 28 = .ok (.invokespecial 26, 3) := by decide +kernel
theorem dX9_init_31 : decode cX9_init 31 = .ok (.putfield 27, 3) := by decide +kernel
theorem dX9_init_34 : decode cX9_init 34 = .ok (.aload_n 0, 1) := by decide +kernel
theorem dX9_init_35 : decode cX9_init 35 = .ok (.new 24, 3) := by decide +kernel
theorem dX9_init_38 : decode cX9_init 38 = .ok (.dup, 1) := by decide +kernel
theorem dX9_init_39 : decode cX9_init 39 = .ok (.invokespecial 26, 3) := by decide +kernel
theorem dX9_init_42 : decode cX9_init 42 = .ok (.putfield 31, 3) := by decide +kernel
theorem dX9_init_45 : decode cX9_init 45 = .ok (.aload_n 0, 1) := by decide +kernel
theorem dX9_init_46 : decode cX9_init 46 = .ok (.bipush 10, 2) := by decide +kernel
theorem dX9_init_48 : decode cX9_init 48 = .ok (.anewarray 34, 3) := by decide +kernel
theorem dX9_init_51 : decode cX9_init 51 = .ok (.putfield 36, 3) := by decide +kernel
theorem dX9_init_54 : decode cX9_init 54 = .ok (.aload_n 0, 1) := by decide +kernel
theorem dX9_init_55 : decode cX9_init 55 = .ok (.iconst 0, 1) := by decide +kernel
theorem dX9_init_56 : decode cX9_init 56 = .ok (.putfield 40, 3) := by decide +kernel
theorem dX9_init_59 : decode cX9_init 59 = .ok (.aload_n 0, 1) := by decide +kernel
theorem dX9_init_60 : decode cX9_init 60 = .ok (.new 44, 3) := by decide +kernel
theorem dX9_init_63 : decode cX9_init 63 = .ok (.dup, 1) := by decide +kernel
theorem dX9_init_64 : decode cX9_init 64 = .ok (.invokespecial 46, 3) := by decide +kernel
theorem dX9_init_67 : decode cX9_init 67 = .ok (.putfield 47, 3) := by decide +kernel
theorem dX9_init_70 : decode cX9_init 70 = .ok (.aload_n 0, 1) := by decide +kernel
theorem dX9_init_71 : decode cX9_init 71 = .ok (.new 51, 3) := by decide +kernel
theorem dX9_init_74 : decode cX9_init 74 = .ok (.dup, 1) := by decide +kernel
theorem dX9_init_75 : decode cX9_init 75 = .ok (.invokespecial 53, 3) := by decide +kernel
theorem dX9_init_78 : decode cX9_init 78 = .ok (.putfield 54, 3) := by decide +kernel
theorem dX9_init_81 : decode cX9_init 81 = .ok (.aload_n 0, 1) := by decide +kernel
theorem dX9_init_82 : decode cX9_init 82 = .ok (.bipush 6, 2) := by decide +kernel
theorem dX9_init_84 : decode cX9_init 84 = .ok (.putfield 58, 3) := by decide +kernel
theorem dX9_init_87 : decode cX9_init 87 = .ok (.aload_n 0, 1) := by decide +kernel
theorem dX9_init_88 : decode cX9_init 88 = .ok (.iconst 5, 1) := by decide +kernel
theorem dX9_init_89 : decode cX9_init 89 = .ok (.newarray .int, 2) := by decide +kernel
theorem dX9_init_91 : decode cX9_init 91 = .ok (.putfield 61, 3) := by decide +kernel
theorem dX9_init_94 : decode cX9_init 94 = .ok (.aload_n 0, 1) := by decide +kernel
theorem dX9_init_95 : decode cX9_init 95 = .ok (.iconst 0, 1) := by decide +kernel
theorem dX9_init_96 : decode cX9_init 96 = .ok (.putfield 65, 3) := by decide +kernel
theorem dX9_init_99 : decode cX9_init 99 = .ok (.aload_n 0, 1) := by decide +kernel
theorem dX9_init_100 : decode cX9_init 100 = .ok (.new 68, 3) := by decide +kernel
theorem dX9_init_103 : decode cX9_init 103 = .ok (.dup, 1) := by decide +kernel
theorem dX9_init_104 : decode cX9_init 104 = .ok (.invokespecial 70, 3) := by decide +kernel
theorem dX9_init_107 : decode cX9_init 107 = .ok (.putfield 71, 3) := by decide +kernel
theorem dX9_init_110 : decode cX9_init 110 = .ok (.aload_n 0, 1) := by decide +kernel
theorem dX9_init_111 : decode cX9_init 111 = .ok (.iconst 0, 1) := by decide +kernel
theorem dX9_init_112 : decode cX9_init 112 = .ok (.putfield 75, 3) := by decide +kernel
theorem dX9_init_115 : decode cX9_init 115 = .ok (.aload_n 0, 1) := by decide +kernel
theorem dX9_init_116 : decode cX9_init 116 = .ok (.iconst 0, 1) := by decide +kernel
theorem dX9_init_117 : decode cX9_init 117 = .ok (.putfield 78, 3) := by decide +kernel
theorem dX9_init_120 : decode cX9_init 120 = .ok (.aload_n 0, 1) := by decide +kernel
theorem dX9_init_121 : decode cX9_init 121 = .ok (.iconst 0, 1) := by decide +kernel
theorem dX9_init_122 : decode cX9_init 122 = .ok (.putfield 81, 3) := by decide +kernel
theorem dX9_init_125 : decode cX9_init 125 = .ok (.aload_n 0, 1) := by decide +kernel
theorem dX9_init_126 : decode cX9_init 126 = .ok (.iconst 0, 1) := by decide +kernel
theorem dX9_init_127 : decode cX9_init 127 = .ok (.putfield 84, 3) := by decide +kernel
theorem dX9_init_130 : decode cX9_init 130 = .ok (.aload_n 0, 1) := by decide +kernel
theorem dX9_init_131 : decode cX9_init 131 = .ok (.iconst 0, 1) := by decide +kernel
theorem dX9_init_132 : decode cX9_init 132 = .ok (.putfield 87, 3) := by decide +kernel
theorem dX9_init_135 : decode cX9_init 135 = .ok (.iconst 0, 1) := by decide +kernel
theorem dX9_init_136 : decode cX9_init 136 = .ok (.istore_n 1, 1) := by decide +kernel
theorem dX9_init_137 : decode cX9_init 137 = .ok (.iload_n 1, 1) := by decide +kernel
theorem dX9_init_138 : decode cX9_init 138 = .ok (.iconst 4, 1) := by decide +kernel
theorem dX9_init_139 : decode cX9_init 139 = .ok (.if_icmp .ge 22, 3) := by decide +kernel
theorem dX9_init_142 : decode cX9_init 142 = .ok (.aload_n 0, 1) := by decide +kernel
theorem dX9_init_143 : decode cX9_init 143 = .ok (.getfield 13, 3) := by decide +kernel
theorem dX9_init_146 : decode cX9_init 146 = .ok (.iload_n 1, 1) := by decide +kernel
theorem dX9_init_147 : decode cX9_init 147 = .ok (.new 11, 3) := by decide +kernel
theorem dX9_init_150 : decode cX9_init 150 = .ok (.dup, 1) := by decide +kernel
theorem dX9_init_151 : decode cX9_init 151 = .ok (.invokespecial 90, 3) := by decide +kernel
theorem dX9_init_154 : decode cX9_init 154 = .ok (.aastore, 1) := by decide +kernel
theorem dX9_init_155 : decode cX9_init 155 = .ok (.iinc 1 1, 3) := by decide +kernel
theorem dX9_init_158 : decode cX9_init 158 = .ok (.goto (-21), 3) := by decide +kernel
theorem dX9_init_161 : decode cX9_init 161 = .ok (.iconst 0, 1) := by decide +kernel
theorem dX9_init_162 : decode cX9_init 162 = .ok (.istore_n 1, 1) := by decide +kernel
theorem dX9_init_163 : decode cX9_init 163 = .ok (.iload_n 1, 1) := by decide +kernel
theorem dX9_init_164 : decode cX9_init 164 = .ok (.bipush 10, 2) := by decide +kernel
theorem dX9_init_166 : decode cX9_init 166 = .ok (.if_icmp .ge 22, 3) := by decide +kernel
theorem dX9_init_169 : decode cX9_init 169 = .ok (.aload_n 0, 1) := by decide +kernel
theorem dX9_init_170 : decode cX9_init 170 = .ok (.getfield 36, 3) := by decide +kernel
theorem dX9_init_173 : decode cX9_init 173 = .ok (.iload_n 1, 1) := by decide +kernel
theorem dX9_init_174 : decode cX9_init 174 = .ok (.new 34, 3) := by decide +kernel
theorem dX9_init_177 : decode cX9_init 177 = .ok (.dup, 1) := by decide +kernel
theorem dX9_init_178 : decode cX9_init 178 = .ok (.invokespecial 91, 3) := by decide +kernel
theorem dX9_init_181 : decode cX9_init 181 = .ok (.aastore, 1) := by decide +kernel
theorem dX9_init_182 : decode cX9_init 182 = .ok (.iinc 1 1, 3) := by decide +kernel
theorem dX9_init_185 : decode cX9_init 185 = .ok (.goto (-22), 3) := by decide +kernel
theorem dX9_init_188 : decode cX9_init 188 = .ok (.return_, 1) := by decide +kernel
theorem dX9_streets_0 : decode cX9_streets 0 = .ok (.aload_n 0, 1) := by decide +kernel
theorem dX9_streets_1 : decode cX9_streets 1 = .ok (.iconst 0, 1) := by decide +kernel
theorem dX9_streets_2 : decode cX9_streets 2 = .ok (.putfield 78, 3) := by decide +kernel
theorem dX9_streets_5 : decode cX9_streets 5 = .ok (.iload_n 1, 1) := by decide +kernel
theorem dX9_streets_6 : decode cX9_streets 6 = .ok (.invokestatic 92, 3) := by decide +kernel
theorem dX9_streets_9 : decode cX9_streets 9 = .ok (.ifCond .ne 5, 3) := by decide +kernel
theorem dX9_streets_12 : decode cX9_streets 12 = .ok (.iconst (-1), 1) := by decide +kernel
theorem dX9_streets_13 : decode cX9_streets 13 = .ok (.ireturn, 1) := by decide +kernel
theorem dX9_streets_14 : decode cX9_streets 14 = .ok (.iload_n 2, 1) := by decide +kernel
theorem dX9_streets_15 : decode cX9_streets 15 = .ok (.invokestatic 96, 3) := by decide +kernel
theorem dX9_streets_18 : decode cX9_streets 18 = .ok (.ifCond .ne 6, 3) := by decide +kernel
theorem dX9_streets_21 : decode cX9_streets 21 = .ok (.bipush (-2), 2) := by decide +kernel
theorem dX9_streets_23 : decode cX9_streets 23 = .ok (.ireturn, 1) := by decide +kernel
theorem dX9_streets_24 : decode cX9_streets 24 = .ok (.aload_n 0, 1) := by decide +kernel
theorem dX9_streets_25 : decode cX9_streets 25 = .ok (.aload_n 0, 1) := by decide +kernel
theorem dX9_streets_26 : decode cX9_streets 26 = .ok (.getfield 13, 3) := by decide +kernel
theorem dX9_streets_29 : decode cX9_streets 29 = .ok (.iload_n 1, 1) := by decide +kernel
theorem dX9_streets_30 : decode cX9_streets 30 = .ok (.aaload, 1) := by decide +kernel
theorem dX9_streets_31 : decode cX9_streets 31 = .ok (.iload_n 2, 1) := by decide +kernel
theorem dX9_streets_32 : decode cX9_streets 32 = .ok (.iload_n 3, 1) := by decide +kernel
theorem dX9_streets_33 : decode cX9_streets 33 = .ok (.iload 4, 2) := by decide +kernel
theorem dX9_streets_35 : decode cX9_streets 35 = .ok (.invokevirtual 99, 3) := by decide +kernel
theorem dX9_streets_38 : decode cX9_streets 38 = .ok (.putfield 78, 3) := by decide +kernel
theorem dX9_streets_41 : decode cX9_streets 41 = .ok (.aload_n 0, 1) := by decide +kernel
theorem dX9_streets_42 : decode cX9_streets 42 = .ok (.getfield 78, 3) := by decide +kernel
theorem dX9_streets_45 : decode cX9_streets 45 = .ok (.ifCond .eq 11, 3) := by decide +kernel
theorem dX9_streets_48 : decode cX9_streets 48 = .ok (.bipush (-10), 2) := by decide +kernel
theorem dX9_streets_50 : decode cX9_streets 50 = .ok (.aload_n 0, 1) := by decide +kernel
theorem dX9_streets_51 : decode cX9_streets 51 = .ok (.getfield 78, 3) := by decide +kernel
theorem dX9_streets_54 : decode cX9_streets 54 = .ok (.isub, 1) := by decide +kernel
theorem dX9_streets_55 : decode cX9_streets 55 = .ok (.ireturn, 1) := by decide +kernel
theorem dX9_streets_56 : decode cX9_streets 56 = .ok (.aload_n 0, 1) := by decide +kernel
theorem dX9_streets_57 : decode cX9_streets 57 = .ok (.getfield 20, 3) := by decide +kernel
theorem dX9_streets_60 : decode cX9_streets 60 = .ok (.aload_n 0, 1) := by decide +kernel
theorem dX9_streets_61 : decode cX9_streets 61 = .ok (.getfield 13, 3) := by decide +kernel
theorem dX9_streets_64 : decode cX9_streets 64 = .ok (.iload_n 1, 1) := by decide +kernel
theorem dX9_streets_65 : decode cX9_streets 65 = .ok (.aaload, 1) := by decide +kernel
theorem dX9_streets_66 : decode cX9_streets 66 = .ok (.iload_n 3, 1) := by decide +kernel
theorem dX9_streets_67 : decode cX9_streets 67 = .ok (.iload 4, 2) := by decide +kernel
theorem dX9_streets_69 : decode cX9_streets 69 = .ok (.aload_n 0, 1) := by decide +kernel
theorem dX9_streets_70 : decode cX9_streets 70 = .ok (.getfield 31, 3) := by decide +kernel
theorem dX9_streets_73 : decode cX9_streets 73 = .ok (.invokevirtual 103, 3) := by decide +kernel
theorem dX9_streets_76 : decode cX9_streets 76 = .ok (.istore 5, 2) := by decide +kernel
theorem dX9_streets_78 : decode cX9_streets 78 = .ok (.iload 5, 2) := by decide +kernel
theorem dX9_streets_80 : decode cX9_streets 80 = .ok (.iconst (-1), 1) := by decide +kernel
theorem dX9_streets_81 : decode cX9_streets 81 = .ok (.if_icmp .eq 9, 3) := by decide +kernel
theorem dX9_streets_84 : decode cX9_streets 84 = .ok (.bipush (-100), 2) := by decide +kernel
theorem dX9_streets_86 : decode cX9_streets 86 = .ok (.iload 5, 2) := by decide +kernel
theorem dX9_streets_88 : decode cX9_streets 88 = .ok (.isub, 1) := by decide +kernel
theorem dX9_streets_89 : decode cX9_streets 89 = .ok (.ireturn, 1) := by decide +kernel
theorem dX9_streets_90 : decode cX9_streets 90 = .ok (.aload_n 0, 1) := by decide +kernel
theorem dX9_streets_91 : decode cX9_streets 91 = .ok (.invokevirtual 107, 3) := by decide +kernel
theorem dX9_streets_94 : decode cX9_streets 94 = .ok (.aload_n 0, 1) := by decide +kernel
theorem dX9_streets_95 : decode cX9_streets 95 = .ok (.getfield 27, 3) := by decide +kernel
theorem dX9_streets_98 : decode cX9_streets 98 = .ok (.getfield 110, 3) := by decide +kernel
theorem dX9_streets_101 : decode cX9_streets 101 = .ok (.ireturn, 1) := by decide +kernel
theorem dX9_ofRoad_0 : decode cX9_ofRoad 0 = .ok (.iload_n 1, 1) := by decide +kernel
theorem dX9_ofRoad_1 : decode cX9_ofRoad 1 = .ok (.ifCond .lt 14, 3) := by decide +kernel
theorem dX9_ofRoad_4 : decode cX9_ofRoad 4 = .ok (.iload_n 1, 1) := by decide +kernel
theorem dX9_ofRoad_5 : decode cX9_ofRoad 5 = .ok (.aload_n 0, 1) := by decide +kernel
theorem dX9_ofRoad_6 : decode cX9_ofRoad 6 = .ok (.getfield 27, 3) := by decide +kernel
theorem dX9_ofRoad_9 : decode cX9_ofRoad 9 = .ok (.getfield 110, 3) := by decide +kernel
theorem dX9_ofRoad_12 : decode cX9_ofRoad 12 = .ok (.if_icmp .lt 5, 3) := by decide +kernel
theorem dX9_ofRoad_15 : decode cX9_ofRoad 15 = .ok (.iconst (-1), 1) := by decide +kernel
theorem dX9_ofRoad_16 : decode cX9_ofRoad 16 = .ok (.ireturn, 1) := by decide +kernel
theorem dX9_ofRoad_17 : decode cX9_ofRoad 17 = .ok (.iload_n 2, 1) := by decide +kernel
theorem dX9_ofRoad_18 : decode cX9_ofRoad 18 = .ok (.tableswitch 84 0 4 #[34, 44, 54, 64, 74], 34) := by decide +kernel
theorem dX9_ofRoad_52 : decode cX9_ofRoad 52 = .ok (.aload_n 0, 1) := by decide +kernel
theorem dX9_ofRoad_53 : decode cX9_ofRoad 53 = .ok (.getfield 27, 3) := by decide +kernel
theorem dX9_ofRoad_56 : decode cX9_ofRoad 56 = .ok (.getfield 113, 3) := by decide +kernel
theorem dX9_ofRoad_59 : decode cX9_ofRoad 59 = .ok (.iload_n 1, 1) := by decide +kernel
theorem dX9_ofRoad_60 : decode cX9_ofRoad 60 = .ok (.iaload, 1) := by decide +kernel
theorem dX9_ofRoad_61 : decode cX9_ofRoad 61 = .ok (.ireturn, 1) := by decide +kernel
theorem dX9_ofRoad_62 : decode cX9_ofRoad 62 = .ok (.aload_n 0, 1) := by decide +kernel
theorem dX9_ofRoad_63 : decode cX9_ofRoad 63 = .ok (.getfield 27, 3) := by decide +kernel
theorem dX9_ofRoad_66 : decode cX9_ofRoad 66 = .ok (.getfield 116, 3) := by decide +kernel
theorem dX9_ofRoad_69 : decode cX9_ofRoad 69 = .ok (.iload_n 1, 1) := by decide +kernel
theorem dX9_ofRoad_70 : decode cX9_ofRoad 70 = .ok (.iaload, 1) := by decide +kernel
theorem dX9_ofRoad_71 : decode cX9_ofRoad 71 = .ok (.ireturn, 1) := by decide +kernel
theorem dX9_ofRoad_72 : decode cX9_ofRoad 72 = .ok (.aload_n 0, 1) := by decide +kernel
theorem dX9_ofRoad_73 : decode cX9_ofRoad 73 = .ok (.getfield 27, 3) := by decide +kernel
theorem dX9_ofRoad_76 : decode cX9_ofRoad 76 = .ok (.getfield 119, 3) := by decide +kernel
theorem dX9_ofRoad_79 : decode cX9_ofRoad 79 = .ok (.iload_n 1, 1) := by decide +kernel
theorem dX9_ofRoad_80 : decode cX9_ofRoad 80 = .ok (.iaload, 1) := by decide +kernel
theorem dX9_ofRoad_81 : decode cX9_ofRoad 81 = .ok (.ireturn, 1) := by decide +kernel
theorem dX9_ofRoad_82 : decode cX9_ofRoad 82 = .ok (.aload_n 0, 1) := by decide +kernel
theorem dX9_ofRoad_83 : decode cX9_ofRoad 83 = .ok (.getfield 27, 3) := by decide +kernel
theorem dX9_ofRoad_86 : decode cX9_ofRoad 86 = .ok (.getfield 122, 3) := by decide +kernel
theorem dX9_ofRoad_89 : decode cX9_ofRoad 89 = .ok (.iload_n 1, 1) := by decide +kernel
theorem dX9_ofRoad_90 : decode cX9_ofRoad 90 = .ok (.iaload, 1) := by decide +kernel
theorem dX9_ofRoad_91 : decode cX9_ofRoad 91 = .ok (.ireturn, 1) := by decide +kernel
theorem dX9_ofRoad_92 : decode cX9_ofRoad 92 = .ok (.aload_n 0, 1) := by decide +kernel
theorem dX9_ofRoad_93 : decode cX9_ofRoad 93 = .ok (.getfield 27, 3) := by decide +kernel
theorem dX9_ofRoad_96 : decode cX9_ofRoad 96 = .ok (.getfield 125, 3) := by decide +kernel
theorem dX9_ofRoad_99 : decode cX9_ofRoad 99 = .ok (.iload_n 1, 1) := by decide +kernel
theorem dX9_ofRoad_100 : decode cX9_ofRoad 100 = .ok (.iaload, 1) := by decide +kernel
theorem dX9_ofRoad_101 : decode cX9_ofRoad 101 = .ok (.ireturn, 1) := by decide +kernel
theorem dX9_ofRoad_102 : decode cX9_ofRoad 102 = .ok (.bipush (-2), 2) := by decide +kernel
theorem dX9_ofRoad_104 : decode cX9_ofRoad 104 = .ok (.ireturn, 1) := by decide +kernel
theorem dX9_way_0 : decode cX9_way 0 = .ok (.aload_n 0, 1) := by decide +kernel
theorem dX9_way_1 : decode cX9_way 1 = .ok (.iload_n 1, 1) := by decide +kernel
theorem dX9_way_2 : decode cX9_way 2 = .ok (.invokevirtual 128, 3) := by decide +kernel
theorem dX9_way_5 : decode cX9_way 5 = .ok (.ifCond .eq 11, 3) := by decide +kernel
theorem dX9_way_8 : decode cX9_way 8 = .ok (.aload_n 0, 1) := by decide +kernel
theorem dX9_way_9 : decode cX9_way 9 = .ok (.iload_n 2, 1) := by decide +kernel
theorem dX9_way_10 : decode cX9_way 10 = .ok (.invokevirtual 128, 3) := by decide +kernel
theorem dX9_way_13 : decode cX9_way 13 = .ok (.ifCond .ne 5, 3) := by decide +kernel
theorem dX9_way_16 : decode cX9_way 16 = .ok (.iconst (-1), 1) := by decide +kernel
theorem dX9_way_17 : decode cX9_way 17 = .ok (.ireturn, 1) := by decide +kernel
theorem dX9_way_18 : decode cX9_way 18 = .ok (.iload_n 3, 1) := by decide +kernel
theorem dX9_way_19 : decode cX9_way 19 = .ok (.iconst 0, 1) := by decide +kernel
theorem dX9_way_20 : decode cX9_way 20 = .ok (.iconst 2, 1) := by decide +kernel
theorem dX9_way_21 : decode cX9_way 21 = .ok (.invokestatic 131, 3) := by decide +kernel
theorem dX9_way_24 : decode cX9_way 24 = .ok (.ifCond .ne 6, 3) := by decide +kernel
theorem dX9_way_27 : decode cX9_way 27 = .ok (.bipush (-2), 2) := by decide +kernel
theorem dX9_way_29 : decode cX9_way 29 = .ok (.ireturn, 1) := by decide +kernel
theorem dX9_way_30 : decode cX9_way 30 = .ok (.aload_n 0, 1) := by decide +kernel
theorem dX9_way_31 : decode cX9_way 31 = .ok (.getfield 27, 3) := by decide +kernel
theorem dX9_way_34 : decode cX9_way 34 = .ok (.iload_n 1, 1) := by decide +kernel
theorem dX9_way_35 : decode cX9_way 35 = .ok (.iload_n 2, 1) := by decide +kernel
theorem dX9_way_36 : decode cX9_way 36 = .ok (.invokevirtual 135, 3) := by decide +kernel
theorem dX9_way_39 : decode cX9_way 39 = .ok (.ifCond .ne 6, 3) := by decide +kernel
theorem dX9_way_42 : decode cX9_way 42 = .ok (.bipush (-9), 2) := by decide +kernel
theorem dX9_way_44 : decode cX9_way 44 = .ok (.ireturn, 1) := by decide +kernel
theorem dX9_way_45 : decode cX9_way 45 = .ok (.iload_n 3, 1) := by decide +kernel
theorem dX9_way_46 : decode cX9_way 46 = .ok (.ifCond .ne 13, 3) := by decide +kernel
theorem dX9_way_49 : decode cX9_way 49 = .ok (.aload_n 0, 1) := by decide +kernel
theorem dX9_way_50 : decode cX9_way 50 = .ok (.getfield 27, 3) := by decide +kernel
theorem dX9_way_53 : decode cX9_way 53 = .ok (.iload_n 1, 1) := by decide +kernel
theorem dX9_way_54 : decode cX9_way 54 = .ok (.iload_n 2, 1) := by decide +kernel
theorem dX9_way_55 : decode cX9_way 55 = .ok (.invokevirtual 139, 3) := by decide +kernel
theorem dX9_way_58 : decode cX9_way 58 = .ok (.ireturn, 1) := by decide +kernel
theorem dX9_way_59 : decode cX9_way 59 = .ok (.iload_n 3, 1) := by decide +kernel
theorem dX9_way_60 : decode cX9_way 60 = .ok (.iconst 1, 1) := by decide +kernel
theorem dX9_way_61 : decode cX9_way 61 = .ok (.if_icmp .ne 15, 3) := by decide +kernel
theorem dX9_way_64 : decode cX9_way 64 = .ok (.aload_n 0, 1) := by decide +kernel
theorem dX9_way_65 : decode cX9_way 65 = .ok (.getfield 27, 3) := by decide +kernel
theorem dX9_way_68 : decode cX9_way 68 = .ok (.iload_n 1, 1) := by decide +kernel
theorem dX9_way_69 : decode cX9_way 69 = .ok (.iload_n 2, 1) := by decide +kernel
theorem dX9_way_70 : decode cX9_way 70 = .ok (.invokevirtual 143, 3) := by decide +kernel
theorem dX9_way_73 : decode cX9_way 73 = .ok (.goto 12, 3) := by decide +kernel
theorem dX9_way_76 : decode cX9_way 76 = .ok (.aload_n 0, 1) := by decide +kernel
theorem dX9_way_77 : decode cX9_way 77 = .ok (.getfield 27, 3) := by decide +kernel
theorem dX9_way_80 : decode cX9_way 80 = .ok (.iload_n 1, 1) := by decide +kernel
theorem dX9_way_81 : decode cX9_way 81 = .ok (.iload_n 2, 1) := by decide +kernel
theorem dX9_way_82 : decode cX9_way 82 = .ok (.invokevirtual 146, 3) := by decide +kernel
theorem dX9_way_85 : decode cX9_way 85 = .ok (.ireturn, 1) := by decide +kernel
theorem dX9_along_0 : decode cX9_along 0 = .ok (.aload_n 0, 1) := by decide +kernel
theorem dX9_along_1 : decode cX9_along 1 = .ok (.iload_n 1, 1) := by decide +kernel
theorem dX9_along_2 : decode cX9_along 2 = .ok (.invokevirtual 128, 3) := by decide +kernel
theorem dX9_along_5 : decode cX9_along 5 = .ok (.ifCond .eq 11, 3) := by decide +kernel
theorem dX9_along_8 : decode cX9_along 8 = .ok (.aload_n 0, 1) := by decide +kernel
theorem dX9_along_9 : decode cX9_along 9 = .ok (.iload_n 2, 1) := by decide +kernel
theorem dX9_along_10 : decode cX9_along 10 = .ok (.invokevirtual 128, 3) := by decide +kernel
theorem dX9_along_13 : decode cX9_along 13 = .ok (.ifCond .ne 5, 3) := by decide +kernel
theorem dX9_along_16 : decode cX9_along 16 = .ok (.iconst (-1), 1) := by decide +kernel
theorem dX9_along_17 : decode cX9_along 17 = .ok (.ireturn, 1) := by decide +kernel
theorem dX9_along_18 : decode cX9_along 18 = .ok (.iload_n 3, 1) := by decide +kernel
theorem dX9_along_19 : decode cX9_along 19 = .ok (.ifCond .ge 6, 3) := by decide +kernel
theorem dX9_along_22 : decode cX9_along 22 = .ok (.bipush (-2), 2) := by decide +kernel
theorem dX9_along_24 : decode cX9_along 24 = .ok (.ireturn, 1) := by decide +kernel
theorem dX9_along_25 : decode cX9_along 25 = .ok (.aload_n 0, 1) := by decide +kernel
theorem dX9_along_26 : decode cX9_along 26 = .ok (.getfield 27, 3) := by decide +kernel
theorem dX9_along_29 : decode cX9_along 29 = .ok (.iload_n 1, 1) := by decide +kernel
theorem dX9_along_30 : decode cX9_along 30 = .ok (.iload_n 2, 1) := by decide +kernel
theorem dX9_along_31 : decode cX9_along 31 = .ok (.iload_n 3, 1) := by decide +kernel
theorem dX9_along_32 : decode cX9_along 32 = .ok (.invokevirtual 149, 3) := by decide +kernel
theorem dX9_along_35 : decode cX9_along 35 = .ok (.ireturn, 1) := by decide +kernel
theorem dX9_child_0 : decode cX9_child 0 = .ok (.aload_n 0, 1) := by decide +kernel
theorem dX9_child_1 : decode cX9_child 1 = .ok (.iload_n 2, 1) := by decide +kernel
theorem dX9_child_2 : decode cX9_child 2 = .ok (.invokevirtual 128, 3) := by decide +kernel
theorem dX9_child_5 : decode cX9_child 5 = .ok (.ifCond .ne 5, 3) := by decide +kernel
theorem dX9_child_8 : decode cX9_child 8 = .ok (.iconst (-1), 1) := by decide +kernel
theorem dX9_child_9 : decode cX9_child 9 = .ok (.ireturn, 1) := by decide +kernel
theorem dX9_child_10 : decode cX9_child 10 = .ok (.iload_n 1, 1) := by decide +kernel
theorem dX9_child_11 : decode cX9_child 11 = .ok (.invokestatic 152, 3) := by decide +kernel
theorem dX9_child_14 : decode cX9_child 14 = .ok (.ifCond .eq 21, 3) := by decide +kernel
theorem dX9_child_17 : decode cX9_child 17 = .ok (.iload_n 3, 1) := by decide +kernel
theorem dX9_child_18 : decode cX9_child 18 = .ok (.invokestatic 155, 3) := by decide +kernel
theorem dX9_child_21 : decode cX9_child 21 = .ok (.ifCond .eq 14, 3) := by decide +kernel
theorem dX9_child_24 : decode cX9_child 24 = .ok (.iload 4, 2) := by decide +kernel
theorem dX9_child_26 : decode cX9_child 26 = .ok (.iconst 0, 1) := by decide +kernel
theorem dX9_child_27 : decode cX9_child 27 = .ok (.bipush 60, 2) := by decide +kernel
theorem dX9_child_29 : decode cX9_child 29 = .ok (.invokestatic 131, 3) := by decide +kernel
theorem dX9_child_32 : decode cX9_child 32 = .ok (.ifCond .ne 6, 3) := by decide +kernel
theorem dX9_child_35 : decode cX9_child 35 = .ok (.bipush (-2), 2) := by decide +kernel
theorem dX9_child_37 : decode cX9_child 37 = .ok (.ireturn, 1) := by decide +kernel
theorem dX9_child_38 : decode cX9_child 38 = .ok (.aload_n 0, 1) := by decide +kernel
theorem dX9_child_39 : decode cX9_child 39 = .ok (.getfield 40, 3) := by decide +kernel
theorem dX9_child_42 : decode cX9_child 42 = .ok (.bipush 10, 2) := by decide +kernel
theorem dX9_child_44 : decode cX9_child 44 = .ok (.if_icmp .lt 6, 3) := by decide +kernel
theorem dX9_child_47 : decode cX9_child 47 = .ok (.bipush (-4), 2) := by decide +kernel
theorem dX9_child_49 : decode cX9_child 49 = .ok (.ireturn, 1) := by decide +kernel
theorem dX9_child_50 : decode cX9_child 50 = .ok (.aload_n 0, 1) := by decide +kernel
theorem dX9_child_51 : decode cX9_child 51 = .ok (.getfield 36, 3) := by decide +kernel
theorem dX9_child_54 : decode cX9_child 54 = .ok (.aload_n 0, 1) := by decide +kernel
theorem dX9_child_55 : decode cX9_child 55 = .ok (.getfield 40, 3) := by decide +kernel
theorem dX9_child_58 : decode cX9_child 58 = .ok (.aaload, 1) := by decide +kernel
theorem dX9_child_59 : decode cX9_child 59 = .ok (.iload_n 1, 1) := by decide +kernel
theorem dX9_child_60 : decode cX9_child 60 = .ok (.iload_n 2, 1) := by decide +kernel
theorem dX9_child_61 : decode cX9_child 61 = .ok (.iload_n 3, 1) := by decide +kernel
theorem dX9_child_62 : decode cX9_child 62 = .ok (.iload 4, 2) := by decide +kernel
theorem dX9_child_64 : decode cX9_child 64 = .ok (.invokevirtual 158, 3) := by decide +kernel
theorem dX9_child_67 : decode cX9_child 67 = .ok (.aload_n 0, 1) := by decide +kernel
theorem dX9_child_68 : decode cX9_child 68 = .ok (.dup, 1) := by decide +kernel
theorem dX9_child_69 : decode cX9_child 69 = .ok (.getfield 40, 3) := by decide +kernel
theorem dX9_child_72 : decode cX9_child 72 = .ok (.iconst 1, 1) := by decide +kernel
theorem dX9_child_73 : decode cX9_child 73 = .ok (.iadd, 1) := by decide +kernel
theorem dX9_child_74 : decode cX9_child 74 = .ok (.putfield 40, 3) := by decide +kernel
theorem dX9_child_77 : decode cX9_child 77 = .ok (.aload_n 0, 1) := by decide +kernel
theorem dX9_child_78 : decode cX9_child 78 = .ok (.getfield 40, 3) := by decide +kernel
theorem dX9_child_81 : decode cX9_child 81 = .ok (.iconst 1, 1) := by decide +kernel
theorem dX9_child_82 : decode cX9_child 82 = .ok (.isub, 1) := by decide +kernel
theorem dX9_child_83 : decode cX9_child 83 = .ok (.ireturn, 1) := by decide +kernel
theorem dX9_ofChild_0 : decode cX9_ofChild 0 = .ok (.aload_n 0, 1) := by decide +kernel
theorem dX9_ofChild_1 : decode cX9_ofChild 1 = .ok (.iload_n 1, 1) := by decide +kernel
theorem dX9_ofChild_2 : decode cX9_ofChild 2 = .ok (.invokevirtual 162, 3) := by decide +kernel
theorem dX9_ofChild_5 : decode cX9_ofChild 5 = .ok (.ifCond .ne 5, 3) := by decide +kernel
theorem dX9_ofChild_8 : decode cX9_ofChild 8 = .ok (.iconst (-1), 1) := by decide +kernel
theorem dX9_ofChild_9 : decode cX9_ofChild 9 = .ok (.ireturn, 1) := by decide +kernel
theorem dX9_ofChild_10 : decode cX9_ofChild 10 = .ok (.aload_n 0, 1) := by decide +kernel
theorem dX9_ofChild_11 : decode cX9_ofChild 11 = .ok (.getfield 36, 3) := by decide +kernel
theorem dX9_ofChild_14 : decode cX9_ofChild 14 = .ok (.iload_n 1, 1) := by decide +kernel
theorem dX9_ofChild_15 : decode cX9_ofChild 15 = .ok (.aaload, 1) := by decide +kernel
theorem dX9_ofChild_16 : decode cX9_ofChild 16 = .ok (.astore_n 3, 1) := by decide +kernel
theorem dX9_ofChild_17 : decode cX9_ofChild 17 = .ok (.iload_n 2, 1) := by decide +kernel
theorem dX9_ofChild_18 : decode cX9_ofChild 18 = .ok (.tableswitch 86 0 7 #[46, 51, 56, 61, 66, 71, 76, 81], 46) := by decide +kernel
theorem dX9_ofChild_64 : decode cX9_ofChild 64 = .ok (.aload_n 3, 1) := by decide +kernel
theorem dX9_ofChild_65 : decode cX9_ofChild 65 = .ok (.getfield 165, 3) := by decide +kernel
theorem dX9_ofChild_68 : decode cX9_ofChild 68 = .ok (.ireturn, 1) := by decide +kernel
theorem dX9_ofChild_69 : decode cX9_ofChild 69 = .ok (.aload_n 3, 1) := by decide +kernel
theorem dX9_ofChild_70 : decode cX9_ofChild 70 = .ok (.getfield 168, 3) := by decide +kernel
theorem dX9_ofChild_73 : decode cX9_ofChild 73 = .ok (.ireturn, 1) := by decide +kernel
theorem dX9_ofChild_74 : decode cX9_ofChild 74 = .ok (.aload_n 3, 1) := by decide +kernel
theorem dX9_ofChild_75 : decode cX9_ofChild 75 = .ok (.getfield 171, 3) := by decide +kernel
theorem dX9_ofChild_78 : decode cX9_ofChild 78 = .ok (.ireturn, 1) := by decide +kernel
theorem dX9_ofChild_79 : decode cX9_ofChild 79 = .ok (.aload_n 3, 1) := by decide +kernel
theorem dX9_ofChild_80 : decode cX9_ofChild 80 = .ok (.getfield 174, 3) := by decide +kernel
theorem dX9_ofChild_83 : decode cX9_ofChild 83 = .ok (.ireturn, 1) := by decide +kernel
theorem dX9_ofChild_84 : decode cX9_ofChild 84 = .ok (.aload_n 3, 1) := by decide +kernel
theorem dX9_ofChild_85 : decode cX9_ofChild 85 = .ok (.invokevirtual 177, 3) := by decide +kernel
theorem dX9_ofChild_88 : decode cX9_ofChild 88 = .ok (.ireturn, 1) := by decide +kernel
theorem dX9_ofChild_89 : decode cX9_ofChild 89 = .ok (.aload_n 3, 1) := by decide +kernel
theorem dX9_ofChild_90 : decode cX9_ofChild 90 = .ok (.invokevirtual 181, 3) := by decide +kernel
theorem dX9_ofChild_93 : decode cX9_ofChild 93 = .ok (.ireturn, 1) := by decide +kernel
theorem dX9_ofChild_94 : decode cX9_ofChild 94 = .ok (.aload_n 3, 1) := by decide +kernel
theorem dX9_ofChild_95 : decode cX9_ofChild 95 = .ok (.getfield 184, 3) := by decide +kernel
theorem dX9_ofChild_98 : decode cX9_ofChild 98 = .ok (.ireturn, 1) := by decide +kernel
theorem dX9_ofChild_99 : decode cX9_ofChild 99 = .ok (.aload_n 3, 1) := by decide +kernel
theorem dX9_ofChild_100 : decode cX9_ofChild 100 = .ok (.getfield 187, 3) := by decide +kernel
theorem dX9_ofChild_103 : decode cX9_ofChild 103 = .ok (.ireturn, 1) := by decide +kernel
theorem dX9_ofChild_104 : decode cX9_ofChild 104 = .ok (.bipush (-2), 2) := by decide +kernel
theorem dX9_ofChild_106 : decode cX9_ofChild 106 = .ok (.ireturn, 1) := by decide +kernel
theorem dX9_ready_0 : decode cX9_ready 0 = .ok (.aload_n 0, 1) := by decide +kernel
theorem dX9_ready_1 : decode cX9_ready 1 = .ok (.iload_n 1, 1) := by decide +kernel
theorem dX9_ready_2 : decode cX9_ready 2 = .ok (.invokevirtual 162, 3) := by decide +kernel
theorem dX9_ready_5 : decode cX9_ready 5 = .ok (.ifCond .ne 5, 3) := by decide +kernel
theorem dX9_ready_8 : decode cX9_ready 8 = .ok (.iconst (-1), 1) := by decide +kernel
theorem dX9_ready_9 : decode cX9_ready 9 = .ok (.ireturn, 1) := by decide +kernel
theorem dX9_ready_10 : decode cX9_ready 10 = .ok (.iload_n 2, 1) := by decide +kernel
theorem dX9_ready_11 : decode cX9_ready 11 = .ok (.iconst 0, 1) := by decide +kernel
theorem dX9_ready_12 : decode cX9_ready 12 = .ok (.bipush 60, 2) := by decide +kernel
theorem dX9_ready_14 : decode cX9_ready 14 = .ok (.invokestatic 131, 3) := by decide +kernel
theorem dX9_ready_17 : decode cX9_ready 17 = .ok (.ifCond .ne 6, 3) := by decide +kernel
theorem dX9_ready_20 : decode cX9_ready 20 = .ok (.bipush (-2), 2) := by decide +kernel
theorem dX9_ready_22 : decode cX9_ready 22 = .ok (.ireturn, 1) := by decide +kernel
theorem dX9_ready_23 : decode cX9_ready 23 = .ok (.aload_n 0, 1) := by decide +kernel
theorem dX9_ready_24 : decode cX9_ready 24 = .ok (.getfield 36, 3) := by decide +kernel
theorem dX9_ready_27 : decode cX9_ready 27 = .ok (.iload_n 1, 1) := by decide +kernel
theorem dX9_ready_28 : decode cX9_ready 28 = .ok (.aaload, 1) := by decide +kernel
theorem dX9_ready_29 : decode cX9_ready 29 = .ok (.getfield 174, 3) := by decide +kernel
theorem dX9_ready_32 : decode cX9_ready 32 = .ok (.istore_n 3, 1) := by decide +kernel
theorem dX9_ready_33 : decode cX9_ready 33 = .ok (.aload_n 0, 1) := by decide +kernel
theorem dX9_ready_34 : decode cX9_ready 34 = .ok (.getfield 36, 3) := by decide +kernel
theorem dX9_ready_37 : decode cX9_ready 37 = .ok (.iload_n 1, 1) := by decide +kernel
theorem dX9_ready_38 : decode cX9_ready 38 = .ok (.aaload, 1) := by decide +kernel
theorem dX9_ready_39 : decode cX9_ready 39 = .ok (.iload_n 2, 1) := by decide +kernel
theorem dX9_ready_40 : decode cX9_ready 40 = .ok (.putfield 174, 3) := by decide +kernel
theorem dX9_ready_43 : decode cX9_ready 43 = .ok (.iload_n 3, 1) := by decide +kernel
theorem dX9_ready_44 : decode cX9_ready 44 = .ok (.ireturn, 1) := by decide +kernel
theorem dX9_tie_0 : decode cX9_tie 0 = .ok (.aload_n 0, 1) := by decide +kernel
theorem dX9_tie_1 : decode cX9_tie 1 = .ok (.iload_n 1, 1) := by decide +kernel
theorem dX9_tie_2 : decode cX9_tie 2 = .ok (.invokevirtual 162, 3) := by decide +kernel
theorem dX9_tie_5 : decode cX9_tie 5 = .ok (.ifCond .eq 11, 3) := by decide +kernel
theorem dX9_tie_8 : decode cX9_tie 8 = .ok (.aload_n 0, 1) := by decide +kernel
theorem dX9_tie_9 : decode cX9_tie 9 = .ok (.iload_n 2, 1) := by decide +kernel
theorem dX9_tie_10 : decode cX9_tie 10 = .ok (.invokevirtual 162, 3) := by decide +kernel
theorem dX9_tie_13 : decode cX9_tie 13 = .ok (.ifCond .ne 5, 3) := by decide +kernel
theorem dX9_tie_16 : decode cX9_tie 16 = .ok (.iconst (-1), 1) := by decide +kernel
theorem dX9_tie_17 : decode cX9_tie 17 = .ok (.ireturn, 1) := by decide +kernel
theorem dX9_tie_18 : decode cX9_tie 18 = .ok (.iload_n 1, 1) := by decide +kernel
theorem dX9_tie_19 : decode cX9_tie 19 = .ok (.iload_n 2, 1) := by decide +kernel
theorem dX9_tie_20 : decode cX9_tie 20 = .ok (.if_icmp .eq 12, 3) := by decide +kernel
theorem dX9_tie_23 : decode cX9_tie 23 = .ok (.iload_n 3, 1) := by decide +kernel
theorem dX9_tie_24 : decode cX9_tie 24 = .ok (.iconst 0, 1) := by decide +kernel
theorem dX9_tie_25 : decode cX9_tie 25 = .ok (.iconst 2, 1) := by decide +kernel
theorem dX9_tie_26 : decode cX9_tie 26 = .ok (.invokestatic 131, 3) := by decide +kernel
theorem dX9_tie_29 : decode cX9_tie 29 = .ok (.ifCond .ne 6, 3) := by decide +kernel
theorem dX9_tie_32 : decode cX9_tie 32 = .ok (.bipush (-2), 2) := by decide +kernel
theorem dX9_tie_34 : decode cX9_tie 34 = .ok (.ireturn, 1) := by decide +kernel
theorem dX9_tie_35 : decode cX9_tie 35 = .ok (.aload_n 0, 1) := by decide +kernel
theorem dX9_tie_36 : decode cX9_tie 36 = .ok (.getfield 36, 3) := by decide +kernel
theorem dX9_tie_39 : decode cX9_tie 39 = .ok (.iload_n 1, 1) := by decide +kernel
theorem dX9_tie_40 : decode cX9_tie 40 = .ok (.aaload, 1) := by decide +kernel
theorem dX9_tie_41 : decode cX9_tie 41 = .ok (.iload_n 2, 1) := by decide +kernel
theorem dX9_tie_42 : decode cX9_tie 42 = .ok (.invokevirtual 190, 3) := by decide +kernel
theorem dX9_tie_45 : decode cX9_tie 45 = .ok (.istore 4, 2) := by decide +kernel
theorem dX9_tie_47 : decode cX9_tie 47 = .ok (.aload_n 0, 1) := by decide +kernel
theorem dX9_tie_48 : decode cX9_tie 48 = .ok (.getfield 36, 3) := by decide +kernel
theorem dX9_tie_51 : decode cX9_tie 51 = .ok (.iload_n 1, 1) := by decide +kernel
theorem dX9_tie_52 : decode cX9_tie 52 = .ok (.aaload, 1) := by decide +kernel
theorem dX9_tie_53 : decode cX9_tie 53 = .ok (.iload_n 2, 1) := by decide +kernel
theorem dX9_tie_54 : decode cX9_tie 54 = .ok (.iload_n 3, 1) := by decide +kernel
theorem dX9_tie_55 : decode cX9_tie 55 = .ok (.invokevirtual 194, 3) := by decide +kernel
theorem dX9_tie_58 : decode cX9_tie 58 = .ok (.aload_n 0, 1) := by decide +kernel
theorem dX9_tie_59 : decode cX9_tie 59 = .ok (.getfield 36, 3) := by decide +kernel
theorem dX9_tie_62 : decode cX9_tie 62 = .ok (.iload_n 2, 1) := by decide +kernel
theorem dX9_tie_63 : decode cX9_tie 63 = .ok (.aaload, 1) := by decide +kernel
theorem dX9_tie_64 : decode cX9_tie 64 = .ok (.iload_n 1, 1) := by decide +kernel
theorem dX9_tie_65 : decode cX9_tie 65 = .ok (.iload_n 3, 1) := by decide +kernel
theorem dX9_tie_66 : decode cX9_tie 66 = .ok (.invokevirtual 194, 3) := by decide +kernel
theorem dX9_tie_69 : decode cX9_tie 69 = .ok (.iload 4, 2) := by decide +kernel
theorem dX9_tie_71 : decode cX9_tie 71 = .ok (.ireturn, 1) := by decide +kernel
theorem dX9_late_0 : decode cX9_late 0 = .ok (.aload_n 0, 1) := by decide +kernel
theorem dX9_late_1 : decode cX9_late 1 = .ok (.iconst 0, 1) := by decide +kernel
theorem dX9_late_2 : decode cX9_late 2 = .ok (.putfield 78, 3) := by decide +kernel
theorem dX9_late_5 : decode cX9_late 5 = .ok (.iload 5, 2) := by decide +kernel
theorem dX9_late_7 : decode cX9_late 7 = .ok (.invokestatic 92, 3) := by decide +kernel
theorem dX9_late_10 : decode cX9_late 10 = .ok (.ifCond .eq 19, 3) := by decide +kernel
theorem dX9_late_13 : decode cX9_late 13 = .ok (.aload_n 0, 1) := by decide +kernel
theorem dX9_late_14 : decode cX9_late 14 = .ok (.iload_n 2, 1) := by decide +kernel
theorem dX9_late_15 : decode cX9_late 15 = .ok (.invokevirtual 128, 3) := by decide +kernel
theorem dX9_late_18 : decode cX9_late 18 = .ok (.ifCond .eq 11, 3) := by decide +kernel
theorem dX9_late_21 : decode cX9_late 21 = .ok (.iload 6, 2) := by decide +kernel
theorem dX9_late_23 : decode cX9_late 23 = .ok (.invokestatic 96, 3) := by decide +kernel
theorem dX9_late_26 : decode cX9_late 26 = .ok (.ifCond .ne 7, 3) := by decide +kernel
theorem dX9_late_29 : decode cX9_late 29 = .ok (.ldc2_w 198, 3) := by decide +kernel
theorem dX9_late_32 : decode cX9_late 32 = .ok (.lreturn, 1) := by decide +kernel
theorem dX9_late_33 : decode cX9_late 33 = .ok (.aload_n 0, 1) := by decide +kernel
theorem dX9_late_34 : decode cX9_late 34 = .ok (.iload_n 1, 1) := by decide +kernel
theorem dX9_late_35 : decode cX9_late 35 = .ok (.invokevirtual 200, 3) := by decide +kernel
theorem dX9_late_38 : decode cX9_late 38 = .ok (.ifCond .eq 28, 3) := by decide +kernel
theorem dX9_late_41 : decode cX9_late 41 = .ok (.iload_n 3, 1) := by decide +kernel
theorem dX9_late_42 : decode cX9_late 42 = .ok (.invokestatic 203, 3) := by decide +kernel
theorem dX9_late_45 : decode cX9_late 45 = .ok (.ifCond .eq 21, 3) := by decide +kernel
theorem dX9_late_48 : decode cX9_late 48 = .ok (.iload 4, 2) := by decide +kernel
theorem dX9_late_50 : decode cX9_late 50 = .ok (.invokestatic 203, 3) := by decide +kernel
theorem dX9_late_53 : decode cX9_late 53 = .ok (.ifCond .eq 13, 3) := by decide +kernel
theorem dX9_late_56 : decode cX9_late 56 = .ok (.iload 9, 2) := by decide +kernel
theorem dX9_late_58 : decode cX9_late 58 = .ok (.iconst 0, 1) := by decide +kernel
theorem dX9_late_59 : decode cX9_late 59 = .ok (.iconst 1, 1) := by decide +kernel
theorem dX9_late_60 : decode cX9_late 60 = .ok (.invokestatic 131, 3) := by decide +kernel
theorem dX9_late_63 : decode cX9_late 63 = .ok (.ifCond .ne 7, 3) := by decide +kernel
theorem dX9_late_66 : decode cX9_late 66 = .ok (.ldc2_w 198, 3) := by decide +kernel
theorem dX9_late_69 : decode cX9_late 69 = .ok (.lreturn, 1) := by decide +kernel
theorem dX9_late_70 : decode cX9_late 70 = .ok (.aload_n 0, 1) := by decide +kernel
theorem dX9_late_71 : decode cX9_late 71 = .ok (.aload_n 0, 1) := by decide +kernel
theorem dX9_late_72 : decode cX9_late 72 = .ok (.getfield 13, 3) := by decide +kernel
theorem dX9_late_75 : decode cX9_late 75 = .ok (.iload 5, 2) := by decide +kernel
theorem dX9_late_77 : decode cX9_late 77 = .ok (.aaload, 1) := by decide +kernel
theorem dX9_late_78 : decode cX9_late 78 = .ok (.iload 6, 2) := by decide +kernel
theorem dX9_late_80 : decode cX9_late 80 = .ok (.iload 7, 2) := by decide +kernel
theorem dX9_late_82 : decode cX9_late 82 = .ok (.iload 8, 2) := by decide +kernel
theorem dX9_late_84 : decode cX9_late 84 = .ok (.invokevirtual 99, 3) := by decide +kernel
theorem dX9_late_87 : decode cX9_late 87 = .ok (.putfield 78, 3) := by decide +kernel
theorem dX9_late_90 : decode cX9_late 90 = .ok (.aload_n 0, 1) := by decide +kernel
theorem dX9_late_91 : decode cX9_late 91 = .ok (.getfield 78, 3) := by decide +kernel
theorem dX9_late_94 : decode cX9_late 94 = .ok (.ifCond .ne 24, 3) := by decide +kernel
theorem dX9_late_97 : decode cX9_late 97 = .ok (.aload_n 0, 1) := by decide +kernel
theorem dX9_late_98 : decode cX9_late 98 = .ok (.iload_n 1, 1) := by decide +kernel
theorem dX9_late_99 : decode cX9_late 99 = .ok (.iload_n 2, 1) := by decide +kernel
theorem dX9_late_100 : decode cX9_late 100 = .ok (.iload_n 3, 1) := by decide +kernel
theorem dX9_late_101 : decode cX9_late 101 = .ok (.aload_n 0, 1) := by decide +kernel
theorem dX9_late_102 : decode cX9_late 102 = .ok (.getfield 13, 3) := by decide +kernel
theorem dX9_late_105 : decode cX9_late 105 = .ok (.iload 5, 2) := by decide +kernel
theorem dX9_late_107 : decode cX9_late 107 = .ok (.aaload, 1) := by decide +kernel
theorem dX9_late_108 : decode cX9_late 108 = .ok (.iload 7, 2) := by decide +kernel
theorem dX9_late_110 : decode cX9_late 110 = .ok (.iload 8, 2) := by decide +kernel
theorem dX9_late_112 : decode cX9_late 112 = .ok (.invokevirtual 206, 3) := by decide +kernel
theorem dX9_late_115 : decode cX9_late 115 = .ok (.ifCond .ne 7, 3) := by decide +kernel
theorem dX9_late_118 : decode cX9_late 118 = .ok (.ldc2_w 198, 3) := by decide +kernel
theorem dX9_late_121 : decode cX9_late 121 = .ok (.lreturn, 1) := by decide +kernel
theorem dX9_late_122 : decode cX9_late 122 = .ok (.aload_n 0, 1) := by decide +kernel
theorem dX9_late_123 : decode cX9_late 123 = .ok (.getfield 47, 3) := by decide +kernel
theorem dX9_late_126 : decode cX9_late 126 = .ok (.getfield 210, 3) := by decide +kernel
theorem dX9_late_129 : decode cX9_late 129 = .ok (.iload 4, 2) := by decide +kernel
theorem dX9_late_131 : decode cX9_late 131 = .ok (.invokevirtual 214, 3) := by decide +kernel
theorem dX9_late_134 : decode cX9_late 134 = .ok (.aload_n 0, 1) := by decide +kernel
theorem dX9_late_135 : decode cX9_late 135 = .ok (.getfield 47, 3) := by decide +kernel
theorem dX9_late_138 : decode cX9_late 138 = .ok (.getfield 210, 3) := by decide +kernel
theorem dX9_late_141 : decode cX9_late 141 = .ok (.getfield 220, 3) := by decide +kernel
theorem dX9_late_144 : decode cX9_late 144 = .ok (.iload 9, 2) := by decide +kernel
theorem dX9_late_146 : decode cX9_late 146 = .ok (.invokestatic 224, 3) := by decide +kernel
theorem dX9_late_149 : decode cX9_late 149 = .ok (.lreturn, 1) := by decide +kernel
theorem dX9_mean_0 : decode cX9_mean 0 = .ok (.aload_n 0, 1) := by decide +kernel
theorem dX9_mean_1 : decode cX9_mean 1 = .ok (.iconst 0, 1) := by decide +kernel
theorem dX9_mean_2 : decode cX9_mean 2 = .ok (.putfield 78, 3) := by decide +kernel
theorem dX9_mean_5 : decode cX9_mean 5 = .ok (.iload 4, 2) := by decide +kernel
theorem dX9_mean_7 : decode cX9_mean 7 = .ok (.invokestatic 92, 3) := by decide +kernel
theorem dX9_mean_10 : decode cX9_mean 10 = .ok (.ifCond .eq 19, 3) := by decide +kernel
theorem dX9_mean_13 : decode cX9_mean 13 = .ok (.aload_n 0, 1) := by decide +kernel
theorem dX9_mean_14 : decode cX9_mean 14 = .ok (.iload_n 2, 1) := by decide +kernel
theorem dX9_mean_15 : decode cX9_mean 15 = .ok (.invokevirtual 128, 3) := by decide +kernel
theorem dX9_mean_18 : decode cX9_mean 18 = .ok (.ifCond .eq 11, 3) := by decide +kernel
theorem dX9_mean_21 : decode cX9_mean 21 = .ok (.iload 5, 2) := by decide +kernel
theorem dX9_mean_23 : decode cX9_mean 23 = .ok (.invokestatic 96, 3) := by decide +kernel
theorem dX9_mean_26 : decode cX9_mean 26 = .ok (.ifCond .ne 7, 3) := by decide +kernel
theorem dX9_mean_29 : decode cX9_mean 29 = .ok (.ldc2_w 198, 3) := by decide +kernel
theorem dX9_mean_32 : decode cX9_mean 32 = .ok (.lreturn, 1) := by decide +kernel
theorem dX9_mean_33 : decode cX9_mean 33 = .ok (.aload_n 0, 1) := by decide +kernel
theorem dX9_mean_34 : decode cX9_mean 34 = .ok (.iload_n 1, 1) := by decide +kernel
theorem dX9_mean_35 : decode cX9_mean 35 = .ok (.invokevirtual 200, 3) := by decide +kernel
theorem dX9_mean_38 : decode cX9_mean 38 = .ok (.ifCond .eq 20, 3) := by decide +kernel
theorem dX9_mean_41 : decode cX9_mean 41 = .ok (.iload_n 3, 1) := by decide +kernel
theorem dX9_mean_42 : decode cX9_mean 42 = .ok (.invokestatic 203, 3) := by decide +kernel
theorem dX9_mean_45 : decode cX9_mean 45 = .ok (.ifCond .eq 13, 3) := by decide +kernel
theorem dX9_mean_48 : decode cX9_mean 48 = .ok (.iload 8, 2) := by decide +kernel
theorem dX9_mean_50 : decode cX9_mean 50 = .ok (.iconst 0, 1) := by decide +kernel
theorem dX9_mean_51 : decode cX9_mean 51 = .ok (.iconst 1, 1) := by decide +kernel
theorem dX9_mean_52 : decode cX9_mean 52 = .ok (.invokestatic 131, 3) := by decide +kernel
theorem dX9_mean_55 : decode cX9_mean 55 = .ok (.ifCond .ne 7, 3) := by decide +kernel
theorem dX9_mean_58 : decode cX9_mean 58 = .ok (.ldc2_w 198, 3) := by decide +kernel
theorem dX9_mean_61 : decode cX9_mean 61 = .ok (.lreturn, 1) := by decide +kernel
theorem dX9_mean_62 : decode cX9_mean 62 = .ok (.aload_n 0, 1) := by decide +kernel
theorem dX9_mean_63 : decode cX9_mean 63 = .ok (.aload_n 0, 1) := by decide +kernel
theorem dX9_mean_64 : decode cX9_mean 64 = .ok (.getfield 13, 3) := by decide +kernel
theorem dX9_mean_67 : decode cX9_mean 67 = .ok (.iload 4, 2) := by decide +kernel
theorem dX9_mean_69 : decode cX9_mean 69 = .ok (.aaload, 1) := by decide +kernel
theorem dX9_mean_70 : decode cX9_mean 70 = .ok (.iload 5, 2) := by decide +kernel
theorem dX9_mean_72 : decode cX9_mean 72 = .ok (.iload 6, 2) := by decide +kernel
theorem dX9_mean_74 : decode cX9_mean 74 = .ok (.iload 7, 2) := by decide +kernel
theorem dX9_mean_76 : decode cX9_mean 76 = .ok (.invokevirtual 99, 3) := by decide +kernel
theorem dX9_mean_79 : decode cX9_mean 79 = .ok (.putfield 78, 3) := by decide +kernel
theorem dX9_mean_82 : decode cX9_mean 82 = .ok (.aload_n 0, 1) := by decide +kernel
theorem dX9_mean_83 : decode cX9_mean 83 = .ok (.getfield 78, 3) := by decide +kernel
theorem dX9_mean_86 : decode cX9_mean 86 = .ok (.ifCond .ne 24, 3) := by decide +kernel
theorem dX9_mean_89 : decode cX9_mean 89 = .ok (.aload_n 0, 1) := by decide +kernel
theorem dX9_mean_90 : decode cX9_mean 90 = .ok (.iload_n 1, 1) := by decide +kernel
theorem dX9_mean_91 : decode cX9_mean 91 = .ok (.iload_n 2, 1) := by decide +kernel
theorem dX9_mean_92 : decode cX9_mean 92 = .ok (.iload_n 3, 1) := by decide +kernel
theorem dX9_mean_93 : decode cX9_mean 93 = .ok (.aload_n 0, 1) := by decide +kernel
theorem dX9_mean_94 : decode cX9_mean 94 = .ok (.getfield 13, 3) := by decide +kernel
theorem dX9_mean_97 : decode cX9_mean 97 = .ok (.iload 4, 2) := by decide +kernel
theorem dX9_mean_99 : decode cX9_mean 99 = .ok (.aaload, 1) := by decide +kernel
theorem dX9_mean_100 : decode cX9_mean 100 = .ok (.iload 6, 2) := by decide +kernel
theorem dX9_mean_102 : decode cX9_mean 102 = .ok (.iload 7, 2) := by decide +kernel
theorem dX9_mean_104 : decode cX9_mean 104 = .ok (.invokevirtual 206, 3) := by decide +kernel
theorem dX9_mean_107 : decode cX9_mean 107 = .ok (.ifCond .ne 7, 3) := by decide +kernel
theorem dX9_mean_110 : decode cX9_mean 110 = .ok (.ldc2_w 198, 3) := by decide +kernel
theorem dX9_mean_113 : decode cX9_mean 113 = .ok (.lreturn, 1) := by decide +kernel
theorem dX9_mean_114 : decode cX9_mean 114 = .ok (.aload_n 0, 1) := by decide +kernel
theorem dX9_mean_115 : decode cX9_mean 115 = .ok (.getfield 47, 3) := by decide +kernel
theorem dX9_mean_118 : decode cX9_mean 118 = .ok (.getfield 210, 3) := by decide +kernel
theorem dX9_mean_121 : decode cX9_mean 121 = .ok (.invokevirtual 228, 3) := by decide +kernel
theorem dX9_mean_124 : decode cX9_mean 124 = .ok (.aload_n 0, 1) := by decide +kernel
theorem dX9_mean_125 : decode cX9_mean 125 = .ok (.getfield 47, 3) := by decide +kernel
theorem dX9_mean_128 : decode cX9_mean 128 = .ok (.getfield 210, 3) := by decide +kernel
theorem dX9_mean_131 : decode cX9_mean 131 = .ok (.getfield 220, 3) := by decide +kernel
theorem dX9_mean_134 : decode cX9_mean 134 = .ok (.iload 8, 2) := by decide +kernel
theorem dX9_mean_136 : decode cX9_mean 136 = .ok (.invokestatic 224, 3) := by decide +kernel
theorem dX9_mean_139 : decode cX9_mean 139 = .ok (.lreturn, 1) := by decide +kernel
theorem dX9_start_0 : decode cX9_start 0 = .ok (.aload_n 0, 1) := by decide +kernel
theorem dX9_start_1 : decode cX9_start 1 = .ok (.iload_n 1, 1) := by decide +kernel
theorem dX9_start_2 : decode cX9_start 2 = .ok (.iload_n 2, 1) := by decide +kernel
theorem dX9_start_3 : decode cX9_start 3 = .ok (.iload_n 3, 1) := by decide +kernel
theorem dX9_start_4 : decode cX9_start 4 = .ok (.iload 4, 2) := by decide +kernel
theorem dX9_start_6 : decode cX9_start 6 = .ok (.invokevirtual 232, 3) := by decide +kernel
theorem dX9_start_9 : decode cX9_start 9 = .ok (.istore 5, 2) := by decide +kernel
theorem dX9_start_11 : decode cX9_start 11 = .ok (.iload 5, 2) := by decide +kernel
theorem dX9_start_13 : decode cX9_start 13 = .ok (.ifCond .eq 6, 3) := by decide +kernel
theorem dX9_start_16 : decode cX9_start 16 = .ok (.iload 5, 2) := by decide +kernel
theorem dX9_start_18 : decode cX9_start 18 = .ok (.ireturn, 1) := by decide +kernel
theorem dX9_start_19 : decode cX9_start 19 = .ok (.aload_n 0, 1) := by decide +kernel
theorem dX9_start_20 : decode cX9_start 20 = .ok (.getfield 47, 3) := by decide +kernel
theorem dX9_start_23 : decode cX9_start 23 = .ok (.aload_n 0, 1) := by decide +kernel
theorem dX9_start_24 : decode cX9_start 24 = .ok (.getfield 27, 3) := by decide +kernel
theorem dX9_start_27 : decode cX9_start 27 = .ok (.iload_n 2, 1) := by decide +kernel
theorem dX9_start_28 : decode cX9_start 28 = .ok (.iload_n 3, 1) := by decide +kernel
theorem dX9_start_29 : decode cX9_start 29 = .ok (.iload 4, 2) := by decide +kernel
theorem dX9_start_31 : decode cX9_start 31 = .ok (.invokevirtual 236, 3) := by decide +kernel
theorem dX9_start_34 : decode cX9_start 34 = .ok (.ireturn, 1) := by decide +kernel
theorem dX9_gate_0 : decode cX9_gate 0 = .ok (.aload_n 0, 1) := by decide +kernel
theorem dX9_gate_1 : decode cX9_gate 1 = .ok (.iload_n 2, 1) := by decide +kernel
theorem dX9_gate_2 : decode cX9_gate 2 = .ok (.invokevirtual 128, 3) := by decide +kernel
theorem dX9_gate_5 : decode cX9_gate 5 = .ok (.ifCond .eq 13, 3) := by decide +kernel
theorem dX9_gate_8 : decode cX9_gate 8 = .ok (.iload 5, 2) := by decide +kernel
theorem dX9_gate_10 : decode cX9_gate 10 = .ok (.iconst 0, 1) := by decide +kernel
theorem dX9_gate_11 : decode cX9_gate 11 = .ok (.iconst 3, 1) := by decide +kernel
theorem dX9_gate_12 : decode cX9_gate 12 = .ok (.invokestatic 131, 3) := by decide +kernel
theorem dX9_gate_15 : decode cX9_gate 15 = .ok (.ifCond .ne 5, 3) := by decide +kernel
theorem dX9_gate_18 : decode cX9_gate 18 = .ok (.iconst (-1), 1) := by decide +kernel
theorem dX9_gate_19 : decode cX9_gate 19 = .ok (.ireturn, 1) := by decide +kernel
theorem dX9_gate_20 : decode cX9_gate 20 = .ok (.aload_n 0, 1) := by decide +kernel
theorem dX9_gate_21 : decode cX9_gate 21 = .ok (.iload_n 1, 1) := by decide +kernel
theorem dX9_gate_22 : decode cX9_gate 22 = .ok (.iload_n 2, 1) := by decide +kernel
theorem dX9_gate_23 : decode cX9_gate 23 = .ok (.iload_n 3, 1) := by decide +kernel
theorem dX9_gate_24 : decode cX9_gate 24 = .ok (.iload 4, 2) := by decide +kernel
theorem dX9_gate_26 : decode cX9_gate 26 = .ok (.invokevirtual 232, 3) := by decide +kernel
theorem dX9_gate_29 : decode cX9_gate 29 = .ok (.istore 6, 2) := by decide +kernel
theorem dX9_gate_31 : decode cX9_gate 31 = .ok (.iload 6, 2) := by decide +kernel
theorem dX9_gate_33 : decode cX9_gate 33 = .ok (.ifCond .eq 6, 3) := by decide +kernel
theorem dX9_gate_36 : decode cX9_gate 36 = .ok (.iload 6, 2) := by decide +kernel
theorem dX9_gate_38 : decode cX9_gate 38 = .ok (.ireturn, 1) := by decide +kernel
theorem dX9_gate_39 : decode cX9_gate 39 = .ok (.aload_n 0, 1) := by decide +kernel
theorem dX9_gate_40 : decode cX9_gate 40 = .ok (.getfield 47, 3) := by decide +kernel
theorem dX9_gate_43 : decode cX9_gate 43 = .ok (.aload_n 0, 1) := by decide +kernel
theorem dX9_gate_44 : decode cX9_gate 44 = .ok (.getfield 27, 3) := by decide +kernel
theorem dX9_gate_47 : decode cX9_gate 47 = .ok (.iload_n 2, 1) := by decide +kernel
theorem dX9_gate_48 : decode cX9_gate 48 = .ok (.iload_n 3, 1) := by decide +kernel
theorem dX9_gate_49 : decode cX9_gate 49 = .ok (.iload 4, 2) := by decide +kernel
theorem dX9_gate_51 : decode cX9_gate 51 = .ok (.invokevirtual 236, 3) := by decide +kernel
theorem dX9_gate_54 : decode cX9_gate 54 = .ok (.bipush (-9), 2) := by decide +kernel
theorem dX9_gate_56 : decode cX9_gate 56 = .ok (.if_icmp .eq 18, 3) := by decide +kernel
theorem dX9_gate_59 : decode cX9_gate 59 = .ok (.iload 5, 2) := by decide +kernel
theorem dX9_gate_61 : decode cX9_gate 61 = .ok (.aload_n 0, 1) := by decide +kernel
theorem dX9_gate_62 : decode cX9_gate 62 = .ok (.getfield 47, 3) := by decide +kernel
theorem dX9_gate_65 : decode cX9_gate 65 = .ok (.getfield 240, 3) := by decide +kernel
theorem dX9_gate_68 : decode cX9_gate 68 = .ok (.getfield 244, 3) := by decide +kernel
theorem dX9_gate_71 : decode cX9_gate 71 = .ok (.if_icmp .lt 6, 3) := by decide +kernel
theorem dX9_gate_74 : decode cX9_gate 74 = .ok (.bipush (-9), 2) := by decide +kernel
theorem dX9_gate_76 : decode cX9_gate 76 = .ok (.ireturn, 1) := by decide +kernel
theorem dX9_gate_77 : decode cX9_gate 77 = .ok (.aload_n 0, 1) := by decide +kernel
theorem dX9_gate_78 : decode cX9_gate 78 = .ok (.getfield 47, 3) := by decide +kernel
theorem dX9_gate_81 : decode cX9_gate 81 = .ok (.getfield 249, 3) := by decide +kernel
theorem dX9_gate_84 : decode cX9_gate 84 = .ok (.iload 5, 2) := by decide +kernel
theorem dX9_gate_86 : decode cX9_gate 86 = .ok (.iaload, 1) := by decide +kernel
theorem dX9_gate_87 : decode cX9_gate 87 = .ok (.ireturn, 1) := by decide +kernel
theorem dX9_holds_0 : decode cX9_holds 0 = .ok (.iload_n 1, 1) := by decide +kernel
theorem dX9_holds_1 : decode cX9_holds 1 = .ok (.iconst 1, 1) := by decide +kernel
theorem dX9_holds_2 : decode cX9_holds 2 = .ok (.bipush 9, 2) := by decide +kernel
theorem dX9_holds_4 : decode cX9_holds 4 = .ok (.invokestatic 131, 3) := by decide +kernel
theorem dX9_holds_7 : decode cX9_holds 7 = .ok (.ifCond .ne 6, 3) := by decide +kernel
theorem dX9_holds_10 : decode cX9_holds 10 = .ok (.bipush (-2), 2) := by decide +kernel
theorem dX9_holds_12 : decode cX9_holds 12 = .ok (.ireturn, 1) := by decide +kernel
theorem dX9_holds_13 : decode cX9_holds 13 = .ok (.aload_n 0, 1) := by decide +kernel
theorem dX9_holds_14 : decode cX9_holds 14 = .ok (.getfield 58, 3) := by decide +kernel
theorem dX9_holds_17 : decode cX9_holds 17 = .ok (.istore_n 2, 1) := by decide +kernel
theorem dX9_holds_18 : decode cX9_holds 18 = .ok (.aload_n 0, 1) := by decide +kernel
theorem dX9_holds_19 : decode cX9_holds 19 = .ok (.iload_n 1, 1) := by decide +kernel
theorem dX9_holds_20 : decode cX9_holds 20 = .ok (.putfield 58, 3) := by decide +kernel
theorem dX9_holds_23 : decode cX9_holds 23 = .ok (.iload_n 2, 1) := by decide +kernel
theorem dX9_holds_24 : decode cX9_holds 24 = .ok (.ireturn, 1) := by decide +kernel
theorem dX9_grown_0 : decode cX9_grown 0 = .ok (.aload_n 0, 1) := by decide +kernel
theorem dX9_grown_1 : decode cX9_grown 1 = .ok (.iload_n 1, 1) := by decide +kernel
theorem dX9_grown_2 : decode cX9_grown 2 = .ok (.invokevirtual 200, 3) := by decide +kernel
theorem dX9_grown_5 : decode cX9_grown 5 = .ok (.ifCond .eq 11, 3) := by decide +kernel
theorem dX9_grown_8 : decode cX9_grown 8 = .ok (.aload_n 0, 1) := by decide +kernel
theorem dX9_grown_9 : decode cX9_grown 9 = .ok (.iload_n 1, 1) := by decide +kernel
theorem dX9_grown_10 : decode cX9_grown 10 = .ok (.invokevirtual 252, 3) := by decide +kernel
theorem dX9_grown_13 : decode cX9_grown 13 = .ok (.goto 5, 3) := by decide +kernel
theorem dX9_grown_16 : decode cX9_grown 16 = .ok (.bipush (-2), 2) := by decide +kernel
theorem dX9_grown_18 : decode cX9_grown 18 = .ok (.ireturn, 1) := by decide +kernel
theorem dX9_split_0 : decode cX9_split 0 = .ok (.aload_n 0, 1) := by decide +kernel
theorem dX9_split_1 : decode cX9_split 1 = .ok (.iload_n 2, 1) := by decide +kernel
theorem dX9_split_2 : decode cX9_split 2 = .ok (.invokevirtual 128, 3) := by decide +kernel
theorem dX9_split_5 : decode cX9_split 5 = .ok (.ifCond .ne 5, 3) := by decide +kernel
theorem dX9_split_8 : decode cX9_split 8 = .ok (.iconst (-1), 1) := by decide +kernel
theorem dX9_split_9 : decode cX9_split 9 = .ok (.ireturn, 1) := by decide +kernel
theorem dX9_split_10 : decode cX9_split 10 = .ok (.aload_n 0, 1) := by decide +kernel
theorem dX9_split_11 : decode cX9_split 11 = .ok (.iload_n 1, 1) := by decide +kernel
theorem dX9_split_12 : decode cX9_split 12 = .ok (.invokevirtual 200, 3) := by decide +kernel
theorem dX9_split_15 : decode cX9_split 15 = .ok (.ifCond .eq 26, 3) := by decide +kernel
theorem dX9_split_18 : decode cX9_split 18 = .ok (.iload_n 1, 1) := by decide +kernel
theorem dX9_split_19 : decode cX9_split 19 = .ok (.invokestatic 255, 3) := by decide +kernel
theorem dX9_split_22 : decode cX9_split 22 = .ok (.iconst 2, 1) := by decide +kernel
theorem dX9_split_23 : decode cX9_split 23 = .ok (.bipush 6, 2) := by decide +kernel
theorem dX9_split_25 : decode cX9_split 25 = .ok (.invokestatic 131, 3) := by decide +kernel
theorem dX9_split_28 : decode cX9_split 28 = .ok (.ifCond .eq 13, 3) := by decide +kernel
theorem dX9_split_31 : decode cX9_split 31 = .ok (.iload 5, 2) := by decide +kernel
theorem dX9_split_33 : decode cX9_split 33 = .ok (.iconst 0, 1) := by decide +kernel
theorem dX9_split_34 : decode cX9_split 34 = .ok (.iconst 3, 1) := by decide +kernel
theorem dX9_split_35 : decode cX9_split 35 = .ok (.invokestatic 131, 3) := by decide +kernel
theorem dX9_split_38 : decode cX9_split 38 = .ok (.ifCond .ne 6, 3) := by decide +kernel
theorem dX9_split_41 : decode cX9_split 41 = .ok (.bipush (-2), 2) := by decide +kernel
theorem dX9_split_43 : decode cX9_split 43 = .ok (.ireturn, 1) := by decide +kernel
theorem dX9_split_44 : decode cX9_split 44 = .ok (.aload_n 0, 1) := by decide +kernel
theorem dX9_split_45 : decode cX9_split 45 = .ok (.iload_n 1, 1) := by decide +kernel
theorem dX9_split_46 : decode cX9_split 46 = .ok (.iload_n 2, 1) := by decide +kernel
theorem dX9_split_47 : decode cX9_split 47 = .ok (.iload_n 3, 1) := by decide +kernel
theorem dX9_split_48 : decode cX9_split 48 = .ok (.iload 4, 2) := by decide +kernel
theorem dX9_split_50 : decode cX9_split 50 = .ok (.invokevirtual 232, 3) := by decide +kernel
theorem dX9_split_53 : decode cX9_split 53 = .ok (.istore 6, 2) := by decide +kernel
theorem dX9_split_55 : decode cX9_split 55 = .ok (.iload 6, 2) := by decide +kernel
theorem dX9_split_57 : decode cX9_split 57 = .ok (.ifCond .eq 6, 3) := by decide +kernel
theorem dX9_split_60 : decode cX9_split 60 = .ok (.iload 6, 2) := by decide +kernel
theorem dX9_split_62 : decode cX9_split 62 = .ok (.ireturn, 1) := by decide +kernel
theorem dX9_split_63 : decode cX9_split 63 = .ok (.aload_n 0, 1) := by decide +kernel
theorem dX9_split_64 : decode cX9_split 64 = .ok (.iload_n 1, 1) := by decide +kernel
theorem dX9_split_65 : decode cX9_split 65 = .ok (.iload_n 2, 1) := by decide +kernel
theorem dX9_split_66 : decode cX9_split 66 = .ok (.iload_n 3, 1) := by decide +kernel
theorem dX9_split_67 : decode cX9_split 67 = .ok (.iload 4, 2) := by decide +kernel
theorem dX9_split_69 : decode cX9_split 69 = .ok (.invokevirtual 260, 3) := by decide +kernel
theorem dX9_split_72 : decode cX9_split 72 = .ok (.ifCond .ne 6, 3) := by decide +kernel
theorem dX9_split_75 : decode cX9_split 75 = .ok (.bipush (-9), 2) := by decide +kernel
theorem dX9_split_77 : decode cX9_split 77 = .ok (.ireturn, 1) := by decide +kernel
theorem dX9_split_78 : decode cX9_split 78 = .ok (.iload 5, 2) := by decide +kernel
theorem dX9_split_80 : decode cX9_split 80 = .ok (.tableswitch 43 0 2 #[28, 33, 38], 28) := by decide +kernel
theorem dX9_split_108 : decode cX9_split 108 = .ok (.aload_n 0, 1) := by decide +kernel
theorem dX9_split_109 : decode cX9_split 109 = .ok (.getfield 81, 3) := by decide +kernel
theorem dX9_split_112 : decode cX9_split 112 = .ok (.ireturn, 1) := by decide +kernel
theorem dX9_split_113 : decode cX9_split 113 = .ok (.aload_n 0, 1) := by decide +kernel
theorem dX9_split_114 : decode cX9_split 114 = .ok (.getfield 84, 3) := by decide +kernel
theorem dX9_split_117 : decode cX9_split 117 = .ok (.ireturn, 1) := by decide +kernel
theorem dX9_split_118 : decode cX9_split 118 = .ok (.aload_n 0, 1) := by decide +kernel
theorem dX9_split_119 : decode cX9_split 119 = .ok (.getfield 87, 3) := by decide +kernel
theorem dX9_split_122 : decode cX9_split 122 = .ok (.ireturn, 1) := by decide +kernel
theorem dX9_split_123 : decode cX9_split 123 = .ok (.aload_n 0, 1) := by decide +kernel
theorem dX9_split_124 : decode cX9_split 124 = .ok (.getfield 84, 3) := by decide +kernel
theorem dX9_split_127 : decode cX9_split 127 = .ok (.aload_n 0, 1) := by decide +kernel
theorem dX9_split_128 : decode cX9_split 128 = .ok (.iload_n 1, 1) := by decide +kernel
theorem dX9_split_129 : decode cX9_split 129 = .ok (.invokevirtual 252, 3) := by decide +kernel
theorem dX9_split_132 : decode cX9_split 132 = .ok (.isub, 1) := by decide +kernel
theorem dX9_split_133 : decode cX9_split 133 = .ok (.ireturn, 1) := by decide +kernel
theorem dX9_ways_0 : decode cX9_ways 0 = .ok (.aload_n 0, 1) := by decide +kernel
theorem dX9_ways_1 : decode cX9_ways 1 = .ok (.iload_n 1, 1) := by decide +kernel
theorem dX9_ways_2 : decode cX9_ways 2 = .ok (.iload_n 2, 1) := by decide +kernel
theorem dX9_ways_3 : decode cX9_ways 3 = .ok (.invokevirtual 264, 3) := by decide +kernel
theorem dX9_ways_6 : decode cX9_ways 6 = .ok (.ifCond .ne 7, 3) := by decide +kernel
theorem dX9_ways_9 : decode cX9_ways 9 = .ok (.ldc2_w 198, 3) := by decide +kernel
theorem dX9_ways_12 : decode cX9_ways 12 = .ok (.lreturn, 1) := by decide +kernel
theorem dX9_ways_13 : decode cX9_ways 13 = .ok (.aload_n 0, 1) := by decide +kernel
theorem dX9_ways_14 : decode cX9_ways 14 = .ok (.getfield 54, 3) := by decide +kernel
theorem dX9_ways_17 : decode cX9_ways 17 = .ok (.aload_n 0, 1) := by decide +kernel
theorem dX9_ways_18 : decode cX9_ways 18 = .ok (.getfield 36, 3) := by decide +kernel
theorem dX9_ways_21 : decode cX9_ways 21 = .ok (.iload_n 1, 1) := by decide +kernel
theorem dX9_ways_22 : decode cX9_ways 22 = .ok (.iload_n 2, 1) := by decide +kernel
theorem dX9_ways_23 : decode cX9_ways 23 = .ok (.iconst 1, 1) := by decide +kernel
theorem dX9_ways_24 : decode cX9_ways 24 = .ok (.invokevirtual 267, 3) := by decide +kernel
theorem dX9_ways_27 : decode cX9_ways 27 = .ok (.aload_n 0, 1) := by decide +kernel
theorem dX9_ways_28 : decode cX9_ways 28 = .ok (.getfield 54, 3) := by decide +kernel
theorem dX9_ways_31 : decode cX9_ways 31 = .ok (.getfield 271, 3) := by decide +kernel
theorem dX9_ways_34 : decode cX9_ways 34 = .ok (.i2l, 1) := by decide +kernel
theorem dX9_ways_35 : decode cX9_ways 35 = .ok (.lreturn, 1) := by decide +kernel
theorem dX9_friendly_0 : decode cX9_friendly 0 = .ok (.aload_n 0, 1) := by decide +kernel
theorem dX9_friendly_1 : decode cX9_friendly 1 = .ok (.iload_n 1, 1) := by decide +kernel
theorem dX9_friendly_2 : decode cX9_friendly 2 = .ok (.iload_n 2, 1) := by decide +kernel
theorem dX9_friendly_3 : decode cX9_friendly 3 = .ok (.invokevirtual 264, 3) := by decide +kernel
theorem dX9_friendly_6 : decode cX9_friendly 6 = .ok (.ifCond .ne 6, 3) := by decide +kernel
theorem dX9_friendly_9 : decode cX9_friendly 9 = .ok (.bipush (-2), 2) := by decide +kernel
theorem dX9_friendly_11 : decode cX9_friendly 11 = .ok (.ireturn, 1) := by decide +kernel
theorem dX9_friendly_12 : decode cX9_friendly 12 = .ok (.iload_n 3, 1) := by decide +kernel
theorem dX9_friendly_13 : decode cX9_friendly 13 = .ok (.iconst (-1), 1) := by decide +kernel
theorem dX9_friendly_14 : decode cX9_friendly 14 = .ok (.bipush 7, 2) := by decide +kernel
theorem dX9_friendly_16 : decode cX9_friendly 16 = .ok (.invokestatic 131, 3) := by decide +kernel
theorem dX9_friendly_19 : decode cX9_friendly 19 = .ok (.ifCond .ne 5, 3) := by decide +kernel
theorem dX9_friendly_22 : decode cX9_friendly 22 = .ok (.iconst (-1), 1) := by decide +kernel
theorem dX9_friendly_23 : decode cX9_friendly 23 = .ok (.ireturn, 1) := by decide +kernel
theorem dX9_friendly_24 : decode cX9_friendly 24 = .ok (.aload_n 0, 1) := by decide +kernel
theorem dX9_friendly_25 : decode cX9_friendly 25 = .ok (.getfield 54, 3) := by decide +kernel
theorem dX9_friendly_28 : decode cX9_friendly 28 = .ok (.aload_n 0, 1) := by decide +kernel
theorem dX9_friendly_29 : decode cX9_friendly 29 = .ok (.getfield 36, 3) := by decide +kernel
theorem dX9_friendly_32 : decode cX9_friendly 32 = .ok (.iload_n 1, 1) := by decide +kernel
theorem dX9_friendly_33 : decode cX9_friendly 33 = .ok (.iload_n 2, 1) := by decide +kernel
theorem dX9_friendly_34 : decode cX9_friendly 34 = .ok (.iconst 0, 1) := by decide +kernel
theorem dX9_friendly_35 : decode cX9_friendly 35 = .ok (.invokevirtual 267, 3) := by decide +kernel
theorem dX9_friendly_38 : decode cX9_friendly 38 = .ok (.aload_n 0, 1) := by decide +kernel
theorem dX9_friendly_39 : decode cX9_friendly 39 = .ok (.getfield 54, 3) := by decide +kernel
theorem dX9_friendly_42 : decode cX9_friendly 42 = .ok (.getfield 274, 3) := by decide +kernel
theorem dX9_friendly_45 : decode cX9_friendly 45 = .ok (.ifCond .ge 6, 3) := by decide +kernel
theorem dX9_friendly_48 : decode cX9_friendly 48 = .ok (.bipush (-9), 2) := by decide +kernel
theorem dX9_friendly_50 : decode cX9_friendly 50 = .ok (.ireturn, 1) := by decide +kernel
theorem dX9_friendly_51 : decode cX9_friendly 51 = .ok (.iload_n 3, 1) := by decide +kernel
theorem dX9_friendly_52 : decode cX9_friendly 52 = .ok (.iconst (-1), 1) := by decide +kernel
theorem dX9_friendly_53 : decode cX9_friendly 53 = .ok (.if_icmp .ne 11, 3) := by decide +kernel
theorem dX9_friendly_56 : decode cX9_friendly 56 = .ok (.aload_n 0, 1) := by decide +kernel
theorem dX9_friendly_57 : decode cX9_friendly 57 = .ok (.getfield 54, 3) := by decide +kernel
theorem dX9_friendly_60 : decode cX9_friendly 60 = .ok (.getfield 274, 3) := by decide +kernel
theorem dX9_friendly_63 : decode cX9_friendly 63 = .ok (.ireturn, 1) := by decide +kernel
theorem dX9_friendly_64 : decode cX9_friendly 64 = .ok (.iload_n 3, 1) := by decide +kernel
theorem dX9_friendly_65 : decode cX9_friendly 65 = .ok (.aload_n 0, 1) := by decide +kernel
theorem dX9_friendly_66 : decode cX9_friendly 66 = .ok (.getfield 54, 3) := by decide +kernel
theorem dX9_friendly_69 : decode cX9_friendly 69 = .ok (.getfield 277, 3) := by decide +kernel
theorem dX9_friendly_72 : decode cX9_friendly 72 = .ok (.if_icmp .ge 15, 3) := by decide +kernel
theorem dX9_friendly_75 : decode cX9_friendly 75 = .ok (.aload_n 0, 1) := by decide +kernel
theorem dX9_friendly_76 : decode cX9_friendly 76 = .ok (.getfield 54, 3) := by decide +kernel
theorem dX9_friendly_79 : decode cX9_friendly 79 = .ok (.getfield 280, 3) := by decide +kernel
theorem dX9_friendly_82 : decode cX9_friendly 82 = .ok (.iload_n 3, 1) := by decide +kernel
theorem dX9_friendly_83 : decode cX9_friendly 83 = .ok (.iaload, 1) := by decide +kernel
theorem dX9_friendly_84 : decode cX9_friendly 84 = .ok (.goto 5, 3) := by decide +kernel
theorem dX9_friendly_87 : decode cX9_friendly 87 = .ok (.bipush (-9), 2) := by decide +kernel
theorem dX9_friendly_89 : decode cX9_friendly 89 = .ok (.ireturn, 1) := by decide +kernel
theorem dX9_loss_0 : decode cX9_loss 0 = .ok (.iload_n 1, 1) := by decide +kernel
theorem dX9_loss_1 : decode cX9_loss 1 = .ok (.iload_n 2, 1) := by decide +kernel
theorem dX9_loss_2 : decode cX9_loss 2 = .ok (.iload_n 3, 1) := by decide +kernel
theorem dX9_loss_3 : decode cX9_loss 3 = .ok (.invokestatic 283, 3) := by decide +kernel
theorem dX9_loss_6 : decode cX9_loss 6 = .ok (.ifCond .eq 24, 3) := by decide +kernel
theorem dX9_loss_9 : decode cX9_loss 9 = .ok (.iload 4, 2) := by decide +kernel
theorem dX9_loss_11 : decode cX9_loss 11 = .ok (.iconst 0, 1) := by decide +kernel
theorem dX9_loss_12 : decode cX9_loss 12 = .ok (.bipush 9, 2) := by decide +kernel
theorem dX9_loss_14 : decode cX9_loss 14 = .ok (.invokestatic 131, 3) := by decide +kernel
theorem dX9_loss_17 : decode cX9_loss 17 = .ok (.ifCond .eq 13, 3) := by decide +kernel
theorem dX9_loss_20 : decode cX9_loss 20 = .ok (.iload 5, 2) := by decide +kernel
theorem dX9_loss_22 : decode cX9_loss 22 = .ok (.iconst 0, 1) := by decide +kernel
theorem dX9_loss_23 : decode cX9_loss 23 = .ok (.iconst 1, 1) := by decide +kernel
theorem dX9_loss_24 : decode cX9_loss 24 = .ok (.invokestatic 131, 3) := by decide +kernel
theorem dX9_loss_27 : decode cX9_loss 27 = .ok (.ifCond .ne 7, 3) := by decide +kernel
theorem dX9_loss_30 : decode cX9_loss 30 = .ok (.ldc2_w 198, 3) := by decide +kernel
theorem dX9_loss_33 : decode cX9_loss 33 = .ok (.lreturn, 1) := by decide +kernel
theorem dX9_loss_34 : decode cX9_loss 34 = .ok (.iload_n 1, 1) := by decide +kernel
theorem dX9_loss_35 : decode cX9_loss 35 = .ok (.iload_n 2, 1) := by decide +kernel
theorem dX9_loss_36 : decode cX9_loss 36 = .ok (.iload_n 3, 1) := by decide +kernel
theorem dX9_loss_37 : decode cX9_loss 37 = .ok (.iload 4, 2) := by decide +kernel
theorem dX9_loss_39 : decode cX9_loss 39 = .ok (.invokestatic 286, 3) := by decide +kernel
theorem dX9_loss_42 : decode cX9_loss 42 = .ok (.iload_n 1, 1) := by decide +kernel
theorem dX9_loss_43 : decode cX9_loss 43 = .ok (.invokestatic 290, 3) := by decide +kernel
theorem dX9_loss_46 : decode cX9_loss 46 = .ok (.iload 5, 2) := by decide +kernel
theorem dX9_loss_48 : decode cX9_loss 48 = .ok (.invokestatic 224, 3) := by decide +kernel
theorem dX9_loss_51 : decode cX9_loss 51 = .ok (.lreturn, 1) := by decide +kernel
theorem dX9_patience_0 : decode cX9_patience 0 = .ok (.iload_n 1, 1) := by decide +kernel
theorem dX9_patience_1 : decode cX9_patience 1 = .ok (.iload_n 2, 1) := by decide +kernel
theorem dX9_patience_2 : decode cX9_patience 2 = .ok (.iload_n 3, 1) := by decide +kernel
theorem dX9_patience_3 : decode cX9_patience 3 = .ok (.invokestatic 283, 3) := by decide +kernel
theorem dX9_patience_6 : decode cX9_patience 6 = .ok (.ifCond .ne 6, 3) := by decide +kernel
theorem dX9_patience_9 : decode cX9_patience 9 = .ok (.bipush (-2), 2) := by decide +kernel
theorem dX9_patience_11 : decode cX9_patience 11 = .ok (.ireturn, 1) := by decide +kernel
theorem dX9_patience_12 : decode cX9_patience 12 = .ok (.iconst 0, 1) := by decide +kernel
theorem dX9_patience_13 : decode cX9_patience 13 = .ok (.istore 4, 2) := by decide +kernel
theorem dX9_patience_15 : decode cX9_patience 15 = .ok (.iload_n 1, 1) := by decide +kernel
theorem dX9_patience_16 : decode cX9_patience 16 = .ok (.iload_n 2, 1) := by decide +kernel
theorem dX9_patience_17 : decode cX9_patience 17 = .ok (.iload_n 3, 1) := by decide +kernel
theorem dX9_patience_18 : decode cX9_patience 18 = .ok (.iconst 0, 1) := by decide +kernel
theorem dX9_patience_19 : decode cX9_patience 19 = .ok (.invokestatic 286, 3) := by decide +kernel
theorem dX9_patience_22 : decode cX9_patience 22 = .ok (.lstore 5, 2) := by decide +kernel
theorem dX9_patience_24 : decode cX9_patience 24 = .ok (.iconst 1, 1) := by decide +kernel
theorem dX9_patience_25 : decode cX9_patience 25 = .ok (.istore 7, 2) := by decide +kernel
theorem dX9_patience_27 : decode cX9_patience 27 = .ok (.iload 7, 2) := by decide +kernel
theorem dX9_patience_29 : decode cX9_patience 29 = .ok (.bipush 9, 2) := by decide +kernel
theorem dX9_patience_31 : decode cX9_patience 31 = .ok (.if_icmp .gt 35, 3) := by decide +kernel
theorem dX9_patience_34 : decode cX9_patience 34 = .ok (.iload_n 1, 1) := by decide +kernel
theorem dX9_patience_35 : decode cX9_patience 35 = .ok (.iload_n 2, 1) := by decide +kernel
theorem dX9_patience_36 : decode cX9_patience 36 = .ok (.iload_n 3, 1) := by decide +kernel
theorem dX9_patience_37 : decode cX9_patience 37 = .ok (.iload 7, 2) := by decide +kernel
theorem dX9_patience_39 : decode cX9_patience 39 = .ok (.invokestatic 286, 3) := by decide +kernel
theorem dX9_patience_42 : decode cX9_patience 42 = .ok (.lstore 8, 2) := by decide +kernel
theorem dX9_patience_44 : decode cX9_patience 44 = .ok (.lload 8, 2) := by decide +kernel
theorem dX9_patience_46 : decode cX9_patience 46 = .ok (.lload 5, 2) := by decide +kernel
theorem dX9_patience_48 : decode cX9_patience 48 = .ok (.lcmp, 1) := by decide +kernel
theorem dX9_patience_49 : decode cX9_patience 49 = .ok (.ifCond .ge 11, 3) := by decide +kernel
theorem dX9_patience_52 : decode cX9_patience 52 = .ok (.lload 8, 2) := by decide +kernel
theorem dX9_patience_54 : decode cX9_patience 54 = .ok (.lstore 5, 2) := by decide +kernel
theorem dX9_patience_56 : decode cX9_patience 56 = .ok (.iload 7, 2) := by decide +kernel
theorem dX9_patience_58 : decode cX9_patience 58 = .ok (.istore 4, 2) := by decide +kernel
theorem dX9_patience_60 : decode cX9_patience 60 = .ok (.iinc 7 1, 3) := by decide +kernel
theorem dX9_patience_63 : decode cX9_patience 63 = .ok (.goto (-36), 3) := by decide +kernel
theorem dX9_patience_66 : decode cX9_patience 66 = .ok (.iload 4, 2) := by decide +kernel
theorem dX9_patience_68 : decode cX9_patience 68 = .ok (.ireturn, 1) := by decide +kernel
theorem dX9_helper_0 : decode cX9_helper 0 = .ok (.iload_n 1, 1) := by decide +kernel
theorem dX9_helper_1 : decode cX9_helper 1 = .ok (.iconst 0, 1) := by decide +kernel
theorem dX9_helper_2 : decode cX9_helper 2 = .ok (.bipush 31, 2) := by decide +kernel
theorem dX9_helper_4 : decode cX9_helper 4 = .ok (.invokestatic 131, 3) := by decide +kernel
theorem dX9_helper_7 : decode cX9_helper 7 = .ok (.ifCond .ne 6, 3) := by decide +kernel
theorem dX9_helper_10 : decode cX9_helper 10 = .ok (.bipush (-2), 2) := by decide +kernel
theorem dX9_helper_12 : decode cX9_helper 12 = .ok (.ireturn, 1) := by decide +kernel
theorem dX9_helper_13 : decode cX9_helper 13 = .ok (.aload_n 0, 1) := by decide +kernel
theorem dX9_helper_14 : decode cX9_helper 14 = .ok (.getfield 65, 3) := by decide +kernel
theorem dX9_helper_17 : decode cX9_helper 17 = .ok (.iconst 5, 1) := by decide +kernel
theorem dX9_helper_18 : decode cX9_helper 18 = .ok (.if_icmp .lt 6, 3) := by decide +kernel
theorem dX9_helper_21 : decode cX9_helper 21 = .ok (.bipush (-4), 2) := by decide +kernel
theorem dX9_helper_23 : decode cX9_helper 23 = .ok (.ireturn, 1) := by decide +kernel
theorem dX9_helper_24 : decode cX9_helper 24 = .ok (.aload_n 0, 1) := by decide +kernel
theorem dX9_helper_25 : decode cX9_helper 25 = .ok (.getfield 61, 3) := by decide +kernel
theorem dX9_helper_28 : decode cX9_helper 28 = .ok (.aload_n 0, 1) := by decide +kernel
theorem dX9_helper_29 : decode cX9_helper 29 = .ok (.getfield 65, 3) := by decide +kernel
theorem dX9_helper_32 : decode cX9_helper 32 = .ok (.iload_n 1, 1) := by decide +kernel
theorem dX9_helper_33 : decode cX9_helper 33 = .ok (.iastore, 1) := by decide +kernel
theorem dX9_helper_34 : decode cX9_helper 34 = .ok (.aload_n 0, 1) := by decide +kernel
theorem dX9_helper_35 : decode cX9_helper 35 = .ok (.dup, 1) := by decide +kernel
theorem dX9_helper_36 : decode cX9_helper 36 = .ok (.getfield 65, 3) := by decide +kernel
theorem dX9_helper_39 : decode cX9_helper 39 = .ok (.iconst 1, 1) := by decide +kernel
theorem dX9_helper_40 : decode cX9_helper 40 = .ok (.iadd, 1) := by decide +kernel
theorem dX9_helper_41 : decode cX9_helper 41 = .ok (.putfield 65, 3) := by decide +kernel
theorem dX9_helper_44 : decode cX9_helper 44 = .ok (.aload_n 0, 1) := by decide +kernel
theorem dX9_helper_45 : decode cX9_helper 45 = .ok (.getfield 65, 3) := by decide +kernel
theorem dX9_helper_48 : decode cX9_helper 48 = .ok (.iconst 1, 1) := by decide +kernel
theorem dX9_helper_49 : decode cX9_helper 49 = .ok (.isub, 1) := by decide +kernel
theorem dX9_helper_50 : decode cX9_helper 50 = .ok (.ireturn, 1) := by decide +kernel
theorem dX9_days_0 : decode cX9_days 0 = .ok (.iload_n 1, 1) := by decide +kernel
theorem dX9_days_1 : decode cX9_days 1 = .ok (.ifCond .lt 11, 3) := by decide +kernel
theorem dX9_days_4 : decode cX9_days 4 = .ok (.iload_n 1, 1) := by decide +kernel
theorem dX9_days_5 : decode cX9_days 5 = .ok (.aload_n 0, 1) := by decide +kernel
theorem dX9_days_6 : decode cX9_days 6 = .ok (.getfield 65, 3) := by decide +kernel
theorem dX9_days_9 : decode cX9_days 9 = .ok (.if_icmp .lt 5, 3) := by decide +kernel
theorem dX9_days_12 : decode cX9_days 12 = .ok (.iconst (-1), 1) := by decide +kernel
theorem dX9_days_13 : decode cX9_days 13 = .ok (.ireturn, 1) := by decide +kernel
theorem dX9_days_14 : decode cX9_days 14 = .ok (.iload_n 2, 1) := by decide +kernel
theorem dX9_days_15 : decode cX9_days 15 = .ok (.iconst 0, 1) := by decide +kernel
theorem dX9_days_16 : decode cX9_days 16 = .ok (.bipush 31, 2) := by decide +kernel
theorem dX9_days_18 : decode cX9_days 18 = .ok (.invokestatic 131, 3) := by decide +kernel
theorem dX9_days_21 : decode cX9_days 21 = .ok (.ifCond .ne 6, 3) := by decide +kernel
theorem dX9_days_24 : decode cX9_days 24 = .ok (.bipush (-2), 2) := by decide +kernel
theorem dX9_days_26 : decode cX9_days 26 = .ok (.ireturn, 1) := by decide +kernel
theorem dX9_days_27 : decode cX9_days 27 = .ok (.aload_n 0, 1) := by decide +kernel
theorem dX9_days_28 : decode cX9_days 28 = .ok (.getfield 61, 3) := by decide +kernel
theorem dX9_days_31 : decode cX9_days 31 = .ok (.iload_n 1, 1) := by decide +kernel
theorem dX9_days_32 : decode cX9_days 32 = .ok (.iaload, 1) := by decide +kernel
theorem dX9_days_33 : decode cX9_days 33 = .ok (.istore_n 3, 1) := by decide +kernel
theorem dX9_days_34 : decode cX9_days 34 = .ok (.aload_n 0, 1) := by decide +kernel
theorem dX9_days_35 : decode cX9_days 35 = .ok (.getfield 61, 3) := by decide +kernel
theorem dX9_days_38 : decode cX9_days 38 = .ok (.iload_n 1, 1) := by decide +kernel
theorem dX9_days_39 : decode cX9_days 39 = .ok (.iload_n 2, 1) := by decide +kernel
theorem dX9_days_40 : decode cX9_days 40 = .ok (.iastore, 1) := by decide +kernel
theorem dX9_days_41 : decode cX9_days 41 = .ok (.iload_n 3, 1) := by decide +kernel
theorem dX9_days_42 : decode cX9_days 42 = .ok (.ireturn, 1) := by decide +kernel
theorem dX9_week_0 : decode cX9_week 0 = .ok (.iload_n 1, 1) := by decide +kernel
theorem dX9_week_1 : decode cX9_week 1 = .ok (.iconst 0, 1) := by decide +kernel
theorem dX9_week_2 : decode cX9_week 2 = .ok (.iconst 3, 1) := by decide +kernel
theorem dX9_week_3 : decode cX9_week 3 = .ok (.invokestatic 131, 3) := by decide +kernel
theorem dX9_week_6 : decode cX9_week 6 = .ok (.ifCond .ne 6, 3) := by decide +kernel
theorem dX9_week_9 : decode cX9_week 9 = .ok (.bipush (-2), 2) := by decide +kernel
theorem dX9_week_11 : decode cX9_week 11 = .ok (.ireturn, 1) := by decide +kernel
theorem dX9_week_12 : decode cX9_week 12 = .ok (.iload_n 2, 1) := by decide +kernel
theorem dX9_week_13 : decode cX9_week 13 = .ok (.iconst (-1), 1) := by decide +kernel
theorem dX9_week_14 : decode cX9_week 14 = .ok (.iconst 4, 1) := by decide +kernel
theorem dX9_week_15 : decode cX9_week 15 = .ok (.invokestatic 131, 3) := by decide +kernel
theorem dX9_week_18 : decode cX9_week 18 = .ok (.ifCond .ne 5, 3) := by decide +kernel
theorem dX9_week_21 : decode cX9_week 21 = .ok (.iconst (-1), 1) := by decide +kernel
theorem dX9_week_22 : decode cX9_week 22 = .ok (.ireturn, 1) := by decide +kernel
theorem dX9_week_23 : decode cX9_week 23 = .ok (.aload_n 0, 1) := by decide +kernel
theorem dX9_week_24 : decode cX9_week 24 = .ok (.getfield 71, 3) := by decide +kernel
theorem dX9_week_27 : decode cX9_week 27 = .ok (.aload_n 0, 1) := by decide +kernel
theorem dX9_week_28 : decode cX9_week 28 = .ok (.getfield 61, 3) := by decide +kernel
theorem dX9_week_31 : decode cX9_week 31 = .ok (.aload_n 0, 1) := by decide +kernel
theorem dX9_week_32 : decode cX9_week 32 = .ok (.getfield 65, 3) := by decide +kernel
theorem dX9_week_35 : decode cX9_week 35 = .ok (.iload_n 1, 1) := by decide +kernel
theorem dX9_week_36 : decode cX9_week 36 = .ok (.invokevirtual 293, 3) := by decide +kernel
theorem dX9_week_39 : decode cX9_week 39 = .ok (.aload_n 0, 1) := by decide +kernel
theorem dX9_week_40 : decode cX9_week 40 = .ok (.getfield 71, 3) := by decide +kernel
theorem dX9_week_43 : decode cX9_week 43 = .ok (.getfield 297, 3) := by decide +kernel
theorem dX9_week_46 : decode cX9_week 46 = .ok (.bipush (-9), 2) := by decide +kernel
theorem dX9_week_48 : decode cX9_week 48 = .ok (.if_icmp .ne 6, 3) := by decide +kernel
theorem dX9_week_51 : decode cX9_week 51 = .ok (.bipush (-9), 2) := by decide +kernel
theorem dX9_week_53 : decode cX9_week 53 = .ok (.ireturn, 1) := by decide +kernel
theorem dX9_week_54 : decode cX9_week 54 = .ok (.iload_n 2, 1) := by decide +kernel
theorem dX9_week_55 : decode cX9_week 55 = .ok (.iconst (-1), 1) := by decide +kernel
theorem dX9_week_56 : decode cX9_week 56 = .ok (.if_icmp .ne 13, 3) := by decide +kernel
theorem dX9_week_59 : decode cX9_week 59 = .ok (.aload_n 0, 1) := by decide +kernel
theorem dX9_week_60 : decode cX9_week 60 = .ok (.getfield 71, 3) := by decide +kernel
theorem dX9_week_63 : decode cX9_week 63 = .ok (.getfield 297, 3) := by decide +kernel
theorem dX9_week_66 : decode cX9_week 66 = .ok (.goto 12, 3) := by decide +kernel
theorem dX9_week_69 : decode cX9_week 69 = .ok (.aload_n 0, 1) := by decide +kernel
theorem dX9_week_70 : decode cX9_week 70 = .ok (.getfield 71, 3) := by decide +kernel
theorem dX9_week_73 : decode cX9_week 73 = .ok (.getfield 300, 3) := by decide +kernel
theorem dX9_week_76 : decode cX9_week 76 = .ok (.iload_n 2, 1) := by decide +kernel
theorem dX9_week_77 : decode cX9_week 77 = .ok (.iaload, 1) := by decide +kernel
theorem dX9_week_78 : decode cX9_week 78 = .ok (.ireturn, 1) := by decide +kernel
theorem dX9_sheet_0 : decode cX9_sheet 0 = .ok (.aload_n 0, 1) := by decide +kernel
theorem dX9_sheet_1 : decode cX9_sheet 1 = .ok (.iconst 0, 1) := by decide +kernel
theorem dX9_sheet_2 : decode cX9_sheet 2 = .ok (.putfield 78, 3) := by decide +kernel
theorem dX9_sheet_5 : decode cX9_sheet 5 = .ok (.iload_n 1, 1) := by decide +kernel
theorem dX9_sheet_6 : decode cX9_sheet 6 = .ok (.invokestatic 92, 3) := by decide +kernel
theorem dX9_sheet_9 : decode cX9_sheet 9 = .ok (.ifCond .ne 5, 3) := by decide +kernel
theorem dX9_sheet_12 : decode cX9_sheet 12 = .ok (.iconst (-1), 1) := by decide +kernel
theorem dX9_sheet_13 : decode cX9_sheet 13 = .ok (.ireturn, 1) := by decide +kernel
theorem dX9_sheet_14 : decode cX9_sheet 14 = .ok (.iload_n 2, 1) := by decide +kernel
theorem dX9_sheet_15 : decode cX9_sheet 15 = .ok (.invokestatic 96, 3) := by decide +kernel
theorem dX9_sheet_18 : decode cX9_sheet 18 = .ok (.ifCond .eq 9, 3) := by decide +kernel
theorem dX9_sheet_21 : decode cX9_sheet 21 = .ok (.iload_n 3, 1) := by decide +kernel
theorem dX9_sheet_22 : decode cX9_sheet 22 = .ok (.bipush 100, 2) := by decide +kernel
theorem dX9_sheet_24 : decode cX9_sheet 24 = .ok (.if_icmp .le 6, 3) := by decide +kernel
theorem dX9_sheet_27 : decode cX9_sheet 27 = .ok (.bipush (-2), 2) := by decide +kernel
theorem dX9_sheet_29 : decode cX9_sheet 29 = .ok (.ireturn, 1) := by decide +kernel
theorem dX9_sheet_30 : decode cX9_sheet 30 = .ok (.iload_n 3, 1) := by decide +kernel
theorem dX9_sheet_31 : decode cX9_sheet 31 = .ok (.ifCond .ge 9, 3) := by decide +kernel
theorem dX9_sheet_34 : decode cX9_sheet 34 = .ok (.aload_n 0, 1) := by decide +kernel
theorem dX9_sheet_35 : decode cX9_sheet 35 = .ok (.iconst 4, 1) := by decide +kernel
theorem dX9_sheet_36 : decode cX9_sheet 36 = .ok (.invokevirtual 303, 3) := by decide +kernel
theorem dX9_sheet_39 : decode cX9_sheet 39 = .ok (.ireturn, 1) := by decide +kernel
theorem dX9_sheet_40 : decode cX9_sheet 40 = .ok (.aload_n 0, 1) := by decide +kernel
theorem dX9_sheet_41 : decode cX9_sheet 41 = .ok (.getfield 13, 3) := by decide +kernel
theorem dX9_sheet_44 : decode cX9_sheet 44 = .ok (.iload_n 1, 1) := by decide +kernel
theorem dX9_sheet_45 : decode cX9_sheet 45 = .ok (.aaload, 1) := by decide +kernel
theorem dX9_sheet_46 : decode cX9_sheet 46 = .ok (.iload_n 2, 1) := by decide +kernel
theorem dX9_sheet_47 : decode cX9_sheet 47 = .ok (.iload_n 3, 1) := by decide +kernel
theorem dX9_sheet_48 : decode cX9_sheet 48 = .ok (.invokevirtual 306, 3) := by decide +kernel
theorem dX9_sheet_51 : decode cX9_sheet 51 = .ok (.iconst 1, 1) := by decide +kernel
theorem dX9_sheet_52 : decode cX9_sheet 52 = .ok (.ireturn, 1) := by decide +kernel
theorem dX9_lose_0 : decode cX9_lose 0 = .ok (.iload_n 1, 1) := by decide +kernel
theorem dX9_lose_1 : decode cX9_lose 1 = .ok (.invokestatic 92, 3) := by decide +kernel
theorem dX9_lose_4 : decode cX9_lose 4 = .ok (.ifCond .ne 5, 3) := by decide +kernel
theorem dX9_lose_7 : decode cX9_lose 7 = .ok (.iconst (-1), 1) := by decide +kernel
theorem dX9_lose_8 : decode cX9_lose 8 = .ok (.ireturn, 1) := by decide +kernel
theorem dX9_lose_9 : decode cX9_lose 9 = .ok (.aload_n 0, 1) := by decide +kernel
theorem dX9_lose_10 : decode cX9_lose 10 = .ok (.getfield 13, 3) := by decide +kernel
theorem dX9_lose_13 : decode cX9_lose 13 = .ok (.iload_n 1, 1) := by decide +kernel
theorem dX9_lose_14 : decode cX9_lose 14 = .ok (.aaload, 1) := by decide +kernel
theorem dX9_lose_15 : decode cX9_lose 15 = .ok (.getfield 309, 3) := by decide +kernel
theorem dX9_lose_18 : decode cX9_lose 18 = .ok (.ifCond .eq 7, 3) := by decide +kernel
theorem dX9_lose_21 : decode cX9_lose 21 = .ok (.iconst 1, 1) := by decide +kernel
theorem dX9_lose_22 : decode cX9_lose 22 = .ok (.goto 4, 3) := by decide +kernel
theorem dX9_lose_25 : decode cX9_lose 25 = .ok (.iconst 0, 1) := by decide +kernel
theorem dX9_lose_26 : decode cX9_lose 26 = .ok (.istore_n 2, 1) := by decide +kernel
theorem dX9_lose_27 : decode cX9_lose 27 = .ok (.aload_n 0, 1) := by decide +kernel
theorem dX9_lose_28 : decode cX9_lose 28 = .ok (.getfield 13, 3) := by decide +kernel
theorem dX9_lose_31 : decode cX9_lose 31 = .ok (.iload_n 1, 1) := by decide +kernel
theorem dX9_lose_32 : decode cX9_lose 32 = .ok (.aaload, 1) := by decide +kernel
theorem dX9_lose_33 : decode cX9_lose 33 = .ok (.iconst 0, 1) := by decide +kernel
theorem dX9_lose_34 : decode cX9_lose 34 = .ok (.putfield 309, 3) := by decide +kernel
theorem dX9_lose_37 : decode cX9_lose 37 = .ok (.iload_n 2, 1) := by decide +kernel
theorem dX9_lose_38 : decode cX9_lose 38 = .ok (.ireturn, 1) := by decide +kernel
theorem dX9_put_0 : decode cX9_put 0 = .ok (.aload_n 0, 1) := by decide +kernel
theorem dX9_put_1 : decode cX9_put 1 = .ok (.iconst 0, 1) := by decide +kernel
theorem dX9_put_2 : decode cX9_put 2 = .ok (.putfield 78, 3) := by decide +kernel
theorem dX9_put_5 : decode cX9_put 5 = .ok (.iload_n 1, 1) := by decide +kernel
theorem dX9_put_6 : decode cX9_put 6 = .ok (.invokestatic 92, 3) := by decide +kernel
theorem dX9_put_9 : decode cX9_put 9 = .ok (.ifCond .ne 5, 3) := by decide +kernel
theorem dX9_put_12 : decode cX9_put 12 = .ok (.iconst (-1), 1) := by decide +kernel
theorem dX9_put_13 : decode cX9_put 13 = .ok (.ireturn, 1) := by decide +kernel
theorem dX9_put_14 : decode cX9_put 14 = .ok (.aload_n 0, 1) := by decide +kernel
theorem dX9_put_15 : decode cX9_put 15 = .ok (.getfield 13, 3) := by decide +kernel
theorem dX9_put_18 : decode cX9_put 18 = .ok (.iload_n 1, 1) := by decide +kernel
theorem dX9_put_19 : decode cX9_put 19 = .ok (.aaload, 1) := by decide +kernel
theorem dX9_put_20 : decode cX9_put 20 = .ok (.getfield 309, 3) := by decide +kernel
theorem dX9_put_23 : decode cX9_put 23 = .ok (.ifCond .ne 9, 3) := by decide +kernel
theorem dX9_put_26 : decode cX9_put 26 = .ok (.aload_n 0, 1) := by decide +kernel
theorem dX9_put_27 : decode cX9_put 27 = .ok (.iconst 1, 1) := by decide +kernel
theorem dX9_put_28 : decode cX9_put 28 = .ok (.invokevirtual 303, 3) := by decide +kernel
theorem dX9_put_31 : decode cX9_put 31 = .ok (.ireturn, 1) := by decide +kernel
theorem dX9_put_32 : decode cX9_put 32 = .ok (.aload_n 0, 1) := by decide +kernel
theorem dX9_put_33 : decode cX9_put 33 = .ok (.getfield 13, 3) := by decide +kernel
theorem dX9_put_36 : decode cX9_put 36 = .ok (.iload_n 1, 1) := by decide +kernel
theorem dX9_put_37 : decode cX9_put 37 = .ok (.aaload, 1) := by decide +kernel
theorem dX9_put_38 : decode cX9_put 38 = .ok (.iload_n 2, 1) := by decide +kernel
theorem dX9_put_39 : decode cX9_put 39 = .ok (.iconst 1, 1) := by decide +kernel
theorem dX9_put_40 : decode cX9_put 40 = .ok (.invokevirtual 313, 3) := by decide +kernel
theorem dX9_put_43 : decode cX9_put 43 = .ok (.ifCond .ne 9, 3) := by decide +kernel
theorem dX9_put_46 : decode cX9_put 46 = .ok (.aload_n 0, 1) := by decide +kernel
theorem dX9_put_47 : decode cX9_put 47 = .ok (.iconst 3, 1) := by decide +kernel
theorem dX9_put_48 : decode cX9_put 48 = .ok (.invokevirtual 303, 3) := by decide +kernel
theorem dX9_put_51 : decode cX9_put 51 = .ok (.ireturn, 1) := by decide +kernel
theorem dX9_put_52 : decode cX9_put 52 = .ok (.aload_n 0, 1) := by decide +kernel
theorem dX9_put_53 : decode cX9_put 53 = .ok (.getfield 13, 3) := by decide +kernel
theorem dX9_put_56 : decode cX9_put 56 = .ok (.iload_n 1, 1) := by decide +kernel
theorem dX9_put_57 : decode cX9_put 57 = .ok (.aaload, 1) := by decide +kernel
theorem dX9_put_58 : decode cX9_put 58 = .ok (.iload_n 2, 1) := by decide +kernel
theorem dX9_put_59 : decode cX9_put 59 = .ok (.iload_n 3, 1) := by decide +kernel
theorem dX9_put_60 : decode cX9_put 60 = .ok (.invokevirtual 316, 3) := by decide +kernel
theorem dX9_put_63 : decode cX9_put 63 = .ok (.iconst 1, 1) := by decide +kernel
theorem dX9_put_64 : decode cX9_put 64 = .ok (.ireturn, 1) := by decide +kernel
theorem dX9_cell_0 : decode cX9_cell 0 = .ok (.aload_n 0, 1) := by decide +kernel
theorem dX9_cell_1 : decode cX9_cell 1 = .ok (.iconst 0, 1) := by decide +kernel
theorem dX9_cell_2 : decode cX9_cell 2 = .ok (.putfield 78, 3) := by decide +kernel
theorem dX9_cell_5 : decode cX9_cell 5 = .ok (.iload_n 1, 1) := by decide +kernel
theorem dX9_cell_6 : decode cX9_cell 6 = .ok (.invokestatic 92, 3) := by decide +kernel
theorem dX9_cell_9 : decode cX9_cell 9 = .ok (.ifCond .eq 10, 3) := by decide +kernel
theorem dX9_cell_12 : decode cX9_cell 12 = .ok (.iload_n 3, 1) := by decide +kernel
theorem dX9_cell_13 : decode cX9_cell 13 = .ok (.invokestatic 96, 3) := by decide +kernel
theorem dX9_cell_16 : decode cX9_cell 16 = .ok (.ifCond .ne 7, 3) := by decide +kernel
theorem dX9_cell_19 : decode cX9_cell 19 = .ok (.ldc2_w 198, 3) := by decide +kernel
theorem dX9_cell_22 : decode cX9_cell 22 = .ok (.lreturn, 1) := by decide +kernel
theorem dX9_cell_23 : decode cX9_cell 23 = .ok (.aload_n 0, 1) := by decide +kernel
theorem dX9_cell_24 : decode cX9_cell 24 = .ok (.aload_n 0, 1) := by decide +kernel
theorem dX9_cell_25 : decode cX9_cell 25 = .ok (.getfield 13, 3) := by decide +kernel
theorem dX9_cell_28 : decode cX9_cell 28 = .ok (.iload_n 1, 1) := by decide +kernel
theorem dX9_cell_29 : decode cX9_cell 29 = .ok (.aaload, 1) := by decide +kernel
theorem dX9_cell_30 : decode cX9_cell 30 = .ok (.iload_n 3, 1) := by decide +kernel
theorem dX9_cell_31 : decode cX9_cell 31 = .ok (.iload_n 2, 1) := by decide +kernel
theorem dX9_cell_32 : decode cX9_cell 32 = .ok (.iconst 1, 1) := by decide +kernel
theorem dX9_cell_33 : decode cX9_cell 33 = .ok (.invokevirtual 99, 3) := by decide +kernel
theorem dX9_cell_36 : decode cX9_cell 36 = .ok (.putfield 78, 3) := by decide +kernel
theorem dX9_cell_39 : decode cX9_cell 39 = .ok (.aload_n 0, 1) := by decide +kernel
theorem dX9_cell_40 : decode cX9_cell 40 = .ok (.getfield 78, 3) := by decide +kernel
theorem dX9_cell_43 : decode cX9_cell 43 = .ok (.ifCond .ne 17, 3) := by decide +kernel
theorem dX9_cell_46 : decode cX9_cell 46 = .ok (.aload_n 0, 1) := by decide +kernel
theorem dX9_cell_47 : decode cX9_cell 47 = .ok (.getfield 13, 3) := by decide +kernel
theorem dX9_cell_50 : decode cX9_cell 50 = .ok (.iload_n 1, 1) := by decide +kernel
theorem dX9_cell_51 : decode cX9_cell 51 = .ok (.aaload, 1) := by decide +kernel
theorem dX9_cell_52 : decode cX9_cell 52 = .ok (.iload_n 2, 1) := by decide +kernel
theorem dX9_cell_53 : decode cX9_cell 53 = .ok (.invokevirtual 319, 3) := by decide +kernel
theorem dX9_cell_56 : decode cX9_cell 56 = .ok (.i2l, 1) := by decide +kernel
theorem dX9_cell_57 : decode cX9_cell 57 = .ok (.goto 6, 3) := by decide +kernel
theorem dX9_cell_60 : decode cX9_cell 60 = .ok (.ldc2_w 198, 3) := by decide +kernel
theorem dX9_cell_63 : decode cX9_cell 63 = .ok (.lreturn, 1) := by decide +kernel
theorem dX9_copy_0 : decode cX9_copy 0 = .ok (.aload_n 0, 1) := by decide +kernel
theorem dX9_copy_1 : decode cX9_copy 1 = .ok (.iconst 0, 1) := by decide +kernel
theorem dX9_copy_2 : decode cX9_copy 2 = .ok (.putfield 78, 3) := by decide +kernel
theorem dX9_copy_5 : decode cX9_copy 5 = .ok (.iload_n 1, 1) := by decide +kernel
theorem dX9_copy_6 : decode cX9_copy 6 = .ok (.invokestatic 92, 3) := by decide +kernel
theorem dX9_copy_9 : decode cX9_copy 9 = .ok (.ifCond .eq 10, 3) := by decide +kernel
theorem dX9_copy_12 : decode cX9_copy 12 = .ok (.iload_n 3, 1) := by decide +kernel
theorem dX9_copy_13 : decode cX9_copy 13 = .ok (.invokestatic 92, 3) := by decide +kernel
theorem dX9_copy_16 : decode cX9_copy 16 = .ok (.ifCond .ne 5, 3) := by decide +kernel
theorem dX9_copy_19 : decode cX9_copy 19 = .ok (.iconst (-1), 1) := by decide +kernel
theorem dX9_copy_20 : decode cX9_copy 20 = .ok (.ireturn, 1) := by decide +kernel
theorem dX9_copy_21 : decode cX9_copy 21 = .ok (.aload_n 0, 1) := by decide +kernel
theorem dX9_copy_22 : decode cX9_copy 22 = .ok (.getfield 13, 3) := by decide +kernel
theorem dX9_copy_25 : decode cX9_copy 25 = .ok (.iload_n 1, 1) := by decide +kernel
theorem dX9_copy_26 : decode cX9_copy 26 = .ok (.aaload, 1) := by decide +kernel
theorem dX9_copy_27 : decode cX9_copy 27 = .ok (.astore 6, 2) := by decide +kernel
theorem dX9_copy_29 : decode cX9_copy 29 = .ok (.aload_n 0, 1) := by decide +kernel
theorem dX9_copy_30 : decode cX9_copy 30 = .ok (.getfield 13, 3) := by decide +kernel
theorem dX9_copy_33 : decode cX9_copy 33 = .ok (.iload_n 3, 1) := by decide +kernel
theorem dX9_copy_34 : decode cX9_copy 34 = .ok (.aaload, 1) := by decide +kernel
theorem dX9_copy_35 : decode cX9_copy 35 = .ok (.astore 7, 2) := by decide +kernel
theorem dX9_copy_37 : decode cX9_copy 37 = .ok (.aload 6, 2) := by decide +kernel
theorem dX9_copy_39 : decode cX9_copy 39 = .ok (.getfield 309, 3) := by decide +kernel
theorem dX9_copy_42 : decode cX9_copy 42 = .ok (.ifCond .eq 11, 3) := by decide +kernel
theorem dX9_copy_45 : decode cX9_copy 45 = .ok (.aload 7, 2) := by decide +kernel
theorem dX9_copy_47 : decode cX9_copy 47 = .ok (.getfield 309, 3) := by decide +kernel
theorem dX9_copy_50 : decode cX9_copy 50 = .ok (.ifCond .ne 9, 3) := by decide +kernel
theorem dX9_copy_53 : decode cX9_copy 53 = .ok (.aload_n 0, 1) := by decide +kernel
theorem dX9_copy_54 : decode cX9_copy 54 = .ok (.iconst 1, 1) := by decide +kernel
theorem dX9_copy_55 : decode cX9_copy 55 = .ok (.invokevirtual 303, 3) := by decide +kernel
theorem dX9_copy_58 : decode cX9_copy 58 = .ok (.ireturn, 1) := by decide +kernel
theorem dX9_copy_59 : decode cX9_copy 59 = .ok (.aload 6, 2) := by decide +kernel
theorem dX9_copy_61 : decode cX9_copy 61 = .ok (.getfield 322, 3) := by decide +kernel
theorem dX9_copy_64 : decode cX9_copy 64 = .ok (.aload 7, 2) := by decide +kernel
theorem dX9_copy_66 : decode cX9_copy 66 = .ok (.getfield 322, 3) := by decide +kernel
theorem dX9_copy_69 : decode cX9_copy 69 = .ok (.if_icmp .eq 9, 3) := by decide +kernel
theorem dX9_copy_72 : decode cX9_copy 72 = .ok (.aload_n 0, 1) := by decide +kernel
theorem dX9_copy_73 : decode cX9_copy 73 = .ok (.iconst 2, 1) := by decide +kernel
theorem dX9_copy_74 : decode cX9_copy 74 = .ok (.invokevirtual 303, 3) := by decide +kernel
theorem dX9_copy_77 : decode cX9_copy 77 = .ok (.ireturn, 1) := by decide +kernel
theorem dX9_copy_78 : decode cX9_copy 78 = .ok (.aload 6, 2) := by decide +kernel
theorem dX9_copy_80 : decode cX9_copy 80 = .ok (.iload_n 2, 1) := by decide +kernel
theorem dX9_copy_81 : decode cX9_copy 81 = .ok (.iload 5, 2) := by decide +kernel
theorem dX9_copy_83 : decode cX9_copy 83 = .ok (.invokevirtual 313, 3) := by decide +kernel
theorem dX9_copy_86 : decode cX9_copy 86 = .ok (.ifCond .eq 15, 3) := by decide +kernel
theorem dX9_copy_89 : decode cX9_copy 89 = .ok (.aload 7, 2) := by decide +kernel
theorem dX9_copy_91 : decode cX9_copy 91 = .ok (.iload 4, 2) := by decide +kernel
theorem dX9_copy_93 : decode cX9_copy 93 = .ok (.iload 5, 2) := by decide +kernel
theorem dX9_copy_95 : decode cX9_copy 95 = .ok (.invokevirtual 313, 3) := by decide +kernel
theorem dX9_copy_98 : decode cX9_copy 98 = .ok (.ifCond .ne 9, 3) := by decide +kernel
theorem dX9_copy_101 : decode cX9_copy 101 = .ok (.aload_n 0, 1) := by decide +kernel
theorem dX9_copy_102 : decode cX9_copy 102 = .ok (.iconst 3, 1) := by decide +kernel
theorem dX9_copy_103 : decode cX9_copy 103 = .ok (.invokevirtual 303, 3) := by decide +kernel
theorem dX9_copy_106 : decode cX9_copy 106 = .ok (.ireturn, 1) := by decide +kernel
theorem dX9_copy_107 : decode cX9_copy 107 = .ok (.aload 6, 2) := by decide +kernel
theorem dX9_copy_109 : decode cX9_copy 109 = .ok (.getfield 325, 3) := by decide +kernel
theorem dX9_copy_112 : decode cX9_copy 112 = .ok (.iload_n 2, 1) := by decide +kernel
theorem dX9_copy_113 : decode cX9_copy 113 = .ok (.aload 7, 2) := by decide +kernel
theorem dX9_copy_115 : decode cX9_copy 115 = .ok (.getfield 325, 3) := by decide +kernel
theorem dX9_copy_118 : decode cX9_copy 118 = .ok (.iload 4, 2) := by decide +kernel
theorem dX9_copy_120 : decode cX9_copy 120 = .ok (.iload 5, 2) := by decide +kernel
theorem dX9_copy_122 : decode cX9_copy 122 = .ok (.invokestatic 328, 3) := by decide +kernel
theorem dX9_copy_125 : decode cX9_copy 125 = .ok (.iload 5, 2) := by decide +kernel
theorem dX9_copy_127 : decode cX9_copy 127 = .ok (.ireturn, 1) := by decide +kernel
theorem dX9_tell_0 : decode cX9_tell 0 = .ok (.aload_n 0, 1) := by decide +kernel
theorem dX9_tell_1 : decode cX9_tell 1 = .ok (.iload_n 1, 1) := by decide +kernel
theorem dX9_tell_2 : decode cX9_tell 2 = .ok (.invokevirtual 162, 3) := by decide +kernel
theorem dX9_tell_5 : decode cX9_tell 5 = .ok (.ifCond .ne 5, 3) := by decide +kernel
theorem dX9_tell_8 : decode cX9_tell 8 = .ok (.iconst (-1), 1) := by decide +kernel
theorem dX9_tell_9 : decode cX9_tell 9 = .ok (.ireturn, 1) := by decide +kernel
theorem dX9_tell_10 : decode cX9_tell 10 = .ok (.aload_n 0, 1) := by decide +kernel
theorem dX9_tell_11 : decode cX9_tell 11 = .ok (.getfield 36, 3) := by decide +kernel
theorem dX9_tell_14 : decode cX9_tell 14 = .ok (.iload_n 1, 1) := by decide +kernel
theorem dX9_tell_15 : decode cX9_tell 15 = .ok (.aaload, 1) := by decide +kernel
theorem dX9_tell_16 : decode cX9_tell 16 = .ok (.astore_n 2, 1) := by decide +kernel
theorem dX9_tell_17 : decode cX9_tell 17 = .ok (.aload_n 2, 1) := by decide +kernel
theorem dX9_tell_18 : decode cX9_tell 18 = .ok (.getfield 165, 3) := by decide +kernel
theorem dX9_tell_21 : decode cX9_tell 21 = .ok (.iconst 2, 1) := by decide +kernel
theorem dX9_tell_22 : decode cX9_tell 22 = .ok (.if_icmp .ne 9, 3) := by decide +kernel
theorem dX9_tell_25 : decode cX9_tell 25 = .ok (.aload_n 0, 1) := by decide +kernel
theorem dX9_tell_26 : decode cX9_tell 26 = .ok (.aload_n 2, 1) := by decide +kernel
theorem dX9_tell_27 : decode cX9_tell 27 = .ok (.invokevirtual 334, 3) := by decide +kernel
theorem dX9_tell_30 : decode cX9_tell 30 = .ok (.ireturn, 1) := by decide +kernel
theorem dX9_tell_31 : decode cX9_tell 31 = .ok (.aload_n 2, 1) := by decide +kernel
theorem dX9_tell_32 : decode cX9_tell 32 = .ok (.getfield 165, 3) := by decide +kernel
theorem dX9_tell_35 : decode cX9_tell 35 = .ok (.iconst 1, 1) := by decide +kernel
theorem dX9_tell_36 : decode cX9_tell 36 = .ok (.if_icmp .ne 11, 3) := by decide +kernel
theorem dX9_tell_39 : decode cX9_tell 39 = .ok (.aload_n 0, 1) := by decide +kernel
theorem dX9_tell_40 : decode cX9_tell 40 = .ok (.aload_n 2, 1) := by decide +kernel
theorem dX9_tell_41 : decode cX9_tell 41 = .ok (.invokevirtual 338, 3) := by decide +kernel
theorem dX9_tell_44 : decode cX9_tell 44 = .ok (.goto 8, 3) := by decide +kernel
theorem dX9_tell_47 : decode cX9_tell 47 = .ok (.aload_n 0, 1) := by decide +kernel
theorem dX9_tell_48 : decode cX9_tell 48 = .ok (.aload_n 2, 1) := by decide +kernel
theorem dX9_tell_49 : decode cX9_tell 49 = .ok (.invokevirtual 341, 3) := by decide +kernel
theorem dX9_tell_52 : decode cX9_tell 52 = .ok (.ireturn, 1) := by decide +kernel
theorem dX9_tag_0 : decode cX9_tag 0 = .ok (.aload_n 0, 1) := by decide +kernel
theorem dX9_tag_1 : decode cX9_tag 1 = .ok (.iload_n 1, 1) := by decide +kernel
theorem dX9_tag_2 : decode cX9_tag 2 = .ok (.invokevirtual 162, 3) := by decide +kernel
theorem dX9_tag_5 : decode cX9_tag 5 = .ok (.ifCond .ne 5, 3) := by decide +kernel
theorem dX9_tag_8 : decode cX9_tag 8 = .ok (.iconst (-1), 1) := by decide +kernel
theorem dX9_tag_9 : decode cX9_tag 9 = .ok (.ireturn, 1) := by decide +kernel
theorem dX9_tag_10 : decode cX9_tag 10 = .ok (.aload_n 0, 1) := by decide +kernel
theorem dX9_tag_11 : decode cX9_tag 11 = .ok (.getfield 36, 3) := by decide +kernel
theorem dX9_tag_14 : decode cX9_tag 14 = .ok (.iload_n 1, 1) := by decide +kernel
theorem dX9_tag_15 : decode cX9_tag 15 = .ok (.aaload, 1) := by decide +kernel
theorem dX9_tag_16 : decode cX9_tag 16 = .ok (.getfield 165, 3) := by decide +kernel
theorem dX9_tag_19 : decode cX9_tag 19 = .ok (.iconst 2, 1) := by decide +kernel
theorem dX9_tag_20 : decode cX9_tag 20 = .ok (.if_icmp .ne 11, 3) := by decide +kernel
theorem dX9_tag_23 : decode cX9_tag 23 = .ok (.aload_n 0, 1) := by decide +kernel
theorem dX9_tag_24 : decode cX9_tag 24 = .ok (.iconst 5, 1) := by decide +kernel
theorem dX9_tag_25 : decode cX9_tag 25 = .ok (.invokevirtual 344, 3) := by decide +kernel
theorem dX9_tag_28 : decode cX9_tag 28 = .ok (.bipush 60, 2) := by decide +kernel
theorem dX9_tag_30 : decode cX9_tag 30 = .ok (.ireturn, 1) := by decide +kernel
theorem dX9_tag_31 : decode cX9_tag 31 = .ok (.aload_n 0, 1) := by decide +kernel
theorem dX9_tag_32 : decode cX9_tag 32 = .ok (.iconst 4, 1) := by decide +kernel
theorem dX9_tag_33 : decode cX9_tag 33 = .ok (.invokevirtual 344, 3) := by decide +kernel
theorem dX9_tag_36 : decode cX9_tag 36 = .ok (.iload_n 1, 1) := by decide +kernel
theorem dX9_tag_37 : decode cX9_tag 37 = .ok (.ireturn, 1) := by decide +kernel
theorem dX9_as_0 : decode cX9_as 0 = .ok (.aload_n 0, 1) := by decide +kernel
theorem dX9_as_1 : decode cX9_as 1 = .ok (.iconst 0, 1) := by decide +kernel
theorem dX9_as_2 : decode cX9_as 2 = .ok (.putfield 78, 3) := by decide +kernel
theorem dX9_as_5 : decode cX9_as 5 = .ok (.aload_n 0, 1) := by decide +kernel
theorem dX9_as_6 : decode cX9_as 6 = .ok (.iload_n 1, 1) := by decide +kernel
theorem dX9_as_7 : decode cX9_as 7 = .ok (.invokevirtual 162, 3) := by decide +kernel
theorem dX9_as_10 : decode cX9_as 10 = .ok (.ifCond .ne 5, 3) := by decide +kernel
theorem dX9_as_13 : decode cX9_as 13 = .ok (.iconst (-1), 1) := by decide +kernel
theorem dX9_as_14 : decode cX9_as 14 = .ok (.ireturn, 1) := by decide +kernel
theorem dX9_as_15 : decode cX9_as 15 = .ok (.iload_n 2, 1) := by decide +kernel
theorem dX9_as_16 : decode cX9_as 16 = .ok (.invokestatic 152, 3) := by decide +kernel
theorem dX9_as_19 : decode cX9_as 19 = .ok (.ifCond .ne 6, 3) := by decide +kernel
theorem dX9_as_22 : decode cX9_as 22 = .ok (.bipush (-2), 2) := by decide +kernel
theorem dX9_as_24 : decode cX9_as 24 = .ok (.ireturn, 1) := by decide +kernel
theorem dX9_as_25 : decode cX9_as 25 = .ok (.aload_n 0, 1) := by decide +kernel
theorem dX9_as_26 : decode cX9_as 26 = .ok (.getfield 36, 3) := by decide +kernel
theorem dX9_as_29 : decode cX9_as 29 = .ok (.iload_n 1, 1) := by decide +kernel
theorem dX9_as_30 : decode cX9_as 30 = .ok (.aaload, 1) := by decide +kernel
theorem dX9_as_31 : decode cX9_as 31 = .ok (.getfield 165, 3) := by decide +kernel
theorem dX9_as_34 : decode cX9_as 34 = .ok (.iload_n 2, 1) := by decide +kernel
theorem dX9_as_35 : decode cX9_as 35 = .ok (.if_icmp .lt 7, 3) := by decide +kernel
theorem dX9_as_38 : decode cX9_as 38 = .ok (.iconst 1, 1) := by decide +kernel
theorem dX9_as_39 : decode cX9_as 39 = .ok (.goto 8, 3) := by decide +kernel
theorem dX9_as_42 : decode cX9_as 42 = .ok (.aload_n 0, 1) := by decide +kernel
theorem dX9_as_43 : decode cX9_as 43 = .ok (.iconst 2, 1) := by decide +kernel
theorem dX9_as_44 : decode cX9_as 44 = .ok (.invokevirtual 303, 3) := by decide +kernel
theorem dX9_as_47 : decode cX9_as 47 = .ok (.ireturn, 1) := by decide +kernel
theorem dX9_trace_0 : decode cX9_trace 0 = .ok (.aload_n 0, 1) := by decide +kernel
theorem dX9_trace_1 : decode cX9_trace 1 = .ok (.getfield 75, 3) := by decide +kernel
theorem dX9_trace_4 : decode cX9_trace 4 = .ok (.ireturn, 1) := by decide +kernel
theorem dX9_fault_0 : decode cX9_fault 0 = .ok (.aload_n 0, 1) := by decide +kernel
theorem dX9_fault_1 : decode cX9_fault 1 = .ok (.getfield 78, 3) := by decide +kernel
theorem dX9_fault_4 : decode cX9_fault 4 = .ok (.ireturn, 1) := by decide +kernel
theorem dX9_many_0 : decode cX9_many 0 = .ok (.iload_n 1, 1) := by decide +kernel
theorem dX9_many_1 : decode cX9_many 1 = .ok (.tableswitch 89 0 6 #[43, 51, 59, 67, 72, 77, 83], 43) := by decide +kernel
theorem dX9_many_44 : decode cX9_many 44 = .ok (.aload_n 0, 1) := by decide +kernel
theorem dX9_many_45 : decode cX9_many 45 = .ok (.getfield 27, 3) := by decide +kernel
theorem dX9_many_48 : decode cX9_many 48 = .ok (.getfield 348, 3) := by decide +kernel
theorem dX9_many_51 : decode cX9_many 51 = .ok (.ireturn, 1) := by decide +kernel
theorem dX9_many_52 : decode cX9_many 52 = .ok (.aload_n 0, 1) := by decide +kernel
theorem dX9_many_53 : decode cX9_many 53 = .ok (.getfield 27, 3) := by decide +kernel
theorem dX9_many_56 : decode cX9_many 56 = .ok (.getfield 110, 3) := by decide +kernel
theorem dX9_many_59 : decode cX9_many 59 = .ok (.ireturn, 1) := by decide +kernel
theorem dX9_many_60 : decode cX9_many 60 = .ok (.aload_n 0, 1) := by decide +kernel
theorem dX9_many_61 : decode cX9_many 61 = .ok (.getfield 27, 3) := by decide +kernel
theorem dX9_many_64 : decode cX9_many 64 = .ok (.invokevirtual 351, 3) := by decide +kernel
theorem dX9_many_67 : decode cX9_many 67 = .ok (.ireturn, 1) := by decide +kernel
theorem dX9_many_68 : decode cX9_many 68 = .ok (.aload_n 0, 1) := by decide +kernel
theorem dX9_many_69 : decode cX9_many 69 = .ok (.getfield 40, 3) := by decide +kernel
theorem dX9_many_72 : decode cX9_many 72 = .ok (.ireturn, 1) := by decide +kernel
theorem dX9_many_73 : decode cX9_many 73 = .ok (.aload_n 0, 1) := by decide +kernel
theorem dX9_many_74 : decode cX9_many 74 = .ok (.getfield 65, 3) := by decide +kernel
theorem dX9_many_77 : decode cX9_many 77 = .ok (.ireturn, 1) := by decide +kernel
theorem dX9_many_78 : decode cX9_many 78 = .ok (.aload_n 0, 1) := by decide +kernel
theorem dX9_many_79 : decode cX9_many 79 = .ok (.iconst 1, 1) := by decide +kernel
theorem dX9_many_80 : decode cX9_many 80 = .ok (.invokevirtual 354, 3) := by decide +kernel
theorem dX9_many_83 : decode cX9_many 83 = .ok (.ireturn, 1) := by decide +kernel
theorem dX9_many_84 : decode cX9_many 84 = .ok (.aload_n 0, 1) := by decide +kernel
theorem dX9_many_85 : decode cX9_many 85 = .ok (.iconst 2, 1) := by decide +kernel
theorem dX9_many_86 : decode cX9_many 86 = .ok (.invokevirtual 354, 3) := by decide +kernel
theorem dX9_many_89 : decode cX9_many 89 = .ok (.ireturn, 1) := by decide +kernel
theorem dX9_many_90 : decode cX9_many 90 = .ok (.bipush (-2), 2) := by decide +kernel
theorem dX9_many_92 : decode cX9_many 92 = .ok (.ireturn, 1) := by decide +kernel
theorem dX9_isWithin_0 : decode cX9_isWithin 0 = .ok (.iload_n 0, 1) := by decide +kernel
theorem dX9_isWithin_1 : decode cX9_isWithin 1 = .ok (.iload_n 1, 1) := by decide +kernel
theorem dX9_isWithin_2 : decode cX9_isWithin 2 = .ok (.if_icmp .lt 12, 3) := by decide +kernel
theorem dX9_isWithin_5 : decode cX9_isWithin 5 = .ok (.iload_n 0, 1) := by decide +kernel
theorem dX9_isWithin_6 : decode cX9_isWithin 6 = .ok (.iload_n 2, 1) := by decide +kernel
theorem dX9_isWithin_7 : decode cX9_isWithin 7 = .ok (.if_icmp .gt 7, 3) := by decide +kernel
theorem dX9_isWithin_10 : decode cX9_isWithin 10 = .ok (.iconst 1, 1) := by decide +kernel
theorem dX9_isWithin_11 : decode cX9_isWithin 11 = .ok (.goto 4, 3) := by decide +kernel
theorem dX9_isWithin_14 : decode cX9_isWithin 14 = .ok (.iconst 0, 1) := by decide +kernel
theorem dX9_isWithin_15 : decode cX9_isWithin 15 = .ok (.ireturn, 1) := by decide +kernel
theorem dX9_isSheet_0 : decode cX9_isSheet 0 = .ok (.iload_n 0, 1) := by decide +kernel
theorem dX9_isSheet_1 : decode cX9_isSheet 1 = .ok (.iconst 0, 1) := by decide +kernel
theorem dX9_isSheet_2 : decode cX9_isSheet 2 = .ok (.iconst 3, 1) := by decide +kernel
theorem dX9_isSheet_3 : decode cX9_isSheet 3 = .ok (.invokestatic 131, 3) := by decide +kernel
theorem dX9_isSheet_6 : decode cX9_isSheet 6 = .ok (.ireturn, 1) := by decide +kernel
theorem dX9_isSort_0 : decode cX9_isSort 0 = .ok (.iload_n 0, 1) := by decide +kernel
theorem dX9_isSort_1 : decode cX9_isSort 1 = .ok (.iconst 0, 1) := by decide +kernel
theorem dX9_isSort_2 : decode cX9_isSort 2 = .ok (.iconst 2, 1) := by decide +kernel
theorem dX9_isSort_3 : decode cX9_isSort 3 = .ok (.invokestatic 131, 3) := by decide +kernel
theorem dX9_isSort_6 : decode cX9_isSort 6 = .ok (.ireturn, 1) := by decide +kernel
theorem dX9_isKind_0 : decode cX9_isKind 0 = .ok (.iload_n 0, 1) := by decide +kernel
theorem dX9_isKind_1 : decode cX9_isKind 1 = .ok (.iconst 0, 1) := by decide +kernel
theorem dX9_isKind_2 : decode cX9_isKind 2 = .ok (.iconst 2, 1) := by decide +kernel
theorem dX9_isKind_3 : decode cX9_isKind 3 = .ok (.invokestatic 131, 3) := by decide +kernel
theorem dX9_isKind_6 : decode cX9_isKind 6 = .ok (.ireturn, 1) := by decide +kernel
theorem dX9_isAge_0 : decode cX9_isAge 0 = .ok (.iload_n 0, 1) := by decide +kernel
theorem dX9_isAge_1 : decode cX9_isAge 1 = .ok (.iconst 4, 1) := by decide +kernel
theorem dX9_isAge_2 : decode cX9_isAge 2 = .ok (.bipush 11, 2) := by decide +kernel
theorem dX9_isAge_4 : decode cX9_isAge 4 = .ok (.invokestatic 131, 3) := by decide +kernel
theorem dX9_isAge_7 : decode cX9_isAge 7 = .ok (.ireturn, 1) := by decide +kernel
theorem dX9_isMinute_0 : decode cX9_isMinute 0 = .ok (.iload_n 0, 1) := by decide +kernel
theorem dX9_isMinute_1 : decode cX9_isMinute 1 = .ok (.iconst 0, 1) := by decide +kernel
theorem dX9_isMinute_2 : decode cX9_isMinute 2 = .ok (.sipush 200, 3) := by decide +kernel
theorem dX9_isMinute_5 : decode cX9_isMinute 5 = .ok (.invokestatic 131, 3) := by decide +kernel
theorem dX9_isMinute_8 : decode cX9_isMinute 8 = .ok (.ireturn, 1) := by decide +kernel
theorem dX9_isCorner_0 : decode cX9_isCorner 0 = .ok (.iload_n 1, 1) := by decide +kernel
theorem dX9_isCorner_1 : decode cX9_isCorner 1 = .ok (.ifCond .lt 18, 3) := by decide +kernel
theorem dX9_isCorner_4 : decode cX9_isCorner 4 = .ok (.iload_n 1, 1) := by decide +kernel
theorem dX9_isCorner_5 : decode cX9_isCorner 5 = .ok (.aload_n 0, 1) := by decide +kernel
theorem dX9_isCorner_6 : decode cX9_isCorner 6 = .ok (.getfield 27, 3) := by decide +kernel
theorem dX9_isCorner_9 : decode cX9_isCorner 9 = .ok (.getfield 348, 3) := by decide +kernel
theorem dX9_isCorner_12 : decode cX9_isCorner 12 = .ok (.if_icmp .ge 7, 3) := by decide +kernel
theorem dX9_isCorner_15 : decode cX9_isCorner 15 = .ok (.iconst 1, 1) := by decide +kernel
theorem dX9_isCorner_16 : decode cX9_isCorner 16 = .ok (.goto 4, 3) := by decide +kernel
theorem dX9_isCorner_19 : decode cX9_isCorner 19 = .ok (.iconst 0, 1) := by decide +kernel
theorem dX9_isCorner_20 : decode cX9_isCorner 20 = .ok (.ireturn, 1) := by decide +kernel
theorem dX9_isChild_0 : decode cX9_isChild 0 = .ok (.iload_n 1, 1) := by decide +kernel
theorem dX9_isChild_1 : decode cX9_isChild 1 = .ok (.ifCond .lt 15, 3) := by decide +kernel
theorem dX9_isChild_4 : decode cX9_isChild 4 = .ok (.iload_n 1, 1) := by decide +kernel
theorem dX9_isChild_5 : decode cX9_isChild 5 = .ok (.aload_n 0, 1) := by decide +kernel
theorem dX9_isChild_6 : decode cX9_isChild 6 = .ok (.getfield 40, 3) := by decide +kernel
theorem dX9_isChild_9 : decode cX9_isChild 9 = .ok (.if_icmp .ge 7, 3) := by decide +kernel
theorem dX9_isChild_12 : decode cX9_isChild 12 = .ok (.iconst 1, 1) := by decide +kernel
theorem dX9_isChild_13 : decode cX9_isChild 13 = .ok (.goto 4, 3) := by decide +kernel
theorem dX9_isChild_16 : decode cX9_isChild 16 = .ok (.iconst 0, 1) := by decide +kernel
theorem dX9_isChild_17 : decode cX9_isChild 17 = .ok (.ireturn, 1) := by decide +kernel
theorem dX9_isSet_0 : decode cX9_isSet 0 = .ok (.iload_n 1, 1) := by decide +kernel
theorem dX9_isSet_1 : decode cX9_isSet 1 = .ok (.ifCond .le 16, 3) := by decide +kernel
theorem dX9_isSet_4 : decode cX9_isSet 4 = .ok (.iload_n 1, 1) := by decide +kernel
theorem dX9_isSet_5 : decode cX9_isSet 5 = .ok (.aload_n 0, 1) := by decide +kernel
theorem dX9_isSet_6 : decode cX9_isSet 6 = .ok (.getfield 40, 3) := by decide +kernel
theorem dX9_isSet_9 : decode cX9_isSet 9 = .ok (.ishr, 1) := by decide +kernel
theorem dX9_isSet_10 : decode cX9_isSet 10 = .ok (.ifCond .ne 7, 3) := by decide +kernel
theorem dX9_isSet_13 : decode cX9_isSet 13 = .ok (.iconst 1, 1) := by decide +kernel
theorem dX9_isSet_14 : decode cX9_isSet 14 = .ok (.goto 4, 3) := by decide +kernel
theorem dX9_isSet_17 : decode cX9_isSet 17 = .ok (.iconst 0, 1) := by decide +kernel
theorem dX9_isSet_18 : decode cX9_isSet 18 = .ok (.ireturn, 1) := by decide +kernel
theorem dX9_isRopeFor_0 : decode cX9_isRopeFor 0 = .ok (.aload_n 0, 1) := by decide +kernel
theorem dX9_isRopeFor_1 : decode cX9_isRopeFor 1 = .ok (.iload_n 1, 1) := by decide +kernel
theorem dX9_isRopeFor_2 : decode cX9_isRopeFor 2 = .ok (.invokevirtual 200, 3) := by decide +kernel
theorem dX9_isRopeFor_5 : decode cX9_isRopeFor 5 = .ok (.ifCond .eq 23, 3) := by decide +kernel
theorem dX9_isRopeFor_8 : decode cX9_isRopeFor 8 = .ok (.iload_n 1, 1) := by decide +kernel
theorem dX9_isRopeFor_9 : decode cX9_isRopeFor 9 = .ok (.invokestatic 255, 3) := by decide +kernel
theorem dX9_isRopeFor_12 : decode cX9_isRopeFor 12 = .ok (.bipush 8, 2) := by decide +kernel
theorem dX9_isRopeFor_14 : decode cX9_isRopeFor 14 = .ok (.if_icmp .gt 14, 3) := by decide +kernel
theorem dX9_isRopeFor_17 : decode cX9_isRopeFor 17 = .ok (.iload_n 2, 1) := by decide +kernel
theorem dX9_isRopeFor_18 : decode cX9_isRopeFor 18 = .ok (.invokestatic 155, 3) := by decide +kernel
theorem dX9_isRopeFor_21 : decode cX9_isRopeFor 21 = .ok (.ifCond .eq 7, 3) := by decide +kernel
theorem dX9_isRopeFor_24 : decode cX9_isRopeFor 24 = .ok (.iconst 1, 1) := by decide +kernel
theorem dX9_isRopeFor_25 : decode cX9_isRopeFor 25 = .ok (.goto 4, 3) := by decide +kernel
theorem dX9_isRopeFor_28 : decode cX9_isRopeFor 28 = .ok (.iconst 0, 1) := by decide +kernel
theorem dX9_isRopeFor_29 : decode cX9_isRopeFor 29 = .ok (.ireturn, 1) := by decide +kernel
theorem dX9_isWait_0 : decode cX9_isWait 0 = .ok (.iload_n 0, 1) := by decide +kernel
theorem dX9_isWait_1 : decode cX9_isWait 1 = .ok (.iconst 1, 1) := by decide +kernel
theorem dX9_isWait_2 : decode cX9_isWait 2 = .ok (.ldc_w 357, 3) := by decide +kernel
theorem dX9_isWait_5 : decode cX9_isWait 5 = .ok (.invokestatic 131, 3) := by decide +kernel
theorem dX9_isWait_8 : decode cX9_isWait 8 = .ok (.ifCond .eq 27, 3) := by decide +kernel
theorem dX9_isWait_11 : decode cX9_isWait 11 = .ok (.iload_n 1, 1) := by decide +kernel
theorem dX9_isWait_12 : decode cX9_isWait 12 = .ok (.iconst 1, 1) := by decide +kernel
theorem dX9_isWait_13 : decode cX9_isWait 13 = .ok (.bipush 9, 2) := by decide +kernel
theorem dX9_isWait_15 : decode cX9_isWait 15 = .ok (.invokestatic 131, 3) := by decide +kernel
theorem dX9_isWait_18 : decode cX9_isWait 18 = .ok (.ifCond .eq 17, 3) := by decide +kernel
theorem dX9_isWait_21 : decode cX9_isWait 21 = .ok (.iload_n 2, 1) := by decide +kernel
theorem dX9_isWait_22 : decode cX9_isWait 22 = .ok (.iconst 0, 1) := by decide +kernel
theorem dX9_isWait_23 : decode cX9_isWait 23 = .ok (.bipush 99, 2) := by decide +kernel
theorem dX9_isWait_25 : decode cX9_isWait 25 = .ok (.invokestatic 131, 3) := by decide +kernel
theorem dX9_isWait_28 : decode cX9_isWait 28 = .ok (.ifCond .eq 7, 3) := by decide +kernel
theorem dX9_isWait_31 : decode cX9_isWait 31 = .ok (.iconst 1, 1) := by decide +kernel
theorem dX9_isWait_32 : decode cX9_isWait 32 = .ok (.goto 4, 3) := by decide +kernel
theorem dX9_isWait_35 : decode cX9_isWait 35 = .ok (.iconst 0, 1) := by decide +kernel
theorem dX9_isWait_36 : decode cX9_isWait 36 = .ok (.ireturn, 1) := by decide +kernel
theorem dX9_fail_0 : decode cX9_fail 0 = .ok (.aload_n 0, 1) := by decide +kernel
theorem dX9_fail_1 : decode cX9_fail 1 = .ok (.iload_n 1, 1) := by decide +kernel
theorem dX9_fail_2 : decode cX9_fail 2 = .ok (.putfield 78, 3) := by decide +kernel
theorem dX9_fail_5 : decode cX9_fail 5 = .ok (.bipush (-10), 2) := by decide +kernel
theorem dX9_fail_7 : decode cX9_fail 7 = .ok (.iload_n 1, 1) := by decide +kernel
theorem dX9_fail_8 : decode cX9_fail 8 = .ok (.isub, 1) := by decide +kernel
theorem dX9_fail_9 : decode cX9_fail 9 = .ok (.ireturn, 1) := by decide +kernel
theorem dX9_moveToSpareTown_0 : decode cX9_moveToSpareTown 0 = .ok (.aload_n 0, 1) := by decide +kernel
theorem dX9_moveToSpareTown_1 : decode cX9_moveToSpareTown 1 = .ok (.getfield 27, 3) := by decide +kernel
theorem dX9_moveToSpareTown_4 : decode cX9_moveToSpareTown 4 = .ok (.astore_n 1, 1) := by decide +kernel
theorem dX9_moveToSpareTown_5 : decode cX9_moveToSpareTown 5 = .ok (.aload_n 0, 1) := by decide +kernel
theorem dX9_moveToSpareTown_6 : decode cX9_moveToSpareTown 6 = .ok (.aload_n 0, 1) := by decide +kernel
theorem dX9_moveToSpareTown_7 : decode cX9_moveToSpareTown 7 = .ok (.getfield 31, 3) := by decide +kernel
theorem dX9_moveToSpareTown_10 : decode cX9_moveToSpareTown 10 = .ok (.putfield 27, 3) := by decide +kernel
theorem dX9_moveToSpareTown_13 : decode cX9_moveToSpareTown 13 = .ok (.aload_n 0, 1) := by decide +kernel
theorem dX9_moveToSpareTown_14 : decode cX9_moveToSpareTown 14 = .ok (.aload_n 1, 1) := by decide +kernel
theorem dX9_moveToSpareTown_15 : decode cX9_moveToSpareTown 15 = .ok (.putfield 31, 3) := by decide +kernel
theorem dX9_moveToSpareTown_18 : decode cX9_moveToSpareTown 18 = .ok (.aload_n 0, 1) := by decide +kernel
theorem dX9_moveToSpareTown_19 : decode cX9_moveToSpareTown 19 = .ok (.getfield 27, 3) := by decide +kernel
theorem dX9_moveToSpareTown_22 : decode cX9_moveToSpareTown 22 = .ok (.invokevirtual 358, 3) := by decide +kernel
theorem dX9_moveToSpareTown_25 : decode cX9_moveToSpareTown 25 = .ok (.aload_n 0, 1) := by decide +kernel
theorem dX9_moveToSpareTown_26 : decode cX9_moveToSpareTown 26 = .ok (.iconst 0, 1) := by decide +kernel
theorem dX9_moveToSpareTown_27 : decode cX9_moveToSpareTown 27 = .ok (.putfield 40, 3) := by decide +kernel
theorem dX9_moveToSpareTown_30 : decode cX9_moveToSpareTown 30 = .ok (.return_, 1) := by decide +kernel
theorem dX9_hasWalked_0 : decode cX9_hasWalked 0 = .ok (.aload_n 0, 1) := by decide +kernel
theorem dX9_hasWalked_1 : decode cX9_hasWalked 1 = .ok (.getfield 47, 3) := by decide +kernel
theorem dX9_hasWalked_4 : decode cX9_hasWalked 4 = .ok (.getfield 240, 3) := by decide +kernel
theorem dX9_hasWalked_7 : decode cX9_hasWalked 7 = .ok (.aload_n 0, 1) := by decide +kernel
theorem dX9_hasWalked_8 : decode cX9_hasWalked 8 = .ok (.getfield 36, 3) := by decide +kernel
theorem dX9_hasWalked_11 : decode cX9_hasWalked 11 = .ok (.iload_n 1, 1) := by decide +kernel
theorem dX9_hasWalked_12 : decode cX9_hasWalked 12 = .ok (.invokevirtual 361, 3) := by decide +kernel
theorem dX9_hasWalked_15 : decode cX9_hasWalked 15 = .ok (.aload_n 0, 1) := by decide +kernel
theorem dX9_hasWalked_16 : decode cX9_hasWalked 16 = .ok (.getfield 47, 3) := by decide +kernel
theorem dX9_hasWalked_19 : decode cX9_hasWalked 19 = .ok (.getfield 240, 3) := by decide +kernel
theorem dX9_hasWalked_22 : decode cX9_hasWalked 22 = .ok (.aload 4, 2) := by decide +kernel
theorem dX9_hasWalked_24 : decode cX9_hasWalked 24 = .ok (.iload 5, 2) := by decide +kernel
theorem dX9_hasWalked_26 : decode cX9_hasWalked 26 = .ok (.iload 6, 2) := by decide +kernel
theorem dX9_hasWalked_28 : decode cX9_hasWalked 28 = .ok (.invokevirtual 365, 3) := by decide +kernel
theorem dX9_hasWalked_31 : decode cX9_hasWalked 31 = .ok (.ifCond .eq 18, 3) := by decide +kernel
theorem dX9_hasWalked_34 : decode cX9_hasWalked 34 = .ok (.aload_n 0, 1) := by decide +kernel
theorem dX9_hasWalked_35 : decode cX9_hasWalked 35 = .ok (.getfield 47, 3) := by decide +kernel
theorem dX9_hasWalked_38 : decode cX9_hasWalked 38 = .ok (.aload_n 0, 1) := by decide +kernel
theorem dX9_hasWalked_39 : decode cX9_hasWalked 39 = .ok (.getfield 27, 3) := by decide +kernel
theorem dX9_hasWalked_42 : decode cX9_hasWalked 42 = .ok (.iload_n 2, 1) := by decide +kernel
theorem dX9_hasWalked_43 : decode cX9_hasWalked 43 = .ok (.invokevirtual 369, 3) := by decide +kernel
theorem dX9_hasWalked_46 : decode cX9_hasWalked 46 = .ok (.ifCond .ne 5, 3) := by decide +kernel
theorem dX9_hasWalked_49 : decode cX9_hasWalked 49 = .ok (.iconst 0, 1) := by decide +kernel
theorem dX9_hasWalked_50 : decode cX9_hasWalked 50 = .ok (.ireturn, 1) := by decide +kernel
theorem dX9_hasWalked_51 : decode cX9_hasWalked 51 = .ok (.aload_n 0, 1) := by decide +kernel
theorem dX9_hasWalked_52 : decode cX9_hasWalked 52 = .ok (.getfield 47, 3) := by decide +kernel
theorem dX9_hasWalked_55 : decode cX9_hasWalked 55 = .ok (.aload_n 0, 1) := by decide +kernel
theorem dX9_hasWalked_56 : decode cX9_hasWalked 56 = .ok (.getfield 27, 3) := by decide +kernel
theorem dX9_hasWalked_59 : decode cX9_hasWalked 59 = .ok (.iload_n 2, 1) := by decide +kernel
theorem dX9_hasWalked_60 : decode cX9_hasWalked 60 = .ok (.iload_n 3, 1) := by decide +kernel
theorem dX9_hasWalked_61 : decode cX9_hasWalked 61 = .ok (.invokevirtual 373, 3) := by decide +kernel
theorem dX9_hasWalked_64 : decode cX9_hasWalked 64 = .ok (.iconst 1, 1) := by decide +kernel
theorem dX9_hasWalked_65 : decode cX9_hasWalked 65 = .ok (.ireturn, 1) := by decide +kernel
theorem dX9_startRefusal_0 : decode cX9_startRefusal 0 = .ok (.aload_n 0, 1) := by decide +kernel
theorem dX9_startRefusal_1 : decode cX9_startRefusal 1 = .ok (.iload_n 2, 1) := by decide +kernel
theorem dX9_startRefusal_2 : decode cX9_startRefusal 2 = .ok (.invokevirtual 128, 3) := by decide +kernel
theorem dX9_startRefusal_5 : decode cX9_startRefusal 5 = .ok (.ifCond .ne 5, 3) := by decide +kernel
theorem dX9_startRefusal_8 : decode cX9_startRefusal 8 = .ok (.iconst (-1), 1) := by decide +kernel
theorem dX9_startRefusal_9 : decode cX9_startRefusal 9 = .ok (.ireturn, 1) := by decide +kernel
theorem dX9_startRefusal_10 : decode cX9_startRefusal 10 = .ok (.aload_n 0, 1) := by decide +kernel
theorem dX9_startRefusal_11 : decode cX9_startRefusal 11 = .ok (.iload_n 1, 1) := by decide +kernel
theorem dX9_startRefusal_12 : decode cX9_startRefusal 12 = .ok (.invokevirtual 200, 3) := by decide +kernel
theorem dX9_startRefusal_15 : decode cX9_startRefusal 15 = .ok (.ifCond .eq 21, 3) := by decide +kernel
theorem dX9_startRefusal_18 : decode cX9_startRefusal 18 = .ok (.iload_n 3, 1) := by decide +kernel
theorem dX9_startRefusal_19 : decode cX9_startRefusal 19 = .ok (.invokestatic 203, 3) := by decide +kernel
theorem dX9_startRefusal_22 : decode cX9_startRefusal 22 = .ok (.ifCond .eq 14, 3) := by decide +kernel
theorem dX9_startRefusal_25 : decode cX9_startRefusal 25 = .ok (.iload 4, 2) := by decide +kernel
theorem dX9_startRefusal_27 : decode cX9_startRefusal 27 = .ok (.iconst 0, 1) := by decide +kernel
theorem dX9_startRefusal_28 : decode cX9_startRefusal 28 = .ok (.bipush 100, 2) := by decide +kernel
theorem dX9_startRefusal_30 : decode cX9_startRefusal 30 = .ok (.invokestatic 131, 3) := by decide +kernel
theorem dX9_startRefusal_33 : decode cX9_startRefusal 33 = .ok (.ifCond .ne 6, 3) := by decide +kernel
theorem dX9_startRefusal_36 : decode cX9_startRefusal 36 = .ok (.bipush (-2), 2) := by decide +kernel
theorem dX9_startRefusal_38 : decode cX9_startRefusal 38 = .ok (.ireturn, 1) := by decide +kernel
theorem dX9_startRefusal_39 : decode cX9_startRefusal 39 = .ok (.aload_n 0, 1) := by decide +kernel
theorem dX9_startRefusal_40 : decode cX9_startRefusal 40 = .ok (.getfield 47, 3) := by decide +kernel
theorem dX9_startRefusal_43 : decode cX9_startRefusal 43 = .ok (.getfield 240, 3) := by decide +kernel
theorem dX9_startRefusal_46 : decode cX9_startRefusal 46 = .ok (.aload_n 0, 1) := by decide +kernel
theorem dX9_startRefusal_47 : decode cX9_startRefusal 47 = .ok (.getfield 36, 3) := by decide +kernel
theorem dX9_startRefusal_50 : decode cX9_startRefusal 50 = .ok (.iload_n 1, 1) := by decide +kernel
theorem dX9_startRefusal_51 : decode cX9_startRefusal 51 = .ok (.invokevirtual 361, 3) := by decide +kernel
theorem dX9_startRefusal_54 : decode cX9_startRefusal 54 = .ok (.aload_n 0, 1) := by decide +kernel
theorem dX9_startRefusal_55 : decode cX9_startRefusal 55 = .ok (.getfield 47, 3) := by decide +kernel
theorem dX9_startRefusal_58 : decode cX9_startRefusal 58 = .ok (.aload_n 0, 1) := by decide +kernel
theorem dX9_startRefusal_59 : decode cX9_startRefusal 59 = .ok (.getfield 27, 3) := by decide +kernel
theorem dX9_startRefusal_62 : decode cX9_startRefusal 62 = .ok (.iload_n 2, 1) := by decide +kernel
theorem dX9_startRefusal_63 : decode cX9_startRefusal 63 = .ok (.invokevirtual 377, 3) := by decide +kernel
theorem dX9_startRefusal_66 : decode cX9_startRefusal 66 = .ok (.ifCond .eq 7, 3) := by decide +kernel
theorem dX9_startRefusal_69 : decode cX9_startRefusal 69 = .ok (.iconst 0, 1) := by decide +kernel
theorem dX9_startRefusal_70 : decode cX9_startRefusal 70 = .ok (.goto 5, 3) := by decide +kernel
theorem dX9_startRefusal_73 : decode cX9_startRefusal 73 = .ok (.bipush (-3), 2) := by decide +kernel
theorem dX9_startRefusal_75 : decode cX9_startRefusal 75 = .ok (.ireturn, 1) := by decide +kernel
theorem dX9_grownFor_0 : decode cX9_grownFor 0 = .ok (.iconst 0, 1) := by decide +kernel
theorem dX9_grownFor_1 : decode cX9_grownFor 1 = .ok (.istore_n 2, 1) := by decide +kernel
theorem dX9_grownFor_2 : decode cX9_grownFor 2 = .ok (.iconst 0, 1) := by decide +kernel
theorem dX9_grownFor_3 : decode cX9_grownFor 3 = .ok (.istore_n 3, 1) := by decide +kernel
theorem dX9_grownFor_4 : decode cX9_grownFor 4 = .ok (.iload_n 3, 1) := by decide +kernel
theorem dX9_grownFor_5 : decode cX9_grownFor 5 = .ok (.aload_n 0, 1) := by decide +kernel
theorem dX9_grownFor_6 : decode cX9_grownFor 6 = .ok (.getfield 40, 3) := by decide +kernel
theorem dX9_grownFor_9 : decode cX9_grownFor 9 = .ok (.if_icmp .ge 29, 3) := by decide +kernel
theorem dX9_grownFor_12 : decode cX9_grownFor 12 = .ok (.iload_n 1, 1) := by decide +kernel
theorem dX9_grownFor_13 : decode cX9_grownFor 13 = .ok (.iload_n 3, 1) := by decide +kernel
theorem dX9_grownFor_14 : decode cX9_grownFor 14 = .ok (.ishr, 1) := by decide +kernel
theorem dX9_grownFor_15 : decode cX9_grownFor 15 = .ok (.iconst 1, 1) := by decide +kernel
theorem dX9_grownFor_16 : decode cX9_grownFor 16 = .ok (.iand, 1) := by decide +kernel
theorem dX9_grownFor_17 : decode cX9_grownFor 17 = .ok (.ifCond .eq 15, 3) := by decide +kernel
theorem dX9_grownFor_20 : decode cX9_grownFor 20 = .ok (.iload_n 2, 1) := by decide +kernel
theorem dX9_grownFor_21 : decode cX9_grownFor 21 = .ok (.aload_n 0, 1) := by decide +kernel
theorem dX9_grownFor_22 : decode cX9_grownFor 22 = .ok (.getfield 36, 3) := by decide +kernel
theorem dX9_grownFor_25 : decode cX9_grownFor 25 = .ok (.iload_n 3, 1) := by decide +kernel
theorem dX9_grownFor_26 : decode cX9_grownFor 26 = .ok (.aaload, 1) := by decide +kernel
theorem dX9_grownFor_27 : decode cX9_grownFor 27 = .ok (.invokevirtual 181, 3) := by decide +kernel
theorem dX9_grownFor_30 : decode cX9_grownFor 30 = .ok (.iadd, 1) := by decide +kernel
theorem dX9_grownFor_31 : decode cX9_grownFor 31 = .ok (.istore_n 2, 1) := by decide +kernel
theorem dX9_grownFor_32 : decode cX9_grownFor 32 = .ok (.iinc 3 1, 3) := by decide +kernel
theorem dX9_grownFor_35 : decode cX9_grownFor 35 = .ok (.goto (-31), 3) := by decide +kernel
theorem dX9_grownFor_38 : decode cX9_grownFor 38 = .ok (.aload_n 0, 1) := by decide +kernel
theorem dX9_grownFor_39 : decode cX9_grownFor 39 = .ok (.getfield 58, 3) := by decide +kernel
theorem dX9_grownFor_42 : decode cX9_grownFor 42 = .ok (.ifCond .le 19, 3) := by decide +kernel
theorem dX9_grownFor_45 : decode cX9_grownFor 45 = .ok (.iload_n 2, 1) := by decide +kernel
theorem dX9_grownFor_46 : decode cX9_grownFor 46 = .ok (.aload_n 0, 1) := by decide +kernel
theorem dX9_grownFor_47 : decode cX9_grownFor 47 = .ok (.getfield 58, 3) := by decide +kernel
theorem dX9_grownFor_50 : decode cX9_grownFor 50 = .ok (.iadd, 1) := by decide +kernel
theorem dX9_grownFor_51 : decode cX9_grownFor 51 = .ok (.iconst 1, 1) := by decide +kernel
theorem dX9_grownFor_52 : decode cX9_grownFor 52 = .ok (.isub, 1) := by decide +kernel
theorem dX9_grownFor_53 : decode cX9_grownFor 53 = .ok (.aload_n 0, 1) := by decide +kernel
theorem dX9_grownFor_54 : decode cX9_grownFor 54 = .ok (.getfield 58, 3) := by decide +kernel
theorem dX9_grownFor_57 : decode cX9_grownFor 57 = .ok (.idiv, 1) := by decide +kernel
theorem dX9_grownFor_58 : decode cX9_grownFor 58 = .ok (.goto 4, 3) := by decide +kernel
theorem dX9_grownFor_61 : decode cX9_grownFor 61 = .ok (.iconst 0, 1) := by decide +kernel
theorem dX9_grownFor_62 : decode cX9_grownFor 62 = .ok (.ireturn, 1) := by decide +kernel
theorem dX9_findSplit_0 : decode cX9_findSplit 0 = .ok (.iconst 0, 1) := by decide +kernel
theorem dX9_findSplit_1 : decode cX9_findSplit 1 = .ok (.istore 5, 2) := by decide +kernel
theorem dX9_findSplit_3 : decode cX9_findSplit 3 = .ok (.iload_n 1, 1) := by decide +kernel
theorem dX9_findSplit_4 : decode cX9_findSplit 4 = .ok (.iload_n 1, 1) := by decide +kernel
theorem dX9_findSplit_5 : decode cX9_findSplit 5 = .ok (.ineg, 1) := by decide +kernel
theorem dX9_findSplit_6 : decode cX9_findSplit 6 = .ok (.iand, 1) := by decide +kernel
theorem dX9_findSplit_7 : decode cX9_findSplit 7 = .ok (.istore 6, 2) := by decide +kernel
theorem dX9_findSplit_9 : decode cX9_findSplit 9 = .ok (.iload 6, 2) := by decide +kernel
theorem dX9_findSplit_11 : decode cX9_findSplit 11 = .ok (.istore 7, 2) := by decide +kernel
theorem dX9_findSplit_13 : decode cX9_findSplit 13 = .ok (.iload 7, 2) := by decide +kernel
theorem dX9_findSplit_15 : decode cX9_findSplit 15 = .ok (.iload_n 1, 1) := by decide +kernel
theorem dX9_findSplit_16 : decode cX9_findSplit 16 = .ok (.if_icmp .ge 206, 3) := by decide +kernel
theorem dX9_findSplit_19 : decode cX9_findSplit 19 = .ok (.iload 7, 2) := by decide +kernel
theorem dX9_findSplit_21 : decode cX9_findSplit 21 = .ok (.sipush 1024, 3) := by decide +kernel
theorem dX9_findSplit_24 : decode cX9_findSplit 24 = .ok (.if_icmp .ge 198, 3) := by decide +kernel
theorem dX9_findSplit_27 : decode cX9_findSplit 27 = .ok (.iload 7, 2) := by decide +kernel
theorem dX9_findSplit_29 : decode cX9_findSplit 29 = .ok (.iload_n 1, 1) := by decide +kernel
theorem dX9_findSplit_30 : decode cX9_findSplit 30 = .ok (.iconst (-1), 1) := by decide +kernel
theorem dX9_findSplit_31 : decode cX9_findSplit 31 = .ok (.ixor, 1) := by decide +kernel
theorem dX9_findSplit_32 : decode cX9_findSplit 32 = .ok (.iand, 1) := by decide +kernel
theorem dX9_findSplit_33 : decode cX9_findSplit 33 = .ok (.ifCond .ne 183, 3) := by decide +kernel
theorem dX9_findSplit_36 : decode cX9_findSplit 36 = .ok (.iload 7, 2) := by decide +kernel
theorem dX9_findSplit_38 : decode cX9_findSplit 38 = .ok (.iload 6, 2) := by decide +kernel
theorem dX9_findSplit_40 : decode cX9_findSplit 40 = .ok (.iand, 1) := by decide +kernel
theorem dX9_findSplit_41 : decode cX9_findSplit 41 = .ok (.ifCond .ne 6, 3) := by decide +kernel
theorem dX9_findSplit_44 : decode cX9_findSplit 44 = .ok (.goto 172, 3) := by decide +kernel
theorem dX9_findSplit_47 : decode cX9_findSplit 47 = .ok (.aload_n 0, 1) := by decide +kernel
theorem dX9_findSplit_48 : decode cX9_findSplit 48 = .ok (.iload 7, 2) := by decide +kernel
theorem dX9_findSplit_50 : decode cX9_findSplit 50 = .ok (.invokevirtual 252, 3) := by decide +kernel
theorem dX9_findSplit_53 : decode cX9_findSplit 53 = .ok (.aload_n 0, 1) := by decide +kernel
theorem dX9_findSplit_54 : decode cX9_findSplit 54 = .ok (.iload_n 1, 1) := by decide +kernel
theorem dX9_findSplit_55 : decode cX9_findSplit 55 = .ok (.iload 7, 2) := by decide +kernel
theorem dX9_findSplit_57 : decode cX9_findSplit 57 = .ok (.ixor, 1) := by decide +kernel
theorem dX9_findSplit_58 : decode cX9_findSplit 58 = .ok (.invokevirtual 252, 3) := by decide +kernel
theorem dX9_findSplit_61 : decode cX9_findSplit 61 = .ok (.iadd, 1) := by decide +kernel
theorem dX9_findSplit_62 : decode cX9_findSplit 62 = .ok (.istore 8, 2) := by decide +kernel
theorem dX9_findSplit_64 : decode cX9_findSplit 64 = .ok (.iload 5, 2) := by decide +kernel
theorem dX9_findSplit_66 : decode cX9_findSplit 66 = .ok (.ifCond .eq 15, 3) := by decide +kernel
theorem dX9_findSplit_69 : decode cX9_findSplit 69 = .ok (.iload 8, 2) := by decide +kernel
theorem dX9_findSplit_71 : decode cX9_findSplit 71 = .ok (.aload_n 0, 1) := by decide +kernel
theorem dX9_findSplit_72 : decode cX9_findSplit 72 = .ok (.getfield 84, 3) := by decide +kernel
theorem dX9_findSplit_75 : decode cX9_findSplit 75 = .ok (.if_icmp .le 6, 3) := by decide +kernel
theorem dX9_findSplit_78 : decode cX9_findSplit 78 = .ok (.goto 138, 3) := by decide +kernel
theorem dX9_findSplit_81 : decode cX9_findSplit 81 = .ok (.aload_n 0, 1) := by decide +kernel
theorem dX9_findSplit_82 : decode cX9_findSplit 82 = .ok (.getfield 47, 3) := by decide +kernel
theorem dX9_findSplit_85 : decode cX9_findSplit 85 = .ok (.getfield 240, 3) := by decide +kernel
theorem dX9_findSplit_88 : decode cX9_findSplit 88 = .ok (.aload_n 0, 1) := by decide +kernel
theorem dX9_findSplit_89 : decode cX9_findSplit 89 = .ok (.getfield 36, 3) := by decide +kernel
theorem dX9_findSplit_92 : decode cX9_findSplit 92 = .ok (.iload 7, 2) := by decide +kernel
theorem dX9_findSplit_94 : decode cX9_findSplit 94 = .ok (.invokevirtual 361, 3) := by decide +kernel
theorem dX9_findSplit_97 : decode cX9_findSplit 97 = .ok (.aload_n 0, 1) := by decide +kernel
theorem dX9_findSplit_98 : decode cX9_findSplit 98 = .ok (.getfield 47, 3) := by decide +kernel
theorem dX9_findSplit_101 : decode cX9_findSplit 101 = .ok (.aload_n 0, 1) := by decide +kernel
theorem dX9_findSplit_102 : decode cX9_findSplit 102 = .ok (.getfield 27, 3) := by decide +kernel
theorem dX9_findSplit_105 : decode cX9_findSplit 105 = .ok (.iload_n 2, 1) := by decide +kernel
theorem dX9_findSplit_106 : decode cX9_findSplit 106 = .ok (.iload_n 3, 1) := by decide +kernel
theorem dX9_findSplit_107 : decode cX9_findSplit 107 = .ok (.iload 4, 2) := by decide +kernel
theorem dX9_findSplit_109 : decode cX9_findSplit 109 = .ok (.invokevirtual 236, 3) := by decide +kernel
theorem dX9_findSplit_112 : decode cX9_findSplit 112 = .ok (.istore 9, 2) := by decide +kernel
theorem dX9_findSplit_114 : decode cX9_findSplit 114 = .ok (.aload_n 0, 1) := by decide +kernel
theorem dX9_findSplit_115 : decode cX9_findSplit 115 = .ok (.getfield 47, 3) := by decide +kernel
theorem dX9_findSplit_118 : decode cX9_findSplit 118 = .ok (.getfield 240, 3) := by decide +kernel
theorem dX9_findSplit_121 : decode cX9_findSplit 121 = .ok (.aload_n 0, 1) := by decide +kernel
theorem dX9_findSplit_122 : decode cX9_findSplit 122 = .ok (.getfield 36, 3) := by decide +kernel
theorem dX9_findSplit_125 : decode cX9_findSplit 125 = .ok (.iload_n 1, 1) := by decide +kernel
theorem dX9_findSplit_126 : decode cX9_findSplit 126 = .ok (.iload 7, 2) := by decide +kernel
theorem dX9_findSplit_128 : decode cX9_findSplit 128 = .ok (.ixor, 1) := by decide +kernel
theorem dX9_findSplit_129 : decode cX9_findSplit 129 = .ok (.invokevirtual 361, 3) := by decide +kernel
theorem dX9_findSplit_132 : decode cX9_findSplit 132 = .ok (.aload_n 0, 1) := by decide +kernel
theorem dX9_findSplit_133 : decode cX9_findSplit 133 = .ok (.getfield 47, 3) := by decide +kernel
theorem dX9_findSplit_136 : decode cX9_findSplit 136 = .ok (.aload_n 0, 1) := by decide +kernel
theorem dX9_findSplit_137 : decode cX9_findSplit 137 = .ok (.getfield 27, 3) := by decide +kernel
theorem dX9_findSplit_140 : decode cX9_findSplit 140 = .ok (.iload_n 2, 1) := by decide +kernel
theorem dX9_findSplit_141 : decode cX9_findSplit 141 = .ok (.iload_n 3, 1) := by decide +kernel
theorem dX9_findSplit_142 : decode cX9_findSplit 142 = .ok (.iload 4, 2) := by decide +kernel
theorem dX9_findSplit_144 : decode cX9_findSplit 144 = .ok (.invokevirtual 236, 3) := by decide +kernel
theorem dX9_findSplit_147 : decode cX9_findSplit 147 = .ok (.istore 10, 2) := by decide +kernel
theorem dX9_findSplit_149 : decode cX9_findSplit 149 = .ok (.iload 9, 2) := by decide +kernel
theorem dX9_findSplit_151 : decode cX9_findSplit 151 = .ok (.bipush (-9), 2) := by decide +kernel
theorem dX9_findSplit_153 : decode cX9_findSplit 153 = .ok (.if_icmp .eq 63, 3) := by decide +kernel
theorem dX9_findSplit_156 : decode cX9_findSplit 156 = .ok (.iload 10, 2) := by decide +kernel
theorem dX9_findSplit_158 : decode cX9_findSplit 158 = .ok (.bipush (-9), 2) := by decide +kernel
theorem dX9_findSplit_160 : decode cX9_findSplit 160 = .ok (.if_icmp .ne 6, 3) := by decide +kernel
theorem dX9_findSplit_163 : decode cX9_findSplit 163 = .ok (.goto 53, 3) := by decide +kernel
theorem dX9_findSplit_166 : decode cX9_findSplit 166 = .ok (.iload 5, 2) := by decide +kernel
theorem dX9_findSplit_168 : decode cX9_findSplit 168 = .ok (.ifCond .eq 24, 3) := by decide +kernel
theorem dX9_findSplit_171 : decode cX9_findSplit 171 = .ok (.iload 8, 2) := by decide +kernel
theorem dX9_findSplit_173 : decode cX9_findSplit 173 = .ok (.aload_n 0, 1) := by decide +kernel
theorem dX9_findSplit_174 : decode cX9_findSplit 174 = .ok (.getfield 84, 3) := by decide +kernel
theorem dX9_findSplit_177 : decode cX9_findSplit 177 = .ok (.if_icmp .lt 15, 3) := by decide +kernel
theorem dX9_findSplit_180 : decode cX9_findSplit 180 = .ok (.iload 9, 2) := by decide +kernel
theorem dX9_findSplit_182 : decode cX9_findSplit 182 = .ok (.iload 10, 2) := by decide +kernel
theorem dX9_findSplit_184 : decode cX9_findSplit 184 = .ok (.iadd, 1) := by decide +kernel
theorem dX9_findSplit_185 : decode cX9_findSplit 185 = .ok (.aload_n 0, 1) := by decide +kernel
theorem dX9_findSplit_186 : decode cX9_findSplit 186 = .ok (.getfield 87, 3) := by decide +kernel
theorem dX9_findSplit_189 : decode cX9_findSplit 189 = .ok (.if_icmp .le 27, 3) := by decide +kernel
theorem dX9_findSplit_192 : decode cX9_findSplit 192 = .ok (.iconst 1, 1) := by decide +kernel
theorem dX9_findSplit_193 : decode cX9_findSplit 193 = .ok (.istore 5, 2) := by decide +kernel
theorem dX9_findSplit_195 : decode cX9_findSplit 195 = .ok (.aload_n 0, 1) := by decide +kernel
theorem dX9_findSplit_196 : decode cX9_findSplit 196 = .ok (.iload 7, 2) := by decide +kernel
theorem dX9_findSplit_198 : decode cX9_findSplit 198 = .ok (.putfield 81, 3) := by decide +kernel
theorem dX9_findSplit_201 : decode cX9_findSplit 201 = .ok (.aload_n 0, 1) := by decide +kernel
theorem dX9_findSplit_202 : decode cX9_findSplit 202 = .ok (.iload 8, 2) := by decide +kernel
theorem dX9_findSplit_204 : decode cX9_findSplit 204 = .ok (.putfield 84, 3) := by decide +kernel
theorem dX9_findSplit_207 : decode cX9_findSplit 207 = .ok (.aload_n 0, 1) := by decide +kernel
theorem dX9_findSplit_208 : decode cX9_findSplit 208 = .ok (.iload 9, 2) := by decide +kernel
theorem dX9_findSplit_210 : decode cX9_findSplit 210 = .ok (.iload 10, 2) := by decide +kernel
theorem dX9_findSplit_212 : decode cX9_findSplit 212 = .ok (.iadd, 1) := by decide +kernel
theorem dX9_findSplit_213 : decode cX9_findSplit 213 = .ok (.putfield 87, 3) := by decide +kernel
theorem dX9_findSplit_216 : decode cX9_findSplit 216 = .ok (.iinc 7 1, 3) := by decide +kernel
theorem dX9_findSplit_219 : decode cX9_findSplit 219 = .ok (.goto (-206), 3) := by decide +kernel
theorem dX9_findSplit_222 : decode cX9_findSplit 222 = .ok (.iload 5, 2) := by decide +kernel
theorem dX9_findSplit_224 : decode cX9_findSplit 224 = .ok (.ireturn, 1) := by decide +kernel
theorem dX9_partOfShare_0 : decode cX9_partOfShare 0 = .ok (.lload_n 0, 1) := by decide +kernel
theorem dX9_partOfShare_1 : decode cX9_partOfShare 1 = .ok (.lload_n 2, 1) := by decide +kernel
theorem dX9_partOfShare_2 : decode cX9_partOfShare 2 = .ok (.invokestatic 380, 3) := by decide +kernel
theorem dX9_partOfShare_5 : decode cX9_partOfShare 5 = .ok (.lstore 5, 2) := by decide +kernel
theorem dX9_partOfShare_7 : decode cX9_partOfShare 7 = .ok (.lload 5, 2) := by decide +kernel
theorem dX9_partOfShare_9 : decode cX9_partOfShare 9 = .ok (.lconst 0, 1) := by decide +kernel
theorem dX9_partOfShare_10 : decode cX9_partOfShare 10 = .ok (.lcmp, 1) := by decide +kernel
theorem dX9_partOfShare_11 : decode cX9_partOfShare 11 = .ok (.ifCond .ne 5, 3) := by decide +kernel
theorem dX9_partOfShare_14 : decode cX9_partOfShare 14 = .ok (.lconst 0, 1) := by decide +kernel
theorem dX9_partOfShare_15 : decode cX9_partOfShare 15 = .ok (.lreturn, 1) := by decide +kernel
theorem dX9_partOfShare_16 : decode cX9_partOfShare 16 = .ok (.iload 4, 2) := by decide +kernel
theorem dX9_partOfShare_18 : decode cX9_partOfShare 18 = .ok (.ifCond .ne 10, 3) := by decide +kernel
theorem dX9_partOfShare_21 : decode cX9_partOfShare 21 = .ok (.lload_n 0, 1) := by decide +kernel
theorem dX9_partOfShare_22 : decode cX9_partOfShare 22 = .ok (.lload 5, 2) := by decide +kernel
theorem dX9_partOfShare_24 : decode cX9_partOfShare 24 = .ok (.ldiv, 1) := by decide +kernel
theorem dX9_partOfShare_25 : decode cX9_partOfShare 25 = .ok (.goto 7, 3) := by decide +kernel
theorem dX9_partOfShare_28 : decode cX9_partOfShare 28 = .ok (.lload_n 2, 1) := by decide +kernel
theorem dX9_partOfShare_29 : decode cX9_partOfShare 29 = .ok (.lload 5, 2) := by decide +kernel
theorem dX9_partOfShare_31 : decode cX9_partOfShare 31 = .ok (.ldiv, 1) := by decide +kernel
theorem dX9_partOfShare_32 : decode cX9_partOfShare 32 = .ok (.lreturn, 1) := by decide +kernel
theorem dX9_commonDivisor_0 : decode cX9_commonDivisor 0 = .ok (.lload_n 0, 1) := by decide +kernel
theorem dX9_commonDivisor_1 : decode cX9_commonDivisor 1 = .ok (.lstore 4, 2) := by decide +kernel
theorem dX9_commonDivisor_3 : decode cX9_commonDivisor 3 = .ok (.lload_n 2, 1) := by decide +kernel
theorem dX9_commonDivisor_4 : decode cX9_commonDivisor 4 = .ok (.lstore 6, 2) := by decide +kernel
theorem dX9_commonDivisor_6 : decode cX9_commonDivisor 6 = .ok (.iconst 0, 1) := by decide +kernel
theorem dX9_commonDivisor_7 : decode cX9_commonDivisor 7 = .ok (.istore 8, 2) := by decide +kernel
theorem dX9_commonDivisor_9 : decode cX9_commonDivisor 9 = .ok (.iload 8, 2) := by decide +kernel
theorem dX9_commonDivisor_11 : decode cX9_commonDivisor 11 = .ok (.sipush 1000, 3) := by decide +kernel
theorem dX9_commonDivisor_14 : decode cX9_commonDivisor 14 = .ok (.if_icmp .ge 31, 3) := by decide +kernel
theorem dX9_commonDivisor_17 : decode cX9_commonDivisor 17 = .ok (.lload 6, 2) := by decide +kernel
theorem dX9_commonDivisor_19 : decode cX9_commonDivisor 19 = .ok (.lconst 0, 1) := by decide +kernel
theorem dX9_commonDivisor_20 : decode cX9_commonDivisor 20 = .ok (.lcmp, 1) := by decide +kernel
theorem dX9_commonDivisor_21 : decode cX9_commonDivisor 21 = .ok (.ifCond .eq 24, 3) := by decide +kernel
theorem dX9_commonDivisor_24 : decode cX9_commonDivisor 24 = .ok (.lload 4, 2) := by decide +kernel
theorem dX9_commonDivisor_26 : decode cX9_commonDivisor 26 = .ok (.lload 6, 2) := by decide +kernel
theorem dX9_commonDivisor_28 : decode cX9_commonDivisor 28 = .ok (.lrem, 1) := by decide +kernel
theorem dX9_commonDivisor_29 : decode cX9_commonDivisor 29 = .ok (.lstore 9, 2) := by decide +kernel
theorem dX9_commonDivisor_31 : decode cX9_commonDivisor 31 = .ok (.lload 6, 2) := by decide +kernel
theorem dX9_commonDivisor_33 : decode cX9_commonDivisor 33 = .ok (.lstore 4, 2) := by decide +kernel
theorem dX9_commonDivisor_35 : decode cX9_commonDivisor 35 = .ok (.lload 9, 2) := by decide +kernel
theorem dX9_commonDivisor_37 : decode cX9_commonDivisor 37 = .ok (.lstore 6, 2) := by decide +kernel
theorem dX9_commonDivisor_39 : decode cX9_commonDivisor 39 = .ok (.iinc 8 1, 3) := by decide +kernel
theorem dX9_commonDivisor_42 : decode cX9_commonDivisor 42 = .ok (.goto (-33), 3) := by decide +kernel
theorem dX9_commonDivisor_45 : decode cX9_commonDivisor 45 = .ok (.lload 4, 2) := by decide +kernel
theorem dX9_commonDivisor_47 : decode cX9_commonDivisor 47 = .ok (.lreturn, 1) := by decide +kernel
theorem dX9_weightSum_0 : decode cX9_weightSum 0 = .ok (.lconst 0, 1) := by decide +kernel
theorem dX9_weightSum_1 : decode cX9_weightSum 1 = .ok (.lstore_n 1, 1) := by decide +kernel
theorem dX9_weightSum_2 : decode cX9_weightSum 2 = .ok (.iload_n 0, 1) := by decide +kernel
theorem dX9_weightSum_3 : decode cX9_weightSum 3 = .ok (.istore_n 3, 1) := by decide +kernel
theorem dX9_weightSum_4 : decode cX9_weightSum 4 = .ok (.iconst 0, 1) := by decide +kernel
theorem dX9_weightSum_5 : decode cX9_weightSum 5 = .ok (.istore 4, 2) := by decide +kernel
theorem dX9_weightSum_7 : decode cX9_weightSum 7 = .ok (.iload 4, 2) := by decide +kernel
theorem dX9_weightSum_9 : decode cX9_weightSum 9 = .ok (.bipush 8, 2) := by decide +kernel
theorem dX9_weightSum_11 : decode cX9_weightSum 11 = .ok (.if_icmp .ge 22, 3) := by decide +kernel
theorem dX9_weightSum_14 : decode cX9_weightSum 14 = .ok (.lload_n 1, 1) := by decide +kernel
theorem dX9_weightSum_15 : decode cX9_weightSum 15 = .ok (.iload_n 3, 1) := by decide +kernel
theorem dX9_weightSum_16 : decode cX9_weightSum 16 = .ok (.bipush 10, 2) := by decide +kernel
theorem dX9_weightSum_18 : decode cX9_weightSum 18 = .ok (.irem, 1) := by decide +kernel
theorem dX9_weightSum_19 : decode cX9_weightSum 19 = .ok (.i2l, 1) := by decide +kernel
theorem dX9_weightSum_20 : decode cX9_weightSum 20 = .ok (.ladd, 1) := by decide +kernel
theorem dX9_weightSum_21 : decode cX9_weightSum 21 = .ok (.lstore_n 1, 1) := by decide +kernel
theorem dX9_weightSum_22 : decode cX9_weightSum 22 = .ok (.iload_n 3, 1) := by decide +kernel
theorem dX9_weightSum_23 : decode cX9_weightSum 23 = .ok (.bipush 10, 2) := by decide +kernel
theorem dX9_weightSum_25 : decode cX9_weightSum 25 = .ok (.idiv, 1) := by decide +kernel
theorem dX9_weightSum_26 : decode cX9_weightSum 26 = .ok (.istore_n 3, 1) := by decide +kernel
theorem dX9_weightSum_27 : decode cX9_weightSum 27 = .ok (.iinc 4 1, 3) := by decide +kernel
theorem dX9_weightSum_30 : decode cX9_weightSum 30 = .ok (.goto (-23), 3) := by decide +kernel
theorem dX9_weightSum_33 : decode cX9_weightSum 33 = .ok (.lload_n 1, 1) := by decide +kernel
theorem dX9_weightSum_34 : decode cX9_weightSum 34 = .ok (.lreturn, 1) := by decide +kernel
theorem dX9_lossSum_0 : decode cX9_lossSum 0 = .ok (.lconst 0, 1) := by decide +kernel
theorem dX9_lossSum_1 : decode cX9_lossSum 1 = .ok (.lstore 4, 2) := by decide +kernel
theorem dX9_lossSum_3 : decode cX9_lossSum 3 = .ok (.iload_n 0, 1) := by decide +kernel
theorem dX9_lossSum_4 : decode cX9_lossSum 4 = .ok (.istore 6, 2) := by decide +kernel
theorem dX9_lossSum_6 : decode cX9_lossSum 6 = .ok (.iconst 0, 1) := by decide +kernel
theorem dX9_lossSum_7 : decode cX9_lossSum 7 = .ok (.istore 7, 2) := by decide +kernel
theorem dX9_lossSum_9 : decode cX9_lossSum 9 = .ok (.iload 7, 2) := by decide +kernel
theorem dX9_lossSum_11 : decode cX9_lossSum 11 = .ok (.bipush 8, 2) := by decide +kernel
theorem dX9_lossSum_13 : decode cX9_lossSum 13 = .ok (.if_icmp .ge 51, 3) := by decide +kernel
theorem dX9_lossSum_16 : decode cX9_lossSum 16 = .ok (.iload 7, 2) := by decide +kernel
theorem dX9_lossSum_18 : decode cX9_lossSum 18 = .ok (.iload_n 3, 1) := by decide +kernel
theorem dX9_lossSum_19 : decode cX9_lossSum 19 = .ok (.if_icmp .gt 10, 3) := by decide +kernel
theorem dX9_lossSum_22 : decode cX9_lossSum 22 = .ok (.iload_n 1, 1) := by decide +kernel
theorem dX9_lossSum_23 : decode cX9_lossSum 23 = .ok (.iload 7, 2) := by decide +kernel
theorem dX9_lossSum_25 : decode cX9_lossSum 25 = .ok (.imul, 1) := by decide +kernel
theorem dX9_lossSum_26 : decode cX9_lossSum 26 = .ok (.goto 8, 3) := by decide +kernel
theorem dX9_lossSum_29 : decode cX9_lossSum 29 = .ok (.iload_n 2, 1) := by decide +kernel
theorem dX9_lossSum_30 : decode cX9_lossSum 30 = .ok (.iload_n 1, 1) := by decide +kernel
theorem dX9_lossSum_31 : decode cX9_lossSum 31 = .ok (.iload_n 3, 1) := by decide +kernel
theorem dX9_lossSum_32 : decode cX9_lossSum 32 = .ok (.imul, 1) := by decide +kernel
theorem dX9_lossSum_33 : decode cX9_lossSum 33 = .ok (.iadd, 1) := by decide +kernel
theorem dX9_lossSum_34 : decode cX9_lossSum 34 = .ok (.istore 8, 2) := by decide +kernel
theorem dX9_lossSum_36 : decode cX9_lossSum 36 = .ok (.lload 4, 2) := by decide +kernel
theorem dX9_lossSum_38 : decode cX9_lossSum 38 = .ok (.iload 6, 2) := by decide +kernel
theorem dX9_lossSum_40 : decode cX9_lossSum 40 = .ok (.bipush 10, 2) := by decide +kernel
theorem dX9_lossSum_42 : decode cX9_lossSum 42 = .ok (.irem, 1) := by decide +kernel
theorem dX9_lossSum_43 : decode cX9_lossSum 43 = .ok (.i2l, 1) := by decide +kernel
theorem dX9_lossSum_44 : decode cX9_lossSum 44 = .ok (.iload 8, 2) := by decide +kernel
theorem dX9_lossSum_46 : decode cX9_lossSum 46 = .ok (.i2l, 1) := by decide +kernel
theorem dX9_lossSum_47 : decode cX9_lossSum 47 = .ok (.lmul, 1) := by decide +kernel
theorem dX9_lossSum_48 : decode cX9_lossSum 48 = .ok (.ladd, 1) := by decide +kernel
theorem dX9_lossSum_49 : decode cX9_lossSum 49 = .ok (.lstore 4, 2) := by decide +kernel
theorem dX9_lossSum_51 : decode cX9_lossSum 51 = .ok (.iload 6, 2) := by decide +kernel
theorem dX9_lossSum_53 : decode cX9_lossSum 53 = .ok (.bipush 10, 2) := by decide +kernel
theorem dX9_lossSum_55 : decode cX9_lossSum 55 = .ok (.idiv, 1) := by decide +kernel
theorem dX9_lossSum_56 : decode cX9_lossSum 56 = .ok (.istore 6, 2) := by decide +kernel
theorem dX9_lossSum_58 : decode cX9_lossSum 58 = .ok (.iinc 7 1, 3) := by decide +kernel
theorem dX9_lossSum_61 : decode cX9_lossSum 61 = .ok (.goto (-52), 3) := by decide +kernel
theorem dX9_lossSum_64 : decode cX9_lossSum 64 = .ok (.lload 4, 2) := by decide +kernel
theorem dX9_lossSum_66 : decode cX9_lossSum 66 = .ok (.lreturn, 1) := by decide +kernel
theorem dX9_leaveTrace_0 : decode cX9_leaveTrace 0 = .ok (.aload_n 0, 1) := by decide +kernel
theorem dX9_leaveTrace_1 : decode cX9_leaveTrace 1 = .ok (.bipush 31, 2) := by decide +kernel
theorem dX9_leaveTrace_3 : decode cX9_leaveTrace 3 = .ok (.aload_n 0, 1) := by decide +kernel
theorem dX9_leaveTrace_4 : decode cX9_leaveTrace 4 = .ok (.getfield 75, 3) := by decide +kernel
theorem dX9_leaveTrace_7 : decode cX9_leaveTrace 7 = .ok (.imul, 1) := by decide +kernel
theorem dX9_leaveTrace_8 : decode cX9_leaveTrace 8 = .ok (.iload_n 1, 1) := by decide +kernel
theorem dX9_leaveTrace_9 : decode cX9_leaveTrace 9 = .ok (.iadd, 1) := by decide +kernel
theorem dX9_leaveTrace_10 : decode cX9_leaveTrace 10 = .ok (.putfield 75, 3) := by decide +kernel
theorem dX9_leaveTrace_13 : decode cX9_leaveTrace 13 = .ok (.return_, 1) := by decide +kernel
theorem dX9_tellChild_0 : decode cX9_tellChild 0 = .ok (.aload_n 0, 1) := by decide +kernel
theorem dX9_tellChild_1 : decode cX9_tellChild 1 = .ok (.iconst 1, 1) := by decide +kernel
theorem dX9_tellChild_2 : decode cX9_tellChild 2 = .ok (.invokevirtual 344, 3) := by decide +kernel
theorem dX9_tellChild_5 : decode cX9_tellChild 5 = .ok (.aload_n 1, 1) := by decide +kernel
theorem dX9_tellChild_6 : decode cX9_tellChild 6 = .ok (.getfield 171, 3) := by decide +kernel
theorem dX9_tellChild_9 : decode cX9_tellChild 9 = .ok (.ireturn, 1) := by decide +kernel
theorem dX9_tellSlow_0 : decode cX9_tellSlow 0 = .ok (.aload_n 0, 1) := by decide +kernel
theorem dX9_tellSlow_1 : decode cX9_tellSlow 1 = .ok (.iconst 2, 1) := by decide +kernel
theorem dX9_tellSlow_2 : decode cX9_tellSlow 2 = .ok (.invokevirtual 344, 3) := by decide +kernel
theorem dX9_tellSlow_5 : decode cX9_tellSlow 5 = .ok (.aload_n 0, 1) := by decide +kernel
theorem dX9_tellSlow_6 : decode cX9_tellSlow 6 = .ok (.aload_n 1, 1) := by decide +kernel
theorem dX9_tellSlow_7 : decode cX9_tellSlow 7 = .ok (.invokevirtual 341, 3) := by decide +kernel
theorem dX9_tellSlow_10 : decode cX9_tellSlow 10 = .ok (.bipush 100, 2) := by decide +kernel
theorem dX9_tellSlow_12 : decode cX9_tellSlow 12 = .ok (.iadd, 1) := by decide +kernel
theorem dX9_tellSlow_13 : decode cX9_tellSlow 13 = .ok (.ireturn, 1) := by decide +kernel
theorem dX9_tellHeld_0 : decode cX9_tellHeld 0 = .ok (.aload_n 0, 1) := by decide +kernel
theorem dX9_tellHeld_1 : decode cX9_tellHeld 1 = .ok (.iconst 3, 1) := by decide +kernel
theorem dX9_tellHeld_2 : decode cX9_tellHeld 2 = .ok (.invokevirtual 344, 3) := by decide +kernel
theorem dX9_tellHeld_5 : decode cX9_tellHeld 5 = .ok (.aload_n 0, 1) := by decide +kernel
theorem dX9_tellHeld_6 : decode cX9_tellHeld 6 = .ok (.aload_n 1, 1) := by decide +kernel
theorem dX9_tellHeld_7 : decode cX9_tellHeld 7 = .ok (.invokevirtual 338, 3) := by decide +kernel
theorem dX9_tellHeld_10 : decode cX9_tellHeld 10 = .ok (.istore_n 2, 1) := by decide +kernel
theorem dX9_tellHeld_11 : decode cX9_tellHeld 11 = .ok (.iload_n 2, 1) := by decide +kernel
theorem dX9_tellHeld_12 : decode cX9_tellHeld 12 = .ok (.aload_n 0, 1) := by decide +kernel
theorem dX9_tellHeld_13 : decode cX9_tellHeld 13 = .ok (.aload_n 1, 1) := by decide +kernel
theorem dX9_tellHeld_14 : decode cX9_tellHeld 14 = .ok (.invokevirtual 341, 3) := by decide +kernel
theorem dX9_tellHeld_17 : decode cX9_tellHeld 17 = .ok (.iadd, 1) := by decide +kernel
theorem dX9_tellHeld_18 : decode cX9_tellHeld 18 = .ok (.ireturn, 1) := by decide +kernel
theorem dX9_pairs_0 : decode cX9_pairs 0 = .ok (.iconst 0, 1) := by decide +kernel
theorem dX9_pairs_1 : decode cX9_pairs 1 = .ok (.istore_n 2, 1) := by decide +kernel
theorem dX9_pairs_2 : decode cX9_pairs 2 = .ok (.iconst 0, 1) := by decide +kernel
theorem dX9_pairs_3 : decode cX9_pairs 3 = .ok (.istore_n 3, 1) := by decide +kernel
theorem dX9_pairs_4 : decode cX9_pairs 4 = .ok (.iload_n 3, 1) := by decide +kernel
theorem dX9_pairs_5 : decode cX9_pairs 5 = .ok (.aload_n 0, 1) := by decide +kernel
theorem dX9_pairs_6 : decode cX9_pairs 6 = .ok (.getfield 40, 3) := by decide +kernel
theorem dX9_pairs_9 : decode cX9_pairs 9 = .ok (.if_icmp .ge 41, 3) := by decide +kernel
theorem dX9_pairs_12 : decode cX9_pairs 12 = .ok (.iload_n 2, 1) := by decide +kernel
theorem dX9_pairs_13 : decode cX9_pairs 13 = .ok (.iload_n 1, 1) := by decide +kernel
theorem dX9_pairs_14 : decode cX9_pairs 14 = .ok (.iconst 1, 1) := by decide +kernel
theorem dX9_pairs_15 : decode cX9_pairs 15 = .ok (.if_icmp .ne 15, 3) := by decide +kernel
theorem dX9_pairs_18 : decode cX9_pairs 18 = .ok (.aload_n 0, 1) := by decide +kernel
theorem dX9_pairs_19 : decode cX9_pairs 19 = .ok (.getfield 36, 3) := by decide +kernel
theorem dX9_pairs_22 : decode cX9_pairs 22 = .ok (.iload_n 3, 1) := by decide +kernel
theorem dX9_pairs_23 : decode cX9_pairs 23 = .ok (.aaload, 1) := by decide +kernel
theorem dX9_pairs_24 : decode cX9_pairs 24 = .ok (.getfield 184, 3) := by decide +kernel
theorem dX9_pairs_27 : decode cX9_pairs 27 = .ok (.goto 12, 3) := by decide +kernel
theorem dX9_pairs_30 : decode cX9_pairs 30 = .ok (.aload_n 0, 1) := by decide +kernel
theorem dX9_pairs_31 : decode cX9_pairs 31 = .ok (.getfield 36, 3) := by decide +kernel
theorem dX9_pairs_34 : decode cX9_pairs 34 = .ok (.iload_n 3, 1) := by decide +kernel
theorem dX9_pairs_35 : decode cX9_pairs 35 = .ok (.aaload, 1) := by decide +kernel
theorem dX9_pairs_36 : decode cX9_pairs 36 = .ok (.getfield 187, 3) := by decide +kernel
theorem dX9_pairs_39 : decode cX9_pairs 39 = .ok (.invokestatic 255, 3) := by decide +kernel
theorem dX9_pairs_42 : decode cX9_pairs 42 = .ok (.iadd, 1) := by decide +kernel
theorem dX9_pairs_43 : decode cX9_pairs 43 = .ok (.istore_n 2, 1) := by decide +kernel
theorem dX9_pairs_44 : decode cX9_pairs 44 = .ok (.iinc 3 1, 3) := by decide +kernel
theorem dX9_pairs_47 : decode cX9_pairs 47 = .ok (.goto (-43), 3) := by decide +kernel
theorem dX9_pairs_50 : decode cX9_pairs 50 = .ok (.iload_n 2, 1) := by decide +kernel
theorem dX9_pairs_51 : decode cX9_pairs 51 = .ok (.iconst 2, 1) := by decide +kernel
theorem dX9_pairs_52 : decode cX9_pairs 52 = .ok (.idiv, 1) := by decide +kernel
theorem dX9_pairs_53 : decode cX9_pairs 53 = .ok (.ireturn, 1) := by decide +kernel
