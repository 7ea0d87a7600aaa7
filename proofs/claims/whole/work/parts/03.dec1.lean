theorem dJ6_bitCount_0f7a4_0 : decode cJ6_bitCount_0f7a4 0 = .ok (.iload_n 0, 1) := by decide +kernel
theorem dJ6_bitCount_0f7a4_1 : decode cJ6_bitCount_0f7a4 1 = .ok (.iload_n 0, 1) := by decide +kernel
theorem dJ6_bitCount_0f7a4_2 : decode cJ6_bitCount_0f7a4 2 = .ok (.iconst 1, 1) := by decide +kernel
theorem dJ6_bitCount_0f7a4_3 : decode cJ6_bitCount_0f7a4 3 = .ok (.iushr, 1) := by decide +kernel
theorem dJ6_bitCount_0f7a4_4 : decode cJ6_bitCount_0f7a4 4 = .ok (.ldc_w 265, 3) := by decide +kernel
theorem dJ6_bitCount_0f7a4_7 : decode cJ6_bitCount_0f7a4 7 = .ok (.iand, 1) := by decide +kernel
theorem dJ6_bitCount_0f7a4_8 : decode cJ6_bitCount_0f7a4 8 = .ok (.isub, 1) := by decide +kernel
theorem dJ6_bitCount_0f7a4_9 : decode cJ6_bitCount_0f7a4 9 = .ok (.istore_n 0, 1) := by decide +kernel
theorem dJ6_bitCount_0f7a4_10 : decode cJ6_bitCount_0f7a4 10 = .ok (.iload_n 0, 1) := by decide +kernel
theorem dJ6_bitCount_0f7a4_11 : decode cJ6_bitCount_0f7a4 11 = .ok (.ldc_w 266, 3) := by decide +kernel
theorem dJ6_bitCount_0f7a4_14 : decode cJ6_bitCount_0f7a4 14 = .ok (.iand, 1) := by decide +kernel
theorem dJ6_bitCount_0f7a4_15 : decode cJ6_bitCount_0f7a4 15 = .ok (.iload_n 0, 1) := by decide +kernel
theorem dJ6_bitCount_0f7a4_16 : decode cJ6_bitCount_0f7a4 16 = .ok (.iconst 2, 1) := by decide +kernel
theorem dJ6_bitCount_0f7a4_17 : decode cJ6_bitCount_0f7a4 17 = .ok (.iushr, 1) := by decide +kernel
theorem dJ6_bitCount_0f7a4_18 : decode cJ6_bitCount_0f7a4 18 = .ok (.ldc_w 266, 3) := by decide +kernel
theorem dJ6_bitCount_0f7a4_21 : decode cJ6_bitCount_0f7a4 21 = .ok (.iand, 1) := by decide +kernel
theorem dJ6_bitCount_0f7a4_22 : decode cJ6_bitCount_0f7a4 22 = .ok (.iadd, 1) := by decide +kernel
theorem dJ6_bitCount_0f7a4_23 : decode cJ6_bitCount_0f7a4 23 = .ok (.istore_n 0, 1) := by decide +kernel
theorem dJ6_bitCount_0f7a4_24 : decode cJ6_bitCount_0f7a4 24 = .ok (.iload_n 0, 1) := by decide +kernel
theorem dJ6_bitCount_0f7a4_25 : decode cJ6_bitCount_0f7a4 25 = .ok (.iload_n 0, 1) := by decide +kernel
theorem dJ6_bitCount_0f7a4_26 : decode cJ6_bitCount_0f7a4 26 = .ok (.iconst 4, 1) := by decide +kernel
theorem dJ6_bitCount_0f7a4_27 : decode cJ6_bitCount_0f7a4 27 = .ok (.iushr, 1) := by decide +kernel
theorem dJ6_bitCount_0f7a4_28 : decode cJ6_bitCount_0f7a4 28 = .ok (.iadd, 1) := by decide +kernel
theorem dJ6_bitCount_0f7a4_29 : decode cJ6_bitCount_0f7a4 29 = .ok (.ldc_w 267, 3) := by decide +kernel
theorem dJ6_bitCount_0f7a4_32 : decode cJ6_bitCount_0f7a4 32 = .ok (.iand, 1) := by decide +kernel
theorem dJ6_bitCount_0f7a4_33 : decode cJ6_bitCount_0f7a4 33 = .ok (.istore_n 0, 1) := by decide +kernel
theorem dJ6_bitCount_0f7a4_34 : decode cJ6_bitCount_0f7a4 34 = .ok (.iload_n 0, 1) := by decide +kernel
theorem dJ6_bitCount_0f7a4_35 : decode cJ6_bitCount_0f7a4 35 = .ok (.iload_n 0, 1) := by decide +kernel
theorem dJ6_bitCount_0f7a4_36 : decode cJ6_bitCount_0f7a4 36 = .ok (.bipush 8, 2) := by decide +kernel
theorem dJ6_bitCount_0f7a4_38 : decode cJ6_bitCount_0f7a4 38 = .ok (.iushr, 1) := by decide +kernel
theorem dJ6_bitCount_0f7a4_39 : decode cJ6_bitCount_0f7a4 39 = .ok (.iadd, 1) := by decide +kernel
theorem dJ6_bitCount_0f7a4_40 : decode cJ6_bitCount_0f7a4 40 = .ok (.istore_n 0, 1) := by decide +kernel
theorem dJ6_bitCount_0f7a4_41 : decode cJ6_bitCount_0f7a4 41 = .ok (.iload_n 0, 1) := by decide +kernel
theorem dJ6_bitCount_0f7a4_42 : decode cJ6_bitCount_0f7a4 42 = .ok (.iload_n 0, 1) := by decide +kernel
theorem dJ6_bitCount_0f7a4_43 : decode cJ6_bitCount_0f7a4 43 = .ok (.bipush 16, 2) := by decide +kernel
theorem dJ6_bitCount_0f7a4_45 : decode cJ6_bitCount_0f7a4 45 = .ok (.iushr, 1) := by decide +kernel
theorem dJ6_bitCount_0f7a4_46 : decode cJ6_bitCount_0f7a4 46 = .ok (.iadd, 1) := by decide +kernel
theorem dJ6_bitCount_0f7a4_47 : decode cJ6_bitCount_0f7a4 47 = .ok (.istore_n 0, 1) := by decide +kernel
theorem dJ6_bitCount_0f7a4_48 : decode cJ6_bitCount_0f7a4 48 = .ok (.iload_n 0, 1) := by decide +kernel
theorem dJ6_bitCount_0f7a4_49 : decode cJ6_bitCount_0f7a4 49 = .ok (.bipush 63, 2) := by decide +kernel
theorem dJ6_bitCount_0f7a4_51 : decode cJ6_bitCount_0f7a4 51 = .ok (.iand, 1) := by decide +kernel
theorem dJ6_bitCount_0f7a4_52 : decode cJ6_bitCount_0f7a4 52 = .ok (.ireturn, 1) := by decide +kernel
theorem dJ9_max_7cf53_0 : decode cJ9_max_7cf53 0 = .ok (.iload_n 0, 1) := by decide +kernel
theorem dJ9_max_7cf53_1 : decode cJ9_max_7cf53 1 = .ok (.iload_n 1, 1) := by decide +kernel
theorem dJ9_max_7cf53_2 : decode cJ9_max_7cf53 2 = .ok (.if_icmp .lt 7, 3) := by decide +kernel
theorem dJ9_max_7cf53_5 : decode cJ9_max_7cf53 5 = .ok (.iload_n 0, 1) := by decide +kernel
theorem dJ9_max_7cf53_6 : decode cJ9_max_7cf53 6 = .ok (.goto 4, 3) := by decide +kernel
theorem dJ9_max_7cf53_9 : decode cJ9_max_7cf53 9 = .ok (.iload_n 1, 1) := by decide +kernel
theorem dJ9_max_7cf53_10 : decode cJ9_max_7cf53 10 = .ok (.ireturn, 1) := by decide +kernel
theorem dJ9_min_7cf53_0 : decode cJ9_min_7cf53 0 = .ok (.iload_n 0, 1) := by decide +kernel
theorem dJ9_min_7cf53_1 : decode cJ9_min_7cf53 1 = .ok (.iload_n 1, 1) := by decide +kernel
theorem dJ9_min_7cf53_2 : decode cJ9_min_7cf53 2 = .ok (.if_icmp .gt 7, 3) := by decide +kernel
theorem dJ9_min_7cf53_5 : decode cJ9_min_7cf53 5 = .ok (.iload_n 0, 1) := by decide +kernel
theorem dJ9_min_7cf53_6 : decode cJ9_min_7cf53 6 = .ok (.goto 4, 3) := by decide +kernel
theorem dJ9_min_7cf53_9 : decode cJ9_min_7cf53 9 = .ok (.iload_n 1, 1) := by decide +kernel
theorem dJ9_min_7cf53_10 : decode cJ9_min_7cf53 10 = .ok (.ireturn, 1) := by decide +kernel
theorem dX0_init_0 : decode cX0_init 0 = .ok (.aload_n 0, 1) := by decide +kernel
theorem dX0_init_1 : decode cX0_init 1 = .ok (.invokespecial 3, 3) := by decide +kernel
theorem dX0_init_4 : decode cX0_init 4 = .ok (.aload_n 0, 1) := by decide +kernel
theorem dX0_init_5 : decode cX0_init 5 = .ok (.iconst 0, 1) := by decide +kernel
theorem dX0_init_6 : decode cX0_init 6 = .ok (.putfield 9, 3) := by decide +kernel
theorem dX0_init_9 : decode cX0_init 9 = .ok (.aload_n 0, 1) := by decide +kernel
theorem dX0_init_10 : decode cX0_init 10 = .ok (.iconst 0, 1) := by decide +kernel
theorem dX0_init_11 : decode cX0_init 11 = .ok (.putfield 15, 3) := by decide +kernel
theorem dX0_init_14 : decode cX0_init 14 = .ok (.aload_n 0, 1) := by decide +kernel
theorem dX0_init_15 : decode cX0_init 15 = .ok (.iconst 0, 1) := by decide +kernel
theorem dX0_init_16 : decode cX0_init 16 = .ok (.putfield 18, 3) := by decide +kernel
theorem dX0_init_19 : decode cX0_init 19 = .ok (.aload_n 0, 1) := by decide +kernel
theorem dX0_init_20 : decode cX0_init 20 = .ok (.iconst 0, 1) := by decide +kernel
theorem dX0_init_21 : decode cX0_init 21 = .ok (.putfield 21, 3) := by decide +kernel
theorem dX0_init_24 : decode cX0_init 24 = .ok (.aload_n 0, 1) := by decide +kernel
theorem dX0_init_25 : decode cX0_init 25 = .ok (.iconst 0, 1) := by decide +kernel
theorem dX0_init_26 : decode cX0_init 26 = .ok (.putfield 24, 3) := by decide +kernel
theorem dX0_init_29 : decode cX0_init 29 = .ok (.aload_n 0, 1) := by decide +kernel
theorem dX0_init_30 : decode cX0_init 30 = .ok (.iconst 0, 1) := by decide +kernel
theorem dX0_init_31 : decode cX0_init 31 = .ok (.putfield 27, 3) := by decide +kernel
theorem dX0_init_34 : decode cX0_init 34 = .ok (.return_, 1) := by decide +kernel
theorem dX0_become_0 : decode cX0_become 0 = .ok (.aload_n 0, 1) := by decide +kernel
theorem dX0_become_1 : decode cX0_become 1 = .ok (.iload_n 1, 1) := by decide +kernel
theorem dX0_become_2 : decode cX0_become 2 = .ok (.putfield 9, 3) := by decide +kernel
theorem dX0_become_5 : decode cX0_become 5 = .ok (.aload_n 0, 1) := by decide +kernel
theorem dX0_become_6 : decode cX0_become 6 = .ok (.iload_n 2, 1) := by decide +kernel
theorem dX0_become_7 : decode cX0_become 7 = .ok (.putfield 15, 3) := by decide +kernel
theorem dX0_become_10 : decode cX0_become 10 = .ok (.aload_n 0, 1) := by decide +kernel
theorem dX0_become_11 : decode cX0_become 11 = .ok (.iload_n 3, 1) := by decide +kernel
theorem dX0_become_12 : decode cX0_become 12 = .ok (.putfield 18, 3) := by decide +kernel
theorem dX0_become_15 : decode cX0_become 15 = .ok (.aload_n 0, 1) := by decide +kernel
theorem dX0_become_16 : decode cX0_become 16 = .ok (.iload 4, 2) := by decide +kernel
theorem dX0_become_18 : decode cX0_become 18 = .ok (.putfield 21, 3) := by decide +kernel
theorem dX0_become_21 : decode cX0_become 21 = .ok (.aload_n 0, 1) := by decide +kernel
theorem dX0_become_22 : decode cX0_become 22 = .ok (.iconst 0, 1) := by decide +kernel
theorem dX0_become_23 : decode cX0_become 23 = .ok (.putfield 24, 3) := by decide +kernel
theorem dX0_become_26 : decode cX0_become 26 = .ok (.aload_n 0, 1) := by decide +kernel
theorem dX0_become_27 : decode cX0_become 27 = .ok (.iconst 0, 1) := by decide +kernel
theorem dX0_become_28 : decode cX0_become 28 = .ok (.putfield 27, 3) := by decide +kernel
theorem dX0_become_31 : decode cX0_become 31 = .ok (.return_, 1) := by decide +kernel
theorem dX0_pace_0 : decode cX0_pace 0 = .ok (.aload_n 0, 1) := by decide +kernel
theorem dX0_pace_1 : decode cX0_pace 1 = .ok (.getfield 18, 3) := by decide +kernel
theorem dX0_pace_4 : decode cX0_pace 4 = .ok (.iconst 5, 1) := by decide +kernel
theorem dX0_pace_5 : decode cX0_pace 5 = .ok (.if_icmp .gt 7, 3) := by decide +kernel
theorem dX0_pace_8 : decode cX0_pace 8 = .ok (.iconst 3, 1) := by decide +kernel
theorem dX0_pace_9 : decode cX0_pace 9 = .ok (.goto 17, 3) := by decide +kernel
theorem dX0_pace_12 : decode cX0_pace 12 = .ok (.aload_n 0, 1) := by decide +kernel
theorem dX0_pace_13 : decode cX0_pace 13 = .ok (.getfield 18, 3) := by decide +kernel
theorem dX0_pace_16 : decode cX0_pace 16 = .ok (.bipush 8, 2) := by decide +kernel
theorem dX0_pace_18 : decode cX0_pace 18 = .ok (.if_icmp .gt 7, 3) := by decide +kernel
theorem dX0_pace_21 : decode cX0_pace 21 = .ok (.iconst 2, 1) := by decide +kernel
theorem dX0_pace_22 : decode cX0_pace 22 = .ok (.goto 4, 3) := by decide +kernel
theorem dX0_pace_25 : decode cX0_pace 25 = .ok (.iconst 1, 1) := by decide +kernel
theorem dX0_pace_26 : decode cX0_pace 26 = .ok (.istore_n 1, 1) := by decide +kernel
theorem dX0_pace_27 : decode cX0_pace 27 = .ok (.aload_n 0, 1) := by decide +kernel
theorem dX0_pace_28 : decode cX0_pace 28 = .ok (.getfield 9, 3) := by decide +kernel
theorem dX0_pace_31 : decode cX0_pace 31 = .ok (.iconst 1, 1) := by decide +kernel
theorem dX0_pace_32 : decode cX0_pace 32 = .ok (.if_icmp .lt 9, 3) := by decide +kernel
theorem dX0_pace_35 : decode cX0_pace 35 = .ok (.iload_n 1, 1) := by decide +kernel
theorem dX0_pace_36 : decode cX0_pace 36 = .ok (.iconst 1, 1) := by decide +kernel
theorem dX0_pace_37 : decode cX0_pace 37 = .ok (.iadd, 1) := by decide +kernel
theorem dX0_pace_38 : decode cX0_pace 38 = .ok (.goto 4, 3) := by decide +kernel
theorem dX0_pace_41 : decode cX0_pace 41 = .ok (.iload_n 1, 1) := by decide +kernel
theorem dX0_pace_42 : decode cX0_pace 42 = .ok (.ireturn, 1) := by decide +kernel
theorem dX0_heads_0 : decode cX0_heads 0 = .ok (.aload_n 0, 1) := by decide +kernel
theorem dX0_heads_1 : decode cX0_heads 1 = .ok (.getfield 9, 3) := by decide +kernel
theorem dX0_heads_4 : decode cX0_heads 4 = .ok (.iconst 2, 1) := by decide +kernel
theorem dX0_heads_5 : decode cX0_heads 5 = .ok (.if_icmp .ne 7, 3) := by decide +kernel
theorem dX0_heads_8 : decode cX0_heads 8 = .ok (.iconst 3, 1) := by decide +kernel
theorem dX0_heads_9 : decode cX0_heads 9 = .ok (.goto 4, 3) := by decide +kernel
theorem dX0_heads_12 : decode cX0_heads 12 = .ok (.iconst 1, 1) := by decide +kernel
theorem dX0_heads_13 : decode cX0_heads 13 = .ok (.ireturn, 1) := by decide +kernel
theorem dX0_bondWith_0 : decode cX0_bondWith 0 = .ok (.aload_n 0, 1) := by decide +kernel
theorem dX0_bondWith_1 : decode cX0_bondWith 1 = .ok (.getfield 24, 3) := by decide +kernel
theorem dX0_bondWith_4 : decode cX0_bondWith 4 = .ok (.iload_n 1, 1) := by decide +kernel
theorem dX0_bondWith_5 : decode cX0_bondWith 5 = .ok (.ishr, 1) := by decide +kernel
theorem dX0_bondWith_6 : decode cX0_bondWith 6 = .ok (.iconst 1, 1) := by decide +kernel
theorem dX0_bondWith_7 : decode cX0_bondWith 7 = .ok (.iand, 1) := by decide +kernel
theorem dX0_bondWith_8 : decode cX0_bondWith 8 = .ok (.ifCond .eq 5, 3) := by decide +kernel
theorem dX0_bondWith_11 : decode cX0_bondWith 11 = .ok (.iconst 1, 1) := by decide +kernel
theorem dX0_bondWith_12 : decode cX0_bondWith 12 = .ok (.ireturn, 1) := by decide +kernel
theorem dX0_bondWith_13 : decode cX0_bondWith 13 = .ok (.aload_n 0, 1) := by decide +kernel
theorem dX0_bondWith_14 : decode cX0_bondWith 14 = .ok (.getfield 27, 3) := by decide +kernel
theorem dX0_bondWith_17 : decode cX0_bondWith 17 = .ok (.iload_n 1, 1) := by decide +kernel
theorem dX0_bondWith_18 : decode cX0_bondWith 18 = .ok (.ishr, 1) := by decide +kernel
theorem dX0_bondWith_19 : decode cX0_bondWith 19 = .ok (.iconst 1, 1) := by decide +kernel
theorem dX0_bondWith_20 : decode cX0_bondWith 20 = .ok (.iand, 1) := by decide +kernel
theorem dX0_bondWith_21 : decode cX0_bondWith 21 = .ok (.ifCond .eq 7, 3) := by decide +kernel
theorem dX0_bondWith_24 : decode cX0_bondWith 24 = .ok (.iconst 2, 1) := by decide +kernel
theorem dX0_bondWith_25 : decode cX0_bondWith 25 = .ok (.goto 4, 3) := by decide +kernel
theorem dX0_bondWith_28 : decode cX0_bondWith 28 = .ok (.iconst 0, 1) := by decide +kernel
theorem dX0_bondWith_29 : decode cX0_bondWith 29 = .ok (.ireturn, 1) := by decide +kernel
theorem dX0_bind_0 : decode cX0_bind 0 = .ok (.iconst 1, 1) := by decide +kernel
theorem dX0_bind_1 : decode cX0_bind 1 = .ok (.iload_n 1, 1) := by decide +kernel
theorem dX0_bind_2 : decode cX0_bind 2 = .ok (.ishl, 1) := by decide +kernel
theorem dX0_bind_3 : decode cX0_bind 3 = .ok (.istore_n 3, 1) := by decide +kernel
theorem dX0_bind_4 : decode cX0_bind 4 = .ok (.aload_n 0, 1) := by decide +kernel
theorem dX0_bind_5 : decode cX0_bind 5 = .ok (.iload_n 2, 1) := by decide +kernel
theorem dX0_bind_6 : decode cX0_bind 6 = .ok (.iconst 1, 1) := by decide +kernel
theorem dX0_bind_7 : decode cX0_bind 7 = .ok (.if_icmp .ne 12, 3) := by decide +kernel
theorem dX0_bind_10 : decode cX0_bind 10 = .ok (.aload_n 0, 1) := by decide +kernel
theorem dX0_bind_11 : decode cX0_bind 11 = .ok (.getfield 24, 3) := by decide +kernel
theorem dX0_bind_14 : decode cX0_bind 14 = .ok (.iload_n 3, 1) := by decide +kernel
theorem dX0_bind_15 : decode cX0_bind 15 = .ok (.ior, 1) := by decide +kernel
theorem dX0_bind_16 : decode cX0_bind 16 = .ok (.goto 11, 3) := by decide +kernel
theorem dX0_bind_19 : decode cX0_bind 19 = .ok (.aload_n 0, 1) := by decide +kernel
theorem dX0_bind_20 : decode cX0_bind 20 = .ok (.getfield 24, 3) := by decide +kernel
theorem dX0_bind_23 : decode cX0_bind 23 = .ok (.iload_n 3, 1) := by decide +kernel
theorem dX0_bind_24 : decode cX0_bind 24 = .ok (.iconst (-1), 1) := by decide +kernel
theorem dX0_bind_25 : decode cX0_bind 25 = .ok (.ixor, 1) := by decide +kernel
theorem dX0_bind_26 : decode cX0_bind 26 = .ok (.iand, 1) := by decide +kernel
theorem dX0_bind_27 : decode cX0_bind 27 = .ok (.putfield 24, 3) := by decide +kernel
theorem dX0_bind_30 : decode cX0_bind 30 = .ok (.aload_n 0, 1) := by decide +kernel
theorem dX0_bind_31 : decode cX0_bind 31 = .ok (.iload_n 2, 1) := by decide +kernel
theorem dX0_bind_32 : decode cX0_bind 32 = .ok (.iconst 2, 1) := by decide +kernel
theorem dX0_bind_33 : decode cX0_bind 33 = .ok (.if_icmp .ne 12, 3) := by decide +kernel
theorem dX0_bind_36 : decode cX0_bind 36 = .ok (.aload_n 0, 1) := by decide +kernel
theorem dX0_bind_37 : decode cX0_bind 37 = .ok (.getfield 27, 3) := by decide +kernel
theorem dX0_bind_40 : decode cX0_bind 40 = .ok (.iload_n 3, 1) := by decide +kernel
theorem dX0_bind_41 : decode cX0_bind 41 = .ok (.ior, 1) := by decide +kernel
theorem dX0_bind_42 : decode cX0_bind 42 = .ok (.goto 11, 3) := by decide +kernel
theorem dX0_bind_45 : decode cX0_bind 45 = .ok (.aload_n 0, 1) := by decide +kernel
theorem dX0_bind_46 : decode cX0_bind 46 = .ok (.getfield 27, 3) := by decide +kernel
theorem dX0_bind_49 : decode cX0_bind 49 = .ok (.iload_n 3, 1) := by decide +kernel
theorem dX0_bind_50 : decode cX0_bind 50 = .ok (.iconst (-1), 1) := by decide +kernel
theorem dX0_bind_51 : decode cX0_bind 51 = .ok (.ixor, 1) := by decide +kernel
theorem dX0_bind_52 : decode cX0_bind 52 = .ok (.iand, 1) := by decide +kernel
theorem dX0_bind_53 : decode cX0_bind 53 = .ok (.putfield 27, 3) := by decide +kernel
theorem dX0_bind_56 : decode cX0_bind 56 = .ok (.return_, 1) := by decide +kernel
theorem dX1_init_0 : decode cX1_init 0 = .ok (.aload_n 0, 1) := by decide +kernel
theorem dX1_init_1 : decode cX1_init 1 = .ok (.invokespecial 3, 3) := by decide +kernel
theorem dX1_init_4 : decode cX1_init 4 = .ok (.aload_n 0, 1) := by decide +kernel
theorem dX1_init_5 : decode cX1_init 5 = .ok (.iconst 0, 1) := by decide +kernel
theorem dX1_init_6 : decode cX1_init 6 = .ok (.putfield 9, 3) := by decide +kernel
theorem dX1_init_9 : decode cX1_init 9 = .ok (.aload_n 0, 1) := by decide +kernel
theorem dX1_init_10 : decode cX1_init 10 = .ok (.bipush 7, 2) := by decide +kernel
theorem dX1_init_12 : decode cX1_init 12 = .ok (.newarray .int, 2) := by decide +kernel
theorem dX1_init_14 : decode cX1_init 14 = .ok (.putfield 15, 3) := by decide +kernel
theorem dX1_init_17 : decode cX1_init 17 = .ok (.aload_n 0, 1) := by decide +kernel
theorem dX1_init_18 : decode cX1_init 18 = .ok (.bipush 7, 2) := by decide +kernel
theorem dX1_init_20 : decode cX1_init 20 = .ok (.newarray .int, 2) := by decide +kernel
theorem dX1_init_22 : decode cX1_init 22 = .ok (.putfield 19, 3) := by decide +kernel
theorem dX1_init_25 : decode cX1_init 25 = .ok (.aload_n 0, 1) := by decide +kernel
theorem dX1_init_26 : decode cX1_init 26 = .ok (.bipush 7, 2) := by decide +kernel
theorem dX1_init_28 : decode cX1_init 28 = .ok (.newarray .int, 2) := by decide +kernel
theorem dX1_init_30 : decode cX1_init 30 = .ok (.putfield 22, 3) := by decide +kernel
theorem dX1_init_33 : decode cX1_init 33 = .ok (.return_, 1) := by decide +kernel
theorem dX1_gather_0 : decode cX1_gather 0 = .ok (.iconst 0, 1) := by decide +kernel
theorem dX1_gather_1 : decode cX1_gather 1 = .ok (.istore_n 3, 1) := by decide +kernel
theorem dX1_gather_2 : decode cX1_gather 2 = .ok (.iload_n 3, 1) := by decide +kernel
theorem dX1_gather_3 : decode cX1_gather 3 = .ok (.bipush 7, 2) := by decide +kernel
theorem dX1_gather_5 : decode cX1_gather 5 = .ok (.if_icmp .ge 23, 3) := by decide +kernel
theorem dX1_gather_8 : decode cX1_gather 8 = .ok (.aload_n 0, 1) := by decide +kernel
theorem dX1_gather_9 : decode cX1_gather 9 = .ok (.getfield 19, 3) := by decide +kernel
theorem dX1_gather_12 : decode cX1_gather 12 = .ok (.iload_n 3, 1) := by decide +kernel
theorem dX1_gather_13 : decode cX1_gather 13 = .ok (.iconst 0, 1) := by decide +kernel
theorem dX1_gather_14 : decode cX1_gather 14 = .ok (.iastore, 1) := by decide +kernel
theorem dX1_gather_15 : decode cX1_gather 15 = .ok (.aload_n 0, 1) := by decide +kernel
theorem dX1_gather_16 : decode cX1_gather 16 = .ok (.getfield 22, 3) := by decide +kernel
theorem dX1_gather_19 : decode cX1_gather 19 = .ok (.iload_n 3, 1) := by decide +kernel
theorem dX1_gather_20 : decode cX1_gather 20 = .ok (.iconst 0, 1) := by decide +kernel
theorem dX1_gather_21 : decode cX1_gather 21 = .ok (.iastore, 1) := by decide +kernel
theorem dX1_gather_22 : decode cX1_gather 22 = .ok (.iinc 3 1, 3) := by decide +kernel
theorem dX1_gather_25 : decode cX1_gather 25 = .ok (.goto (-23), 3) := by decide +kernel
theorem dX1_gather_28 : decode cX1_gather 28 = .ok (.iconst 0, 1) := by decide +kernel
theorem dX1_gather_29 : decode cX1_gather 29 = .ok (.istore_n 3, 1) := by decide +kernel
theorem dX1_gather_30 : decode cX1_gather 30 = .ok (.iload_n 3, 1) := by decide +kernel
theorem dX1_gather_31 : decode cX1_gather 31 = .ok (.bipush 10, 2) := by decide +kernel
theorem dX1_gather_33 : decode cX1_gather 33 = .ok (.if_icmp .ge 71, 3) := by decide +kernel
theorem dX1_gather_36 : decode cX1_gather 36 = .ok (.iload_n 2, 1) := by decide +kernel
theorem dX1_gather_37 : decode cX1_gather 37 = .ok (.iload_n 3, 1) := by decide +kernel
theorem dX1_gather_38 : decode cX1_gather 38 = .ok (.ishr, 1) := by decide +kernel
theorem dX1_gather_39 : decode cX1_gather 39 = .ok (.iconst 1, 1) := by decide +kernel
theorem dX1_gather_40 : decode cX1_gather 40 = .ok (.iand, 1) := by decide +kernel
theorem dX1_gather_41 : decode cX1_gather 41 = .ok (.ifCond .eq 57, 3) := by decide +kernel
theorem dX1_gather_44 : decode cX1_gather 44 = .ok (.aload_n 1, 1) := by decide +kernel
theorem dX1_gather_45 : decode cX1_gather 45 = .ok (.iload_n 3, 1) := by decide +kernel
theorem dX1_gather_46 : decode cX1_gather 46 = .ok (.aaload, 1) := by decide +kernel
theorem dX1_gather_47 : decode cX1_gather 47 = .ok (.getfield 25, 3) := by decide +kernel
theorem dX1_gather_50 : decode cX1_gather 50 = .ok (.istore 4, 2) := by decide +kernel
theorem dX1_gather_52 : decode cX1_gather 52 = .ok (.aload_n 0, 1) := by decide +kernel
theorem dX1_gather_53 : decode cX1_gather 53 = .ok (.getfield 19, 3) := by decide +kernel
theorem dX1_gather_56 : decode cX1_gather 56 = .ok (.iload 4, 2) := by decide +kernel
theorem dX1_gather_58 : decode cX1_gather 58 = .ok (.aload_n 0, 1) := by decide +kernel
theorem dX1_gather_59 : decode cX1_gather 59 = .ok (.getfield 19, 3) := by decide +kernel
theorem dX1_gather_62 : decode cX1_gather 62 = .ok (.iload 4, 2) := by decide +kernel
theorem dX1_gather_64 : decode cX1_gather 64 = .ok (.iaload, 1) := by decide +kernel
theorem dX1_gather_65 : decode cX1_gather 65 = .ok (.aload_n 1, 1) := by decide +kernel
theorem dX1_gather_66 : decode cX1_gather 66 = .ok (.iload_n 3, 1) := by decide +kernel
theorem dX1_gather_67 : decode cX1_gather 67 = .ok (.aaload, 1) := by decide +kernel
theorem dX1_gather_68 : decode cX1_gather 68 = .ok (.getfield 30, 3) := by decide +kernel
theorem dX1_gather_71 : decode cX1_gather 71 = .ok (.invokestatic 32, 3) := by decide +kernel
theorem dX1_gather_74 : decode cX1_gather 74 = .ok (.iastore, 1) := by decide +kernel
theorem dX1_gather_75 : decode cX1_gather 75 = .ok (.aload_n 0, 1) := by decide +kernel
theorem dX1_gather_76 : decode cX1_gather 76 = .ok (.getfield 22, 3) := by decide +kernel
theorem dX1_gather_79 : decode cX1_gather 79 = .ok (.iload 4, 2) := by decide +kernel
theorem dX1_gather_81 : decode cX1_gather 81 = .ok (.aload_n 0, 1) := by decide +kernel
theorem dX1_gather_82 : decode cX1_gather 82 = .ok (.getfield 22, 3) := by decide +kernel
theorem dX1_gather_85 : decode cX1_gather 85 = .ok (.iload 4, 2) := by decide +kernel
theorem dX1_gather_87 : decode cX1_gather 87 = .ok (.iaload, 1) := by decide +kernel
theorem dX1_gather_88 : decode cX1_gather 88 = .ok (.aload_n 1, 1) := by decide +kernel
theorem dX1_gather_89 : decode cX1_gather 89 = .ok (.iload_n 3, 1) := by decide +kernel
theorem dX1_gather_90 : decode cX1_gather 90 = .ok (.aaload, 1) := by decide +kernel
theorem dX1_gather_91 : decode cX1_gather 91 = .ok (.invokevirtual 38, 3) := by decide +kernel
theorem dX1_gather_94 : decode cX1_gather 94 = .ok (.invokestatic 32, 3) := by decide +kernel
theorem dX1_gather_97 : decode cX1_gather 97 = .ok (.iastore, 1) := by decide +kernel
theorem dX1_gather_98 : decode cX1_gather 98 = .ok (.iinc 3 1, 3) := by decide +kernel
theorem dX1_gather_101 : decode cX1_gather 101 = .ok (.goto (-71), 3) := by decide +kernel
theorem dX1_gather_104 : decode cX1_gather 104 = .ok (.aload_n 0, 1) := by decide +kernel
theorem dX1_gather_105 : decode cX1_gather 105 = .ok (.invokevirtual 41, 3) := by decide +kernel
theorem dX1_gather_108 : decode cX1_gather 108 = .ok (.return_, 1) := by decide +kernel
theorem dX1_setFirstOrder_0 : decode cX1_setFirstOrder 0 = .ok (.aload_n 0, 1) := by decide +kernel
theorem dX1_setFirstOrder_1 : decode cX1_setFirstOrder 1 = .ok (.iconst 0, 1) := by decide +kernel
theorem dX1_setFirstOrder_2 : decode cX1_setFirstOrder 2 = .ok (.putfield 9, 3) := by decide +kernel
theorem dX1_setFirstOrder_5 : decode cX1_setFirstOrder 5 = .ok (.iconst 0, 1) := by decide +kernel
theorem dX1_setFirstOrder_6 : decode cX1_setFirstOrder 6 = .ok (.istore_n 1, 1) := by decide +kernel
theorem dX1_setFirstOrder_7 : decode cX1_setFirstOrder 7 = .ok (.iload_n 1, 1) := by decide +kernel
theorem dX1_setFirstOrder_8 : decode cX1_setFirstOrder 8 = .ok (.bipush 7, 2) := by decide +kernel
theorem dX1_setFirstOrder_10 : decode cX1_setFirstOrder 10 = .ok (.if_icmp .ge 37, 3) := by decide +kernel
theorem dX1_setFirstOrder_13 : decode cX1_setFirstOrder 13 = .ok (.aload_n 0, 1) := by decide +kernel
theorem dX1_setFirstOrder_14 : decode cX1_setFirstOrder 14 = .ok (.iload_n 1, 1) := by decide +kernel
theorem dX1_setFirstOrder_15 : decode cX1_setFirstOrder 15 = .ok (.invokevirtual 44, 3) := by decide +kernel
theorem dX1_setFirstOrder_18 : decode cX1_setFirstOrder 18 = .ok (.ifCond .eq 23, 3) := by decide +kernel
theorem dX1_setFirstOrder_21 : decode cX1_setFirstOrder 21 = .ok (.aload_n 0, 1) := by decide +kernel
theorem dX1_setFirstOrder_22 : decode cX1_setFirstOrder 22 = .ok (.getfield 15, 3) := by decide +kernel
theorem dX1_setFirstOrder_25 : decode cX1_setFirstOrder 25 = .ok (.aload_n 0, 1) := by decide +kernel
theorem dX1_setFirstOrder_26 : decode cX1_setFirstOrder 26 = .ok (.getfield 9, 3) := by decide +kernel
theorem dX1_setFirstOrder_29 : decode cX1_setFirstOrder 29 = .ok (.iload_n 1, 1) := by decide +kernel
theorem dX1_setFirstOrder_30 : decode cX1_setFirstOrder 30 = .ok (.iastore, 1) := by decide +kernel
theorem dX1_setFirstOrder_31 : decode cX1_setFirstOrder 31 = .ok (.aload_n 0, 1) := by decide +kernel
theorem dX1_setFirstOrder_32 : decode cX1_setFirstOrder 32 = .ok (.dup, 1) := by decide +kernel
theorem dX1_setFirstOrder_33 : decode cX1_setFirstOrder 33 = .ok (.getfield 9, 3) := by decide +kernel
theorem dX1_setFirstOrder_36 : decode cX1_setFirstOrder 36 = .ok (.iconst 1, 1) := by decide +kernel
theorem dX1_setFirstOrder_37 : decode cX1_setFirstOrder 37 = .ok (.iadd, 1) := by decide +kernel
theorem dX1_setFirstOrder_38 : decode cX1_setFirstOrder 38 = .ok (.putfield 9, 3) := by decide +kernel
theorem dX1_setFirstOrder_41 : decode cX1_setFirstOrder 41 = .ok (.iinc 1 1, 3) := by decide +kernel
theorem dX1_setFirstOrder_44 : decode cX1_setFirstOrder 44 = .ok (.goto (-37), 3) := by decide +kernel
theorem dX1_setFirstOrder_47 : decode cX1_setFirstOrder 47 = .ok (.return_, 1) := by decide +kernel
theorem dX1_isGate_0 : decode cX1_isGate 0 = .ok (.iload_n 1, 1) := by decide +kernel
theorem dX1_isGate_1 : decode cX1_isGate 1 = .ok (.ifCond .lt 22, 3) := by decide +kernel
theorem dX1_isGate_4 : decode cX1_isGate 4 = .ok (.iload_n 1, 1) := by decide +kernel
theorem dX1_isGate_5 : decode cX1_isGate 5 = .ok (.bipush 7, 2) := by decide +kernel
theorem dX1_isGate_7 : decode cX1_isGate 7 = .ok (.if_icmp .ge 16, 3) := by decide +kernel
theorem dX1_isGate_10 : decode cX1_isGate 10 = .ok (.aload_n 0, 1) := by decide +kernel
theorem dX1_isGate_11 : decode cX1_isGate 11 = .ok (.getfield 22, 3) := by decide +kernel
theorem dX1_isGate_14 : decode cX1_isGate 14 = .ok (.iload_n 1, 1) := by decide +kernel
theorem dX1_isGate_15 : decode cX1_isGate 15 = .ok (.iaload, 1) := by decide +kernel
theorem dX1_isGate_16 : decode cX1_isGate 16 = .ok (.ifCond .le 7, 3) := by decide +kernel
theorem dX1_isGate_19 : decode cX1_isGate 19 = .ok (.iconst 1, 1) := by decide +kernel
theorem dX1_isGate_20 : decode cX1_isGate 20 = .ok (.goto 4, 3) := by decide +kernel
theorem dX1_isGate_23 : decode cX1_isGate 23 = .ok (.iconst 0, 1) := by decide +kernel
theorem dX1_isGate_24 : decode cX1_isGate 24 = .ok (.ireturn, 1) := by decide +kernel
theorem dX1_orderBy_0 : decode cX1_orderBy 0 = .ok (.iload_n 3, 1) := by decide +kernel
theorem dX1_orderBy_1 : decode cX1_orderBy 1 = .ok (.aload_n 0, 1) := by decide +kernel
theorem dX1_orderBy_2 : decode cX1_orderBy 2 = .ok (.getfield 9, 3) := by decide +kernel
theorem dX1_orderBy_5 : decode cX1_orderBy 5 = .ok (.if_icmp .eq 5, 3) := by decide +kernel
theorem dX1_orderBy_8 : decode cX1_orderBy 8 = .ok (.iconst 0, 1) := by decide +kernel
theorem dX1_orderBy_9 : decode cX1_orderBy 9 = .ok (.ireturn, 1) := by decide +kernel
theorem dX1_orderBy_10 : decode cX1_orderBy 10 = .ok (.iconst 0, 1) := by decide +kernel
theorem dX1_orderBy_11 : decode cX1_orderBy 11 = .ok (.istore 4, 2) := by decide +kernel
theorem dX1_orderBy_13 : decode cX1_orderBy 13 = .ok (.iconst 0, 1) := by decide +kernel
theorem dX1_orderBy_14 : decode cX1_orderBy 14 = .ok (.istore 5, 2) := by decide +kernel
theorem dX1_orderBy_16 : decode cX1_orderBy 16 = .ok (.iload 5, 2) := by decide +kernel
theorem dX1_orderBy_18 : decode cX1_orderBy 18 = .ok (.aload_n 0, 1) := by decide +kernel
theorem dX1_orderBy_19 : decode cX1_orderBy 19 = .ok (.getfield 9, 3) := by decide +kernel
theorem dX1_orderBy_22 : decode cX1_orderBy 22 = .ok (.if_icmp .ge 58, 3) := by decide +kernel
theorem dX1_orderBy_25 : decode cX1_orderBy 25 = .ok (.aload_n 1, 1) := by decide +kernel
theorem dX1_orderBy_26 : decode cX1_orderBy 26 = .ok (.iload_n 2, 1) := by decide +kernel
theorem dX1_orderBy_27 : decode cX1_orderBy 27 = .ok (.iload 5, 2) := by decide +kernel
theorem dX1_orderBy_29 : decode cX1_orderBy 29 = .ok (.iadd, 1) := by decide +kernel
theorem dX1_orderBy_30 : decode cX1_orderBy 30 = .ok (.invokevirtual 48, 3) := by decide +kernel
theorem dX1_orderBy_33 : decode cX1_orderBy 33 = .ok (.istore 6, 2) := by decide +kernel
theorem dX1_orderBy_35 : decode cX1_orderBy 35 = .ok (.aload_n 0, 1) := by decide +kernel
theorem dX1_orderBy_36 : decode cX1_orderBy 36 = .ok (.iload 6, 2) := by decide +kernel
theorem dX1_orderBy_38 : decode cX1_orderBy 38 = .ok (.invokevirtual 44, 3) := by decide +kernel
theorem dX1_orderBy_41 : decode cX1_orderBy 41 = .ok (.ifCond .eq 13, 3) := by decide +kernel
theorem dX1_orderBy_44 : decode cX1_orderBy 44 = .ok (.iload 4, 2) := by decide +kernel
theorem dX1_orderBy_46 : decode cX1_orderBy 46 = .ok (.iload 6, 2) := by decide +kernel
theorem dX1_orderBy_48 : decode cX1_orderBy 48 = .ok (.ishr, 1) := by decide +kernel
theorem dX1_orderBy_49 : decode cX1_orderBy 49 = .ok (.iconst 1, 1) := by decide +kernel
theorem dX1_orderBy_50 : decode cX1_orderBy 50 = .ok (.iand, 1) := by decide +kernel
theorem dX1_orderBy_51 : decode cX1_orderBy 51 = .ok (.ifCond .eq 5, 3) := by decide +kernel
theorem dX1_orderBy_54 : decode cX1_orderBy 54 = .ok (.iconst 0, 1) := by decide +kernel
theorem dX1_orderBy_55 : decode cX1_orderBy 55 = .ok (.ireturn, 1) := by decide +kernel
theorem dX1_orderBy_56 : decode cX1_orderBy 56 = .ok (.iload 4, 2) := by decide +kernel
theorem dX1_orderBy_58 : decode cX1_orderBy 58 = .ok (.iconst 1, 1) := by decide +kernel
theorem dX1_orderBy_59 : decode cX1_orderBy 59 = .ok (.iload 6, 2) := by decide +kernel
theorem dX1_orderBy_61 : decode cX1_orderBy 61 = .ok (.ishl, 1) := by decide +kernel
theorem dX1_orderBy_62 : decode cX1_orderBy 62 = .ok (.ior, 1) := by decide +kernel
theorem dX1_orderBy_63 : decode cX1_orderBy 63 = .ok (.istore 4, 2) := by decide +kernel
theorem dX1_orderBy_65 : decode cX1_orderBy 65 = .ok (.aload_n 0, 1) := by decide +kernel
theorem dX1_orderBy_66 : decode cX1_orderBy 66 = .ok (.getfield 15, 3) := by decide +kernel
theorem dX1_orderBy_69 : decode cX1_orderBy 69 = .ok (.iload 5, 2) := by decide +kernel
theorem dX1_orderBy_71 : decode cX1_orderBy 71 = .ok (.iload 6, 2) := by decide +kernel
theorem dX1_orderBy_73 : decode cX1_orderBy 73 = .ok (.iastore, 1) := by decide +kernel
theorem dX1_orderBy_74 : decode cX1_orderBy 74 = .ok (.iinc 5 1, 3) := by decide +kernel
theorem dX1_orderBy_77 : decode cX1_orderBy 77 = .ok (.goto (-61), 3) := by decide +kernel
theorem dX1_orderBy_80 : decode cX1_orderBy 80 = .ok (.iconst 1, 1) := by decide +kernel
theorem dX1_orderBy_81 : decode cX1_orderBy 81 = .ok (.ireturn, 1) := by decide +kernel
theorem dX1_toNextOrder_0 : decode cX1_toNextOrder 0 = .ok (.aload_n 0, 1) := by decide +kernel
theorem dX1_toNextOrder_1 : decode cX1_toNextOrder 1 = .ok (.getfield 9, 3) := by decide +kernel
theorem dX1_toNextOrder_4 : decode cX1_toNextOrder 4 = .ok (.iconst 2, 1) := by decide +kernel
theorem dX1_toNextOrder_5 : decode cX1_toNextOrder 5 = .ok (.isub, 1) := by decide +kernel
theorem dX1_toNextOrder_6 : decode cX1_toNextOrder 6 = .ok (.istore_n 1, 1) := by decide +kernel
theorem dX1_toNextOrder_7 : decode cX1_toNextOrder 7 = .ok (.iload_n 1, 1) := by decide +kernel
theorem dX1_toNextOrder_8 : decode cX1_toNextOrder 8 = .ok (.ifCond .lt 29, 3) := by decide +kernel
theorem dX1_toNextOrder_11 : decode cX1_toNextOrder 11 = .ok (.aload_n 0, 1) := by decide +kernel
theorem dX1_toNextOrder_12 : decode cX1_toNextOrder 12 = .ok (.getfield 15, 3) := by decide +kernel
theorem dX1_toNextOrder_15 : decode cX1_toNextOrder 15 = .ok (.iload_n 1, 1) := by decide +kernel
theorem dX1_toNextOrder_16 : decode cX1_toNextOrder 16 = .ok (.iaload, 1) := by decide +kernel
theorem dX1_toNextOrder_17 : decode cX1_toNextOrder 17 = .ok (.aload_n 0, 1) := by decide +kernel
theorem dX1_toNextOrder_18 : decode cX1_toNextOrder 18 = .ok (.getfield 15, 3) := by decide +kernel
theorem dX1_toNextOrder_21 : decode cX1_toNextOrder 21 = .ok (.iload_n 1, 1) := by decide +kernel
theorem dX1_toNextOrder_22 : decode cX1_toNextOrder 22 = .ok (.iconst 1, 1) := by decide +kernel
theorem dX1_toNextOrder_23 : decode cX1_toNextOrder 23 = .ok (.iadd, 1) := by decide +kernel
theorem dX1_toNextOrder_24 : decode cX1_toNextOrder 24 = .ok (.iaload, 1) := by decide +kernel
theorem dX1_toNextOrder_25 : decode cX1_toNextOrder 25 = .ok (.if_icmp .ge 6, 3) := by decide +kernel
theorem dX1_toNextOrder_28 : decode cX1_toNextOrder 28 = .ok (.goto 9, 3) := by decide +kernel
theorem dX1_toNextOrder_31 : decode cX1_toNextOrder 31 = .ok (.iinc 1 (-1), 3) := by decide +kernel
theorem dX1_toNextOrder_34 : decode cX1_toNextOrder 34 = .ok (.goto (-27), 3) := by decide +kernel
theorem dX1_toNextOrder_37 : decode cX1_toNextOrder 37 = .ok (.iload_n 1, 1) := by decide +kernel
theorem dX1_toNextOrder_38 : decode cX1_toNextOrder 38 = .ok (.ifCond .ge 5, 3) := by decide +kernel
theorem dX1_toNextOrder_41 : decode cX1_toNextOrder 41 = .ok (.iconst 0, 1) := by decide +kernel
theorem dX1_toNextOrder_42 : decode cX1_toNextOrder 42 = .ok (.ireturn, 1) := by decide +kernel
theorem dX1_toNextOrder_43 : decode cX1_toNextOrder 43 = .ok (.aload_n 0, 1) := by decide +kernel
theorem dX1_toNextOrder_44 : decode cX1_toNextOrder 44 = .ok (.getfield 9, 3) := by decide +kernel
theorem dX1_toNextOrder_47 : decode cX1_toNextOrder 47 = .ok (.iconst 1, 1) := by decide +kernel
theorem dX1_toNextOrder_48 : decode cX1_toNextOrder 48 = .ok (.isub, 1) := by decide +kernel
theorem dX1_toNextOrder_49 : decode cX1_toNextOrder 49 = .ok (.istore_n 2, 1) := by decide +kernel
theorem dX1_toNextOrder_50 : decode cX1_toNextOrder 50 = .ok (.iload_n 2, 1) := by decide +kernel
theorem dX1_toNextOrder_51 : decode cX1_toNextOrder 51 = .ok (.iload_n 1, 1) := by decide +kernel
theorem dX1_toNextOrder_52 : decode cX1_toNextOrder 52 = .ok (.if_icmp .le 33, 3) := by decide +kernel
theorem dX1_toNextOrder_55 : decode cX1_toNextOrder 55 = .ok (.aload_n 0, 1) := by decide +kernel
theorem dX1_toNextOrder_56 : decode cX1_toNextOrder 56 = .ok (.getfield 15, 3) := by decide +kernel
theorem dX1_toNextOrder_59 : decode cX1_toNextOrder 59 = .ok (.iload_n 2, 1) := by decide +kernel
theorem dX1_toNextOrder_60 : decode cX1_toNextOrder 60 = .ok (.iaload, 1) := by decide +kernel
theorem dX1_toNextOrder_61 : decode cX1_toNextOrder 61 = .ok (.aload_n 0, 1) := by decide +kernel
theorem dX1_toNextOrder_62 : decode cX1_toNextOrder 62 = .ok (.getfield 15, 3) := by decide +kernel
theorem dX1_toNextOrder_65 : decode cX1_toNextOrder 65 = .ok (.iload_n 1, 1) := by decide +kernel
theorem dX1_toNextOrder_66 : decode cX1_toNextOrder 66 = .ok (.iaload, 1) := by decide +kernel
theorem dX1_toNextOrder_67 : decode cX1_toNextOrder 67 = .ok (.if_icmp .le 12, 3) := by decide +kernel
theorem dX1_toNextOrder_70 : decode cX1_toNextOrder 70 = .ok (.aload_n 0, 1) := by decide +kernel
theorem dX1_toNextOrder_71 : decode cX1_toNextOrder 71 = .ok (.iload_n 2, 1) := by decide +kernel
theorem dX1_toNextOrder_72 : decode cX1_toNextOrder 72 = .ok (.iload_n 1, 1) := by decide +kernel
theorem dX1_toNextOrder_73 : decode cX1_toNextOrder 73 = .ok (.invokevirtual 54, 3) := by decide +kernel
theorem dX1_toNextOrder_76 : decode cX1_toNextOrder 76 = .ok (.goto 9, 3) := by decide +kernel
theorem dX1_toNextOrder_79 : decode cX1_toNextOrder 79 = .ok (.iinc 2 (-1), 3) := by decide +kernel
theorem dX1_toNextOrder_82 : decode cX1_toNextOrder 82 = .ok (.goto (-32), 3) := by decide +kernel
theorem dX1_toNextOrder_85 : decode cX1_toNextOrder 85 = .ok (.iload_n 1, 1) := by decide +kernel
theorem dX1_toNextOrder_86 : decode cX1_toNextOrder 86 = .ok (.iconst 1, 1) := by decide +kernel
theorem dX1_toNextOrder_87 : decode cX1_toNextOrder 87 = .ok (.iadd, 1) := by decide +kernel
theorem dX1_toNextOrder_88 : decode cX1_toNextOrder 88 = .ok (.istore_n 2, 1) := by decide +kernel
theorem dX1_toNextOrder_89 : decode cX1_toNextOrder 89 = .ok (.aload_n 0, 1) := by decide +kernel
theorem dX1_toNextOrder_90 : decode cX1_toNextOrder 90 = .ok (.getfield 9, 3) := by decide +kernel
theorem dX1_toNextOrder_93 : decode cX1_toNextOrder 93 = .ok (.iconst 1, 1) := by decide +kernel
theorem dX1_toNextOrder_94 : decode cX1_toNextOrder 94 = .ok (.isub, 1) := by decide +kernel
theorem dX1_toNextOrder_95 : decode cX1_toNextOrder 95 = .ok (.istore_n 3, 1) := by decide +kernel
theorem dX1_toNextOrder_96 : decode cX1_toNextOrder 96 = .ok (.iload_n 2, 1) := by decide +kernel
theorem dX1_toNextOrder_97 : decode cX1_toNextOrder 97 = .ok (.iload_n 3, 1) := by decide +kernel
theorem dX1_toNextOrder_98 : decode cX1_toNextOrder 98 = .ok (.if_icmp .ge 18, 3) := by decide +kernel
theorem dX1_toNextOrder_101 : decode cX1_toNextOrder 101 = .ok (.aload_n 0, 1) := by decide +kernel
theorem dX1_toNextOrder_102 : decode cX1_toNextOrder 102 = .ok (.iload_n 2, 1) := by decide +kernel
theorem dX1_toNextOrder_103 : decode cX1_toNextOrder 103 = .ok (.iload_n 3, 1) := by decide +kernel
theorem dX1_toNextOrder_104 : decode cX1_toNextOrder 104 = .ok (.invokevirtual 54, 3) := by decide +kernel
theorem dX1_toNextOrder_107 : decode cX1_toNextOrder 107 = .ok (.iinc 2 1, 3) := by decide +kernel
theorem dX1_toNextOrder_110 : decode cX1_toNextOrder 110 = .ok (.iinc 3 (-1), 3) := by decide +kernel
theorem dX1_toNextOrder_113 : decode cX1_toNextOrder 113 = .ok (.goto (-17), 3) := by decide +kernel
theorem dX1_toNextOrder_116 : decode cX1_toNextOrder 116 = .ok (.iconst 1, 1) := by decide +kernel
theorem dX1_toNextOrder_117 : decode cX1_toNextOrder 117 = .ok (.ireturn, 1) := by decide +kernel
theorem dX1_swap_0 : decode cX1_swap 0 = .ok (.aload_n 0, 1) := by decide +kernel
theorem dX1_swap_1 : decode cX1_swap 1 = .ok (.getfield 15, 3) := by decide +kernel
theorem dX1_swap_4 : decode cX1_swap 4 = .ok (.iload_n 1, 1) := by decide +kernel
theorem dX1_swap_5 : decode cX1_swap 5 = .ok (.iaload, 1) := by decide +kernel
theorem dX1_swap_6 : decode cX1_swap 6 = .ok (.istore_n 3, 1) := by decide +kernel
theorem dX1_swap_7 : decode cX1_swap 7 = .ok (.aload_n 0, 1) := by decide +kernel
theorem dX1_swap_8 : decode cX1_swap 8 = .ok (.getfield 15, 3) := by decide +kernel
theorem dX1_swap_11 : decode cX1_swap 11 = .ok (.iload_n 1, 1) := by decide +kernel
theorem dX1_swap_12 : decode cX1_swap 12 = .ok (.aload_n 0, 1) := by decide +kernel
theorem dX1_swap_13 : decode cX1_swap 13 = .ok (.getfield 15, 3) := by decide +kernel
theorem dX1_swap_16 : decode cX1_swap 16 = .ok (.iload_n 2, 1) := by decide +kernel
theorem dX1_swap_17 : decode cX1_swap 17 = .ok (.iaload, 1) := by decide +kernel
theorem dX1_swap_18 : decode cX1_swap 18 = .ok (.iastore, 1) := by decide +kernel
theorem dX1_swap_19 : decode cX1_swap 19 = .ok (.aload_n 0, 1) := by decide +kernel
theorem dX1_swap_20 : decode cX1_swap 20 = .ok (.getfield 15, 3) := by decide +kernel
theorem dX1_swap_23 : decode cX1_swap 23 = .ok (.iload_n 2, 1) := by decide +kernel
theorem dX1_swap_24 : decode cX1_swap 24 = .ok (.iload_n 3, 1) := by decide +kernel
theorem dX1_swap_25 : decode cX1_swap 25 = .ok (.iastore, 1) := by decide +kernel
theorem dX1_swap_26 : decode cX1_swap 26 = .ok (.return_, 1) := by decide +kernel
theorem dX2_init_0 : decode cX2_init 0 = .ok (.aload_n 0, 1) := by decide +kernel
theorem dX2_init_1 : decode cX2_init 1 = .ok (.invokespecial 3, 3) := by decide +kernel
theorem dX2_init_4 : decode cX2_init 4 = .ok (.aload_n 0, 1) := by decide +kernel
theorem dX2_init_5 : decode cX2_init 5 = .ok (.new 9, 3) := by decide +kernel
theorem dX2_init_8 : decode cX2_init 8 = .ok (.dup, 1) := by decide +kernel
theorem dX2_init_9 : decode cX2_init 9 = .ok (.invokespecial 11, 3) := by decide +kernel
theorem dX2_init_12 : decode cX2_init 12 = .ok (.putfield 12, 3) := by decide +kernel
theorem dX2_init_15 : decode cX2_init 15 = .ok (.aload_n 0, 1) := by decide +kernel
theorem dX2_init_16 : decode cX2_init 16 = .ok (.new 18, 3) := by decide +kernel
theorem dX2_init_19 : decode cX2_init 19 = .ok (.dup, 1) := by decide +kernel
theorem dX2_init_20 : decode cX2_init 20 = .ok (.invokespecial 20, 3) := by decide +kernel
theorem dX2_init_23 : decode cX2_init 23 = .ok (.putfield 21, 3) := by decide +kernel
theorem dX2_init_26 : decode cX2_init 26 = .ok (.aload_n 0, 1) := by decide +kernel
theorem dX2_init_27 : decode cX2_init 27 = .ok (.iconst 4, 1) := by decide +kernel
theorem dX2_init_28 : decode cX2_init 28 = .ok (.newarray .int, 2) := by decide +kernel
theorem dX2_init_30 : decode cX2_init 30 = .ok (.putfield 25, 3) := by decide +kernel
theorem dX2_init_33 : decode cX2_init 33 = .ok (.return_, 1) := by decide +kernel
theorem dX2_isWalkable_0 : decode cX2_isWalkable 0 = .ok (.iconst 0, 1) := by decide +kernel
theorem dX2_isWalkable_1 : decode cX2_isWalkable 1 = .ok (.istore_n 3, 1) := by decide +kernel
theorem dX2_isWalkable_2 : decode cX2_isWalkable 2 = .ok (.iload_n 2, 1) := by decide +kernel
theorem dX2_isWalkable_3 : decode cX2_isWalkable 3 = .ok (.istore 4, 2) := by decide +kernel
theorem dX2_isWalkable_5 : decode cX2_isWalkable 5 = .ok (.iconst 0, 1) := by decide +kernel
theorem dX2_isWalkable_6 : decode cX2_isWalkable 6 = .ok (.istore 5, 2) := by decide +kernel
theorem dX2_isWalkable_8 : decode cX2_isWalkable 8 = .ok (.iload 5, 2) := by decide +kernel
theorem dX2_isWalkable_10 : decode cX2_isWalkable 10 = .ok (.aload_n 0, 1) := by decide +kernel
theorem dX2_isWalkable_11 : decode cX2_isWalkable 11 = .ok (.getfield 12, 3) := by decide +kernel
theorem dX2_isWalkable_14 : decode cX2_isWalkable 14 = .ok (.getfield 29, 3) := by decide +kernel
theorem dX2_isWalkable_17 : decode cX2_isWalkable 17 = .ok (.if_icmp .gt 46, 3) := by decide +kernel
theorem dX2_isWalkable_20 : decode cX2_isWalkable 20 = .ok (.aload_n 0, 1) := by decide +kernel
theorem dX2_isWalkable_21 : decode cX2_isWalkable 21 = .ok (.aload_n 1, 1) := by decide +kernel
theorem dX2_isWalkable_22 : decode cX2_isWalkable 22 = .ok (.iload 5, 2) := by decide +kernel
theorem dX2_isWalkable_24 : decode cX2_isWalkable 24 = .ok (.invokevirtual 33, 3) := by decide +kernel
theorem dX2_isWalkable_27 : decode cX2_isWalkable 27 = .ok (.istore 6, 2) := by decide +kernel
theorem dX2_isWalkable_29 : decode cX2_isWalkable 29 = .ok (.aload_n 1, 1) := by decide +kernel
theorem dX2_isWalkable_30 : decode cX2_isWalkable 30 = .ok (.iload 4, 2) := by decide +kernel
theorem dX2_isWalkable_32 : decode cX2_isWalkable 32 = .ok (.iload 6, 2) := by decide +kernel
theorem dX2_isWalkable_34 : decode cX2_isWalkable 34 = .ok (.invokevirtual 37, 3) := by decide +kernel
theorem dX2_isWalkable_37 : decode cX2_isWalkable 37 = .ok (.ifCond .ne 5, 3) := by decide +kernel
theorem dX2_isWalkable_40 : decode cX2_isWalkable 40 = .ok (.iconst 0, 1) := by decide +kernel
theorem dX2_isWalkable_41 : decode cX2_isWalkable 41 = .ok (.ireturn, 1) := by decide +kernel
theorem dX2_isWalkable_42 : decode cX2_isWalkable 42 = .ok (.iload_n 3, 1) := by decide +kernel
theorem dX2_isWalkable_43 : decode cX2_isWalkable 43 = .ok (.aload_n 1, 1) := by decide +kernel
theorem dX2_isWalkable_44 : decode cX2_isWalkable 44 = .ok (.iload 4, 2) := by decide +kernel
theorem dX2_isWalkable_46 : decode cX2_isWalkable 46 = .ok (.iload 6, 2) := by decide +kernel
theorem dX2_isWalkable_48 : decode cX2_isWalkable 48 = .ok (.invokevirtual 43, 3) := by decide +kernel
theorem dX2_isWalkable_51 : decode cX2_isWalkable 51 = .ok (.iadd, 1) := by decide +kernel
theorem dX2_isWalkable_52 : decode cX2_isWalkable 52 = .ok (.istore_n 3, 1) := by decide +kernel
theorem dX2_isWalkable_53 : decode cX2_isWalkable 53 = .ok (.iload 6, 2) := by decide +kernel
theorem dX2_isWalkable_55 : decode cX2_isWalkable 55 = .ok (.istore 4, 2) := by decide +kernel
theorem dX2_isWalkable_57 : decode cX2_isWalkable 57 = .ok (.iinc 5 1, 3) := by decide +kernel
theorem dX2_isWalkable_60 : decode cX2_isWalkable 60 = .ok (.goto (-52), 3) := by decide +kernel
theorem dX2_isWalkable_63 : decode cX2_isWalkable 63 = .ok (.iload_n 3, 1) := by decide +kernel
theorem dX2_isWalkable_64 : decode cX2_isWalkable 64 = .ok (.bipush 15, 2) := by decide +kernel
theorem dX2_isWalkable_66 : decode cX2_isWalkable 66 = .ok (.if_icmp .gt 7, 3) := by decide +kernel
theorem dX2_isWalkable_69 : decode cX2_isWalkable 69 = .ok (.iconst 1, 1) := by decide +kernel
theorem dX2_isWalkable_70 : decode cX2_isWalkable 70 = .ok (.goto 4, 3) := by decide +kernel
theorem dX2_isWalkable_73 : decode cX2_isWalkable 73 = .ok (.iconst 0, 1) := by decide +kernel
theorem dX2_isWalkable_74 : decode cX2_isWalkable 74 = .ok (.ireturn, 1) := by decide +kernel
theorem dX2_stop_0 : decode cX2_stop 0 = .ok (.iload_n 2, 1) := by decide +kernel
theorem dX2_stop_1 : decode cX2_stop 1 = .ok (.aload_n 0, 1) := by decide +kernel
theorem dX2_stop_2 : decode cX2_stop 2 = .ok (.getfield 12, 3) := by decide +kernel
theorem dX2_stop_5 : decode cX2_stop 5 = .ok (.getfield 29, 3) := by decide +kernel
theorem dX2_stop_8 : decode cX2_stop 8 = .ok (.if_icmp .ge 15, 3) := by decide +kernel
theorem dX2_stop_11 : decode cX2_stop 11 = .ok (.aload_n 0, 1) := by decide +kernel
theorem dX2_stop_12 : decode cX2_stop 12 = .ok (.getfield 12, 3) := by decide +kernel
theorem dX2_stop_15 : decode cX2_stop 15 = .ok (.getfield 47, 3) := by decide +kernel
theorem dX2_stop_18 : decode cX2_stop 18 = .ok (.iload_n 2, 1) := by decide +kernel
theorem dX2_stop_19 : decode cX2_stop 19 = .ok (.iaload, 1) := by decide +kernel
theorem dX2_stop_20 : decode cX2_stop 20 = .ok (.goto 7, 3) := by decide +kernel
theorem dX2_stop_23 : decode cX2_stop 23 = .ok (.aload_n 1, 1) := by decide +kernel
theorem dX2_stop_24 : decode cX2_stop 24 = .ok (.getfield 50, 3) := by decide +kernel
theorem dX2_stop_27 : decode cX2_stop 27 = .ok (.ireturn, 1) := by decide +kernel
theorem dX2_walk_0 : decode cX2_walk 0 = .ok (.iconst 1, 1) := by decide +kernel
theorem dX2_walk_1 : decode cX2_walk 1 = .ok (.istore 4, 2) := by decide +kernel
theorem dX2_walk_3 : decode cX2_walk 3 = .ok (.aload_n 0, 1) := by decide +kernel
theorem dX2_walk_4 : decode cX2_walk 4 = .ok (.getfield 21, 3) := by decide +kernel
theorem dX2_walk_7 : decode cX2_walk 7 = .ok (.iload_n 3, 1) := by decide +kernel
theorem dX2_walk_8 : decode cX2_walk 8 = .ok (.invokevirtual 53, 3) := by decide +kernel
theorem dX2_walk_11 : decode cX2_walk 11 = .ok (.iload_n 2, 1) := by decide +kernel
theorem dX2_walk_12 : decode cX2_walk 12 = .ok (.istore 5, 2) := by decide +kernel
theorem dX2_walk_14 : decode cX2_walk 14 = .ok (.iconst 0, 1) := by decide +kernel
theorem dX2_walk_15 : decode cX2_walk 15 = .ok (.istore 6, 2) := by decide +kernel
theorem dX2_walk_17 : decode cX2_walk 17 = .ok (.iload 6, 2) := by decide +kernel
theorem dX2_walk_19 : decode cX2_walk 19 = .ok (.aload_n 0, 1) := by decide +kernel
theorem dX2_walk_20 : decode cX2_walk 20 = .ok (.getfield 12, 3) := by decide +kernel
theorem dX2_walk_23 : decode cX2_walk 23 = .ok (.getfield 29, 3) := by decide +kernel
theorem dX2_walk_26 : decode cX2_walk 26 = .ok (.if_icmp .gt 79, 3) := by decide +kernel
theorem dX2_walk_29 : decode cX2_walk 29 = .ok (.aload_n 0, 1) := by decide +kernel
theorem dX2_walk_30 : decode cX2_walk 30 = .ok (.aload_n 1, 1) := by decide +kernel
theorem dX2_walk_31 : decode cX2_walk 31 = .ok (.iload 6, 2) := by decide +kernel
theorem dX2_walk_33 : decode cX2_walk 33 = .ok (.invokevirtual 33, 3) := by decide +kernel
theorem dX2_walk_36 : decode cX2_walk 36 = .ok (.istore 7, 2) := by decide +kernel
theorem dX2_walk_38 : decode cX2_walk 38 = .ok (.aload_n 0, 1) := by decide +kernel
theorem dX2_walk_39 : decode cX2_walk 39 = .ok (.aload_n 1, 1) := by decide +kernel
theorem dX2_walk_40 : decode cX2_walk 40 = .ok (.iload 5, 2) := by decide +kernel
theorem dX2_walk_42 : decode cX2_walk 42 = .ok (.iload 7, 2) := by decide +kernel
theorem dX2_walk_44 : decode cX2_walk 44 = .ok (.iload 4, 2) := by decide +kernel
theorem dX2_walk_46 : decode cX2_walk 46 = .ok (.invokevirtual 57, 3) := by decide +kernel
theorem dX2_walk_49 : decode cX2_walk 49 = .ok (.iload 7, 2) := by decide +kernel
theorem dX2_walk_51 : decode cX2_walk 51 = .ok (.istore 5, 2) := by decide +kernel
theorem dX2_walk_53 : decode cX2_walk 53 = .ok (.iload 6, 2) := by decide +kernel
theorem dX2_walk_55 : decode cX2_walk 55 = .ok (.aload_n 0, 1) := by decide +kernel
theorem dX2_walk_56 : decode cX2_walk 56 = .ok (.getfield 12, 3) := by decide +kernel
theorem dX2_walk_59 : decode cX2_walk 59 = .ok (.getfield 29, 3) := by decide +kernel
theorem dX2_walk_62 : decode cX2_walk 62 = .ok (.if_icmp .ge 37, 3) := by decide +kernel
theorem dX2_walk_65 : decode cX2_walk 65 = .ok (.aload_n 0, 1) := by decide +kernel
theorem dX2_walk_66 : decode cX2_walk 66 = .ok (.getfield 21, 3) := by decide +kernel
theorem dX2_walk_69 : decode cX2_walk 69 = .ok (.aload_n 0, 1) := by decide +kernel
theorem dX2_walk_70 : decode cX2_walk 70 = .ok (.getfield 12, 3) := by decide +kernel
theorem dX2_walk_73 : decode cX2_walk 73 = .ok (.getfield 61, 3) := by decide +kernel
theorem dX2_walk_76 : decode cX2_walk 76 = .ok (.iload 7, 2) := by decide +kernel
theorem dX2_walk_78 : decode cX2_walk 78 = .ok (.iaload, 1) := by decide +kernel
theorem dX2_walk_79 : decode cX2_walk 79 = .ok (.invokevirtual 64, 3) := by decide +kernel
theorem dX2_walk_82 : decode cX2_walk 82 = .ok (.iload 4, 2) := by decide +kernel
theorem dX2_walk_84 : decode cX2_walk 84 = .ok (.aload_n 0, 1) := by decide +kernel
theorem dX2_walk_85 : decode cX2_walk 85 = .ok (.getfield 12, 3) := by decide +kernel
theorem dX2_walk_88 : decode cX2_walk 88 = .ok (.getfield 67, 3) := by decide +kernel
theorem dX2_walk_91 : decode cX2_walk 91 = .ok (.iload 7, 2) := by decide +kernel
theorem dX2_walk_93 : decode cX2_walk 93 = .ok (.iaload, 1) := by decide +kernel
theorem dX2_walk_94 : decode cX2_walk 94 = .ok (.invokestatic 70, 3) := by decide +kernel
theorem dX2_walk_97 : decode cX2_walk 97 = .ok (.istore 4, 2) := by decide +kernel
theorem dX2_walk_99 : decode cX2_walk 99 = .ok (.iinc 6 1, 3) := by decide +kernel
theorem dX2_walk_102 : decode cX2_walk 102 = .ok (.goto (-85), 3) := by decide +kernel
theorem dX2_walk_105 : decode cX2_walk 105 = .ok (.return_, 1) := by decide +kernel
theorem dX2_walkWay_0 : decode cX2_walkWay 0 = .ok (.iload_n 2, 1) := by decide +kernel
theorem dX2_walkWay_1 : decode cX2_walkWay 1 = .ok (.istore 5, 2) := by decide +kernel
theorem dX2_walkWay_3 : decode cX2_walkWay 3 = .ok (.iconst 0, 1) := by decide +kernel
theorem dX2_walkWay_4 : decode cX2_walkWay 4 = .ok (.istore 6, 2) := by decide +kernel
theorem dX2_walkWay_6 : decode cX2_walkWay 6 = .ok (.iload 6, 2) := by decide +kernel
theorem dX2_walkWay_8 : decode cX2_walkWay 8 = .ok (.bipush 7, 2) := by decide +kernel
theorem dX2_walkWay_10 : decode cX2_walkWay 10 = .ok (.if_icmp .ge 91, 3) := by decide +kernel
theorem dX2_walkWay_13 : decode cX2_walkWay 13 = .ok (.aload_n 1, 1) := by decide +kernel
theorem dX2_walkWay_14 : decode cX2_walkWay 14 = .ok (.getfield 75, 3) := by decide +kernel
theorem dX2_walkWay_17 : decode cX2_walkWay 17 = .ok (.iload 5, 2) := by decide +kernel
theorem dX2_walkWay_19 : decode cX2_walkWay 19 = .ok (.aaload, 1) := by decide +kernel
theorem dX2_walkWay_20 : decode cX2_walkWay 20 = .ok (.iload_n 3, 1) := by decide +kernel
theorem dX2_walkWay_21 : decode cX2_walkWay 21 = .ok (.iaload, 1) := by decide +kernel
theorem dX2_walkWay_22 : decode cX2_walkWay 22 = .ok (.bipush (-9), 2) := by decide +kernel
theorem dX2_walkWay_24 : decode cX2_walkWay 24 = .ok (.if_icmp .eq 77, 3) := by decide +kernel
theorem dX2_walkWay_27 : decode cX2_walkWay 27 = .ok (.aload_n 1, 1) := by decide +kernel
theorem dX2_walkWay_28 : decode cX2_walkWay 28 = .ok (.getfield 75, 3) := by decide +kernel
theorem dX2_walkWay_31 : decode cX2_walkWay 31 = .ok (.iload 5, 2) := by decide +kernel
theorem dX2_walkWay_33 : decode cX2_walkWay 33 = .ok (.aaload, 1) := by decide +kernel
theorem dX2_walkWay_34 : decode cX2_walkWay 34 = .ok (.iload_n 3, 1) := by decide +kernel
theorem dX2_walkWay_35 : decode cX2_walkWay 35 = .ok (.iaload, 1) := by decide +kernel
theorem dX2_walkWay_36 : decode cX2_walkWay 36 = .ok (.istore 7, 2) := by decide +kernel
theorem dX2_walkWay_38 : decode cX2_walkWay 38 = .ok (.aload_n 0, 1) := by decide +kernel
theorem dX2_walkWay_39 : decode cX2_walkWay 39 = .ok (.getfield 21, 3) := by decide +kernel
theorem dX2_walkWay_42 : decode cX2_walkWay 42 = .ok (.aload_n 1, 1) := by decide +kernel
theorem dX2_walkWay_43 : decode cX2_walkWay 43 = .ok (.getfield 79, 3) := by decide +kernel
theorem dX2_walkWay_46 : decode cX2_walkWay 46 = .ok (.iload 7, 2) := by decide +kernel
theorem dX2_walkWay_48 : decode cX2_walkWay 48 = .ok (.iaload, 1) := by decide +kernel
theorem dX2_walkWay_49 : decode cX2_walkWay 49 = .ok (.iload 4, 2) := by decide +kernel
theorem dX2_walkWay_51 : decode cX2_walkWay 51 = .ok (.imul, 1) := by decide +kernel
theorem dX2_walkWay_52 : decode cX2_walkWay 52 = .ok (.invokevirtual 82, 3) := by decide +kernel
theorem dX2_walkWay_55 : decode cX2_walkWay 55 = .ok (.aload_n 1, 1) := by decide +kernel
theorem dX2_walkWay_56 : decode cX2_walkWay 56 = .ok (.iload 7, 2) := by decide +kernel
theorem dX2_walkWay_58 : decode cX2_walkWay 58 = .ok (.invokevirtual 85, 3) := by decide +kernel
theorem dX2_walkWay_61 : decode cX2_walkWay 61 = .ok (.ifCond .eq 24, 3) := by decide +kernel
theorem dX2_walkWay_64 : decode cX2_walkWay 64 = .ok (.aload_n 0, 1) := by decide +kernel
theorem dX2_walkWay_65 : decode cX2_walkWay 65 = .ok (.getfield 21, 3) := by decide +kernel
theorem dX2_walkWay_68 : decode cX2_walkWay 68 = .ok (.aload_n 1, 1) := by decide +kernel
theorem dX2_walkWay_69 : decode cX2_walkWay 69 = .ok (.getfield 89, 3) := by decide +kernel
theorem dX2_walkWay_72 : decode cX2_walkWay 72 = .ok (.iload 7, 2) := by decide +kernel
theorem dX2_walkWay_74 : decode cX2_walkWay 74 = .ok (.iaload, 1) := by decide +kernel
theorem dX2_walkWay_75 : decode cX2_walkWay 75 = .ok (.aload_n 1, 1) := by decide +kernel
theorem dX2_walkWay_76 : decode cX2_walkWay 76 = .ok (.getfield 92, 3) := by decide +kernel
theorem dX2_walkWay_79 : decode cX2_walkWay 79 = .ok (.iload 7, 2) := by decide +kernel
theorem dX2_walkWay_81 : decode cX2_walkWay 81 = .ok (.iaload, 1) := by decide +kernel
theorem dX2_walkWay_82 : decode cX2_walkWay 82 = .ok (.invokevirtual 95, 3) := by decide +kernel
theorem dX2_walkWay_85 : decode cX2_walkWay 85 = .ok (.aload_n 1, 1) := by decide +kernel
theorem dX2_walkWay_86 : decode cX2_walkWay 86 = .ok (.iload 7, 2) := by decide +kernel
theorem dX2_walkWay_88 : decode cX2_walkWay 88 = .ok (.iload 5, 2) := by decide +kernel
theorem dX2_walkWay_90 : decode cX2_walkWay 90 = .ok (.invokevirtual 99, 3) := by decide +kernel
theorem dX2_walkWay_93 : decode cX2_walkWay 93 = .ok (.istore 5, 2) := by decide +kernel
theorem dX2_walkWay_95 : decode cX2_walkWay 95 = .ok (.iinc 6 1, 3) := by decide +kernel
theorem dX2_walkWay_98 : decode cX2_walkWay 98 = .ok (.goto (-92), 3) := by decide +kernel
theorem dX2_walkWay_101 : decode cX2_walkWay 101 = .ok (.return_, 1) := by decide +kernel
theorem dX2_hasStarts_0 : decode cX2_hasStarts 0 = .ok (.aload_n 0, 1) := by decide +kernel
theorem dX2_hasStarts_1 : decode cX2_hasStarts 1 = .ok (.getfield 12, 3) := by decide +kernel
theorem dX2_hasStarts_4 : decode cX2_hasStarts 4 = .ok (.getfield 29, 3) := by decide +kernel
theorem dX2_hasStarts_7 : decode cX2_hasStarts 7 = .ok (.iconst 4, 1) := by decide +kernel
theorem dX2_hasStarts_8 : decode cX2_hasStarts 8 = .ok (.if_icmp .le 5, 3) := by decide +kernel
theorem dX2_hasStarts_11 : decode cX2_hasStarts 11 = .ok (.iconst 0, 1) := by decide +kernel
theorem dX2_hasStarts_12 : decode cX2_hasStarts 12 = .ok (.ireturn, 1) := by decide +kernel
theorem dX2_hasStarts_13 : decode cX2_hasStarts 13 = .ok (.aload_n 0, 1) := by decide +kernel
theorem dX2_hasStarts_14 : decode cX2_hasStarts 14 = .ok (.getfield 12, 3) := by decide +kernel
theorem dX2_hasStarts_17 : decode cX2_hasStarts 17 = .ok (.invokevirtual 102, 3) := by decide +kernel
theorem dX2_hasStarts_20 : decode cX2_hasStarts 20 = .ok (.iconst 0, 1) := by decide +kernel
theorem dX2_hasStarts_21 : decode cX2_hasStarts 21 = .ok (.istore_n 3, 1) := by decide +kernel
theorem dX2_hasStarts_22 : decode cX2_hasStarts 22 = .ok (.iload_n 3, 1) := by decide +kernel
theorem dX2_hasStarts_23 : decode cX2_hasStarts 23 = .ok (.bipush 24, 2) := by decide +kernel
theorem dX2_hasStarts_25 : decode cX2_hasStarts 25 = .ok (.if_icmp .ge 33, 3) := by decide +kernel
theorem dX2_hasStarts_28 : decode cX2_hasStarts 28 = .ok (.aload_n 0, 1) := by decide +kernel
theorem dX2_hasStarts_29 : decode cX2_hasStarts 29 = .ok (.aload_n 1, 1) := by decide +kernel
theorem dX2_hasStarts_30 : decode cX2_hasStarts 30 = .ok (.iload_n 2, 1) := by decide +kernel
theorem dX2_hasStarts_31 : decode cX2_hasStarts 31 = .ok (.invokevirtual 105, 3) := by decide +kernel
theorem dX2_hasStarts_34 : decode cX2_hasStarts 34 = .ok (.ifCond .ne 5, 3) := by decide +kernel
theorem dX2_hasStarts_37 : decode cX2_hasStarts 37 = .ok (.iconst 0, 1) := by decide +kernel
theorem dX2_hasStarts_38 : decode cX2_hasStarts 38 = .ok (.ireturn, 1) := by decide +kernel
theorem dX2_hasStarts_39 : decode cX2_hasStarts 39 = .ok (.aload_n 0, 1) := by decide +kernel
theorem dX2_hasStarts_40 : decode cX2_hasStarts 40 = .ok (.getfield 12, 3) := by decide +kernel
theorem dX2_hasStarts_43 : decode cX2_hasStarts 43 = .ok (.invokevirtual 109, 3) := by decide +kernel
theorem dX2_hasStarts_46 : decode cX2_hasStarts 46 = .ok (.ifCond .ne 6, 3) := by decide +kernel
theorem dX2_hasStarts_49 : decode cX2_hasStarts 49 = .ok (.goto 9, 3) := by decide +kernel
theorem dX2_hasStarts_52 : decode cX2_hasStarts 52 = .ok (.iinc 3 1, 3) := by decide +kernel
theorem dX2_hasStarts_55 : decode cX2_hasStarts 55 = .ok (.goto (-33), 3) := by decide +kernel
theorem dX2_hasStarts_58 : decode cX2_hasStarts 58 = .ok (.iconst 1, 1) := by decide +kernel
theorem dX2_hasStarts_59 : decode cX2_hasStarts 59 = .ok (.ireturn, 1) := by decide +kernel
theorem dX2_findStart_0 : decode cX2_findStart 0 = .ok (.aload_n 0, 1) := by decide +kernel
theorem dX2_findStart_1 : decode cX2_findStart 1 = .ok (.aload_n 1, 1) := by decide +kernel
theorem dX2_findStart_2 : decode cX2_findStart 2 = .ok (.iload_n 2, 1) := by decide +kernel
theorem dX2_findStart_3 : decode cX2_findStart 3 = .ok (.invokevirtual 113, 3) := by decide +kernel
theorem dX2_findStart_6 : decode cX2_findStart 6 = .ok (.ifCond .ne 6, 3) := by decide +kernel
theorem dX2_findStart_9 : decode cX2_findStart 9 = .ok (.bipush (-9), 2) := by decide +kernel
theorem dX2_findStart_11 : decode cX2_findStart 11 = .ok (.ireturn, 1) := by decide +kernel
theorem dX2_findStart_12 : decode cX2_findStart 12 = .ok (.iconst (-1), 1) := by decide +kernel
theorem dX2_findStart_13 : decode cX2_findStart 13 = .ok (.istore 5, 2) := by decide +kernel
theorem dX2_findStart_15 : decode cX2_findStart 15 = .ok (.aload_n 0, 1) := by decide +kernel
theorem dX2_findStart_16 : decode cX2_findStart 16 = .ok (.getfield 12, 3) := by decide +kernel
theorem dX2_findStart_19 : decode cX2_findStart 19 = .ok (.invokevirtual 102, 3) := by decide +kernel
theorem dX2_findStart_22 : decode cX2_findStart 22 = .ok (.iconst 0, 1) := by decide +kernel
theorem dX2_findStart_23 : decode cX2_findStart 23 = .ok (.istore 6, 2) := by decide +kernel
theorem dX2_findStart_25 : decode cX2_findStart 25 = .ok (.iload 6, 2) := by decide +kernel
theorem dX2_findStart_27 : decode cX2_findStart 27 = .ok (.bipush 24, 2) := by decide +kernel
theorem dX2_findStart_29 : decode cX2_findStart 29 = .ok (.if_icmp .ge 56, 3) := by decide +kernel
theorem dX2_findStart_32 : decode cX2_findStart 32 = .ok (.iload 5, 2) := by decide +kernel
theorem dX2_findStart_34 : decode cX2_findStart 34 = .ok (.iload_n 3, 1) := by decide +kernel
theorem dX2_findStart_35 : decode cX2_findStart 35 = .ok (.if_icmp .ge 50, 3) := by decide +kernel
theorem dX2_findStart_38 : decode cX2_findStart 38 = .ok (.aload_n 0, 1) := by decide +kernel
theorem dX2_findStart_39 : decode cX2_findStart 39 = .ok (.aload_n 1, 1) := by decide +kernel
theorem dX2_findStart_40 : decode cX2_findStart 40 = .ok (.iload_n 2, 1) := by decide +kernel
theorem dX2_findStart_41 : decode cX2_findStart 41 = .ok (.iload_n 3, 1) := by decide +kernel
theorem dX2_findStart_42 : decode cX2_findStart 42 = .ok (.iload 4, 2) := by decide +kernel
theorem dX2_findStart_44 : decode cX2_findStart 44 = .ok (.iload 5, 2) := by decide +kernel
theorem dX2_findStart_46 : decode cX2_findStart 46 = .ok (.invokevirtual 116, 3) := by decide +kernel
theorem dX2_findStart_49 : decode cX2_findStart 49 = .ok (.istore 7, 2) := by decide +kernel
theorem dX2_findStart_51 : decode cX2_findStart 51 = .ok (.iload 7, 2) := by decide +kernel
theorem dX2_findStart_53 : decode cX2_findStart 53 = .ok (.iload 5, 2) := by decide +kernel
theorem dX2_findStart_55 : decode cX2_findStart 55 = .ok (.if_icmp .le 11, 3) := by decide +kernel
theorem dX2_findStart_58 : decode cX2_findStart 58 = .ok (.iload 7, 2) := by decide +kernel
theorem dX2_findStart_60 : decode cX2_findStart 60 = .ok (.istore 5, 2) := by decide +kernel
theorem dX2_findStart_62 : decode cX2_findStart 62 = .ok (.aload_n 0, 1) := by decide +kernel
theorem dX2_findStart_63 : decode cX2_findStart 63 = .ok (.invokevirtual 120, 3) := by decide +kernel
theorem dX2_findStart_66 : decode cX2_findStart 66 = .ok (.aload_n 0, 1) := by decide +kernel
theorem dX2_findStart_67 : decode cX2_findStart 67 = .ok (.getfield 12, 3) := by decide +kernel
theorem dX2_findStart_70 : decode cX2_findStart 70 = .ok (.invokevirtual 109, 3) := by decide +kernel
theorem dX2_findStart_73 : decode cX2_findStart 73 = .ok (.ifCond .ne 6, 3) := by decide +kernel
theorem dX2_findStart_76 : decode cX2_findStart 76 = .ok (.goto 9, 3) := by decide +kernel
theorem dX2_findStart_79 : decode cX2_findStart 79 = .ok (.iinc 6 1, 3) := by decide +kernel
theorem dX2_findStart_82 : decode cX2_findStart 82 = .ok (.goto (-57), 3) := by decide +kernel
theorem dX2_findStart_85 : decode cX2_findStart 85 = .ok (.iload 5, 2) := by decide +kernel
theorem dX2_findStart_87 : decode cX2_findStart 87 = .ok (.ifCond .ge 8, 3) := by decide +kernel
theorem dX2_findStart_90 : decode cX2_findStart 90 = .ok (.bipush (-9), 2) := by decide +kernel
theorem dX2_findStart_92 : decode cX2_findStart 92 = .ok (.goto 5, 3) := by decide +kernel
theorem dX2_findStart_95 : decode cX2_findStart 95 = .ok (.iload 5, 2) := by decide +kernel
theorem dX2_findStart_97 : decode cX2_findStart 97 = .ok (.ireturn, 1) := by decide +kernel
theorem dX2_keepOrder_0 : decode cX2_keepOrder 0 = .ok (.iconst 0, 1) := by decide +kernel
theorem dX2_keepOrder_1 : decode cX2_keepOrder 1 = .ok (.istore_n 1, 1) := by decide +kernel
theorem dX2_keepOrder_2 : decode cX2_keepOrder 2 = .ok (.iload_n 1, 1) := by decide +kernel
theorem dX2_keepOrder_3 : decode cX2_keepOrder 3 = .ok (.iconst 4, 1) := by decide +kernel
theorem dX2_keepOrder_4 : decode cX2_keepOrder 4 = .ok (.if_icmp .ge 40, 3) := by decide +kernel
theorem dX2_keepOrder_7 : decode cX2_keepOrder 7 = .ok (.aload_n 0, 1) := by decide +kernel
theorem dX2_keepOrder_8 : decode cX2_keepOrder 8 = .ok (.getfield 25, 3) := by decide +kernel
theorem dX2_keepOrder_11 : decode cX2_keepOrder 11 = .ok (.iload_n 1, 1) := by decide +kernel
theorem dX2_keepOrder_12 : decode cX2_keepOrder 12 = .ok (.iload_n 1, 1) := by decide +kernel
theorem dX2_keepOrder_13 : decode cX2_keepOrder 13 = .ok (.aload_n 0, 1) := by decide +kernel
theorem dX2_keepOrder_14 : decode cX2_keepOrder 14 = .ok (.getfield 12, 3) := by decide +kernel
theorem dX2_keepOrder_17 : decode cX2_keepOrder 17 = .ok (.getfield 29, 3) := by decide +kernel
theorem dX2_keepOrder_20 : decode cX2_keepOrder 20 = .ok (.if_icmp .ge 15, 3) := by decide +kernel
theorem dX2_keepOrder_23 : decode cX2_keepOrder 23 = .ok (.aload_n 0, 1) := by decide +kernel
theorem dX2_keepOrder_24 : decode cX2_keepOrder 24 = .ok (.getfield 12, 3) := by decide +kernel
theorem dX2_keepOrder_27 : decode cX2_keepOrder 27 = .ok (.getfield 47, 3) := by decide +kernel
theorem dX2_keepOrder_30 : decode cX2_keepOrder 30 = .ok (.iload_n 1, 1) := by decide +kernel
theorem dX2_keepOrder_31 : decode cX2_keepOrder 31 = .ok (.iaload, 1) := by decide +kernel
theorem dX2_keepOrder_32 : decode cX2_keepOrder 32 = .ok (.goto 5, 3) := by decide +kernel
theorem dX2_keepOrder_35 : decode cX2_keepOrder 35 = .ok (.bipush (-9), 2) := by decide +kernel
theorem dX2_keepOrder_37 : decode cX2_keepOrder 37 = .ok (.iastore, 1) := by decide +kernel
theorem dX2_keepOrder_38 : decode cX2_keepOrder 38 = .ok (.iinc 1 1, 3) := by decide +kernel
theorem dX2_keepOrder_41 : decode cX2_keepOrder 41 = .ok (.goto (-39), 3) := by decide +kernel
theorem dX2_keepOrder_44 : decode cX2_keepOrder 44 = .ok (.return_, 1) := by decide +kernel
theorem dX2_latestStart_0 : decode cX2_latestStart 0 = .ok (.iload 5, 2) := by decide +kernel
theorem dX2_latestStart_2 : decode cX2_latestStart 2 = .ok (.istore 6, 2) := by decide +kernel
theorem dX2_latestStart_4 : decode cX2_latestStart 4 = .ok (.iload_n 3, 1) := by decide +kernel
theorem dX2_latestStart_5 : decode cX2_latestStart 5 = .ok (.iconst 1, 1) := by decide +kernel
theorem dX2_latestStart_6 : decode cX2_latestStart 6 = .ok (.iadd, 1) := by decide +kernel
theorem dX2_latestStart_7 : decode cX2_latestStart 7 = .ok (.istore 7, 2) := by decide +kernel
theorem dX2_latestStart_9 : decode cX2_latestStart 9 = .ok (.iconst 0, 1) := by decide +kernel
theorem dX2_latestStart_10 : decode cX2_latestStart 10 = .ok (.istore 8, 2) := by decide +kernel
theorem dX2_latestStart_12 : decode cX2_latestStart 12 = .ok (.iload 8, 2) := by decide +kernel
theorem dX2_latestStart_14 : decode cX2_latestStart 14 = .ok (.sipush 200, 3) := by decide +kernel
theorem dX2_latestStart_17 : decode cX2_latestStart 17 = .ok (.if_icmp .ge 85, 3) := by decide +kernel
theorem dX2_latestStart_20 : decode cX2_latestStart 20 = .ok (.iload 7, 2) := by decide +kernel
theorem dX2_latestStart_22 : decode cX2_latestStart 22 = .ok (.iload 6, 2) := by decide +kernel
theorem dX2_latestStart_24 : decode cX2_latestStart 24 = .ok (.isub, 1) := by decide +kernel
theorem dX2_latestStart_25 : decode cX2_latestStart 25 = .ok (.iconst 1, 1) := by decide +kernel
theorem dX2_latestStart_26 : decode cX2_latestStart 26 = .ok (.if_icmp .le 76, 3) := by decide +kernel
theorem dX2_latestStart_29 : decode cX2_latestStart 29 = .ok (.iload 8, 2) := by decide +kernel
theorem dX2_latestStart_31 : decode cX2_latestStart 31 = .ok (.ifCond .ne 10, 3) := by decide +kernel
theorem dX2_latestStart_34 : decode cX2_latestStart 34 = .ok (.iload 6, 2) := by decide +kernel
theorem dX2_latestStart_36 : decode cX2_latestStart 36 = .ok (.iconst 1, 1) := by decide +kernel
theorem dX2_latestStart_37 : decode cX2_latestStart 37 = .ok (.iadd, 1) := by decide +kernel
theorem dX2_latestStart_38 : decode cX2_latestStart 38 = .ok (.goto 10, 3) := by decide +kernel
theorem dX2_latestStart_41 : decode cX2_latestStart 41 = .ok (.iload 6, 2) := by decide +kernel
theorem dX2_latestStart_43 : decode cX2_latestStart 43 = .ok (.iload 7, 2) := by decide +kernel
theorem dX2_latestStart_45 : decode cX2_latestStart 45 = .ok (.iadd, 1) := by decide +kernel
theorem dX2_latestStart_46 : decode cX2_latestStart 46 = .ok (.iconst 2, 1) := by decide +kernel
theorem dX2_latestStart_47 : decode cX2_latestStart 47 = .ok (.idiv, 1) := by decide +kernel
theorem dX2_latestStart_48 : decode cX2_latestStart 48 = .ok (.istore 9, 2) := by decide +kernel
theorem dX2_latestStart_50 : decode cX2_latestStart 50 = .ok (.aload_n 0, 1) := by decide +kernel
theorem dX2_latestStart_51 : decode cX2_latestStart 51 = .ok (.aload_n 1, 1) := by decide +kernel
theorem dX2_latestStart_52 : decode cX2_latestStart 52 = .ok (.iload_n 2, 1) := by decide +kernel
theorem dX2_latestStart_53 : decode cX2_latestStart 53 = .ok (.iload 9, 2) := by decide +kernel
theorem dX2_latestStart_55 : decode cX2_latestStart 55 = .ok (.invokevirtual 123, 3) := by decide +kernel
theorem dX2_latestStart_58 : decode cX2_latestStart 58 = .ok (.aload_n 0, 1) := by decide +kernel
theorem dX2_latestStart_59 : decode cX2_latestStart 59 = .ok (.getfield 21, 3) := by decide +kernel
theorem dX2_latestStart_62 : decode cX2_latestStart 62 = .ok (.iload_n 3, 1) := by decide +kernel
theorem dX2_latestStart_63 : decode cX2_latestStart 63 = .ok (.invokevirtual 127, 3) := by decide +kernel
theorem dX2_latestStart_66 : decode cX2_latestStart 66 = .ok (.ldc2_w 131, 3) := by decide +kernel
theorem dX2_latestStart_69 : decode cX2_latestStart 69 = .ok (.lmul, 1) := by decide +kernel
theorem dX2_latestStart_70 : decode cX2_latestStart 70 = .ok (.aload_n 0, 1) := by decide +kernel
theorem dX2_latestStart_71 : decode cX2_latestStart 71 = .ok (.getfield 21, 3) := by decide +kernel
theorem dX2_latestStart_74 : decode cX2_latestStart 74 = .ok (.getfield 133, 3) := by decide +kernel
theorem dX2_latestStart_77 : decode cX2_latestStart 77 = .ok (.iload 4, 2) := by decide +kernel
theorem dX2_latestStart_79 : decode cX2_latestStart 79 = .ok (.i2l, 1) := by decide +kernel
theorem dX2_latestStart_80 : decode cX2_latestStart 80 = .ok (.lmul, 1) := by decide +kernel
theorem dX2_latestStart_81 : decode cX2_latestStart 81 = .ok (.lcmp, 1) := by decide +kernel
theorem dX2_latestStart_82 : decode cX2_latestStart 82 = .ok (.ifCond .gt 10, 3) := by decide +kernel
theorem dX2_latestStart_85 : decode cX2_latestStart 85 = .ok (.iload 9, 2) := by decide +kernel
theorem dX2_latestStart_87 : decode cX2_latestStart 87 = .ok (.istore 6, 2) := by decide +kernel
theorem dX2_latestStart_89 : decode cX2_latestStart 89 = .ok (.goto 7, 3) := by decide +kernel
theorem dX2_latestStart_92 : decode cX2_latestStart 92 = .ok (.iload 9, 2) := by decide +kernel
theorem dX2_latestStart_94 : decode cX2_latestStart 94 = .ok (.istore 7, 2) := by decide +kernel
theorem dX2_latestStart_96 : decode cX2_latestStart 96 = .ok (.iinc 8 1, 3) := by decide +kernel
theorem dX2_latestStart_99 : decode cX2_latestStart 99 = .ok (.goto (-87), 3) := by decide +kernel
theorem dX2_latestStart_102 : decode cX2_latestStart 102 = .ok (.iload 6, 2) := by decide +kernel
theorem dX2_latestStart_104 : decode cX2_latestStart 104 = .ok (.ireturn, 1) := by decide +kernel
theorem dX3_init_0 : decode cX3_init 0 = .ok (.aload_n 0, 1) := by decide +kernel
theorem dX3_init_1 : decode cX3_init 1 = .ok (.invokespecial 3, 3) := by decide +kernel
theorem dX3_init_4 : decode cX3_init 4 = .ok (.aload_n 0, 1) := by decide +kernel
theorem dX3_init_5 : decode cX3_init 5 = .ok (.sipush 136, 3) := by decide +kernel
theorem dX3_init_8 : decode cX3_init 8 = .ok (.newarray .long, 2) := by decide +kernel
theorem dX3_init_10 : decode cX3_init 10 = .ok (.putfield 11, 3) := by decide +kernel
theorem dX3_init_13 : decode cX3_init 13 = .ok (.aload_n 0, 1) := by decide +kernel
theorem dX3_init_14 : decode cX3_init 14 = .ok (.iconst 0, 1) := by decide +kernel
theorem dX3_init_15 : decode cX3_init 15 = .ok (.putfield 15, 3) := by decide +kernel
theorem dX3_init_18 : decode cX3_init 18 = .ok (.aload_n 0, 1) := by decide +kernel
theorem dX3_init_19 : decode cX3_init 19 = .ok (.iconst 0, 1) := by decide +kernel
theorem dX3_init_20 : decode cX3_init 20 = .ok (.putfield 19, 3) := by decide +kernel
theorem dX3_init_23 : decode cX3_init 23 = .ok (.aload_n 0, 1) := by decide +kernel
theorem dX3_init_24 : decode cX3_init 24 = .ok (.lconst 1, 1) := by decide +kernel
theorem dX3_init_25 : decode cX3_init 25 = .ok (.putfield 22, 3) := by decide +kernel
theorem dX3_init_28 : decode cX3_init 28 = .ok (.return_, 1) := by decide +kernel
theorem dX3_begin_0 : decode cX3_begin 0 = .ok (.iconst 0, 1) := by decide +kernel
theorem dX3_begin_1 : decode cX3_begin 1 = .ok (.istore_n 2, 1) := by decide +kernel
theorem dX3_begin_2 : decode cX3_begin 2 = .ok (.iload_n 2, 1) := by decide +kernel
theorem dX3_begin_3 : decode cX3_begin 3 = .ok (.aload_n 0, 1) := by decide +kernel
theorem dX3_begin_4 : decode cX3_begin 4 = .ok (.getfield 19, 3) := by decide +kernel
theorem dX3_begin_7 : decode cX3_begin 7 = .ok (.if_icmp .gt 16, 3) := by decide +kernel
theorem dX3_begin_10 : decode cX3_begin 10 = .ok (.aload_n 0, 1) := by decide +kernel
theorem dX3_begin_11 : decode cX3_begin 11 = .ok (.getfield 11, 3) := by decide +kernel
theorem dX3_begin_14 : decode cX3_begin 14 = .ok (.iload_n 2, 1) := by decide +kernel
theorem dX3_begin_15 : decode cX3_begin 15 = .ok (.lconst 0, 1) := by decide +kernel
theorem dX3_begin_16 : decode cX3_begin 16 = .ok (.lastore, 1) := by decide +kernel
theorem dX3_begin_17 : decode cX3_begin 17 = .ok (.iinc 2 1, 3) := by decide +kernel
theorem dX3_begin_20 : decode cX3_begin 20 = .ok (.goto (-18), 3) := by decide +kernel
theorem dX3_begin_23 : decode cX3_begin 23 = .ok (.aload_n 0, 1) := by decide +kernel
theorem dX3_begin_24 : decode cX3_begin 24 = .ok (.getfield 11, 3) := by decide +kernel
theorem dX3_begin_27 : decode cX3_begin 27 = .ok (.iconst 0, 1) := by decide +kernel
theorem dX3_begin_28 : decode cX3_begin 28 = .ok (.lconst 1, 1) := by decide +kernel
theorem dX3_begin_29 : decode cX3_begin 29 = .ok (.lastore, 1) := by decide +kernel
theorem dX3_begin_30 : decode cX3_begin 30 = .ok (.aload_n 0, 1) := by decide +kernel
theorem dX3_begin_31 : decode cX3_begin 31 = .ok (.lconst 1, 1) := by decide +kernel
theorem dX3_begin_32 : decode cX3_begin 32 = .ok (.putfield 22, 3) := by decide +kernel
theorem dX3_begin_35 : decode cX3_begin 35 = .ok (.aload_n 0, 1) := by decide +kernel
theorem dX3_begin_36 : decode cX3_begin 36 = .ok (.iload_n 1, 1) := by decide +kernel
theorem dX3_begin_37 : decode cX3_begin 37 = .ok (.putfield 15, 3) := by decide +kernel
theorem dX3_begin_40 : decode cX3_begin 40 = .ok (.aload_n 0, 1) := by decide +kernel
theorem dX3_begin_41 : decode cX3_begin 41 = .ok (.iconst 0, 1) := by decide +kernel
theorem dX3_begin_42 : decode cX3_begin 42 = .ok (.putfield 19, 3) := by decide +kernel
theorem dX3_begin_45 : decode cX3_begin 45 = .ok (.return_, 1) := by decide +kernel
theorem dX3_pass_0 : decode cX3_pass 0 = .ok (.aload_n 0, 1) := by decide +kernel
theorem dX3_pass_1 : decode cX3_pass 1 = .ok (.dup, 1) := by decide +kernel
theorem dX3_pass_2 : decode cX3_pass 2 = .ok (.getfield 15, 3) := by decide +kernel
theorem dX3_pass_5 : decode cX3_pass 5 = .ok (.iload_n 1, 1) := by decide +kernel
theorem dX3_pass_6 : decode cX3_pass 6 = .ok (.iadd, 1) := by decide +kernel
theorem dX3_pass_7 : decode cX3_pass 7 = .ok (.putfield 15, 3) := by decide +kernel
theorem dX3_pass_10 : decode cX3_pass 10 = .ok (.return_, 1) := by decide +kernel
theorem dX3_cross_0 : decode cX3_cross 0 = .ok (.iload_n 2, 1) := by decide +kernel
theorem dX3_cross_1 : decode cX3_cross 1 = .ok (.ifCond .lt 15, 3) := by decide +kernel
theorem dX3_cross_4 : decode cX3_cross 4 = .ok (.aload_n 0, 1) := by decide +kernel
theorem dX3_cross_5 : decode cX3_cross 5 = .ok (.getfield 19, 3) := by decide +kernel
theorem dX3_cross_8 : decode cX3_cross 8 = .ok (.iload_n 2, 1) := by decide +kernel
theorem dX3_cross_9 : decode cX3_cross 9 = .ok (.iadd, 1) := by decide +kernel
theorem dX3_cross_10 : decode cX3_cross 10 = .ok (.sipush 135, 3) := by decide +kernel
theorem dX3_cross_13 : decode cX3_cross 13 = .ok (.if_icmp .le 4, 3) := by decide +kernel
theorem dX3_cross_16 : decode cX3_cross 16 = .ok (.return_, 1) := by decide +kernel
theorem dX3_cross_17 : decode cX3_cross 17 = .ok (.aload_n 0, 1) := by decide +kernel
theorem dX3_cross_18 : decode cX3_cross 18 = .ok (.getfield 19, 3) := by decide +kernel
theorem dX3_cross_21 : decode cX3_cross 21 = .ok (.istore_n 3, 1) := by decide +kernel
theorem dX3_cross_22 : decode cX3_cross 22 = .ok (.iload_n 3, 1) := by decide +kernel
theorem dX3_cross_23 : decode cX3_cross 23 = .ok (.ifCond .lt 47, 3) := by decide +kernel
theorem dX3_cross_26 : decode cX3_cross 26 = .ok (.aload_n 0, 1) := by decide +kernel
theorem dX3_cross_27 : decode cX3_cross 27 = .ok (.getfield 11, 3) := by decide +kernel
theorem dX3_cross_30 : decode cX3_cross 30 = .ok (.iload_n 3, 1) := by decide +kernel
theorem dX3_cross_31 : decode cX3_cross 31 = .ok (.laload, 1) := by decide +kernel
theorem dX3_cross_32 : decode cX3_cross 32 = .ok (.lstore 4, 2) := by decide +kernel
theorem dX3_cross_34 : decode cX3_cross 34 = .ok (.aload_n 0, 1) := by decide +kernel
theorem dX3_cross_35 : decode cX3_cross 35 = .ok (.getfield 11, 3) := by decide +kernel
theorem dX3_cross_38 : decode cX3_cross 38 = .ok (.iload_n 3, 1) := by decide +kernel
theorem dX3_cross_39 : decode cX3_cross 39 = .ok (.lload 4, 2) := by decide +kernel
theorem dX3_cross_41 : decode cX3_cross 41 = .ok (.bipush 10, 2) := by decide +kernel
theorem dX3_cross_43 : decode cX3_cross 43 = .ok (.iload_n 1, 1) := by decide +kernel
theorem dX3_cross_44 : decode cX3_cross 44 = .ok (.isub, 1) := by decide +kernel
theorem dX3_cross_45 : decode cX3_cross 45 = .ok (.i2l, 1) := by decide +kernel
theorem dX3_cross_46 : decode cX3_cross 46 = .ok (.lmul, 1) := by decide +kernel
theorem dX3_cross_47 : decode cX3_cross 47 = .ok (.lastore, 1) := by decide +kernel
theorem dX3_cross_48 : decode cX3_cross 48 = .ok (.aload_n 0, 1) := by decide +kernel
theorem dX3_cross_49 : decode cX3_cross 49 = .ok (.getfield 11, 3) := by decide +kernel
theorem dX3_cross_52 : decode cX3_cross 52 = .ok (.iload_n 3, 1) := by decide +kernel
theorem dX3_cross_53 : decode cX3_cross 53 = .ok (.iload_n 2, 1) := by decide +kernel
theorem dX3_cross_54 : decode cX3_cross 54 = .ok (.iadd, 1) := by decide +kernel
theorem dX3_cross_55 : decode cX3_cross 55 = .ok (.dup2, 1) := by decide +kernel
theorem dX3_cross_56 : decode cX3_cross 56 = .ok (.laload, 1) := by decide +kernel
theorem dX3_cross_57 : decode cX3_cross 57 = .ok (.lload 4, 2) := by decide +kernel
theorem dX3_cross_59 : decode cX3_cross 59 = .ok (.iload_n 1, 1) := by decide +kernel
theorem dX3_cross_60 : decode cX3_cross 60 = .ok (.i2l, 1) := by decide +kernel
theorem dX3_cross_61 : decode cX3_cross 61 = .ok (.lmul, 1) := by decide +kernel
theorem dX3_cross_62 : decode cX3_cross 62 = .ok (.ladd, 1) := by decide +kernel
theorem dX3_cross_63 : decode cX3_cross 63 = .ok (.lastore, 1) := by decide +kernel
theorem dX3_cross_64 : decode cX3_cross 64 = .ok (.iinc 3 (-1), 3) := by decide +kernel
theorem dX3_cross_67 : decode cX3_cross 67 = .ok (.goto (-45), 3) := by decide +kernel
theorem dX3_cross_70 : decode cX3_cross 70 = .ok (.aload_n 0, 1) := by decide +kernel
theorem dX3_cross_71 : decode cX3_cross 71 = .ok (.dup, 1) := by decide +kernel
theorem dX3_cross_72 : decode cX3_cross 72 = .ok (.getfield 19, 3) := by decide +kernel
theorem dX3_cross_75 : decode cX3_cross 75 = .ok (.iload_n 2, 1) := by decide +kernel
theorem dX3_cross_76 : decode cX3_cross 76 = .ok (.iadd, 1) := by decide +kernel
theorem dX3_cross_77 : decode cX3_cross 77 = .ok (.putfield 19, 3) := by decide +kernel
theorem dX3_cross_80 : decode cX3_cross 80 = .ok (.aload_n 0, 1) := by decide +kernel
theorem dX3_cross_81 : decode cX3_cross 81 = .ok (.dup, 1) := by decide +kernel
theorem dX3_cross_82 : decode cX3_cross 82 = .ok (.getfield 22, 3) := by decide +kernel
theorem dX3_cross_85 : decode cX3_cross 85 = .ok (.ldc2_w 26, 3) := by decide +kernel
theorem dX3_cross_88 : decode cX3_cross 88 = .ok (.lmul, 1) := by decide +kernel
theorem dX3_cross_89 : decode cX3_cross 89 = .ok (.putfield 22, 3) := by decide +kernel
theorem dX3_cross_92 : decode cX3_cross 92 = .ok (.return_, 1) := by decide +kernel
theorem dX3_waitUntil_0 : decode cX3_waitUntil 0 = .ok (.iload_n 1, 1) := by decide +kernel
theorem dX3_waitUntil_1 : decode cX3_waitUntil 1 = .ok (.aload_n 0, 1) := by decide +kernel
theorem dX3_waitUntil_2 : decode cX3_waitUntil 2 = .ok (.getfield 15, 3) := by decide +kernel
theorem dX3_waitUntil_5 : decode cX3_waitUntil 5 = .ok (.isub, 1) := by decide +kernel
theorem dX3_waitUntil_6 : decode cX3_waitUntil 6 = .ok (.istore_n 2, 1) := by decide +kernel
theorem dX3_waitUntil_7 : decode cX3_waitUntil 7 = .ok (.iload_n 2, 1) := by decide +kernel
theorem dX3_waitUntil_8 : decode cX3_waitUntil 8 = .ok (.ifCond .gt 4, 3) := by decide +kernel
theorem dX3_waitUntil_11 : decode cX3_waitUntil 11 = .ok (.return_, 1) := by decide +kernel
theorem dX3_waitUntil_12 : decode cX3_waitUntil 12 = .ok (.lconst 0, 1) := by decide +kernel
theorem dX3_waitUntil_13 : decode cX3_waitUntil 13 = .ok (.lstore_n 3, 1) := by decide +kernel
theorem dX3_waitUntil_14 : decode cX3_waitUntil 14 = .ok (.iconst 0, 1) := by decide +kernel
theorem dX3_waitUntil_15 : decode cX3_waitUntil 15 = .ok (.istore 5, 2) := by decide +kernel
theorem dX3_waitUntil_17 : decode cX3_waitUntil 17 = .ok (.iload 5, 2) := by decide +kernel
theorem dX3_waitUntil_19 : decode cX3_waitUntil 19 = .ok (.aload_n 0, 1) := by decide +kernel
theorem dX3_waitUntil_20 : decode cX3_waitUntil 20 = .ok (.getfield 19, 3) := by decide +kernel
theorem dX3_waitUntil_23 : decode cX3_waitUntil 23 = .ok (.if_icmp .gt 25, 3) := by decide +kernel
theorem dX3_waitUntil_26 : decode cX3_waitUntil 26 = .ok (.iload 5, 2) := by decide +kernel
theorem dX3_waitUntil_28 : decode cX3_waitUntil 28 = .ok (.iload_n 2, 1) := by decide +kernel
theorem dX3_waitUntil_29 : decode cX3_waitUntil 29 = .ok (.if_icmp .gt 19, 3) := by decide +kernel
theorem dX3_waitUntil_32 : decode cX3_waitUntil 32 = .ok (.lload_n 3, 1) := by decide +kernel
theorem dX3_waitUntil_33 : decode cX3_waitUntil 33 = .ok (.aload_n 0, 1) := by decide +kernel
theorem dX3_waitUntil_34 : decode cX3_waitUntil 34 = .ok (.getfield 11, 3) := by decide +kernel
theorem dX3_waitUntil_37 : decode cX3_waitUntil 37 = .ok (.iload 5, 2) := by decide +kernel
theorem dX3_waitUntil_39 : decode cX3_waitUntil 39 = .ok (.laload, 1) := by decide +kernel
theorem dX3_waitUntil_40 : decode cX3_waitUntil 40 = .ok (.ladd, 1) := by decide +kernel
theorem dX3_waitUntil_41 : decode cX3_waitUntil 41 = .ok (.lstore_n 3, 1) := by decide +kernel
theorem dX3_waitUntil_42 : decode cX3_waitUntil 42 = .ok (.iinc 5 1, 3) := by decide +kernel
theorem dX3_waitUntil_45 : decode cX3_waitUntil 45 = .ok (.goto (-28), 3) := by decide +kernel
theorem dX3_waitUntil_48 : decode cX3_waitUntil 48 = .ok (.aload_n 0, 1) := by decide +kernel
theorem dX3_waitUntil_49 : decode cX3_waitUntil 49 = .ok (.getfield 11, 3) := by decide +kernel
theorem dX3_waitUntil_52 : decode cX3_waitUntil 52 = .ok (.iconst 0, 1) := by decide +kernel
theorem dX3_waitUntil_53 : decode cX3_waitUntil 53 = .ok (.lload_n 3, 1) := by decide +kernel
theorem dX3_waitUntil_54 : decode cX3_waitUntil 54 = .ok (.lastore, 1) := by decide +kernel
theorem dX3_waitUntil_55 : decode cX3_waitUntil 55 = .ok (.iconst 1, 1) := by decide +kernel
theorem dX3_waitUntil_56 : decode cX3_waitUntil 56 = .ok (.istore 5, 2) := by decide +kernel
theorem dX3_waitUntil_58 : decode cX3_waitUntil 58 = .ok (.iload 5, 2) := by decide +kernel
theorem dX3_waitUntil_60 : decode cX3_waitUntil 60 = .ok (.aload_n 0, 1) := by decide +kernel
theorem dX3_waitUntil_61 : decode cX3_waitUntil 61 = .ok (.getfield 19, 3) := by decide +kernel
theorem dX3_waitUntil_64 : decode cX3_waitUntil 64 = .ok (.if_icmp .gt 40, 3) := by decide +kernel
theorem dX3_waitUntil_67 : decode cX3_waitUntil 67 = .ok (.aload_n 0, 1) := by decide +kernel
theorem dX3_waitUntil_68 : decode cX3_waitUntil 68 = .ok (.getfield 11, 3) := by decide +kernel
theorem dX3_waitUntil_71 : decode cX3_waitUntil 71 = .ok (.iload 5, 2) := by decide +kernel
theorem dX3_waitUntil_73 : decode cX3_waitUntil 73 = .ok (.iload 5, 2) := by decide +kernel
theorem dX3_waitUntil_75 : decode cX3_waitUntil 75 = .ok (.aload_n 0, 1) := by decide +kernel
theorem dX3_waitUntil_76 : decode cX3_waitUntil 76 = .ok (.getfield 19, 3) := by decide +kernel
theorem dX3_waitUntil_79 : decode cX3_waitUntil 79 = .ok (.iload_n 2, 1) := by decide +kernel
theorem dX3_waitUntil_80 : decode cX3_waitUntil 80 = .ok (.isub, 1) := by decide +kernel
theorem dX3_waitUntil_81 : decode cX3_waitUntil 81 = .ok (.if_icmp .gt 15, 3) := by decide +kernel
theorem dX3_waitUntil_84 : decode cX3_waitUntil 84 = .ok (.aload_n 0, 1) := by decide +kernel
theorem dX3_waitUntil_85 : decode cX3_waitUntil 85 = .ok (.getfield 11, 3) := by decide +kernel
theorem dX3_waitUntil_88 : decode cX3_waitUntil 88 = .ok (.iload 5, 2) := by decide +kernel
theorem dX3_waitUntil_90 : decode cX3_waitUntil 90 = .ok (.iload_n 2, 1) := by decide +kernel
theorem dX3_waitUntil_91 : decode cX3_waitUntil 91 = .ok (.iadd, 1) := by decide +kernel
theorem dX3_waitUntil_92 : decode cX3_waitUntil 92 = .ok (.laload, 1) := by decide +kernel
theorem dX3_waitUntil_93 : decode cX3_waitUntil 93 = .ok (.goto 4, 3) := by decide +kernel
theorem dX3_waitUntil_96 : decode cX3_waitUntil 96 = .ok (.lconst 0, 1) := by decide +kernel
theorem dX3_waitUntil_97 : decode cX3_waitUntil 97 = .ok (.lastore, 1) := by decide +kernel
theorem dX3_waitUntil_98 : decode cX3_waitUntil 98 = .ok (.iinc 5 1, 3) := by decide +kernel
theorem dX3_waitUntil_101 : decode cX3_waitUntil 101 = .ok (.goto (-43), 3) := by decide +kernel
theorem dX3_waitUntil_104 : decode cX3_waitUntil 104 = .ok (.aload_n 0, 1) := by decide +kernel
theorem dX3_waitUntil_105 : decode cX3_waitUntil 105 = .ok (.iconst 0, 1) := by decide +kernel
theorem dX3_waitUntil_106 : decode cX3_waitUntil 106 = .ok (.aload_n 0, 1) := by decide +kernel
theorem dX3_waitUntil_107 : decode cX3_waitUntil 107 = .ok (.getfield 19, 3) := by decide +kernel
theorem dX3_waitUntil_110 : decode cX3_waitUntil 110 = .ok (.iload_n 2, 1) := by decide +kernel
theorem dX3_waitUntil_111 : decode cX3_waitUntil 111 = .ok (.isub, 1) := by decide +kernel
theorem dX3_waitUntil_112 : decode cX3_waitUntil 112 = .ok (.invokestatic 28, 3) := by decide +kernel
theorem dX3_waitUntil_115 : decode cX3_waitUntil 115 = .ok (.putfield 19, 3) := by decide +kernel
theorem dX3_waitUntil_118 : decode cX3_waitUntil 118 = .ok (.aload_n 0, 1) := by decide +kernel
theorem dX3_waitUntil_119 : decode cX3_waitUntil 119 = .ok (.iload_n 1, 1) := by decide +kernel
theorem dX3_waitUntil_120 : decode cX3_waitUntil 120 = .ok (.putfield 15, 3) := by decide +kernel
theorem dX3_waitUntil_123 : decode cX3_waitUntil 123 = .ok (.return_, 1) := by decide +kernel
theorem dX3_casesBehind_0 : decode cX3_casesBehind 0 = .ok (.lconst 0, 1) := by decide +kernel
theorem dX3_casesBehind_1 : decode cX3_casesBehind 1 = .ok (.lstore_n 2, 1) := by decide +kernel
theorem dX3_casesBehind_2 : decode cX3_casesBehind 2 = .ok (.iconst 0, 1) := by decide +kernel
theorem dX3_casesBehind_3 : decode cX3_casesBehind 3 = .ok (.istore 4, 2) := by decide +kernel
theorem dX3_casesBehind_5 : decode cX3_casesBehind 5 = .ok (.iload 4, 2) := by decide +kernel
theorem dX3_casesBehind_7 : decode cX3_casesBehind 7 = .ok (.aload_n 0, 1) := by decide +kernel
theorem dX3_casesBehind_8 : decode cX3_casesBehind 8 = .ok (.getfield 19, 3) := by decide +kernel
theorem dX3_casesBehind_11 : decode cX3_casesBehind 11 = .ok (.if_icmp .gt 34, 3) := by decide +kernel
theorem dX3_casesBehind_14 : decode cX3_casesBehind 14 = .ok (.lload_n 2, 1) := by decide +kernel
theorem dX3_casesBehind_15 : decode cX3_casesBehind 15 = .ok (.aload_n 0, 1) := by decide +kernel
theorem dX3_casesBehind_16 : decode cX3_casesBehind 16 = .ok (.getfield 15, 3) := by decide +kernel
theorem dX3_casesBehind_19 : decode cX3_casesBehind 19 = .ok (.iload 4, 2) := by decide +kernel
theorem dX3_casesBehind_21 : decode cX3_casesBehind 21 = .ok (.iadd, 1) := by decide +kernel
theorem dX3_casesBehind_22 : decode cX3_casesBehind 22 = .ok (.iload_n 1, 1) := by decide +kernel
theorem dX3_casesBehind_23 : decode cX3_casesBehind 23 = .ok (.if_icmp .le 13, 3) := by decide +kernel
theorem dX3_casesBehind_26 : decode cX3_casesBehind 26 = .ok (.aload_n 0, 1) := by decide +kernel
theorem dX3_casesBehind_27 : decode cX3_casesBehind 27 = .ok (.getfield 11, 3) := by decide +kernel
theorem dX3_casesBehind_30 : decode cX3_casesBehind 30 = .ok (.iload 4, 2) := by decide +kernel
theorem dX3_casesBehind_32 : decode cX3_casesBehind 32 = .ok (.laload, 1) := by decide +kernel
theorem dX3_casesBehind_33 : decode cX3_casesBehind 33 = .ok (.goto 4, 3) := by decide +kernel
theorem dX3_casesBehind_36 : decode cX3_casesBehind 36 = .ok (.lconst 0, 1) := by decide +kernel
theorem dX3_casesBehind_37 : decode cX3_casesBehind 37 = .ok (.ladd, 1) := by decide +kernel
theorem dX3_casesBehind_38 : decode cX3_casesBehind 38 = .ok (.lstore_n 2, 1) := by decide +kernel
theorem dX3_casesBehind_39 : decode cX3_casesBehind 39 = .ok (.iinc 4 1, 3) := by decide +kernel
theorem dX3_casesBehind_42 : decode cX3_casesBehind 42 = .ok (.goto (-37), 3) := by decide +kernel
theorem dX3_casesBehind_45 : decode cX3_casesBehind 45 = .ok (.lload_n 2, 1) := by decide +kernel
theorem dX3_casesBehind_46 : decode cX3_casesBehind 46 = .ok (.lreturn, 1) := by decide +kernel
theorem dX3_sumOverCases_0 : decode cX3_sumOverCases 0 = .ok (.lconst 0, 1) := by decide +kernel
theorem dX3_sumOverCases_1 : decode cX3_sumOverCases 1 = .ok (.lstore_n 1, 1) := by decide +kernel
theorem dX3_sumOverCases_2 : decode cX3_sumOverCases 2 = .ok (.iconst 0, 1) := by decide +kernel
theorem dX3_sumOverCases_3 : decode cX3_sumOverCases 3 = .ok (.istore_n 3, 1) := by decide +kernel
theorem dX3_sumOverCases_4 : decode cX3_sumOverCases 4 = .ok (.iload_n 3, 1) := by decide +kernel
theorem dX3_sumOverCases_5 : decode cX3_sumOverCases 5 = .ok (.aload_n 0, 1) := by decide +kernel
theorem dX3_sumOverCases_6 : decode cX3_sumOverCases 6 = .ok (.getfield 19, 3) := by decide +kernel
theorem dX3_sumOverCases_9 : decode cX3_sumOverCases 9 = .ok (.if_icmp .gt 26, 3) := by decide +kernel
theorem dX3_sumOverCases_12 : decode cX3_sumOverCases 12 = .ok (.lload_n 1, 1) := by decide +kernel
theorem dX3_sumOverCases_13 : decode cX3_sumOverCases 13 = .ok (.aload_n 0, 1) := by decide +kernel
theorem dX3_sumOverCases_14 : decode cX3_sumOverCases 14 = .ok (.getfield 11, 3) := by decide +kernel
theorem dX3_sumOverCases_17 : decode cX3_sumOverCases 17 = .ok (.iload_n 3, 1) := by decide +kernel
theorem dX3_sumOverCases_18 : decode cX3_sumOverCases 18 = .ok (.laload, 1) := by decide +kernel
theorem dX3_sumOverCases_19 : decode cX3_sumOverCases 19 = .ok (.aload_n 0, 1) := by decide +kernel
theorem dX3_sumOverCases_20 : decode cX3_sumOverCases 20 = .ok (.getfield 15, 3) := by decide +kernel
theorem dX3_sumOverCases_23 : decode cX3_sumOverCases 23 = .ok (.iload_n 3, 1) := by decide +kernel
theorem dX3_sumOverCases_24 : decode cX3_sumOverCases 24 = .ok (.iadd, 1) := by decide +kernel
theorem dX3_sumOverCases_25 : decode cX3_sumOverCases 25 = .ok (.i2l, 1) := by decide +kernel
theorem dX3_sumOverCases_26 : decode cX3_sumOverCases 26 = .ok (.lmul, 1) := by decide +kernel
theorem dX3_sumOverCases_27 : decode cX3_sumOverCases 27 = .ok (.ladd, 1) := by decide +kernel
theorem dX3_sumOverCases_28 : decode cX3_sumOverCases 28 = .ok (.lstore_n 1, 1) := by decide +kernel
theorem dX3_sumOverCases_29 : decode cX3_sumOverCases 29 = .ok (.iinc 3 1, 3) := by decide +kernel
theorem dX3_sumOverCases_32 : decode cX3_sumOverCases 32 = .ok (.goto (-28), 3) := by decide +kernel
theorem dX3_sumOverCases_35 : decode cX3_sumOverCases 35 = .ok (.lload_n 1, 1) := by decide +kernel
theorem dX3_sumOverCases_36 : decode cX3_sumOverCases 36 = .ok (.lreturn, 1) := by decide +kernel
theorem dX4_init_0 : decode cX4_init 0 = .ok (.aload_n 0, 1) := by decide +kernel
theorem dX4_init_1 : decode cX4_init 1 = .ok (.invokespecial 3, 3) := by decide +kernel
theorem dX4_init_4 : decode cX4_init 4 = .ok (.aload_n 0, 1) := by decide +kernel
theorem dX4_init_5 : decode cX4_init 5 = .ok (.bipush 100, 2) := by decide +kernel
theorem dX4_init_7 : decode cX4_init 7 = .ok (.newarray .int, 2) := by decide +kernel
theorem dX4_init_9 : decode cX4_init 9 = .ok (.putfield 9, 3) := by decide +kernel
theorem dX4_init_12 : decode cX4_init 12 = .ok (.aload_n 0, 1) := by decide +kernel
theorem dX4_init_13 : decode cX4_init 13 = .ok (.iconst 0, 1) := by decide +kernel
theorem dX4_init_14 : decode cX4_init 14 = .ok (.putfield 15, 3) := by decide +kernel
theorem dX4_init_17 : decode cX4_init 17 = .ok (.aload_n 0, 1) := by decide +kernel
theorem dX4_init_18 : decode cX4_init 18 = .ok (.iconst 0, 1) := by decide +kernel
theorem dX4_init_19 : decode cX4_init 19 = .ok (.putfield 19, 3) := by decide +kernel
theorem dX4_init_22 : decode cX4_init 22 = .ok (.return_, 1) := by decide +kernel
theorem dX4_read_0 : decode cX4_read 0 = .ok (.aload_n 0, 1) := by decide +kernel
theorem dX4_read_1 : decode cX4_read 1 = .ok (.iload_n 3, 1) := by decide +kernel
theorem dX4_read_2 : decode cX4_read 2 = .ok (.bipush 100, 2) := by decide +kernel
theorem dX4_read_4 : decode cX4_read 4 = .ok (.invokestatic 22, 3) := by decide +kernel
theorem dX4_read_7 : decode cX4_read 7 = .ok (.putfield 15, 3) := by decide +kernel
theorem dX4_read_10 : decode cX4_read 10 = .ok (.iconst 0, 1) := by decide +kernel
theorem dX4_read_11 : decode cX4_read 11 = .ok (.istore 5, 2) := by decide +kernel
theorem dX4_read_13 : decode cX4_read 13 = .ok (.iload 5, 2) := by decide +kernel
theorem dX4_read_15 : decode cX4_read 15 = .ok (.aload_n 0, 1) := by decide +kernel
theorem dX4_read_16 : decode cX4_read 16 = .ok (.getfield 15, 3) := by decide +kernel
theorem dX4_read_19 : decode cX4_read 19 = .ok (.if_icmp .ge 24, 3) := by decide +kernel
theorem dX4_read_22 : decode cX4_read 22 = .ok (.aload_n 0, 1) := by decide +kernel
theorem dX4_read_23 : decode cX4_read 23 = .ok (.getfield 9, 3) := by decide +kernel
theorem dX4_read_26 : decode cX4_read 26 = .ok (.iload 5, 2) := by decide +kernel
theorem dX4_read_28 : decode cX4_read 28 = .ok (.aload_n 1, 1) := by decide +kernel
theorem dX4_read_29 : decode cX4_read 29 = .ok (.iload_n 2, 1) := by decide +kernel
theorem dX4_read_30 : decode cX4_read 30 = .ok (.iload 5, 2) := by decide +kernel
theorem dX4_read_32 : decode cX4_read 32 = .ok (.iadd, 1) := by decide +kernel
theorem dX4_read_33 : decode cX4_read 33 = .ok (.invokevirtual 28, 3) := by decide +kernel
theorem dX4_read_36 : decode cX4_read 36 = .ok (.iastore, 1) := by decide +kernel
theorem dX4_read_37 : decode cX4_read 37 = .ok (.iinc 5 1, 3) := by decide +kernel
theorem dX4_read_40 : decode cX4_read 40 = .ok (.goto (-27), 3) := by decide +kernel
theorem dX4_read_43 : decode cX4_read 43 = .ok (.aload_n 0, 1) := by decide +kernel
theorem dX4_read_44 : decode cX4_read 44 = .ok (.iconst 0, 1) := by decide +kernel
theorem dX4_read_45 : decode cX4_read 45 = .ok (.putfield 19, 3) := by decide +kernel
theorem dX4_read_48 : decode cX4_read 48 = .ok (.aload_n 0, 1) := by decide +kernel
theorem dX4_read_49 : decode cX4_read 49 = .ok (.bipush 110, 2) := by decide +kernel
theorem dX4_read_51 : decode cX4_read 51 = .ok (.invokevirtual 33, 3) := by decide +kernel
theorem dX4_read_54 : decode cX4_read 54 = .ok (.ifCond .eq 13, 3) := by decide +kernel
theorem dX4_read_57 : decode cX4_read 57 = .ok (.aload_n 0, 1) := by decide +kernel
theorem dX4_read_58 : decode cX4_read 58 = .ok (.iconst 2, 1) := by decide +kernel
theorem dX4_read_59 : decode cX4_read 59 = .ok (.bipush 7, 2) := by decide +kernel
theorem dX4_read_61 : decode cX4_read 61 = .ok (.invokevirtual 37, 3) := by decide +kernel
theorem dX4_read_64 : decode cX4_read 64 = .ok (.ifCond .ne 8, 3) := by decide +kernel
theorem dX4_read_67 : decode cX4_read 67 = .ok (.aload_n 0, 1) := by decide +kernel
theorem dX4_read_68 : decode cX4_read 68 = .ok (.getfield 19, 3) := by decide +kernel
theorem dX4_read_71 : decode cX4_read 71 = .ok (.ireturn, 1) := by decide +kernel
theorem dX4_read_72 : decode cX4_read 72 = .ok (.aload 4, 2) := by decide +kernel
theorem dX4_read_74 : decode cX4_read 74 = .ok (.aload_n 0, 1) := by decide +kernel
theorem dX4_read_75 : decode cX4_read 75 = .ok (.invokevirtual 41, 3) := by decide +kernel
theorem dX4_read_78 : decode cX4_read 78 = .ok (.invokevirtual 45, 3) := by decide +kernel
theorem dX4_read_81 : decode cX4_read 81 = .ok (.aload_n 0, 1) := by decide +kernel
theorem dX4_read_82 : decode cX4_read 82 = .ok (.aload 4, 2) := by decide +kernel
theorem dX4_read_84 : decode cX4_read 84 = .ok (.invokevirtual 51, 3) := by decide +kernel
theorem dX4_read_87 : decode cX4_read 87 = .ok (.ireturn, 1) := by decide +kernel
theorem dX4_readRoads_0 : decode cX4_readRoads 0 = .ok (.iconst 0, 1) := by decide +kernel
theorem dX4_readRoads_1 : decode cX4_readRoads 1 = .ok (.istore_n 2, 1) := by decide +kernel
theorem dX4_readRoads_2 : decode cX4_readRoads 2 = .ok (.iload_n 2, 1) := by decide +kernel
theorem dX4_readRoads_3 : decode cX4_readRoads 3 = .ok (.bipush 12, 2) := by decide +kernel
theorem dX4_readRoads_5 : decode cX4_readRoads 5 = .ok (.if_icmp .gt 66, 3) := by decide +kernel
theorem dX4_readRoads_8 : decode cX4_readRoads 8 = .ok (.aload_n 0, 1) := by decide +kernel
theorem dX4_readRoads_9 : decode cX4_readRoads 9 = .ok (.bipush 59, 2) := by decide +kernel
theorem dX4_readRoads_11 : decode cX4_readRoads 11 = .ok (.invokevirtual 33, 3) := by decide +kernel
theorem dX4_readRoads_14 : decode cX4_readRoads 14 = .ok (.ifCond .ne 8, 3) := by decide +kernel
theorem dX4_readRoads_17 : decode cX4_readRoads 17 = .ok (.aload_n 0, 1) := by decide +kernel
theorem dX4_readRoads_18 : decode cX4_readRoads 18 = .ok (.getfield 19, 3) := by decide +kernel
theorem dX4_readRoads_21 : decode cX4_readRoads 21 = .ok (.ireturn, 1) := by decide +kernel
theorem dX4_readRoads_22 : decode cX4_readRoads 22 = .ok (.iload_n 2, 1) := by decide +kernel
theorem dX4_readRoads_23 : decode cX4_readRoads 23 = .ok (.ifCond .le 18, 3) := by decide +kernel
theorem dX4_readRoads_26 : decode cX4_readRoads 26 = .ok (.aload_n 0, 1) := by decide +kernel
theorem dX4_readRoads_27 : decode cX4_readRoads 27 = .ok (.bipush 115, 2) := by decide +kernel
theorem dX4_readRoads_29 : decode cX4_readRoads 29 = .ok (.invokevirtual 33, 3) := by decide +kernel
theorem dX4_readRoads_32 : decode cX4_readRoads 32 = .ok (.ifCond .eq 9, 3) := by decide +kernel
theorem dX4_readRoads_35 : decode cX4_readRoads 35 = .ok (.aload_n 0, 1) := by decide +kernel
theorem dX4_readRoads_36 : decode cX4_readRoads 36 = .ok (.aload_n 1, 1) := by decide +kernel
theorem dX4_readRoads_37 : decode cX4_readRoads 37 = .ok (.invokevirtual 55, 3) := by decide +kernel
theorem dX4_readRoads_40 : decode cX4_readRoads 40 = .ok (.ireturn, 1) := by decide +kernel
theorem dX4_readRoads_41 : decode cX4_readRoads 41 = .ok (.iload_n 2, 1) := by decide +kernel
theorem dX4_readRoads_42 : decode cX4_readRoads 42 = .ok (.bipush 12, 2) := by decide +kernel
theorem dX4_readRoads_44 : decode cX4_readRoads 44 = .ok (.if_icmp .ne 8, 3) := by decide +kernel
theorem dX4_readRoads_47 : decode cX4_readRoads 47 = .ok (.aload_n 0, 1) := by decide +kernel
theorem dX4_readRoads_48 : decode cX4_readRoads 48 = .ok (.getfield 19, 3) := by decide +kernel
theorem dX4_readRoads_51 : decode cX4_readRoads 51 = .ok (.ireturn, 1) := by decide +kernel
theorem dX4_readRoads_52 : decode cX4_readRoads 52 = .ok (.aload_n 0, 1) := by decide +kernel
theorem dX4_readRoads_53 : decode cX4_readRoads 53 = .ok (.aload_n 1, 1) := by decide +kernel
theorem dX4_readRoads_54 : decode cX4_readRoads 54 = .ok (.invokevirtual 58, 3) := by decide +kernel
theorem dX4_readRoads_57 : decode cX4_readRoads 57 = .ok (.istore_n 3, 1) := by decide +kernel
theorem dX4_readRoads_58 : decode cX4_readRoads 58 = .ok (.iload_n 3, 1) := by decide +kernel
theorem dX4_readRoads_59 : decode cX4_readRoads 59 = .ok (.iconst (-1), 1) := by decide +kernel
theorem dX4_readRoads_60 : decode cX4_readRoads 60 = .ok (.if_icmp .eq 5, 3) := by decide +kernel
theorem dX4_readRoads_63 : decode cX4_readRoads 63 = .ok (.iload_n 3, 1) := by decide +kernel
theorem dX4_readRoads_64 : decode cX4_readRoads 64 = .ok (.ireturn, 1) := by decide +kernel
theorem dX4_readRoads_65 : decode cX4_readRoads 65 = .ok (.iinc 2 1, 3) := by decide +kernel
theorem dX4_readRoads_68 : decode cX4_readRoads 68 = .ok (.goto (-66), 3) := by decide +kernel
theorem dX4_readRoads_71 : decode cX4_readRoads 71 = .ok (.aload_n 0, 1) := by decide +kernel
theorem dX4_readRoads_72 : decode cX4_readRoads 72 = .ok (.getfield 19, 3) := by decide +kernel
theorem dX4_readRoads_75 : decode cX4_readRoads 75 = .ok (.ireturn, 1) := by decide +kernel
theorem dX4_readRoad_0 : decode cX4_readRoad 0 = .ok (.aload_n 0, 1) := by decide +kernel
theorem dX4_readRoad_1 : decode cX4_readRoad 1 = .ok (.iconst 0, 1) := by decide +kernel
theorem dX4_readRoad_2 : decode cX4_readRoad 2 = .ok (.aload_n 1, 1) := by decide +kernel
theorem dX4_readRoad_3 : decode cX4_readRoad 3 = .ok (.getfield 61, 3) := by decide +kernel
theorem dX4_readRoad_6 : decode cX4_readRoad 6 = .ok (.iconst 1, 1) := by decide +kernel
theorem dX4_readRoad_7 : decode cX4_readRoad 7 = .ok (.isub, 1) := by decide +kernel
theorem dX4_readRoad_8 : decode cX4_readRoad 8 = .ok (.invokevirtual 37, 3) := by decide +kernel
theorem dX4_readRoad_11 : decode cX4_readRoad 11 = .ok (.ifCond .ne 8, 3) := by decide +kernel
theorem dX4_readRoad_14 : decode cX4_readRoad 14 = .ok (.aload_n 0, 1) := by decide +kernel
theorem dX4_readRoad_15 : decode cX4_readRoad 15 = .ok (.getfield 19, 3) := by decide +kernel
theorem dX4_readRoad_18 : decode cX4_readRoad 18 = .ok (.ireturn, 1) := by decide +kernel
theorem dX4_readRoad_19 : decode cX4_readRoad 19 = .ok (.aload_n 0, 1) := by decide +kernel
theorem dX4_readRoad_20 : decode cX4_readRoad 20 = .ok (.invokevirtual 41, 3) := by decide +kernel
theorem dX4_readRoad_23 : decode cX4_readRoad 23 = .ok (.istore_n 2, 1) := by decide +kernel
theorem dX4_readRoad_24 : decode cX4_readRoad 24 = .ok (.aload_n 0, 1) := by decide +kernel
theorem dX4_readRoad_25 : decode cX4_readRoad 25 = .ok (.iconst 0, 1) := by decide +kernel
theorem dX4_readRoad_26 : decode cX4_readRoad 26 = .ok (.aload_n 1, 1) := by decide +kernel
theorem dX4_readRoad_27 : decode cX4_readRoad 27 = .ok (.getfield 61, 3) := by decide +kernel
theorem dX4_readRoad_30 : decode cX4_readRoad 30 = .ok (.iconst 1, 1) := by decide +kernel
theorem dX4_readRoad_31 : decode cX4_readRoad 31 = .ok (.isub, 1) := by decide +kernel
theorem dX4_readRoad_32 : decode cX4_readRoad 32 = .ok (.invokevirtual 37, 3) := by decide +kernel
theorem dX4_readRoad_35 : decode cX4_readRoad 35 = .ok (.ifCond .eq 12, 3) := by decide +kernel
theorem dX4_readRoad_38 : decode cX4_readRoad 38 = .ok (.aload_n 0, 1) := by decide +kernel
theorem dX4_readRoad_39 : decode cX4_readRoad 39 = .ok (.iload_n 2, 1) := by decide +kernel
theorem dX4_readRoad_40 : decode cX4_readRoad 40 = .ok (.iload_n 2, 1) := by decide +kernel
theorem dX4_readRoad_41 : decode cX4_readRoad 41 = .ok (.invokevirtual 37, 3) := by decide +kernel
theorem dX4_readRoad_44 : decode cX4_readRoad 44 = .ok (.ifCond .eq 8, 3) := by decide +kernel
theorem dX4_readRoad_47 : decode cX4_readRoad 47 = .ok (.aload_n 0, 1) := by decide +kernel
theorem dX4_readRoad_48 : decode cX4_readRoad 48 = .ok (.getfield 19, 3) := by decide +kernel
theorem dX4_readRoad_51 : decode cX4_readRoad 51 = .ok (.ireturn, 1) := by decide +kernel
theorem dX4_readRoad_52 : decode cX4_readRoad 52 = .ok (.aload_n 0, 1) := by decide +kernel
theorem dX4_readRoad_53 : decode cX4_readRoad 53 = .ok (.invokevirtual 41, 3) := by decide +kernel
theorem dX4_readRoad_56 : decode cX4_readRoad 56 = .ok (.istore_n 3, 1) := by decide +kernel
theorem dX4_readRoad_57 : decode cX4_readRoad 57 = .ok (.aload_n 0, 1) := by decide +kernel
theorem dX4_readRoad_58 : decode cX4_readRoad 58 = .ok (.getfield 19, 3) := by decide +kernel
theorem dX4_readRoad_61 : decode cX4_readRoad 61 = .ok (.istore 4, 2) := by decide +kernel
theorem dX4_readRoad_63 : decode cX4_readRoad 63 = .ok (.aload_n 0, 1) := by decide +kernel
theorem dX4_readRoad_64 : decode cX4_readRoad 64 = .ok (.invokevirtual 64, 3) := by decide +kernel
theorem dX4_readRoad_67 : decode cX4_readRoad 67 = .ok (.istore 5, 2) := by decide +kernel
theorem dX4_readRoad_69 : decode cX4_readRoad 69 = .ok (.iload 5, 2) := by decide +kernel
theorem dX4_readRoad_71 : decode cX4_readRoad 71 = .ok (.iconst 1, 1) := by decide +kernel
theorem dX4_readRoad_72 : decode cX4_readRoad 72 = .ok (.bipush 30, 2) := by decide +kernel
theorem dX4_readRoad_74 : decode cX4_readRoad 74 = .ok (.invokestatic 67, 3) := by decide +kernel
theorem dX4_readRoad_77 : decode cX4_readRoad 77 = .ok (.ifCond .ne 6, 3) := by decide +kernel
theorem dX4_readRoad_80 : decode cX4_readRoad 80 = .ok (.iload 4, 2) := by decide +kernel
theorem dX4_readRoad_82 : decode cX4_readRoad 82 = .ok (.ireturn, 1) := by decide +kernel
theorem dX4_readRoad_83 : decode cX4_readRoad 83 = .ok (.aload_n 0, 1) := by decide +kernel
theorem dX4_readRoad_84 : decode cX4_readRoad 84 = .ok (.bipush 99, 2) := by decide +kernel
theorem dX4_readRoad_86 : decode cX4_readRoad 86 = .ok (.invokevirtual 33, 3) := by decide +kernel
theorem dX4_readRoad_89 : decode cX4_readRoad 89 = .ok (.ifCond .ne 15, 3) := by decide +kernel
theorem dX4_readRoad_92 : decode cX4_readRoad 92 = .ok (.aload_n 1, 1) := by decide +kernel
theorem dX4_readRoad_93 : decode cX4_readRoad 93 = .ok (.iload_n 2, 1) := by decide +kernel
theorem dX4_readRoad_94 : decode cX4_readRoad 94 = .ok (.iload_n 3, 1) := by decide +kernel
theorem dX4_readRoad_95 : decode cX4_readRoad 95 = .ok (.iload 5, 2) := by decide +kernel
theorem dX4_readRoad_97 : decode cX4_readRoad 97 = .ok (.iconst 0, 1) := by decide +kernel
theorem dX4_readRoad_98 : decode cX4_readRoad 98 = .ok (.iconst 0, 1) := by decide +kernel
theorem dX4_readRoad_99 : decode cX4_readRoad 99 = .ok (.invokevirtual 71, 3) := by decide +kernel
theorem dX4_readRoad_102 : decode cX4_readRoad 102 = .ok (.iconst (-1), 1) := by decide +kernel
theorem dX4_readRoad_103 : decode cX4_readRoad 103 = .ok (.ireturn, 1) := by decide +kernel
theorem dX4_readRoad_104 : decode cX4_readRoad 104 = .ok (.aload_n 0, 1) := by decide +kernel
theorem dX4_readRoad_105 : decode cX4_readRoad 105 = .ok (.iconst 1, 1) := by decide +kernel
theorem dX4_readRoad_106 : decode cX4_readRoad 106 = .ok (.bipush 9, 2) := by decide +kernel
theorem dX4_readRoad_108 : decode cX4_readRoad 108 = .ok (.invokevirtual 37, 3) := by decide +kernel
theorem dX4_readRoad_111 : decode cX4_readRoad 111 = .ok (.ifCond .ne 8, 3) := by decide +kernel
theorem dX4_readRoad_114 : decode cX4_readRoad 114 = .ok (.aload_n 0, 1) := by decide +kernel
theorem dX4_readRoad_115 : decode cX4_readRoad 115 = .ok (.getfield 19, 3) := by decide +kernel
theorem dX4_readRoad_118 : decode cX4_readRoad 118 = .ok (.ireturn, 1) := by decide +kernel
theorem dX4_readRoad_119 : decode cX4_readRoad 119 = .ok (.aload_n 0, 1) := by decide +kernel
theorem dX4_readRoad_120 : decode cX4_readRoad 120 = .ok (.invokevirtual 41, 3) := by decide +kernel
theorem dX4_readRoad_123 : decode cX4_readRoad 123 = .ok (.istore 6, 2) := by decide +kernel
theorem dX4_readRoad_125 : decode cX4_readRoad 125 = .ok (.aload_n 0, 1) := by decide +kernel
theorem dX4_readRoad_126 : decode cX4_readRoad 126 = .ok (.iconst 1, 1) := by decide +kernel
theorem dX4_readRoad_127 : decode cX4_readRoad 127 = .ok (.bipush 9, 2) := by decide +kernel
theorem dX4_readRoad_129 : decode cX4_readRoad 129 = .ok (.invokevirtual 37, 3) := by decide +kernel
theorem dX4_readRoad_132 : decode cX4_readRoad 132 = .ok (.ifCond .ne 8, 3) := by decide +kernel
theorem dX4_readRoad_135 : decode cX4_readRoad 135 = .ok (.aload_n 0, 1) := by decide +kernel
theorem dX4_readRoad_136 : decode cX4_readRoad 136 = .ok (.getfield 19, 3) := by decide +kernel
theorem dX4_readRoad_139 : decode cX4_readRoad 139 = .ok (.ireturn, 1) := by decide +kernel
theorem dX4_readRoad_140 : decode cX4_readRoad 140 = .ok (.aload_n 1, 1) := by decide +kernel
theorem dX4_readRoad_141 : decode cX4_readRoad 141 = .ok (.iload_n 2, 1) := by decide +kernel
theorem dX4_readRoad_142 : decode cX4_readRoad 142 = .ok (.iload_n 3, 1) := by decide +kernel
theorem dX4_readRoad_143 : decode cX4_readRoad 143 = .ok (.iload 5, 2) := by decide +kernel
theorem dX4_readRoad_145 : decode cX4_readRoad 145 = .ok (.iload 6, 2) := by decide +kernel
theorem dX4_readRoad_147 : decode cX4_readRoad 147 = .ok (.aload_n 0, 1) := by decide +kernel
theorem dX4_readRoad_148 : decode cX4_readRoad 148 = .ok (.invokevirtual 41, 3) := by decide +kernel
theorem dX4_readRoad_151 : decode cX4_readRoad 151 = .ok (.invokevirtual 71, 3) := by decide +kernel
theorem dX4_readRoad_154 : decode cX4_readRoad 154 = .ok (.iconst (-1), 1) := by decide +kernel
theorem dX4_readRoad_155 : decode cX4_readRoad 155 = .ok (.ireturn, 1) := by decide +kernel
theorem dX4_readSchool_0 : decode cX4_readSchool 0 = .ok (.aload_n 0, 1) := by decide +kernel
theorem dX4_readSchool_1 : decode cX4_readSchool 1 = .ok (.iconst 0, 1) := by decide +kernel
theorem dX4_readSchool_2 : decode cX4_readSchool 2 = .ok (.aload_n 1, 1) := by decide +kernel
theorem dX4_readSchool_3 : decode cX4_readSchool 3 = .ok (.getfield 61, 3) := by decide +kernel
theorem dX4_readSchool_6 : decode cX4_readSchool 6 = .ok (.iconst 1, 1) := by decide +kernel
theorem dX4_readSchool_7 : decode cX4_readSchool 7 = .ok (.isub, 1) := by decide +kernel
theorem dX4_readSchool_8 : decode cX4_readSchool 8 = .ok (.invokevirtual 37, 3) := by decide +kernel
theorem dX4_readSchool_11 : decode cX4_readSchool 11 = .ok (.ifCond .ne 8, 3) := by decide +kernel
theorem dX4_readSchool_14 : decode cX4_readSchool 14 = .ok (.aload_n 0, 1) := by decide +kernel
theorem dX4_readSchool_15 : decode cX4_readSchool 15 = .ok (.getfield 19, 3) := by decide +kernel
theorem dX4_readSchool_18 : decode cX4_readSchool 18 = .ok (.ireturn, 1) := by decide +kernel
theorem dX4_readSchool_19 : decode cX4_readSchool 19 = .ok (.aload_n 1, 1) := by decide +kernel
theorem dX4_readSchool_20 : decode cX4_readSchool 20 = .ok (.aload_n 0, 1) := by decide +kernel
theorem dX4_readSchool_21 : decode cX4_readSchool 21 = .ok (.invokevirtual 41, 3) := by decide +kernel
theorem dX4_readSchool_24 : decode cX4_readSchool 24 = .ok (.putfield 75, 3) := by decide +kernel
theorem dX4_readSchool_27 : decode cX4_readSchool 27 = .ok (.aload_n 0, 1) := by decide +kernel
theorem dX4_readSchool_28 : decode cX4_readSchool 28 = .ok (.getfield 19, 3) := by decide +kernel
theorem dX4_readSchool_31 : decode cX4_readSchool 31 = .ok (.aload_n 0, 1) := by decide +kernel
theorem dX4_readSchool_32 : decode cX4_readSchool 32 = .ok (.getfield 15, 3) := by decide +kernel
theorem dX4_readSchool_35 : decode cX4_readSchool 35 = .ok (.if_icmp .ne 7, 3) := by decide +kernel
theorem dX4_readSchool_38 : decode cX4_readSchool 38 = .ok (.iconst (-1), 1) := by decide +kernel
theorem dX4_readSchool_39 : decode cX4_readSchool 39 = .ok (.goto 7, 3) := by decide +kernel
theorem dX4_readSchool_42 : decode cX4_readSchool 42 = .ok (.aload_n 0, 1) := by decide +kernel
theorem dX4_readSchool_43 : decode cX4_readSchool 43 = .ok (.getfield 19, 3) := by decide +kernel
theorem dX4_readSchool_46 : decode cX4_readSchool 46 = .ok (.ireturn, 1) := by decide +kernel
theorem dX4_take_0 : decode cX4_take 0 = .ok (.aload_n 0, 1) := by decide +kernel
theorem dX4_take_1 : decode cX4_take 1 = .ok (.getfield 19, 3) := by decide +kernel
theorem dX4_take_4 : decode cX4_take 4 = .ok (.aload_n 0, 1) := by decide +kernel
theorem dX4_take_5 : decode cX4_take 5 = .ok (.getfield 15, 3) := by decide +kernel
theorem dX4_take_8 : decode cX4_take 8 = .ok (.if_icmp .ge 28, 3) := by decide +kernel
theorem dX4_take_11 : decode cX4_take 11 = .ok (.aload_n 0, 1) := by decide +kernel
theorem dX4_take_12 : decode cX4_take 12 = .ok (.getfield 9, 3) := by decide +kernel
theorem dX4_take_15 : decode cX4_take 15 = .ok (.aload_n 0, 1) := by decide +kernel
theorem dX4_take_16 : decode cX4_take 16 = .ok (.getfield 19, 3) := by decide +kernel
theorem dX4_take_19 : decode cX4_take 19 = .ok (.iaload, 1) := by decide +kernel
theorem dX4_take_20 : decode cX4_take 20 = .ok (.iload_n 1, 1) := by decide +kernel
theorem dX4_take_21 : decode cX4_take 21 = .ok (.if_icmp .ne 15, 3) := by decide +kernel
theorem dX4_take_24 : decode cX4_take 24 = .ok (.aload_n 0, 1) := by decide +kernel
theorem dX4_take_25 : decode cX4_take 25 = .ok (.dup, 1) := by decide +kernel
theorem dX4_take_26 : decode cX4_take 26 = .ok (.getfield 19, 3) := by decide +kernel
theorem dX4_take_29 : decode cX4_take 29 = .ok (.iconst 1, 1) := by decide +kernel
theorem dX4_take_30 : decode cX4_take 30 = .ok (.iadd, 1) := by decide +kernel
theorem dX4_take_31 : decode cX4_take 31 = .ok (.putfield 19, 3) := by decide +kernel
theorem dX4_take_34 : decode cX4_take 34 = .ok (.iconst 1, 1) := by decide +kernel
theorem dX4_take_35 : decode cX4_take 35 = .ok (.ireturn, 1) := by decide +kernel
theorem dX4_take_36 : decode cX4_take 36 = .ok (.iconst 0, 1) := by decide +kernel
theorem dX4_take_37 : decode cX4_take 37 = .ok (.ireturn, 1) := by decide +kernel
theorem dX4_isDigit_0 : decode cX4_isDigit 0 = .ok (.aload_n 0, 1) := by decide +kernel
theorem dX4_isDigit_1 : decode cX4_isDigit 1 = .ok (.getfield 19, 3) := by decide +kernel
theorem dX4_isDigit_4 : decode cX4_isDigit 4 = .ok (.aload_n 0, 1) := by decide +kernel
theorem dX4_isDigit_5 : decode cX4_isDigit 5 = .ok (.getfield 15, 3) := by decide +kernel
theorem dX4_isDigit_8 : decode cX4_isDigit 8 = .ok (.if_icmp .ge 30, 3) := by decide +kernel
theorem dX4_isDigit_11 : decode cX4_isDigit 11 = .ok (.aload_n 0, 1) := by decide +kernel
theorem dX4_isDigit_12 : decode cX4_isDigit 12 = .ok (.getfield 9, 3) := by decide +kernel
theorem dX4_isDigit_15 : decode cX4_isDigit 15 = .ok (.aload_n 0, 1) := by decide +kernel
theorem dX4_isDigit_16 : decode cX4_isDigit 16 = .ok (.getfield 19, 3) := by decide +kernel
theorem dX4_isDigit_19 : decode cX4_isDigit 19 = .ok (.iaload, 1) := by decide +kernel
theorem dX4_isDigit_20 : decode cX4_isDigit 20 = .ok (.bipush 48, 2) := by decide +kernel
theorem dX4_isDigit_22 : decode cX4_isDigit 22 = .ok (.iload_n 1, 1) := by decide +kernel
theorem dX4_isDigit_23 : decode cX4_isDigit 23 = .ok (.iadd, 1) := by decide +kernel
theorem dX4_isDigit_24 : decode cX4_isDigit 24 = .ok (.bipush 48, 2) := by decide +kernel
theorem dX4_isDigit_26 : decode cX4_isDigit 26 = .ok (.iload_n 2, 1) := by decide +kernel
theorem dX4_isDigit_27 : decode cX4_isDigit 27 = .ok (.iadd, 1) := by decide +kernel
theorem dX4_isDigit_28 : decode cX4_isDigit 28 = .ok (.invokestatic 67, 3) := by decide +kernel
theorem dX4_isDigit_31 : decode cX4_isDigit 31 = .ok (.ifCond .eq 7, 3) := by decide +kernel
theorem dX4_isDigit_34 : decode cX4_isDigit 34 = .ok (.iconst 1, 1) := by decide +kernel
theorem dX4_isDigit_35 : decode cX4_isDigit 35 = .ok (.goto 4, 3) := by decide +kernel
theorem dX4_isDigit_38 : decode cX4_isDigit 38 = .ok (.iconst 0, 1) := by decide +kernel
theorem dX4_isDigit_39 : decode cX4_isDigit 39 = .ok (.ireturn, 1) := by decide +kernel
theorem dX4_takeDigit_0 : decode cX4_takeDigit 0 = .ok (.aload_n 0, 1) := by decide +kernel
theorem dX4_takeDigit_1 : decode cX4_takeDigit 1 = .ok (.iconst 0, 1) := by decide +kernel
theorem dX4_takeDigit_2 : decode cX4_takeDigit 2 = .ok (.bipush 9, 2) := by decide +kernel
theorem dX4_takeDigit_4 : decode cX4_takeDigit 4 = .ok (.invokevirtual 37, 3) := by decide +kernel
theorem dX4_takeDigit_7 : decode cX4_takeDigit 7 = .ok (.ifCond .ne 5, 3) := by decide +kernel
theorem dX4_takeDigit_10 : decode cX4_takeDigit 10 = .ok (.iconst 0, 1) := by decide +kernel
theorem dX4_takeDigit_11 : decode cX4_takeDigit 11 = .ok (.ireturn, 1) := by decide +kernel
theorem dX4_takeDigit_12 : decode cX4_takeDigit 12 = .ok (.aload_n 0, 1) := by decide +kernel
theorem dX4_takeDigit_13 : decode cX4_takeDigit 13 = .ok (.dup, 1) := by decide +kernel
theorem dX4_takeDigit_14 : decode cX4_takeDigit 14 = .ok (.getfield 19, 3) := by decide +kernel
theorem dX4_takeDigit_17 : decode cX4_takeDigit 17 = .ok (.iconst 1, 1) := by decide +kernel
theorem dX4_takeDigit_18 : decode cX4_takeDigit 18 = .ok (.iadd, 1) := by decide +kernel
theorem dX4_takeDigit_19 : decode cX4_takeDigit 19 = .ok (.putfield 19, 3) := by decide +kernel
theorem dX4_takeDigit_22 : decode cX4_takeDigit 22 = .ok (.aload_n 0, 1) := by decide +kernel
theorem dX4_takeDigit_23 : decode cX4_takeDigit 23 = .ok (.getfield 9, 3) := by decide +kernel
theorem dX4_takeDigit_26 : decode cX4_takeDigit 26 = .ok (.aload_n 0, 1) := by decide +kernel
theorem dX4_takeDigit_27 : decode cX4_takeDigit 27 = .ok (.getfield 19, 3) := by decide +kernel
theorem dX4_takeDigit_30 : decode cX4_takeDigit 30 = .ok (.iconst 1, 1) := by decide +kernel
theorem dX4_takeDigit_31 : decode cX4_takeDigit 31 = .ok (.isub, 1) := by decide +kernel
theorem dX4_takeDigit_32 : decode cX4_takeDigit 32 = .ok (.iaload, 1) := by decide +kernel
theorem dX4_takeDigit_33 : decode cX4_takeDigit 33 = .ok (.bipush 48, 2) := by decide +kernel
theorem dX4_takeDigit_35 : decode cX4_takeDigit 35 = .ok (.isub, 1) := by decide +kernel
theorem dX4_takeDigit_36 : decode cX4_takeDigit 36 = .ok (.ireturn, 1) := by decide +kernel
theorem dX4_takeNumber_0 : decode cX4_takeNumber 0 = .ok (.aload_n 0, 1) := by decide +kernel
theorem dX4_takeNumber_1 : decode cX4_takeNumber 1 = .ok (.invokevirtual 41, 3) := by decide +kernel
theorem dX4_takeNumber_4 : decode cX4_takeNumber 4 = .ok (.istore_n 1, 1) := by decide +kernel
theorem dX4_takeNumber_5 : decode cX4_takeNumber 5 = .ok (.aload_n 0, 1) := by decide +kernel
theorem dX4_takeNumber_6 : decode cX4_takeNumber 6 = .ok (.iconst 0, 1) := by decide +kernel
theorem dX4_takeNumber_7 : decode cX4_takeNumber 7 = .ok (.bipush 9, 2) := by decide +kernel
theorem dX4_takeNumber_9 : decode cX4_takeNumber 9 = .ok (.invokevirtual 37, 3) := by decide +kernel
theorem dX4_takeNumber_12 : decode cX4_takeNumber 12 = .ok (.ifCond .eq 15, 3) := by decide +kernel
theorem dX4_takeNumber_15 : decode cX4_takeNumber 15 = .ok (.iload_n 1, 1) := by decide +kernel
theorem dX4_takeNumber_16 : decode cX4_takeNumber 16 = .ok (.bipush 10, 2) := by decide +kernel
theorem dX4_takeNumber_18 : decode cX4_takeNumber 18 = .ok (.imul, 1) := by decide +kernel
theorem dX4_takeNumber_19 : decode cX4_takeNumber 19 = .ok (.aload_n 0, 1) := by decide +kernel
theorem dX4_takeNumber_20 : decode cX4_takeNumber 20 = .ok (.invokevirtual 41, 3) := by decide +kernel
theorem dX4_takeNumber_23 : decode cX4_takeNumber 23 = .ok (.iadd, 1) := by decide +kernel
theorem dX4_takeNumber_24 : decode cX4_takeNumber 24 = .ok (.goto 4, 3) := by decide +kernel
theorem dX4_takeNumber_27 : decode cX4_takeNumber 27 = .ok (.iload_n 1, 1) := by decide +kernel
theorem dX4_takeNumber_28 : decode cX4_takeNumber 28 = .ok (.ireturn, 1) := by decide +kernel
theorem dX5_init_0 : decode cX5_init 0 = .ok (.aload_n 0, 1) := by decide +kernel
theorem dX5_init_1 : decode cX5_init 1 = .ok (.invokespecial 3, 3) := by decide +kernel
theorem dX5_init_4 : decode cX5_init 4 = .ok (.aload_n 0, 1) := by decide +kernel
theorem dX5_init_5 : decode cX5_init 5 = .ok (.bipush 10, 2) := by decide +kernel
theorem dX5_init_7 : decode cX5_init 7 = .ok (.newarray .int, 2) := by decide +kernel
theorem dX5_init_9 : decode cX5_init 9 = .ok (.putfield 9, 3) := by decide +kernel
theorem dX5_init_12 : decode cX5_init 12 = .ok (.aload_n 0, 1) := by decide +kernel
theorem dX5_init_13 : decode cX5_init 13 = .ok (.bipush 10, 2) := by decide +kernel
theorem dX5_init_15 : decode cX5_init 15 = .ok (.newarray .int, 2) := by decide +kernel
theorem dX5_init_17 : decode cX5_init 17 = .ok (.putfield 15, 3) := by decide +kernel
theorem dX5_init_20 : decode cX5_init 20 = .ok (.aload_n 0, 1) := by decide +kernel
theorem dX5_init_21 : decode cX5_init 21 = .ok (.bipush 8, 2) := by decide +kernel
theorem dX5_init_23 : decode cX5_init 23 = .ok (.newarray .int, 2) := by decide +kernel
theorem dX5_init_25 : decode cX5_init 25 = .ok (.putfield 18, 3) := by decide +kernel
theorem dX5_init_28 : decode cX5_init 28 = .ok (.aload_n 0, 1) := by decide +kernel
theorem dX5_init_29 : decode cX5_init 29 = .ok (.bipush 8, 2) := by decide +kernel
theorem dX5_init_31 : decode cX5_init 31 = .ok (.newarray .int, 2) := by decide +kernel
theorem dX5_init_33 : decode cX5_init 33 = .ok (.putfield 21, 3) := by decide +kernel
theorem dX5_init_36 : decode cX5_init 36 = .ok (.aload_n 0, 1) := by decide +kernel
theorem dX5_init_37 : decode cX5_init 37 = .ok (.iconst 0, 1) := by decide +kernel
theorem dX5_init_38 : decode cX5_init 38 = .ok (.putfield 24, 3) := by decide +kernel
theorem dX5_init_41 : decode cX5_init 41 = .ok (.aload_n 0, 1) := by decide +kernel
theorem dX5_init_42 : decode cX5_init 42 = .ok (.iconst 0, 1) := by decide +kernel
theorem dX5_init_43 : decode cX5_init 43 = .ok (.putfield 28, 3) := by decide +kernel
theorem dX5_init_46 : decode cX5_init 46 = .ok (.aload_n 0, 1) := by decide +kernel
theorem dX5_init_47 : decode cX5_init 47 = .ok (.bipush (-9), 2) := by decide +kernel
theorem dX5_init_49 : decode cX5_init 49 = .ok (.putfield 32, 3) := by decide +kernel
theorem dX5_init_52 : decode cX5_init 52 = .ok (.aload_n 0, 1) := by decide +kernel
theorem dX5_init_53 : decode cX5_init 53 = .ok (.iconst 0, 1) := by decide +kernel
theorem dX5_init_54 : decode cX5_init 54 = .ok (.putfield 35, 3) := by decide +kernel
theorem dX5_init_57 : decode cX5_init 57 = .ok (.aload_n 0, 1) := by decide +kernel
theorem dX5_init_58 : decode cX5_init 58 = .ok (.iconst 0, 1) := by decide +kernel
theorem dX5_init_59 : decode cX5_init 59 = .ok (.putfield 38, 3) := by decide +kernel
theorem dX5_init_62 : decode cX5_init 62 = .ok (.aload_n 0, 1) := by decide +kernel
theorem dX5_init_63 : decode cX5_init 63 = .ok (.iconst 0, 1) := by decide +kernel
theorem dX5_init_64 : decode cX5_init 64 = .ok (.putfield 41, 3) := by decide +kernel
theorem dX5_init_67 : decode cX5_init 67 = .ok (.aload_n 0, 1) := by decide +kernel
theorem dX5_init_68 : decode cX5_init 68 = .ok (.bipush (-9), 2) := by decide +kernel
theorem dX5_init_70 : decode cX5_init 70 = .ok (.putfield 44, 3) := by decide +kernel
theorem dX5_init_73 : decode cX5_init 73 = .ok (.return_, 1) := by decide +kernel
theorem dX5_search_0 : decode cX5_search 0 = .ok (.aload_n 0, 1) := by decide +kernel
theorem dX5_search_1 : decode cX5_search 1 = .ok (.iload 4, 2) := by decide +kernel
theorem dX5_search_3 : decode cX5_search 3 = .ok (.putfield 24, 3) := by decide +kernel
theorem dX5_search_6 : decode cX5_search 6 = .ok (.aload_n 0, 1) := by decide +kernel
theorem dX5_search_7 : decode cX5_search 7 = .ok (.iconst 0, 1) := by decide +kernel
theorem dX5_search_8 : decode cX5_search 8 = .ok (.putfield 41, 3) := by decide +kernel
theorem dX5_search_11 : decode cX5_search 11 = .ok (.aload_n 0, 1) := by decide +kernel
theorem dX5_search_12 : decode cX5_search 12 = .ok (.iconst (-1), 1) := by decide +kernel
theorem dX5_search_13 : decode cX5_search 13 = .ok (.putfield 44, 3) := by decide +kernel
theorem dX5_search_16 : decode cX5_search 16 = .ok (.aload_n 0, 1) := by decide +kernel
theorem dX5_search_17 : decode cX5_search 17 = .ok (.iconst 0, 1) := by decide +kernel
theorem dX5_search_18 : decode cX5_search 18 = .ok (.putfield 35, 3) := by decide +kernel
theorem dX5_search_21 : decode cX5_search 21 = .ok (.aload_n 0, 1) := by decide +kernel
theorem dX5_search_22 : decode cX5_search 22 = .ok (.iconst 0, 1) := by decide +kernel
theorem dX5_search_23 : decode cX5_search 23 = .ok (.putfield 38, 3) := by decide +kernel
theorem dX5_search_26 : decode cX5_search 26 = .ok (.iconst 0, 1) := by decide +kernel
theorem dX5_search_27 : decode cX5_search 27 = .ok (.istore 5, 2) := by decide +kernel
theorem dX5_search_29 : decode cX5_search 29 = .ok (.iload 5, 2) := by decide +kernel
theorem dX5_search_31 : decode cX5_search 31 = .ok (.bipush 10, 2) := by decide +kernel
theorem dX5_search_33 : decode cX5_search 33 = .ok (.if_icmp .ge 96, 3) := by decide +kernel
theorem dX5_search_36 : decode cX5_search 36 = .ok (.aload_n 0, 1) := by decide +kernel
theorem dX5_search_37 : decode cX5_search 37 = .ok (.getfield 9, 3) := by decide +kernel
theorem dX5_search_40 : decode cX5_search 40 = .ok (.iload 5, 2) := by decide +kernel
theorem dX5_search_42 : decode cX5_search 42 = .ok (.aload_n 1, 1) := by decide +kernel
theorem dX5_search_43 : decode cX5_search 43 = .ok (.iload 5, 2) := by decide +kernel
theorem dX5_search_45 : decode cX5_search 45 = .ok (.aaload, 1) := by decide +kernel
theorem dX5_search_46 : decode cX5_search 46 = .ok (.getfield 47, 3) := by decide +kernel
theorem dX5_search_49 : decode cX5_search 49 = .ok (.iload_n 2, 1) := by decide +kernel
theorem dX5_search_50 : decode cX5_search 50 = .ok (.iand, 1) := by decide +kernel
theorem dX5_search_51 : decode cX5_search 51 = .ok (.iastore, 1) := by decide +kernel
theorem dX5_search_52 : decode cX5_search 52 = .ok (.aload_n 0, 1) := by decide +kernel
theorem dX5_search_53 : decode cX5_search 53 = .ok (.getfield 15, 3) := by decide +kernel
theorem dX5_search_56 : decode cX5_search 56 = .ok (.iload 5, 2) := by decide +kernel
theorem dX5_search_58 : decode cX5_search 58 = .ok (.aload_n 1, 1) := by decide +kernel
theorem dX5_search_59 : decode cX5_search 59 = .ok (.iload 5, 2) := by decide +kernel
theorem dX5_search_61 : decode cX5_search 61 = .ok (.aaload, 1) := by decide +kernel
theorem dX5_search_62 : decode cX5_search 62 = .ok (.getfield 51, 3) := by decide +kernel
theorem dX5_search_65 : decode cX5_search 65 = .ok (.iload_n 2, 1) := by decide +kernel
theorem dX5_search_66 : decode cX5_search 66 = .ok (.iand, 1) := by decide +kernel
theorem dX5_search_67 : decode cX5_search 67 = .ok (.iastore, 1) := by decide +kernel
theorem dX5_search_68 : decode cX5_search 68 = .ok (.aload_n 0, 1) := by decide +kernel
theorem dX5_search_69 : decode cX5_search 69 = .ok (.dup, 1) := by decide +kernel
theorem dX5_search_70 : decode cX5_search 70 = .ok (.getfield 35, 3) := by decide +kernel
theorem dX5_search_73 : decode cX5_search 73 = .ok (.aload_n 1, 1) := by decide +kernel
theorem dX5_search_74 : decode cX5_search 74 = .ok (.iload 5, 2) := by decide +kernel
theorem dX5_search_76 : decode cX5_search 76 = .ok (.aaload, 1) := by decide +kernel
theorem dX5_search_77 : decode cX5_search 77 = .ok (.getfield 53, 3) := by decide +kernel
theorem dX5_search_80 : decode cX5_search 80 = .ok (.iload_n 3, 1) := by decide +kernel
theorem dX5_search_81 : decode cX5_search 81 = .ok (.if_icmp .lt 10, 3) := by decide +kernel
theorem dX5_search_84 : decode cX5_search 84 = .ok (.iconst 1, 1) := by decide +kernel
theorem dX5_search_85 : decode cX5_search 85 = .ok (.iload 5, 2) := by decide +kernel
theorem dX5_search_87 : decode cX5_search 87 = .ok (.ishl, 1) := by decide +kernel
theorem dX5_search_88 : decode cX5_search 88 = .ok (.goto 4, 3) := by decide +kernel
theorem dX5_search_91 : decode cX5_search 91 = .ok (.iconst 0, 1) := by decide +kernel
theorem dX5_search_92 : decode cX5_search 92 = .ok (.ior, 1) := by decide +kernel
theorem dX5_search_93 : decode cX5_search 93 = .ok (.putfield 35, 3) := by decide +kernel
theorem dX5_search_96 : decode cX5_search 96 = .ok (.aload_n 0, 1) := by decide +kernel
theorem dX5_search_97 : decode cX5_search 97 = .ok (.dup, 1) := by decide +kernel
theorem dX5_search_98 : decode cX5_search 98 = .ok (.getfield 38, 3) := by decide +kernel
theorem dX5_search_101 : decode cX5_search 101 = .ok (.aload_n 0, 1) := by decide +kernel
theorem dX5_search_102 : decode cX5_search 102 = .ok (.getfield 9, 3) := by decide +kernel
theorem dX5_search_105 : decode cX5_search 105 = .ok (.iload 5, 2) := by decide +kernel
theorem dX5_search_107 : decode cX5_search 107 = .ok (.iaload, 1) := by decide +kernel
theorem dX5_search_108 : decode cX5_search 108 = .ok (.ifCond .eq 10, 3) := by decide +kernel
theorem dX5_search_111 : decode cX5_search 111 = .ok (.iconst 1, 1) := by decide +kernel
theorem dX5_search_112 : decode cX5_search 112 = .ok (.iload 5, 2) := by decide +kernel
theorem dX5_search_114 : decode cX5_search 114 = .ok (.ishl, 1) := by decide +kernel
theorem dX5_search_115 : decode cX5_search 115 = .ok (.goto 4, 3) := by decide +kernel
theorem dX5_search_118 : decode cX5_search 118 = .ok (.iconst 0, 1) := by decide +kernel
theorem dX5_search_119 : decode cX5_search 119 = .ok (.ior, 1) := by decide +kernel
theorem dX5_search_120 : decode cX5_search 120 = .ok (.putfield 38, 3) := by decide +kernel
theorem dX5_search_123 : decode cX5_search 123 = .ok (.iinc 5 1, 3) := by decide +kernel
theorem dX5_search_126 : decode cX5_search 126 = .ok (.goto (-97), 3) := by decide +kernel
theorem dX5_search_129 : decode cX5_search 129 = .ok (.iload_n 2, 1) := by decide +kernel
theorem dX5_search_130 : decode cX5_search 130 = .ok (.invokestatic 56, 3) := by decide +kernel
theorem dX5_search_133 : decode cX5_search 133 = .ok (.bipush 8, 2) := by decide +kernel
theorem dX5_search_135 : decode cX5_search 135 = .ok (.invokestatic 62, 3) := by decide +kernel
theorem dX5_search_138 : decode cX5_search 138 = .ok (.istore 5, 2) := by decide +kernel
theorem dX5_search_140 : decode cX5_search 140 = .ok (.aload_n 0, 1) := by decide +kernel
theorem dX5_search_141 : decode cX5_search 141 = .ok (.iload 5, 2) := by decide +kernel
theorem dX5_search_143 : decode cX5_search 143 = .ok (.iconst 1, 1) := by decide +kernel
theorem dX5_search_144 : decode cX5_search 144 = .ok (.iadd, 1) := by decide +kernel
theorem dX5_search_145 : decode cX5_search 145 = .ok (.iconst 2, 1) := by decide +kernel
theorem dX5_search_146 : decode cX5_search 146 = .ok (.idiv, 1) := by decide +kernel
theorem dX5_search_147 : decode cX5_search 147 = .ok (.iconst 2, 1) := by decide +kernel
theorem dX5_search_148 : decode cX5_search 148 = .ok (.imul, 1) := by decide +kernel
theorem dX5_search_149 : decode cX5_search 149 = .ok (.putfield 28, 3) := by decide +kernel
theorem dX5_search_152 : decode cX5_search 152 = .ok (.aload_n 0, 1) := by decide +kernel
theorem dX5_search_153 : decode cX5_search 153 = .ok (.iload 5, 2) := by decide +kernel
theorem dX5_search_155 : decode cX5_search 155 = .ok (.aload_n 0, 1) := by decide +kernel
theorem dX5_search_156 : decode cX5_search 156 = .ok (.getfield 28, 3) := by decide +kernel
theorem dX5_search_159 : decode cX5_search 159 = .ok (.if_icmp .ge 12, 3) := by decide +kernel
theorem dX5_search_162 : decode cX5_search 162 = .ok (.aload_n 0, 1) := by decide +kernel
theorem dX5_search_163 : decode cX5_search 163 = .ok (.getfield 28, 3) := by decide +kernel
theorem dX5_search_166 : decode cX5_search 166 = .ok (.iconst 2, 1) := by decide +kernel
theorem dX5_search_167 : decode cX5_search 167 = .ok (.isub, 1) := by decide +kernel
theorem dX5_search_168 : decode cX5_search 168 = .ok (.goto 5, 3) := by decide +kernel
theorem dX5_search_171 : decode cX5_search 171 = .ok (.bipush (-9), 2) := by decide +kernel
theorem dX5_search_173 : decode cX5_search 173 = .ok (.putfield 32, 3) := by decide +kernel
theorem dX5_search_176 : decode cX5_search 176 = .ok (.aload_n 0, 1) := by decide +kernel
theorem dX5_search_177 : decode cX5_search 177 = .ok (.iconst 0, 1) := by decide +kernel
theorem dX5_search_178 : decode cX5_search 178 = .ok (.iload_n 2, 1) := by decide +kernel
theorem dX5_search_179 : decode cX5_search 179 = .ok (.iconst 0, 1) := by decide +kernel
theorem dX5_search_180 : decode cX5_search 180 = .ok (.invokestatic 68, 3) := by decide +kernel
theorem dX5_search_183 : decode cX5_search 183 = .ok (.return_, 1) := by decide +kernel
theorem dX5_fill_0 : decode cX5_fill 0 = .ok (.iload_n 1, 1) := by decide +kernel
theorem dX5_fill_1 : decode cX5_fill 1 = .ok (.aload_n 0, 1) := by decide +kernel
theorem dX5_fill_2 : decode cX5_fill 2 = .ok (.getfield 28, 3) := by decide +kernel
theorem dX5_fill_5 : decode cX5_fill 5 = .ok (.if_icmp .lt 9, 3) := by decide +kernel
theorem dX5_fill_8 : decode cX5_fill 8 = .ok (.aload_n 0, 1) := by decide +kernel
theorem dX5_fill_9 : decode cX5_fill 9 = .ok (.iload_n 3, 1) := by decide +kernel
theorem dX5_fill_10 : decode cX5_fill 10 = .ok (.invokevirtual 72, 3) := by decide +kernel
theorem dX5_fill_13 : decode cX5_fill 13 = .ok (.return_, 1) := by decide +kernel
theorem dX5_fill_14 : decode cX5_fill 14 = .ok (.aload_n 0, 1) := by decide +kernel
theorem dX5_fill_15 : decode cX5_fill 15 = .ok (.getfield 24, 3) := by decide +kernel
theorem dX5_fill_18 : decode cX5_fill 18 = .ok (.ifCond .ne 19, 3) := by decide +kernel
theorem dX5_fill_21 : decode cX5_fill 21 = .ok (.iload_n 3, 1) := by decide +kernel
theorem dX5_fill_22 : decode cX5_fill 22 = .ok (.aload_n 0, 1) := by decide +kernel
theorem dX5_fill_23 : decode cX5_fill 23 = .ok (.iload_n 1, 1) := by decide +kernel
theorem dX5_fill_24 : decode cX5_fill 24 = .ok (.iload_n 2, 1) := by decide +kernel
theorem dX5_fill_25 : decode cX5_fill 25 = .ok (.invokevirtual 76, 3) := by decide +kernel
theorem dX5_fill_28 : decode cX5_fill 28 = .ok (.iadd, 1) := by decide +kernel
theorem dX5_fill_29 : decode cX5_fill 29 = .ok (.aload_n 0, 1) := by decide +kernel
theorem dX5_fill_30 : decode cX5_fill 30 = .ok (.getfield 44, 3) := by decide +kernel
theorem dX5_fill_33 : decode cX5_fill 33 = .ok (.if_icmp .gt 4, 3) := by decide +kernel
theorem dX5_fill_36 : decode cX5_fill 36 = .ok (.return_, 1) := by decide +kernel
theorem dX5_fill_37 : decode cX5_fill 37 = .ok (.iload_n 1, 1) := by decide +kernel
theorem dX5_fill_38 : decode cX5_fill 38 = .ok (.aload_n 0, 1) := by decide +kernel
theorem dX5_fill_39 : decode cX5_fill 39 = .ok (.getfield 32, 3) := by decide +kernel
theorem dX5_fill_42 : decode cX5_fill 42 = .ok (.if_icmp .ne 21, 3) := by decide +kernel
theorem dX5_fill_45 : decode cX5_fill 45 = .ok (.aload_n 0, 1) := by decide +kernel
theorem dX5_fill_46 : decode cX5_fill 46 = .ok (.getfield 18, 3) := by decide +kernel
theorem dX5_fill_49 : decode cX5_fill 49 = .ok (.iload_n 1, 1) := by decide +kernel
theorem dX5_fill_50 : decode cX5_fill 50 = .ok (.bipush (-9), 2) := by decide +kernel
theorem dX5_fill_52 : decode cX5_fill 52 = .ok (.iastore, 1) := by decide +kernel
theorem dX5_fill_53 : decode cX5_fill 53 = .ok (.aload_n 0, 1) := by decide +kernel
theorem dX5_fill_54 : decode cX5_fill 54 = .ok (.iload_n 1, 1) := by decide +kernel
theorem dX5_fill_55 : decode cX5_fill 55 = .ok (.iconst 1, 1) := by decide +kernel
theorem dX5_fill_56 : decode cX5_fill 56 = .ok (.iadd, 1) := by decide +kernel
theorem dX5_fill_57 : decode cX5_fill 57 = .ok (.iload_n 2, 1) := by decide +kernel
theorem dX5_fill_58 : decode cX5_fill 58 = .ok (.iload_n 3, 1) := by decide +kernel
theorem dX5_fill_59 : decode cX5_fill 59 = .ok (.invokestatic 68, 3) := by decide +kernel
theorem dX5_fill_62 : decode cX5_fill 62 = .ok (.return_, 1) := by decide +kernel
theorem dX5_fill_63 : decode cX5_fill 63 = .ok (.aload_n 0, 1) := by decide +kernel
theorem dX5_fill_64 : decode cX5_fill 64 = .ok (.iload_n 1, 1) := by decide +kernel
theorem dX5_fill_65 : decode cX5_fill 65 = .ok (.iload_n 2, 1) := by decide +kernel
theorem dX5_fill_66 : decode cX5_fill 66 = .ok (.invokevirtual 79, 3) := by decide +kernel
theorem dX5_fill_69 : decode cX5_fill 69 = .ok (.istore 4, 2) := by decide +kernel
theorem dX5_fill_71 : decode cX5_fill 71 = .ok (.aload_n 0, 1) := by decide +kernel
theorem dX5_fill_72 : decode cX5_fill 72 = .ok (.getfield 24, 3) := by decide +kernel
theorem dX5_fill_75 : decode cX5_fill 75 = .ok (.ifCond .eq 28, 3) := by decide +kernel
theorem dX5_fill_78 : decode cX5_fill 78 = .ok (.iload_n 1, 1) := by decide +kernel
theorem dX5_fill_79 : decode cX5_fill 79 = .ok (.aload_n 0, 1) := by decide +kernel
theorem dX5_fill_80 : decode cX5_fill 80 = .ok (.getfield 28, 3) := by decide +kernel
theorem dX5_fill_83 : decode cX5_fill 83 = .ok (.iconst 1, 1) := by decide +kernel
theorem dX5_fill_84 : decode cX5_fill 84 = .ok (.isub, 1) := by decide +kernel
theorem dX5_fill_85 : decode cX5_fill 85 = .ok (.if_icmp .ne 18, 3) := by decide +kernel
theorem dX5_fill_88 : decode cX5_fill 88 = .ok (.aload_n 0, 1) := by decide +kernel
theorem dX5_fill_89 : decode cX5_fill 89 = .ok (.dup, 1) := by decide +kernel
theorem dX5_fill_90 : decode cX5_fill 90 = .ok (.getfield 41, 3) := by decide +kernel
theorem dX5_fill_93 : decode cX5_fill 93 = .ok (.iload 4, 2) := by decide +kernel
theorem dX5_fill_95 : decode cX5_fill 95 = .ok (.invokestatic 56, 3) := by decide +kernel
theorem dX5_fill_98 : decode cX5_fill 98 = .ok (.iadd, 1) := by decide +kernel
theorem dX5_fill_99 : decode cX5_fill 99 = .ok (.putfield 41, 3) := by decide +kernel
theorem dX5_fill_102 : decode cX5_fill 102 = .ok (.return_, 1) := by decide +kernel
theorem dX5_fill_103 : decode cX5_fill 103 = .ok (.iconst 0, 1) := by decide +kernel
theorem dX5_fill_104 : decode cX5_fill 104 = .ok (.istore 5, 2) := by decide +kernel
theorem dX5_fill_106 : decode cX5_fill 106 = .ok (.iload 5, 2) := by decide +kernel
theorem dX5_fill_108 : decode cX5_fill 108 = .ok (.bipush 10, 2) := by decide +kernel
theorem dX5_fill_110 : decode cX5_fill 110 = .ok (.if_icmp .ge 77, 3) := by decide +kernel
theorem dX5_fill_113 : decode cX5_fill 113 = .ok (.iload 4, 2) := by decide +kernel
theorem dX5_fill_115 : decode cX5_fill 115 = .ok (.iload 5, 2) := by decide +kernel
theorem dX5_fill_117 : decode cX5_fill 117 = .ok (.ishr, 1) := by decide +kernel
theorem dX5_fill_118 : decode cX5_fill 118 = .ok (.iconst 1, 1) := by decide +kernel
theorem dX5_fill_119 : decode cX5_fill 119 = .ok (.iand, 1) := by decide +kernel
theorem dX5_fill_120 : decode cX5_fill 120 = .ok (.ifCond .eq 61, 3) := by decide +kernel
theorem dX5_fill_123 : decode cX5_fill 123 = .ok (.aload_n 0, 1) := by decide +kernel
theorem dX5_fill_124 : decode cX5_fill 124 = .ok (.getfield 18, 3) := by decide +kernel
theorem dX5_fill_127 : decode cX5_fill 127 = .ok (.iload_n 1, 1) := by decide +kernel
theorem dX5_fill_128 : decode cX5_fill 128 = .ok (.iload 5, 2) := by decide +kernel
theorem dX5_fill_130 : decode cX5_fill 130 = .ok (.iastore, 1) := by decide +kernel
theorem dX5_fill_131 : decode cX5_fill 131 = .ok (.iload_n 1, 1) := by decide +kernel
theorem dX5_fill_132 : decode cX5_fill 132 = .ok (.invokestatic 82, 3) := by decide +kernel
theorem dX5_fill_135 : decode cX5_fill 135 = .ok (.ifCond .eq 21, 3) := by decide +kernel
theorem dX5_fill_138 : decode cX5_fill 138 = .ok (.aload_n 0, 1) := by decide +kernel
theorem dX5_fill_139 : decode cX5_fill 139 = .ok (.getfield 9, 3) := by decide +kernel
theorem dX5_fill_142 : decode cX5_fill 142 = .ok (.iload 5, 2) := by decide +kernel
theorem dX5_fill_144 : decode cX5_fill 144 = .ok (.iaload, 1) := by decide +kernel
theorem dX5_fill_145 : decode cX5_fill 145 = .ok (.aload_n 0, 1) := by decide +kernel
theorem dX5_fill_146 : decode cX5_fill 146 = .ok (.iload_n 1, 1) := by decide +kernel
theorem dX5_fill_147 : decode cX5_fill 147 = .ok (.iconst 1, 1) := by decide +kernel
theorem dX5_fill_148 : decode cX5_fill 148 = .ok (.isub, 1) := by decide +kernel
theorem dX5_fill_149 : decode cX5_fill 149 = .ok (.invokevirtual 86, 3) := by decide +kernel
theorem dX5_fill_152 : decode cX5_fill 152 = .ok (.iand, 1) := by decide +kernel
theorem dX5_fill_153 : decode cX5_fill 153 = .ok (.goto 4, 3) := by decide +kernel
theorem dX5_fill_156 : decode cX5_fill 156 = .ok (.iconst 0, 1) := by decide +kernel
theorem dX5_fill_157 : decode cX5_fill 157 = .ok (.istore 6, 2) := by decide +kernel
theorem dX5_fill_159 : decode cX5_fill 159 = .ok (.aload_n 0, 1) := by decide +kernel
theorem dX5_fill_160 : decode cX5_fill 160 = .ok (.iload_n 1, 1) := by decide +kernel
theorem dX5_fill_161 : decode cX5_fill 161 = .ok (.iconst 1, 1) := by decide +kernel
theorem dX5_fill_162 : decode cX5_fill 162 = .ok (.iadd, 1) := by decide +kernel
theorem dX5_fill_163 : decode cX5_fill 163 = .ok (.iload_n 2, 1) := by decide +kernel
theorem dX5_fill_164 : decode cX5_fill 164 = .ok (.iconst 1, 1) := by decide +kernel
theorem dX5_fill_165 : decode cX5_fill 165 = .ok (.iload 5, 2) := by decide +kernel
theorem dX5_fill_167 : decode cX5_fill 167 = .ok (.ishl, 1) := by decide +kernel
theorem dX5_fill_168 : decode cX5_fill 168 = .ok (.iconst (-1), 1) := by decide +kernel
theorem dX5_fill_169 : decode cX5_fill 169 = .ok (.ixor, 1) := by decide +kernel
theorem dX5_fill_170 : decode cX5_fill 170 = .ok (.iand, 1) := by decide +kernel
theorem dX5_fill_171 : decode cX5_fill 171 = .ok (.iload_n 3, 1) := by decide +kernel
theorem dX5_fill_172 : decode cX5_fill 172 = .ok (.iload 6, 2) := by decide +kernel
theorem dX5_fill_174 : decode cX5_fill 174 = .ok (.invokestatic 56, 3) := by decide +kernel
theorem dX5_fill_177 : decode cX5_fill 177 = .ok (.iadd, 1) := by decide +kernel
theorem dX5_fill_178 : decode cX5_fill 178 = .ok (.invokestatic 68, 3) := by decide +kernel
theorem dX5_fill_181 : decode cX5_fill 181 = .ok (.iinc 5 1, 3) := by decide +kernel
theorem dX5_fill_184 : decode cX5_fill 184 = .ok (.goto (-78), 3) := by decide +kernel
theorem dX5_fill_187 : decode cX5_fill 187 = .ok (.return_, 1) := by decide +kernel
theorem dX5_take_0 : decode cX5_take 0 = .ok (.iload_n 1, 1) := by decide +kernel
theorem dX5_take_1 : decode cX5_take 1 = .ok (.aload_n 0, 1) := by decide +kernel
theorem dX5_take_2 : decode cX5_take 2 = .ok (.getfield 44, 3) := by decide +kernel
theorem dX5_take_5 : decode cX5_take 5 = .ok (.if_icmp .le 36, 3) := by decide +kernel
theorem dX5_take_8 : decode cX5_take 8 = .ok (.aload_n 0, 1) := by decide +kernel
theorem dX5_take_9 : decode cX5_take 9 = .ok (.iload_n 1, 1) := by decide +kernel
theorem dX5_take_10 : decode cX5_take 10 = .ok (.putfield 44, 3) := by decide +kernel
theorem dX5_take_13 : decode cX5_take 13 = .ok (.iconst 0, 1) := by decide +kernel
theorem dX5_take_14 : decode cX5_take 14 = .ok (.istore_n 2, 1) := by decide +kernel
theorem dX5_take_15 : decode cX5_take 15 = .ok (.iload_n 2, 1) := by decide +kernel
theorem dX5_take_16 : decode cX5_take 16 = .ok (.aload_n 0, 1) := by decide +kernel
theorem dX5_take_17 : decode cX5_take 17 = .ok (.getfield 28, 3) := by decide +kernel
theorem dX5_take_20 : decode cX5_take 20 = .ok (.if_icmp .ge 21, 3) := by decide +kernel
theorem dX5_take_23 : decode cX5_take 23 = .ok (.aload_n 0, 1) := by decide +kernel
theorem dX5_take_24 : decode cX5_take 24 = .ok (.getfield 21, 3) := by decide +kernel
theorem dX5_take_27 : decode cX5_take 27 = .ok (.iload_n 2, 1) := by decide +kernel
theorem dX5_take_28 : decode cX5_take 28 = .ok (.aload_n 0, 1) := by decide +kernel
theorem dX5_take_29 : decode cX5_take 29 = .ok (.getfield 18, 3) := by decide +kernel
theorem dX5_take_32 : decode cX5_take 32 = .ok (.iload_n 2, 1) := by decide +kernel
theorem dX5_take_33 : decode cX5_take 33 = .ok (.iaload, 1) := by decide +kernel
theorem dX5_take_34 : decode cX5_take 34 = .ok (.iastore, 1) := by decide +kernel
theorem dX5_take_35 : decode cX5_take 35 = .ok (.iinc 2 1, 3) := by decide +kernel
theorem dX5_take_38 : decode cX5_take 38 = .ok (.goto (-23), 3) := by decide +kernel
theorem dX5_take_41 : decode cX5_take 41 = .ok (.return_, 1) := by decide +kernel
theorem dX5_hope_0 : decode cX5_hope 0 = .ok (.iload_n 1, 1) := by decide +kernel
theorem dX5_hope_1 : decode cX5_hope 1 = .ok (.invokestatic 82, 3) := by decide +kernel
theorem dX5_hope_4 : decode cX5_hope 4 = .ok (.ifCond .eq 15, 3) := by decide +kernel
theorem dX5_hope_7 : decode cX5_hope 7 = .ok (.iload_n 2, 1) := by decide +kernel
theorem dX5_hope_8 : decode cX5_hope 8 = .ok (.aload_n 0, 1) := by decide +kernel
theorem dX5_hope_9 : decode cX5_hope 9 = .ok (.iload_n 1, 1) := by decide +kernel
theorem dX5_hope_10 : decode cX5_hope 10 = .ok (.iconst 1, 1) := by decide +kernel
theorem dX5_hope_11 : decode cX5_hope 11 = .ok (.isub, 1) := by decide +kernel
theorem dX5_hope_12 : decode cX5_hope 12 = .ok (.invokevirtual 86, 3) := by decide +kernel
theorem dX5_hope_15 : decode cX5_hope 15 = .ok (.ior, 1) := by decide +kernel
theorem dX5_hope_16 : decode cX5_hope 16 = .ok (.goto 4, 3) := by decide +kernel
theorem dX5_hope_19 : decode cX5_hope 19 = .ok (.iload_n 2, 1) := by decide +kernel
theorem dX5_hope_20 : decode cX5_hope 20 = .ok (.istore_n 3, 1) := by decide +kernel
theorem dX5_hope_21 : decode cX5_hope 21 = .ok (.iload_n 3, 1) := by decide +kernel
theorem dX5_hope_22 : decode cX5_hope 22 = .ok (.aload_n 0, 1) := by decide +kernel
theorem dX5_hope_23 : decode cX5_hope 23 = .ok (.getfield 38, 3) := by decide +kernel
theorem dX5_hope_26 : decode cX5_hope 26 = .ok (.iand, 1) := by decide +kernel
theorem dX5_hope_27 : decode cX5_hope 27 = .ok (.invokestatic 56, 3) := by decide +kernel
theorem dX5_hope_30 : decode cX5_hope 30 = .ok (.iconst 2, 1) := by decide +kernel
theorem dX5_hope_31 : decode cX5_hope 31 = .ok (.idiv, 1) := by decide +kernel
theorem dX5_hope_32 : decode cX5_hope 32 = .ok (.ireturn, 1) := by decide +kernel
theorem dX5_mayCome_0 : decode cX5_mayCome 0 = .ok (.iload_n 1, 1) := by decide +kernel
theorem dX5_mayCome_1 : decode cX5_mayCome 1 = .ok (.invokestatic 82, 3) := by decide +kernel
theorem dX5_mayCome_4 : decode cX5_mayCome 4 = .ok (.ifCond .eq 17, 3) := by decide +kernel
theorem dX5_mayCome_7 : decode cX5_mayCome 7 = .ok (.iload_n 2, 1) := by decide +kernel
theorem dX5_mayCome_8 : decode cX5_mayCome 8 = .ok (.aload_n 0, 1) := by decide +kernel
theorem dX5_mayCome_9 : decode cX5_mayCome 9 = .ok (.iload_n 1, 1) := by decide +kernel
theorem dX5_mayCome_10 : decode cX5_mayCome 10 = .ok (.iconst 1, 1) := by decide +kernel
theorem dX5_mayCome_11 : decode cX5_mayCome 11 = .ok (.isub, 1) := by decide +kernel
theorem dX5_mayCome_12 : decode cX5_mayCome 12 = .ok (.invokevirtual 89, 3) := by decide +kernel
theorem dX5_mayCome_15 : decode cX5_mayCome 15 = .ok (.iconst (-1), 1) := by decide +kernel
theorem dX5_mayCome_16 : decode cX5_mayCome 16 = .ok (.ixor, 1) := by decide +kernel
theorem dX5_mayCome_17 : decode cX5_mayCome 17 = .ok (.iand, 1) := by decide +kernel
theorem dX5_mayCome_18 : decode cX5_mayCome 18 = .ok (.goto 9, 3) := by decide +kernel
theorem dX5_mayCome_21 : decode cX5_mayCome 21 = .ok (.iload_n 2, 1) := by decide +kernel
theorem dX5_mayCome_22 : decode cX5_mayCome 22 = .ok (.aload_n 0, 1) := by decide +kernel
theorem dX5_mayCome_23 : decode cX5_mayCome 23 = .ok (.getfield 35, 3) := by decide +kernel
theorem dX5_mayCome_26 : decode cX5_mayCome 26 = .ok (.iand, 1) := by decide +kernel
theorem dX5_mayCome_27 : decode cX5_mayCome 27 = .ok (.istore_n 3, 1) := by decide +kernel
theorem dX5_mayCome_28 : decode cX5_mayCome 28 = .ok (.iload_n 3, 1) := by decide +kernel
theorem dX5_mayCome_29 : decode cX5_mayCome 29 = .ok (.aload_n 0, 1) := by decide +kernel
theorem dX5_mayCome_30 : decode cX5_mayCome 30 = .ok (.iload_n 1, 1) := by decide +kernel
theorem dX5_mayCome_31 : decode cX5_mayCome 31 = .ok (.iconst 2, 1) := by decide +kernel
theorem dX5_mayCome_32 : decode cX5_mayCome 32 = .ok (.isub, 1) := by decide +kernel
theorem dX5_mayCome_33 : decode cX5_mayCome 33 = .ok (.invokevirtual 89, 3) := by decide +kernel
theorem dX5_mayCome_36 : decode cX5_mayCome 36 = .ok (.iconst (-1), 1) := by decide +kernel
theorem dX5_mayCome_37 : decode cX5_mayCome 37 = .ok (.ixor, 1) := by decide +kernel
theorem dX5_mayCome_38 : decode cX5_mayCome 38 = .ok (.iand, 1) := by decide +kernel
theorem dX5_mayCome_39 : decode cX5_mayCome 39 = .ok (.ireturn, 1) := by decide +kernel
theorem dX5_quarrelsAt_0 : decode cX5_quarrelsAt 0 = .ok (.iload_n 1, 1) := by decide +kernel
theorem dX5_quarrelsAt_1 : decode cX5_quarrelsAt 1 = .ok (.ifCond .lt 34, 3) := by decide +kernel
theorem dX5_quarrelsAt_4 : decode cX5_quarrelsAt 4 = .ok (.iload_n 1, 1) := by decide +kernel
theorem dX5_quarrelsAt_5 : decode cX5_quarrelsAt 5 = .ok (.aload_n 0, 1) := by decide +kernel
theorem dX5_quarrelsAt_6 : decode cX5_quarrelsAt 6 = .ok (.getfield 28, 3) := by decide +kernel
theorem dX5_quarrelsAt_9 : decode cX5_quarrelsAt 9 = .ok (.if_icmp .ge 26, 3) := by decide +kernel
theorem dX5_quarrelsAt_12 : decode cX5_quarrelsAt 12 = .ok (.aload_n 0, 1) := by decide +kernel
theorem dX5_quarrelsAt_13 : decode cX5_quarrelsAt 13 = .ok (.getfield 18, 3) := by decide +kernel
theorem dX5_quarrelsAt_16 : decode cX5_quarrelsAt 16 = .ok (.iload_n 1, 1) := by decide +kernel
theorem dX5_quarrelsAt_17 : decode cX5_quarrelsAt 17 = .ok (.iaload, 1) := by decide +kernel
theorem dX5_quarrelsAt_18 : decode cX5_quarrelsAt 18 = .ok (.ifCond .lt 17, 3) := by decide +kernel
theorem dX5_quarrelsAt_21 : decode cX5_quarrelsAt 21 = .ok (.aload_n 0, 1) := by decide +kernel
theorem dX5_quarrelsAt_22 : decode cX5_quarrelsAt 22 = .ok (.getfield 15, 3) := by decide +kernel
theorem dX5_quarrelsAt_25 : decode cX5_quarrelsAt 25 = .ok (.aload_n 0, 1) := by decide +kernel
theorem dX5_quarrelsAt_26 : decode cX5_quarrelsAt 26 = .ok (.getfield 18, 3) := by decide +kernel
theorem dX5_quarrelsAt_29 : decode cX5_quarrelsAt 29 = .ok (.iload_n 1, 1) := by decide +kernel
theorem dX5_quarrelsAt_30 : decode cX5_quarrelsAt 30 = .ok (.iaload, 1) := by decide +kernel
theorem dX5_quarrelsAt_31 : decode cX5_quarrelsAt 31 = .ok (.iaload, 1) := by decide +kernel
theorem dX5_quarrelsAt_32 : decode cX5_quarrelsAt 32 = .ok (.goto 4, 3) := by decide +kernel
theorem dX5_quarrelsAt_35 : decode cX5_quarrelsAt 35 = .ok (.iconst 0, 1) := by decide +kernel
theorem dX5_quarrelsAt_36 : decode cX5_quarrelsAt 36 = .ok (.ireturn, 1) := by decide +kernel
theorem dX5_isBeside_0 : decode cX5_isBeside 0 = .ok (.iload_n 0, 1) := by decide +kernel
theorem dX5_isBeside_1 : decode cX5_isBeside 1 = .ok (.iconst 2, 1) := by decide +kernel
theorem dX5_isBeside_2 : decode cX5_isBeside 2 = .ok (.irem, 1) := by decide +kernel
theorem dX5_isBeside_3 : decode cX5_isBeside 3 = .ok (.iconst 1, 1) := by decide +kernel
theorem dX5_isBeside_4 : decode cX5_isBeside 4 = .ok (.if_icmp .ne 7, 3) := by decide +kernel
theorem dX5_isBeside_7 : decode cX5_isBeside 7 = .ok (.iconst 1, 1) := by decide +kernel
theorem dX5_isBeside_8 : decode cX5_isBeside 8 = .ok (.goto 4, 3) := by decide +kernel
theorem dX5_isBeside_11 : decode cX5_isBeside 11 = .ok (.iconst 0, 1) := by decide +kernel
theorem dX5_isBeside_12 : decode cX5_isBeside 12 = .ok (.ireturn, 1) := by decide +kernel
theorem dX5_bitAt_0 : decode cX5_bitAt 0 = .ok (.iload_n 1, 1) := by decide +kernel
theorem dX5_bitAt_1 : decode cX5_bitAt 1 = .ok (.ifCond .lt 31, 3) := by decide +kernel
theorem dX5_bitAt_4 : decode cX5_bitAt 4 = .ok (.iload_n 1, 1) := by decide +kernel
theorem dX5_bitAt_5 : decode cX5_bitAt 5 = .ok (.aload_n 0, 1) := by decide +kernel
theorem dX5_bitAt_6 : decode cX5_bitAt 6 = .ok (.getfield 28, 3) := by decide +kernel
theorem dX5_bitAt_9 : decode cX5_bitAt 9 = .ok (.if_icmp .ge 23, 3) := by decide +kernel
theorem dX5_bitAt_12 : decode cX5_bitAt 12 = .ok (.aload_n 0, 1) := by decide +kernel
theorem dX5_bitAt_13 : decode cX5_bitAt 13 = .ok (.getfield 18, 3) := by decide +kernel
theorem dX5_bitAt_16 : decode cX5_bitAt 16 = .ok (.iload_n 1, 1) := by decide +kernel
theorem dX5_bitAt_17 : decode cX5_bitAt 17 = .ok (.iaload, 1) := by decide +kernel
theorem dX5_bitAt_18 : decode cX5_bitAt 18 = .ok (.ifCond .lt 14, 3) := by decide +kernel
theorem dX5_bitAt_21 : decode cX5_bitAt 21 = .ok (.iconst 1, 1) := by decide +kernel
theorem dX5_bitAt_22 : decode cX5_bitAt 22 = .ok (.aload_n 0, 1) := by decide +kernel
theorem dX5_bitAt_23 : decode cX5_bitAt 23 = .ok (.getfield 18, 3) := by decide +kernel
theorem dX5_bitAt_26 : decode cX5_bitAt 26 = .ok (.iload_n 1, 1) := by decide +kernel
theorem dX5_bitAt_27 : decode cX5_bitAt 27 = .ok (.iaload, 1) := by decide +kernel
theorem dX5_bitAt_28 : decode cX5_bitAt 28 = .ok (.ishl, 1) := by decide +kernel
theorem dX5_bitAt_29 : decode cX5_bitAt 29 = .ok (.goto 4, 3) := by decide +kernel
theorem dX5_bitAt_32 : decode cX5_bitAt 32 = .ok (.iconst 0, 1) := by decide +kernel
theorem dX5_bitAt_33 : decode cX5_bitAt 33 = .ok (.ireturn, 1) := by decide +kernel
theorem dX6_init_0 : decode cX6_init 0 = .ok (.aload_n 0, 1) := by decide +kernel
theorem dX6_init_1 : decode cX6_init 1 = .ok (.invokespecial 3, 3) := by decide +kernel
theorem dX6_init_4 : decode cX6_init 4 = .ok (.aload_n 0, 1) := by decide +kernel
theorem dX6_init_5 : decode cX6_init 5 = .ok (.iconst 0, 1) := by decide +kernel
theorem dX6_init_6 : decode cX6_init 6 = .ok (.putfield 9, 3) := by decide +kernel
theorem dX6_init_9 : decode cX6_init 9 = .ok (.aload_n 0, 1) := by decide +kernel
theorem dX6_init_10 : decode cX6_init 10 = .ok (.iconst 0, 1) := by decide +kernel
theorem dX6_init_11 : decode cX6_init 11 = .ok (.putfield 15, 3) := by decide +kernel
theorem dX6_init_14 : decode cX6_init 14 = .ok (.aload_n 0, 1) := by decide +kernel
theorem dX6_init_15 : decode cX6_init 15 = .ok (.iconst 0, 1) := by decide +kernel
theorem dX6_init_16 : decode cX6_init 16 = .ok (.putfield 19, 3) := by decide +kernel
theorem dX6_init_19 : decode cX6_init 19 = .ok (.aload_n 0, 1) := by decide +kernel
theorem dX6_init_20 : decode cX6_init 20 = .ok (.bipush 100, 2) := by decide +kernel
theorem dX6_init_22 : decode cX6_init 22 = .ok (.newarray .int, 2) := by decide +kernel
theorem dX6_init_24 : decode cX6_init 24 = .ok (.putfield 22, 3) := by decide +kernel
theorem dX6_init_27 : decode cX6_init 27 = .ok (.return_, 1) := by decide +kernel
theorem dX6_begin_0 : decode cX6_begin 0 = .ok (.aload_n 0, 1) := by decide +kernel
theorem dX6_begin_1 : decode cX6_begin 1 = .ok (.iconst 1, 1) := by decide +kernel
theorem dX6_begin_2 : decode cX6_begin 2 = .ok (.putfield 9, 3) := by decide +kernel
theorem dX6_begin_5 : decode cX6_begin 5 = .ok (.aload_n 0, 1) := by decide +kernel
theorem dX6_begin_6 : decode cX6_begin 6 = .ok (.iload_n 1, 1) := by decide +kernel
theorem dX6_begin_7 : decode cX6_begin 7 = .ok (.putfield 15, 3) := by decide +kernel
theorem dX6_begin_10 : decode cX6_begin 10 = .ok (.aload_n 0, 1) := by decide +kernel
theorem dX6_begin_11 : decode cX6_begin 11 = .ok (.iconst 0, 1) := by decide +kernel
theorem dX6_begin_12 : decode cX6_begin 12 = .ok (.iload_n 2, 1) := by decide +kernel
theorem dX6_begin_13 : decode cX6_begin 13 = .ok (.bipush 100, 2) := by decide +kernel
theorem dX6_begin_15 : decode cX6_begin 15 = .ok (.invokestatic 26, 3) := by decide +kernel
theorem dX6_begin_18 : decode cX6_begin 18 = .ok (.invokestatic 32, 3) := by decide +kernel
theorem dX6_begin_21 : decode cX6_begin 21 = .ok (.putfield 19, 3) := by decide +kernel
theorem dX6_begin_24 : decode cX6_begin 24 = .ok (.iconst 0, 1) := by decide +kernel
theorem dX6_begin_25 : decode cX6_begin 25 = .ok (.istore_n 3, 1) := by decide +kernel
theorem dX6_begin_26 : decode cX6_begin 26 = .ok (.iload_n 3, 1) := by decide +kernel
theorem dX6_begin_27 : decode cX6_begin 27 = .ok (.bipush 100, 2) := by decide +kernel
theorem dX6_begin_29 : decode cX6_begin 29 = .ok (.if_icmp .ge 16, 3) := by decide +kernel
theorem dX6_begin_32 : decode cX6_begin 32 = .ok (.aload_n 0, 1) := by decide +kernel
theorem dX6_begin_33 : decode cX6_begin 33 = .ok (.getfield 22, 3) := by decide +kernel
theorem dX6_begin_36 : decode cX6_begin 36 = .ok (.iload_n 3, 1) := by decide +kernel
theorem dX6_begin_37 : decode cX6_begin 37 = .ok (.iconst 0, 1) := by decide +kernel
theorem dX6_begin_38 : decode cX6_begin 38 = .ok (.iastore, 1) := by decide +kernel
theorem dX6_begin_39 : decode cX6_begin 39 = .ok (.iinc 3 1, 3) := by decide +kernel
theorem dX6_begin_42 : decode cX6_begin 42 = .ok (.goto (-16), 3) := by decide +kernel
theorem dX6_begin_45 : decode cX6_begin 45 = .ok (.return_, 1) := by decide +kernel
theorem dX6_reaches_0 : decode cX6_reaches 0 = .ok (.iload_n 1, 1) := by decide +kernel
theorem dX6_reaches_1 : decode cX6_reaches 1 = .ok (.ifCond .lt 21, 3) := by decide +kernel
theorem dX6_reaches_4 : decode cX6_reaches 4 = .ok (.iload_n 2, 1) := by decide +kernel
theorem dX6_reaches_5 : decode cX6_reaches 5 = .ok (.ifCond .lt 17, 3) := by decide +kernel
theorem dX6_reaches_8 : decode cX6_reaches 8 = .ok (.iload_n 1, 1) := by decide +kernel
theorem dX6_reaches_9 : decode cX6_reaches 9 = .ok (.aload_n 0, 1) := by decide +kernel
theorem dX6_reaches_10 : decode cX6_reaches 10 = .ok (.getfield 19, 3) := by decide +kernel
theorem dX6_reaches_13 : decode cX6_reaches 13 = .ok (.iload_n 2, 1) := by decide +kernel
theorem dX6_reaches_14 : decode cX6_reaches 14 = .ok (.isub, 1) := by decide +kernel
theorem dX6_reaches_15 : decode cX6_reaches 15 = .ok (.if_icmp .gt 7, 3) := by decide +kernel
theorem dX6_reaches_18 : decode cX6_reaches 18 = .ok (.iconst 1, 1) := by decide +kernel
theorem dX6_reaches_19 : decode cX6_reaches 19 = .ok (.goto 4, 3) := by decide +kernel
theorem dX6_reaches_22 : decode cX6_reaches 22 = .ok (.iconst 0, 1) := by decide +kernel
theorem dX6_reaches_23 : decode cX6_reaches 23 = .ok (.ireturn, 1) := by decide +kernel
theorem dX6_rowFault_0 : decode cX6_rowFault 0 = .ok (.aload_n 0, 1) := by decide +kernel
theorem dX6_rowFault_1 : decode cX6_rowFault 1 = .ok (.getfield 9, 3) := by decide +kernel
theorem dX6_rowFault_4 : decode cX6_rowFault 4 = .ok (.ifCond .ne 5, 3) := by decide +kernel
theorem dX6_rowFault_7 : decode cX6_rowFault 7 = .ok (.iconst 1, 1) := by decide +kernel
theorem dX6_rowFault_8 : decode cX6_rowFault 8 = .ok (.ireturn, 1) := by decide +kernel
theorem dX6_rowFault_9 : decode cX6_rowFault 9 = .ok (.aload_n 0, 1) := by decide +kernel
theorem dX6_rowFault_10 : decode cX6_rowFault 10 = .ok (.getfield 15, 3) := by decide +kernel
theorem dX6_rowFault_13 : decode cX6_rowFault 13 = .ok (.iload_n 1, 1) := by decide +kernel
theorem dX6_rowFault_14 : decode cX6_rowFault 14 = .ok (.if_icmp .eq 5, 3) := by decide +kernel
theorem dX6_rowFault_17 : decode cX6_rowFault 17 = .ok (.iconst 2, 1) := by decide +kernel
theorem dX6_rowFault_18 : decode cX6_rowFault 18 = .ok (.ireturn, 1) := by decide +kernel
theorem dX6_rowFault_19 : decode cX6_rowFault 19 = .ok (.iload_n 3, 1) := by decide +kernel
theorem dX6_rowFault_20 : decode cX6_rowFault 20 = .ok (.ifCond .ge 5, 3) := by decide +kernel
theorem dX6_rowFault_23 : decode cX6_rowFault 23 = .ok (.iconst 4, 1) := by decide +kernel
theorem dX6_rowFault_24 : decode cX6_rowFault 24 = .ok (.ireturn, 1) := by decide +kernel
theorem dX6_rowFault_25 : decode cX6_rowFault 25 = .ok (.aload_n 0, 1) := by decide +kernel
theorem dX6_rowFault_26 : decode cX6_rowFault 26 = .ok (.iload_n 2, 1) := by decide +kernel
theorem dX6_rowFault_27 : decode cX6_rowFault 27 = .ok (.iload_n 3, 1) := by decide +kernel
theorem dX6_rowFault_28 : decode cX6_rowFault 28 = .ok (.invokevirtual 35, 3) := by decide +kernel
theorem dX6_rowFault_31 : decode cX6_rowFault 31 = .ok (.ifCond .eq 7, 3) := by decide +kernel
theorem dX6_rowFault_34 : decode cX6_rowFault 34 = .ok (.iconst 0, 1) := by decide +kernel
theorem dX6_rowFault_35 : decode cX6_rowFault 35 = .ok (.goto 4, 3) := by decide +kernel
theorem dX6_rowFault_38 : decode cX6_rowFault 38 = .ok (.iconst 3, 1) := by decide +kernel
theorem dX6_rowFault_39 : decode cX6_rowFault 39 = .ok (.ireturn, 1) := by decide +kernel
theorem dX6_at_0 : decode cX6_at 0 = .ok (.aload_n 0, 1) := by decide +kernel
theorem dX6_at_1 : decode cX6_at 1 = .ok (.iload_n 1, 1) := by decide +kernel
theorem dX6_at_2 : decode cX6_at 2 = .ok (.iconst 1, 1) := by decide +kernel
theorem dX6_at_3 : decode cX6_at 3 = .ok (.invokevirtual 35, 3) := by decide +kernel
theorem dX6_at_6 : decode cX6_at 6 = .ok (.ifCond .eq 12, 3) := by decide +kernel
theorem dX6_at_9 : decode cX6_at 9 = .ok (.aload_n 0, 1) := by decide +kernel
theorem dX6_at_10 : decode cX6_at 10 = .ok (.getfield 22, 3) := by decide +kernel
theorem dX6_at_13 : decode cX6_at 13 = .ok (.iload_n 1, 1) := by decide +kernel
theorem dX6_at_14 : decode cX6_at 14 = .ok (.iaload, 1) := by decide +kernel
theorem dX6_at_15 : decode cX6_at 15 = .ok (.goto 4, 3) := by decide +kernel
theorem dX6_at_18 : decode cX6_at 18 = .ok (.iconst 0, 1) := by decide +kernel
theorem dX6_at_19 : decode cX6_at 19 = .ok (.ireturn, 1) := by decide +kernel
theorem dX6_change_0 : decode cX6_change 0 = .ok (.aload_n 0, 1) := by decide +kernel
theorem dX6_change_1 : decode cX6_change 1 = .ok (.iload_n 1, 1) := by decide +kernel
theorem dX6_change_2 : decode cX6_change 2 = .ok (.iconst 1, 1) := by decide +kernel
theorem dX6_change_3 : decode cX6_change 3 = .ok (.invokevirtual 35, 3) := by decide +kernel
theorem dX6_change_6 : decode cX6_change 6 = .ok (.ifCond .ne 4, 3) := by decide +kernel
theorem dX6_change_9 : decode cX6_change 9 = .ok (.return_, 1) := by decide +kernel
theorem dX6_change_10 : decode cX6_change 10 = .ok (.aload_n 0, 1) := by decide +kernel
theorem dX6_change_11 : decode cX6_change 11 = .ok (.getfield 15, 3) := by decide +kernel
theorem dX6_change_14 : decode cX6_change 14 = .ok (.ifCond .ne 14, 3) := by decide +kernel
theorem dX6_change_17 : decode cX6_change 17 = .ok (.aload_n 0, 1) := by decide +kernel
theorem dX6_change_18 : decode cX6_change 18 = .ok (.getfield 22, 3) := by decide +kernel
theorem dX6_change_21 : decode cX6_change 21 = .ok (.iload_n 1, 1) := by decide +kernel
theorem dX6_change_22 : decode cX6_change 22 = .ok (.iload_n 2, 1) := by decide +kernel
theorem dX6_change_23 : decode cX6_change 23 = .ok (.i2b, 1) := by decide +kernel
theorem dX6_change_24 : decode cX6_change 24 = .ok (.iastore, 1) := by decide +kernel
theorem dX6_change_25 : decode cX6_change 25 = .ok (.goto 29, 3) := by decide +kernel
theorem dX6_change_28 : decode cX6_change 28 = .ok (.aload_n 0, 1) := by decide +kernel
theorem dX6_change_29 : decode cX6_change 29 = .ok (.getfield 15, 3) := by decide +kernel
theorem dX6_change_32 : decode cX6_change 32 = .ok (.iconst 1, 1) := by decide +kernel
theorem dX6_change_33 : decode cX6_change 33 = .ok (.if_icmp .ne 14, 3) := by decide +kernel
theorem dX6_change_36 : decode cX6_change 36 = .ok (.aload_n 0, 1) := by decide +kernel
theorem dX6_change_37 : decode cX6_change 37 = .ok (.getfield 22, 3) := by decide +kernel
theorem dX6_change_40 : decode cX6_change 40 = .ok (.iload_n 1, 1) := by decide +kernel
theorem dX6_change_41 : decode cX6_change 41 = .ok (.iload_n 2, 1) := by decide +kernel
theorem dX6_change_42 : decode cX6_change 42 = .ok (.i2s, 1) := by decide +kernel
theorem dX6_change_43 : decode cX6_change 43 = .ok (.iastore, 1) := by decide +kernel
theorem dX6_change_44 : decode cX6_change 44 = .ok (.goto 10, 3) := by decide +kernel
theorem dX6_change_47 : decode cX6_change 47 = .ok (.aload_n 0, 1) := by decide +kernel
theorem dX6_change_48 : decode cX6_change 48 = .ok (.getfield 22, 3) := by decide +kernel
theorem dX6_change_51 : decode cX6_change 51 = .ok (.iload_n 1, 1) := by decide +kernel
theorem dX6_change_52 : decode cX6_change 52 = .ok (.iload_n 2, 1) := by decide +kernel
theorem dX6_change_53 : decode cX6_change 53 = .ok (.iastore, 1) := by decide +kernel
theorem dX6_change_54 : decode cX6_change 54 = .ok (.return_, 1) := by decide +kernel
theorem dX7_init_0 : decode cX7_init 0 = .ok (.aload_n 0, 1) := by decide +kernel
theorem dX7_init_1 : decode cX7_init 1 = .ok (.invokespecial 3, 3) := by decide +kernel
theorem dX7_init_4 : decode cX7_init 4 = .ok (.aload_n 0, 1) := by decide +kernel
theorem dX7_init_5 : decode cX7_init 5 = .ok (.iconst 0, 1) := by decide +kernel
theorem dX7_init_6 : decode cX7_init 6 = .ok (.putfield 9, 3) := by decide +kernel
theorem dX7_init_9 : decode cX7_init 9 = .ok (.aload_n 0, 1) := by decide +kernel
theorem dX7_init_10 : decode cX7_init 10 = .ok (.iconst 0, 1) := by decide +kernel
theorem dX7_init_11 : decode cX7_init 11 = .ok (.putfield 15, 3) := by decide +kernel
theorem dX7_init_14 : decode cX7_init 14 = .ok (.aload_n 0, 1) := by decide +kernel
theorem dX7_init_15 : decode cX7_init 15 = .ok (.iconst 0, 1) := by decide +kernel
theorem dX7_init_16 : decode cX7_init 16 = .ok (.putfield 18, 3) := by decide +kernel
theorem dX7_init_19 : decode cX7_init 19 = .ok (.aload_n 0, 1) := by decide +kernel
theorem dX7_init_20 : decode cX7_init 20 = .ok (.bipush 12, 2) := by decide +kernel
theorem dX7_init_22 : decode cX7_init 22 = .ok (.newarray .int, 2) := by decide +kernel
theorem dX7_init_24 : decode cX7_init 24 = .ok (.putfield 21, 3) := by decide +kernel
theorem dX7_init_27 : decode cX7_init 27 = .ok (.aload_n 0, 1) := by decide +kernel
theorem dX7_init_28 : decode cX7_init 28 = .ok (.bipush 12, 2) := by decide +kernel
theorem dX7_init_30 : decode cX7_init 30 = .ok (.newarray .int, 2) := by decide +kernel
theorem dX7_init_32 : decode cX7_init 32 = .ok (.putfield 25, 3) := by decide +kernel
theorem dX7_init_35 : decode cX7_init 35 = .ok (.aload_n 0, 1) := by decide +kernel
theorem dX7_init_36 : decode cX7_init 36 = .ok (.bipush 12, 2) := by decide +kernel
theorem dX7_init_38 : decode cX7_init 38 = .ok (.newarray .int, 2) := by decide +kernel
theorem dX7_init_40 : decode cX7_init 40 = .ok (.putfield 28, 3) := by decide +kernel
theorem dX7_init_43 : decode cX7_init 43 = .ok (.aload_n 0, 1) := by decide +kernel
theorem dX7_init_44 : decode cX7_init 44 = .ok (.bipush 12, 2) := by decide +kernel
theorem dX7_init_46 : decode cX7_init 46 = .ok (.newarray .int, 2) := by decide +kernel
theorem dX7_init_48 : decode cX7_init 48 = .ok (.putfield 31, 3) := by decide +kernel
theorem dX7_init_51 : decode cX7_init 51 = .ok (.aload_n 0, 1) := by decide +kernel
theorem dX7_init_52 : decode cX7_init 52 = .ok (.bipush 12, 2) := by decide +kernel
theorem dX7_init_54 : decode cX7_init 54 = .ok (.newarray .int, 2) := by decide +kernel
theorem dX7_init_56 : decode cX7_init 56 = .ok (.putfield 34, 3) := by decide +kernel
theorem dX7_init_59 : decode cX7_init 59 = .ok (.aload_n 0, 1) := by decide +kernel
theorem dX7_init_60 : decode cX7_init 60 = .ok (.bipush 7, 2) := by decide +kernel
theorem dX7_init_62 : decode cX7_init 62 = .ok (.bipush 7, 2) := by decide +kernel
theorem dX7_init_64 : decode cX7_init 64 = .ok (.multianewarray 37 2, 4) := by decide +kernel
theorem dX7_init_68 : decode cX7_init 68 = .ok (.putfield 39, 3) := by decide +kernel
theorem dX7_init_71 : decode cX7_init 71 = .ok (.aload_n 0, 1) := by decide +kernel
theorem dX7_init_72 : decode cX7_init 72 = .ok (.bipush 7, 2) := by decide +kernel
theorem dX7_init_74 : decode cX7_init 74 = .ok (.bipush 7, 2) := by decide +kernel
theorem dX7_init_76 : decode cX7_init 76 = .ok (.multianewarray 37 2, 4) := by decide +kernel
theorem dX7_init_80 : decode cX7_init 80 = .ok (.putfield 42, 3) := by decide +kernel
theorem dX7_init_83 : decode cX7_init 83 = .ok (.return_, 1) := by decide +kernel
theorem dX7_begin_0 : decode cX7_begin 0 = .ok (.aload_n 0, 1) := by decide +kernel
theorem dX7_begin_1 : decode cX7_begin 1 = .ok (.iload_n 1, 1) := by decide +kernel
theorem dX7_begin_2 : decode cX7_begin 2 = .ok (.putfield 9, 3) := by decide +kernel
theorem dX7_begin_5 : decode cX7_begin 5 = .ok (.aload_n 0, 1) := by decide +kernel
theorem dX7_begin_6 : decode cX7_begin 6 = .ok (.iconst 0, 1) := by decide +kernel
theorem dX7_begin_7 : decode cX7_begin 7 = .ok (.putfield 15, 3) := by decide +kernel
theorem dX7_begin_10 : decode cX7_begin 10 = .ok (.aload_n 0, 1) := by decide +kernel
theorem dX7_begin_11 : decode cX7_begin 11 = .ok (.iconst 0, 1) := by decide +kernel
theorem dX7_begin_12 : decode cX7_begin 12 = .ok (.putfield 18, 3) := by decide +kernel
theorem dX7_begin_15 : decode cX7_begin 15 = .ok (.return_, 1) := by decide +kernel
theorem dX7_addRoad_0 : decode cX7_addRoad 0 = .ok (.aload_n 0, 1) := by decide +kernel
theorem dX7_addRoad_1 : decode cX7_addRoad 1 = .ok (.getfield 15, 3) := by decide +kernel
theorem dX7_addRoad_4 : decode cX7_addRoad 4 = .ok (.bipush 12, 2) := by decide +kernel
theorem dX7_addRoad_6 : decode cX7_addRoad 6 = .ok (.if_icmp .lt 4, 3) := by decide +kernel
theorem dX7_addRoad_9 : decode cX7_addRoad 9 = .ok (.return_, 1) := by decide +kernel
theorem dX7_addRoad_10 : decode cX7_addRoad 10 = .ok (.aload_n 0, 1) := by decide +kernel
theorem dX7_addRoad_11 : decode cX7_addRoad 11 = .ok (.getfield 21, 3) := by decide +kernel
theorem dX7_addRoad_14 : decode cX7_addRoad 14 = .ok (.aload_n 0, 1) := by decide +kernel
theorem dX7_addRoad_15 : decode cX7_addRoad 15 = .ok (.getfield 15, 3) := by decide +kernel
theorem dX7_addRoad_18 : decode cX7_addRoad 18 = .ok (.iload_n 1, 1) := by decide +kernel
theorem dX7_addRoad_19 : decode cX7_addRoad 19 = .ok (.iastore, 1) := by decide +kernel
theorem dX7_addRoad_20 : decode cX7_addRoad 20 = .ok (.aload_n 0, 1) := by decide +kernel
theorem dX7_addRoad_21 : decode cX7_addRoad 21 = .ok (.getfield 25, 3) := by decide +kernel
theorem dX7_addRoad_24 : decode cX7_addRoad 24 = .ok (.aload_n 0, 1) := by decide +kernel
theorem dX7_addRoad_25 : decode cX7_addRoad 25 = .ok (.getfield 15, 3) := by decide +kernel
theorem dX7_addRoad_28 : decode cX7_addRoad 28 = .ok (.iload_n 2, 1) := by decide +kernel
theorem dX7_addRoad_29 : decode cX7_addRoad 29 = .ok (.iastore, 1) := by decide +kernel
theorem dX7_addRoad_30 : decode cX7_addRoad 30 = .ok (.aload_n 0, 1) := by decide +kernel
theorem dX7_addRoad_31 : decode cX7_addRoad 31 = .ok (.getfield 28, 3) := by decide +kernel
theorem dX7_addRoad_34 : decode cX7_addRoad 34 = .ok (.aload_n 0, 1) := by decide +kernel
theorem dX7_addRoad_35 : decode cX7_addRoad 35 = .ok (.getfield 15, 3) := by decide +kernel
theorem dX7_addRoad_38 : decode cX7_addRoad 38 = .ok (.iload_n 3, 1) := by decide +kernel
theorem dX7_addRoad_39 : decode cX7_addRoad 39 = .ok (.iastore, 1) := by decide +kernel
theorem dX7_addRoad_40 : decode cX7_addRoad 40 = .ok (.aload_n 0, 1) := by decide +kernel
theorem dX7_addRoad_41 : decode cX7_addRoad 41 = .ok (.getfield 31, 3) := by decide +kernel
theorem dX7_addRoad_44 : decode cX7_addRoad 44 = .ok (.aload_n 0, 1) := by decide +kernel
theorem dX7_addRoad_45 : decode cX7_addRoad 45 = .ok (.getfield 15, 3) := by decide +kernel
theorem dX7_addRoad_48 : decode cX7_addRoad 48 = .ok (.iload 4, 2) := by decide +kernel
theorem dX7_addRoad_50 : decode cX7_addRoad 50 = .ok (.iastore, 1) := by decide +kernel
theorem dX7_addRoad_51 : decode cX7_addRoad 51 = .ok (.aload_n 0, 1) := by decide +kernel
theorem dX7_addRoad_52 : decode cX7_addRoad 52 = .ok (.getfield 34, 3) := by decide +kernel
theorem dX7_addRoad_55 : decode cX7_addRoad 55 = .ok (.aload_n 0, 1) := by decide +kernel
theorem dX7_addRoad_56 : decode cX7_addRoad 56 = .ok (.getfield 15, 3) := by decide +kernel
theorem dX7_addRoad_59 : decode cX7_addRoad 59 = .ok (.iload 5, 2) := by decide +kernel
theorem dX7_addRoad_61 : decode cX7_addRoad 61 = .ok (.iastore, 1) := by decide +kernel
theorem dX7_addRoad_62 : decode cX7_addRoad 62 = .ok (.aload_n 0, 1) := by decide +kernel
theorem dX7_addRoad_63 : decode cX7_addRoad 63 = .ok (.dup, 1) := by decide +kernel
theorem dX7_addRoad_64 : decode cX7_addRoad 64 = .ok (.getfield 15, 3) := by decide +kernel
theorem dX7_addRoad_67 : decode cX7_addRoad 67 = .ok (.iconst 1, 1) := by decide +kernel
theorem dX7_addRoad_68 : decode cX7_addRoad 68 = .ok (.iadd, 1) := by decide +kernel
theorem dX7_addRoad_69 : decode cX7_addRoad 69 = .ok (.putfield 15, 3) := by decide +kernel
theorem dX7_addRoad_72 : decode cX7_addRoad 72 = .ok (.return_, 1) := by decide +kernel
theorem dX7_crossings_0 : decode cX7_crossings 0 = .ok (.iconst 0, 1) := by decide +kernel
theorem dX7_crossings_1 : decode cX7_crossings 1 = .ok (.istore_n 1, 1) := by decide +kernel
theorem dX7_crossings_2 : decode cX7_crossings 2 = .ok (.iconst 0, 1) := by decide +kernel
theorem dX7_crossings_3 : decode cX7_crossings 3 = .ok (.istore_n 2, 1) := by decide +kernel
theorem dX7_crossings_4 : decode cX7_crossings 4 = .ok (.iload_n 2, 1) := by decide +kernel
theorem dX7_crossings_5 : decode cX7_crossings 5 = .ok (.aload_n 0, 1) := by decide +kernel
theorem dX7_crossings_6 : decode cX7_crossings 6 = .ok (.getfield 15, 3) := by decide +kernel
theorem dX7_crossings_9 : decode cX7_crossings 9 = .ok (.if_icmp .ge 25, 3) := by decide +kernel
theorem dX7_crossings_12 : decode cX7_crossings 12 = .ok (.iload_n 1, 1) := by decide +kernel
theorem dX7_crossings_13 : decode cX7_crossings 13 = .ok (.aload_n 0, 1) := by decide +kernel
theorem dX7_crossings_14 : decode cX7_crossings 14 = .ok (.iload_n 2, 1) := by decide +kernel
theorem dX7_crossings_15 : decode cX7_crossings 15 = .ok (.invokevirtual 45, 3) := by decide +kernel
theorem dX7_crossings_18 : decode cX7_crossings 18 = .ok (.ifCond .eq 7, 3) := by decide +kernel
theorem dX7_crossings_21 : decode cX7_crossings 21 = .ok (.iconst 1, 1) := by decide +kernel
theorem dX7_crossings_22 : decode cX7_crossings 22 = .ok (.goto 4, 3) := by decide +kernel
theorem dX7_crossings_25 : decode cX7_crossings 25 = .ok (.iconst 0, 1) := by decide +kernel
theorem dX7_crossings_26 : decode cX7_crossings 26 = .ok (.iadd, 1) := by decide +kernel
theorem dX7_crossings_27 : decode cX7_crossings 27 = .ok (.istore_n 1, 1) := by decide +kernel
theorem dX7_crossings_28 : decode cX7_crossings 28 = .ok (.iinc 2 1, 3) := by decide +kernel
theorem dX7_crossings_31 : decode cX7_crossings 31 = .ok (.goto (-27), 3) := by decide +kernel
theorem dX7_crossings_34 : decode cX7_crossings 34 = .ok (.iload_n 1, 1) := by decide +kernel
theorem dX7_crossings_35 : decode cX7_crossings 35 = .ok (.ireturn, 1) := by decide +kernel
theorem dX7_isCrossing_0 : decode cX7_isCrossing 0 = .ok (.aload_n 0, 1) := by decide +kernel
theorem dX7_isCrossing_1 : decode cX7_isCrossing 1 = .ok (.getfield 31, 3) := by decide +kernel
theorem dX7_isCrossing_4 : decode cX7_isCrossing 4 = .ok (.iload_n 1, 1) := by decide +kernel
theorem dX7_isCrossing_5 : decode cX7_isCrossing 5 = .ok (.iaload, 1) := by decide +kernel
theorem dX7_isCrossing_6 : decode cX7_isCrossing 6 = .ok (.ifCond .le 7, 3) := by decide +kernel
theorem dX7_isCrossing_9 : decode cX7_isCrossing 9 = .ok (.iconst 1, 1) := by decide +kernel
theorem dX7_isCrossing_10 : decode cX7_isCrossing 10 = .ok (.goto 4, 3) := by decide +kernel
theorem dX7_isCrossing_13 : decode cX7_isCrossing 13 = .ok (.iconst 0, 1) := by decide +kernel
theorem dX7_isCrossing_14 : decode cX7_isCrossing 14 = .ok (.ireturn, 1) := by decide +kernel
theorem dX7_findWays_0 : decode cX7_findWays 0 = .ok (.aload_n 0, 1) := by decide +kernel
theorem dX7_findWays_1 : decode cX7_findWays 1 = .ok (.invokevirtual 49, 3) := by decide +kernel
theorem dX7_findWays_4 : decode cX7_findWays 4 = .ok (.iconst 0, 1) := by decide +kernel
theorem dX7_findWays_5 : decode cX7_findWays 5 = .ok (.istore_n 1, 1) := by decide +kernel
theorem dX7_findWays_6 : decode cX7_findWays 6 = .ok (.iload_n 1, 1) := by decide +kernel
theorem dX7_findWays_7 : decode cX7_findWays 7 = .ok (.aload_n 0, 1) := by decide +kernel
theorem dX7_findWays_8 : decode cX7_findWays 8 = .ok (.getfield 9, 3) := by decide +kernel
theorem dX7_findWays_11 : decode cX7_findWays 11 = .ok (.if_icmp .ge 77, 3) := by decide +kernel
theorem dX7_findWays_14 : decode cX7_findWays 14 = .ok (.iconst 0, 1) := by decide +kernel
theorem dX7_findWays_15 : decode cX7_findWays 15 = .ok (.istore_n 2, 1) := by decide +kernel
theorem dX7_findWays_16 : decode cX7_findWays 16 = .ok (.iload_n 2, 1) := by decide +kernel
theorem dX7_findWays_17 : decode cX7_findWays 17 = .ok (.aload_n 0, 1) := by decide +kernel
theorem dX7_findWays_18 : decode cX7_findWays 18 = .ok (.getfield 9, 3) := by decide +kernel
theorem dX7_findWays_21 : decode cX7_findWays 21 = .ok (.if_icmp .ge 61, 3) := by decide +kernel
theorem dX7_findWays_24 : decode cX7_findWays 24 = .ok (.iconst 0, 1) := by decide +kernel
theorem dX7_findWays_25 : decode cX7_findWays 25 = .ok (.istore_n 3, 1) := by decide +kernel
theorem dX7_findWays_26 : decode cX7_findWays 26 = .ok (.iload_n 3, 1) := by decide +kernel
theorem dX7_findWays_27 : decode cX7_findWays 27 = .ok (.aload_n 0, 1) := by decide +kernel
theorem dX7_findWays_28 : decode cX7_findWays 28 = .ok (.getfield 9, 3) := by decide +kernel
theorem dX7_findWays_31 : decode cX7_findWays 31 = .ok (.if_icmp .ge 45, 3) := by decide +kernel
theorem dX7_findWays_34 : decode cX7_findWays 34 = .ok (.aload_n 0, 1) := by decide +kernel
theorem dX7_findWays_35 : decode cX7_findWays 35 = .ok (.getfield 39, 3) := by decide +kernel
theorem dX7_findWays_38 : decode cX7_findWays 38 = .ok (.iload_n 2, 1) := by decide +kernel
theorem dX7_findWays_39 : decode cX7_findWays 39 = .ok (.aaload, 1) := by decide +kernel
theorem dX7_findWays_40 : decode cX7_findWays 40 = .ok (.iload_n 3, 1) := by decide +kernel
theorem dX7_findWays_41 : decode cX7_findWays 41 = .ok (.aload_n 0, 1) := by decide +kernel
theorem dX7_findWays_42 : decode cX7_findWays 42 = .ok (.getfield 39, 3) := by decide +kernel
theorem dX7_findWays_45 : decode cX7_findWays 45 = .ok (.iload_n 2, 1) := by decide +kernel
theorem dX7_findWays_46 : decode cX7_findWays 46 = .ok (.aaload, 1) := by decide +kernel
theorem dX7_findWays_47 : decode cX7_findWays 47 = .ok (.iload_n 3, 1) := by decide +kernel
theorem dX7_findWays_48 : decode cX7_findWays 48 = .ok (.iaload, 1) := by decide +kernel
theorem dX7_findWays_49 : decode cX7_findWays 49 = .ok (.aload_n 0, 1) := by decide +kernel
theorem dX7_findWays_50 : decode cX7_findWays 50 = .ok (.getfield 39, 3) := by decide +kernel
theorem dX7_findWays_53 : decode cX7_findWays 53 = .ok (.iload_n 2, 1) := by decide +kernel
theorem dX7_findWays_54 : decode cX7_findWays 54 = .ok (.aaload, 1) := by decide +kernel
theorem dX7_findWays_55 : decode cX7_findWays 55 = .ok (.iload_n 1, 1) := by decide +kernel
theorem dX7_findWays_56 : decode cX7_findWays 56 = .ok (.iaload, 1) := by decide +kernel
theorem dX7_findWays_57 : decode cX7_findWays 57 = .ok (.aload_n 0, 1) := by decide +kernel
theorem dX7_findWays_58 : decode cX7_findWays 58 = .ok (.getfield 39, 3) := by decide +kernel
theorem dX7_findWays_61 : decode cX7_findWays 61 = .ok (.iload_n 1, 1) := by decide +kernel
theorem dX7_findWays_62 : decode cX7_findWays 62 = .ok (.aaload, 1) := by decide +kernel
theorem dX7_findWays_63 : decode cX7_findWays 63 = .ok (.iload_n 3, 1) := by decide +kernel
theorem dX7_findWays_64 : decode cX7_findWays 64 = .ok (.iaload, 1) := by decide +kernel
theorem dX7_findWays_65 : decode cX7_findWays 65 = .ok (.iadd, 1) := by decide +kernel
theorem dX7_findWays_66 : decode cX7_findWays 66 = .ok (.invokestatic 52, 3) := by decide +kernel
theorem dX7_findWays_69 : decode cX7_findWays 69 = .ok (.iastore, 1) := by decide +kernel
theorem dX7_findWays_70 : decode cX7_findWays 70 = .ok (.iinc 3 1, 3) := by decide +kernel
theorem dX7_findWays_73 : decode cX7_findWays 73 = .ok (.goto (-47), 3) := by decide +kernel
theorem dX7_findWays_76 : decode cX7_findWays 76 = .ok (.iinc 2 1, 3) := by decide +kernel
theorem dX7_findWays_79 : decode cX7_findWays 79 = .ok (.goto (-63), 3) := by decide +kernel
theorem dX7_findWays_82 : decode cX7_findWays 82 = .ok (.iinc 1 1, 3) := by decide +kernel
theorem dX7_findWays_85 : decode cX7_findWays 85 = .ok (.goto (-79), 3) := by decide +kernel
theorem dX7_findWays_88 : decode cX7_findWays 88 = .ok (.iconst 0, 1) := by decide +kernel
theorem dX7_findWays_89 : decode cX7_findWays 89 = .ok (.istore_n 1, 1) := by decide +kernel
theorem dX7_findWays_90 : decode cX7_findWays 90 = .ok (.iload_n 1, 1) := by decide +kernel
theorem dX7_findWays_91 : decode cX7_findWays 91 = .ok (.aload_n 0, 1) := by decide +kernel
theorem dX7_findWays_92 : decode cX7_findWays 92 = .ok (.getfield 9, 3) := by decide +kernel
theorem dX7_findWays_95 : decode cX7_findWays 95 = .ok (.if_icmp .ge 39, 3) := by decide +kernel
theorem dX7_findWays_98 : decode cX7_findWays 98 = .ok (.iconst 0, 1) := by decide +kernel
theorem dX7_findWays_99 : decode cX7_findWays 99 = .ok (.istore_n 2, 1) := by decide +kernel
theorem dX7_findWays_100 : decode cX7_findWays 100 = .ok (.iload_n 2, 1) := by decide +kernel
theorem dX7_findWays_101 : decode cX7_findWays 101 = .ok (.aload_n 0, 1) := by decide +kernel
theorem dX7_findWays_102 : decode cX7_findWays 102 = .ok (.getfield 9, 3) := by decide +kernel
theorem dX7_findWays_105 : decode cX7_findWays 105 = .ok (.if_icmp .ge 23, 3) := by decide +kernel
theorem dX7_findWays_108 : decode cX7_findWays 108 = .ok (.aload_n 0, 1) := by decide +kernel
theorem dX7_findWays_109 : decode cX7_findWays 109 = .ok (.getfield 42, 3) := by decide +kernel
theorem dX7_findWays_112 : decode cX7_findWays 112 = .ok (.iload_n 1, 1) := by decide +kernel
theorem dX7_findWays_113 : decode cX7_findWays 113 = .ok (.aaload, 1) := by decide +kernel
theorem dX7_findWays_114 : decode cX7_findWays 114 = .ok (.iload_n 2, 1) := by decide +kernel
theorem dX7_findWays_115 : decode cX7_findWays 115 = .ok (.aload_n 0, 1) := by decide +kernel
theorem dX7_findWays_116 : decode cX7_findWays 116 = .ok (.iload_n 1, 1) := by decide +kernel
theorem dX7_findWays_117 : decode cX7_findWays 117 = .ok (.iload_n 2, 1) := by decide +kernel
theorem dX7_findWays_118 : decode cX7_findWays 118 = .ok (.invokevirtual 58, 3) := by decide +kernel
theorem dX7_findWays_121 : decode cX7_findWays 121 = .ok (.iastore, 1) := by decide +kernel
theorem dX7_findWays_122 : decode cX7_findWays 122 = .ok (.iinc 2 1, 3) := by decide +kernel
theorem dX7_findWays_125 : decode cX7_findWays 125 = .ok (.goto (-25), 3) := by decide +kernel
theorem dX7_findWays_128 : decode cX7_findWays 128 = .ok (.iinc 1 1, 3) := by decide +kernel
theorem dX7_findWays_131 : decode cX7_findWays 131 = .ok (.goto (-41), 3) := by decide +kernel
theorem dX7_findWays_134 : decode cX7_findWays 134 = .ok (.return_, 1) := by decide +kernel
theorem dX7_setRoadCosts_0 : decode cX7_setRoadCosts 0 = .ok (.iconst 0, 1) := by decide +kernel
theorem dX7_setRoadCosts_1 : decode cX7_setRoadCosts 1 = .ok (.istore_n 1, 1) := by decide +kernel
theorem dX7_setRoadCosts_2 : decode cX7_setRoadCosts 2 = .ok (.iload_n 1, 1) := by decide +kernel
theorem dX7_setRoadCosts_3 : decode cX7_setRoadCosts 3 = .ok (.aload_n 0, 1) := by decide +kernel
theorem dX7_setRoadCosts_4 : decode cX7_setRoadCosts 4 = .ok (.getfield 9, 3) := by decide +kernel
theorem dX7_setRoadCosts_7 : decode cX7_setRoadCosts 7 = .ok (.if_icmp .ge 44, 3) := by decide +kernel
theorem dX7_setRoadCosts_10 : decode cX7_setRoadCosts 10 = .ok (.iconst 0, 1) := by decide +kernel
theorem dX7_setRoadCosts_11 : decode cX7_setRoadCosts 11 = .ok (.istore_n 2, 1) := by decide +kernel
theorem dX7_setRoadCosts_12 : decode cX7_setRoadCosts 12 = .ok (.iload_n 2, 1) := by decide +kernel
theorem dX7_setRoadCosts_13 : decode cX7_setRoadCosts 13 = .ok (.aload_n 0, 1) := by decide +kernel
theorem dX7_setRoadCosts_14 : decode cX7_setRoadCosts 14 = .ok (.getfield 9, 3) := by decide +kernel
theorem dX7_setRoadCosts_17 : decode cX7_setRoadCosts 17 = .ok (.if_icmp .ge 28, 3) := by decide +kernel
theorem dX7_setRoadCosts_20 : decode cX7_setRoadCosts 20 = .ok (.aload_n 0, 1) := by decide +kernel
theorem dX7_setRoadCosts_21 : decode cX7_setRoadCosts 21 = .ok (.getfield 39, 3) := by decide +kernel
theorem dX7_setRoadCosts_24 : decode cX7_setRoadCosts 24 = .ok (.iload_n 1, 1) := by decide +kernel
theorem dX7_setRoadCosts_25 : decode cX7_setRoadCosts 25 = .ok (.aaload, 1) := by decide +kernel
theorem dX7_setRoadCosts_26 : decode cX7_setRoadCosts 26 = .ok (.iload_n 2, 1) := by decide +kernel
theorem dX7_setRoadCosts_27 : decode cX7_setRoadCosts 27 = .ok (.iload_n 1, 1) := by decide +kernel
theorem dX7_setRoadCosts_28 : decode cX7_setRoadCosts 28 = .ok (.iload_n 2, 1) := by decide +kernel
theorem dX7_setRoadCosts_29 : decode cX7_setRoadCosts 29 = .ok (.if_icmp .ne 7, 3) := by decide +kernel
theorem dX7_setRoadCosts_32 : decode cX7_setRoadCosts 32 = .ok (.iconst 0, 1) := by decide +kernel
theorem dX7_setRoadCosts_33 : decode cX7_setRoadCosts 33 = .ok (.goto 5, 3) := by decide +kernel
theorem dX7_setRoadCosts_36 : decode cX7_setRoadCosts 36 = .ok (.ldc 61, 2) := by decide +kernel
theorem dX7_setRoadCosts_38 : decode cX7_setRoadCosts 38 = .ok (.iastore, 1) := by decide +kernel
theorem dX7_setRoadCosts_39 : decode cX7_setRoadCosts 39 = .ok (.iinc 2 1, 3) := by decide +kernel
theorem dX7_setRoadCosts_42 : decode cX7_setRoadCosts 42 = .ok (.goto (-30), 3) := by decide +kernel
theorem dX7_setRoadCosts_45 : decode cX7_setRoadCosts 45 = .ok (.iinc 1 1, 3) := by decide +kernel
theorem dX7_setRoadCosts_48 : decode cX7_setRoadCosts 48 = .ok (.goto (-46), 3) := by decide +kernel
theorem dX7_setRoadCosts_51 : decode cX7_setRoadCosts 51 = .ok (.iconst 0, 1) := by decide +kernel
theorem dX7_setRoadCosts_52 : decode cX7_setRoadCosts 52 = .ok (.istore_n 1, 1) := by decide +kernel
theorem dX7_setRoadCosts_53 : decode cX7_setRoadCosts 53 = .ok (.iload_n 1, 1) := by decide +kernel
theorem dX7_setRoadCosts_54 : decode cX7_setRoadCosts 54 = .ok (.aload_n 0, 1) := by decide +kernel
theorem dX7_setRoadCosts_55 : decode cX7_setRoadCosts 55 = .ok (.getfield 15, 3) := by decide +kernel
theorem dX7_setRoadCosts_58 : decode cX7_setRoadCosts 58 = .ok (.if_icmp .ge 74, 3) := by decide +kernel
theorem dX7_setRoadCosts_61 : decode cX7_setRoadCosts 61 = .ok (.aload_n 0, 1) := by decide +kernel
theorem dX7_setRoadCosts_62 : decode cX7_setRoadCosts 62 = .ok (.getfield 39, 3) := by decide +kernel
theorem dX7_setRoadCosts_65 : decode cX7_setRoadCosts 65 = .ok (.aload_n 0, 1) := by decide +kernel
theorem dX7_setRoadCosts_66 : decode cX7_setRoadCosts 66 = .ok (.getfield 21, 3) := by decide +kernel
theorem dX7_setRoadCosts_69 : decode cX7_setRoadCosts 69 = .ok (.iload_n 1, 1) := by decide +kernel
theorem dX7_setRoadCosts_70 : decode cX7_setRoadCosts 70 = .ok (.iaload, 1) := by decide +kernel
theorem dX7_setRoadCosts_71 : decode cX7_setRoadCosts 71 = .ok (.aaload, 1) := by decide +kernel
theorem dX7_setRoadCosts_72 : decode cX7_setRoadCosts 72 = .ok (.aload_n 0, 1) := by decide +kernel
theorem dX7_setRoadCosts_73 : decode cX7_setRoadCosts 73 = .ok (.getfield 25, 3) := by decide +kernel
theorem dX7_setRoadCosts_76 : decode cX7_setRoadCosts 76 = .ok (.iload_n 1, 1) := by decide +kernel
theorem dX7_setRoadCosts_77 : decode cX7_setRoadCosts 77 = .ok (.iaload, 1) := by decide +kernel
theorem dX7_setRoadCosts_78 : decode cX7_setRoadCosts 78 = .ok (.iaload, 1) := by decide +kernel
theorem dX7_setRoadCosts_79 : decode cX7_setRoadCosts 79 = .ok (.aload_n 0, 1) := by decide +kernel
theorem dX7_setRoadCosts_80 : decode cX7_setRoadCosts 80 = .ok (.iload_n 1, 1) := by decide +kernel
theorem dX7_setRoadCosts_81 : decode cX7_setRoadCosts 81 = .ok (.invokevirtual 62, 3) := by decide +kernel
theorem dX7_setRoadCosts_84 : decode cX7_setRoadCosts 84 = .ok (.invokestatic 52, 3) := by decide +kernel
theorem dX7_setRoadCosts_87 : decode cX7_setRoadCosts 87 = .ok (.istore_n 2, 1) := by decide +kernel
theorem dX7_setRoadCosts_88 : decode cX7_setRoadCosts 88 = .ok (.aload_n 0, 1) := by decide +kernel
theorem dX7_setRoadCosts_89 : decode cX7_setRoadCosts 89 = .ok (.getfield 39, 3) := by decide +kernel
theorem dX7_setRoadCosts_92 : decode cX7_setRoadCosts 92 = .ok (.aload_n 0, 1) := by decide +kernel
theorem dX7_setRoadCosts_93 : decode cX7_setRoadCosts 93 = .ok (.getfield 21, 3) := by decide +kernel
theorem dX7_setRoadCosts_96 : decode cX7_setRoadCosts 96 = .ok (.iload_n 1, 1) := by decide +kernel
theorem dX7_setRoadCosts_97 : decode cX7_setRoadCosts 97 = .ok (.iaload, 1) := by decide +kernel
theorem dX7_setRoadCosts_98 : decode cX7_setRoadCosts 98 = .ok (.aaload, 1) := by decide +kernel
theorem dX7_setRoadCosts_99 : decode cX7_setRoadCosts 99 = .ok (.aload_n 0, 1) := by decide +kernel
theorem dX7_setRoadCosts_100 : decode cX7_setRoadCosts 100 = .ok (.getfield 25, 3) := by decide +kernel
theorem dX7_setRoadCosts_103 : decode cX7_setRoadCosts 103 = .ok (.iload_n 1, 1) := by decide +kernel
theorem dX7_setRoadCosts_104 : decode cX7_setRoadCosts 104 = .ok (.iaload, 1) := by decide +kernel
theorem dX7_setRoadCosts_105 : decode cX7_setRoadCosts 105 = .ok (.iload_n 2, 1) := by decide +kernel
theorem dX7_setRoadCosts_106 : decode cX7_setRoadCosts 106 = .ok (.iastore, 1) := by decide +kernel
theorem dX7_setRoadCosts_107 : decode cX7_setRoadCosts 107 = .ok (.aload_n 0, 1) := by decide +kernel
theorem dX7_setRoadCosts_108 : decode cX7_setRoadCosts 108 = .ok (.getfield 39, 3) := by decide +kernel
theorem dX7_setRoadCosts_111 : decode cX7_setRoadCosts 111 = .ok (.aload_n 0, 1) := by decide +kernel
theorem dX7_setRoadCosts_112 : decode cX7_setRoadCosts 112 = .ok (.getfield 25, 3) := by decide +kernel
theorem dX7_setRoadCosts_115 : decode cX7_setRoadCosts 115 = .ok (.iload_n 1, 1) := by decide +kernel
theorem dX7_setRoadCosts_116 : decode cX7_setRoadCosts 116 = .ok (.iaload, 1) := by decide +kernel
theorem dX7_setRoadCosts_117 : decode cX7_setRoadCosts 117 = .ok (.aaload, 1) := by decide +kernel
theorem dX7_setRoadCosts_118 : decode cX7_setRoadCosts 118 = .ok (.aload_n 0, 1) := by decide +kernel
theorem dX7_setRoadCosts_119 : decode cX7_setRoadCosts 119 = .ok (.getfield 21, 3) := by decide +kernel
theorem dX7_setRoadCosts_122 : decode cX7_setRoadCosts 122 = .ok (.iload_n 1, 1) := by decide +kernel
theorem dX7_setRoadCosts_123 : decode cX7_setRoadCosts 123 = .ok (.iaload, 1) := by decide +kernel
theorem dX7_setRoadCosts_124 : decode cX7_setRoadCosts 124 = .ok (.iload_n 2, 1) := by decide +kernel
theorem dX7_setRoadCosts_125 : decode cX7_setRoadCosts 125 = .ok (.iastore, 1) := by decide +kernel
theorem dX7_setRoadCosts_126 : decode cX7_setRoadCosts 126 = .ok (.iinc 1 1, 3) := by decide +kernel
theorem dX7_setRoadCosts_129 : decode cX7_setRoadCosts 129 = .ok (.goto (-76), 3) := by decide +kernel
theorem dX7_setRoadCosts_132 : decode cX7_setRoadCosts 132 = .ok (.return_, 1) := by decide +kernel
theorem dX7_roadCost_0 : decode cX7_roadCost 0 = .ok (.aload_n 0, 1) := by decide +kernel
theorem dX7_roadCost_1 : decode cX7_roadCost 1 = .ok (.getfield 28, 3) := by decide +kernel
theorem dX7_roadCost_4 : decode cX7_roadCost 4 = .ok (.iload_n 1, 1) := by decide +kernel
theorem dX7_roadCost_5 : decode cX7_roadCost 5 = .ok (.iaload, 1) := by decide +kernel
theorem dX7_roadCost_6 : decode cX7_roadCost 6 = .ok (.bipush 16, 2) := by decide +kernel
theorem dX7_roadCost_8 : decode cX7_roadCost 8 = .ok (.imul, 1) := by decide +kernel
theorem dX7_roadCost_9 : decode cX7_roadCost 9 = .ok (.aload_n 0, 1) := by decide +kernel
theorem dX7_roadCost_10 : decode cX7_roadCost 10 = .ok (.iload_n 1, 1) := by decide +kernel
theorem dX7_roadCost_11 : decode cX7_roadCost 11 = .ok (.invokevirtual 45, 3) := by decide +kernel
theorem dX7_roadCost_14 : decode cX7_roadCost 14 = .ok (.ifCond .eq 7, 3) := by decide +kernel
theorem dX7_roadCost_17 : decode cX7_roadCost 17 = .ok (.iconst 1, 1) := by decide +kernel
theorem dX7_roadCost_18 : decode cX7_roadCost 18 = .ok (.goto 4, 3) := by decide +kernel
theorem dX7_roadCost_21 : decode cX7_roadCost 21 = .ok (.iconst 0, 1) := by decide +kernel
theorem dX7_roadCost_22 : decode cX7_roadCost 22 = .ok (.iadd, 1) := by decide +kernel
theorem dX7_roadCost_23 : decode cX7_roadCost 23 = .ok (.ireturn, 1) := by decide +kernel
theorem dX7_firstRoadOfWay_0 : decode cX7_firstRoadOfWay 0 = .ok (.iload_n 1, 1) := by decide +kernel
theorem dX7_firstRoadOfWay_1 : decode cX7_firstRoadOfWay 1 = .ok (.iload_n 2, 1) := by decide +kernel
theorem dX7_firstRoadOfWay_2 : decode cX7_firstRoadOfWay 2 = .ok (.if_icmp .eq 12, 3) := by decide +kernel
theorem dX7_firstRoadOfWay_5 : decode cX7_firstRoadOfWay 5 = .ok (.aload_n 0, 1) := by decide +kernel
theorem dX7_firstRoadOfWay_6 : decode cX7_firstRoadOfWay 6 = .ok (.iload_n 1, 1) := by decide +kernel
theorem dX7_firstRoadOfWay_7 : decode cX7_firstRoadOfWay 7 = .ok (.iload_n 2, 1) := by decide +kernel
theorem dX7_firstRoadOfWay_8 : decode cX7_firstRoadOfWay 8 = .ok (.invokevirtual 66, 3) := by decide +kernel
theorem dX7_firstRoadOfWay_11 : decode cX7_firstRoadOfWay 11 = .ok (.ifCond .ne 6, 3) := by decide +kernel
theorem dX7_firstRoadOfWay_14 : decode cX7_firstRoadOfWay 14 = .ok (.bipush (-9), 2) := by decide +kernel
theorem dX7_firstRoadOfWay_16 : decode cX7_firstRoadOfWay 16 = .ok (.ireturn, 1) := by decide +kernel
theorem dX7_firstRoadOfWay_17 : decode cX7_firstRoadOfWay 17 = .ok (.iconst 0, 1) := by decide +kernel
theorem dX7_firstRoadOfWay_18 : decode cX7_firstRoadOfWay 18 = .ok (.istore_n 3, 1) := by decide +kernel
theorem dX7_firstRoadOfWay_19 : decode cX7_firstRoadOfWay 19 = .ok (.iload_n 3, 1) := by decide +kernel
theorem dX7_firstRoadOfWay_20 : decode cX7_firstRoadOfWay 20 = .ok (.aload_n 0, 1) := by decide +kernel
theorem dX7_firstRoadOfWay_21 : decode cX7_firstRoadOfWay 21 = .ok (.getfield 15, 3) := by decide +kernel
theorem dX7_firstRoadOfWay_24 : decode cX7_firstRoadOfWay 24 = .ok (.if_icmp .ge 61, 3) := by decide +kernel
theorem dX7_firstRoadOfWay_27 : decode cX7_firstRoadOfWay 27 = .ok (.aload_n 0, 1) := by decide +kernel
theorem dX7_firstRoadOfWay_28 : decode cX7_firstRoadOfWay 28 = .ok (.getfield 21, 3) := by decide +kernel
theorem dX7_firstRoadOfWay_31 : decode cX7_firstRoadOfWay 31 = .ok (.iload_n 3, 1) := by decide +kernel
theorem dX7_firstRoadOfWay_32 : decode cX7_firstRoadOfWay 32 = .ok (.iaload, 1) := by decide +kernel
theorem dX7_firstRoadOfWay_33 : decode cX7_firstRoadOfWay 33 = .ok (.iload_n 1, 1) := by decide +kernel
theorem dX7_firstRoadOfWay_34 : decode cX7_firstRoadOfWay 34 = .ok (.if_icmp .eq 13, 3) := by decide +kernel
theorem dX7_firstRoadOfWay_37 : decode cX7_firstRoadOfWay 37 = .ok (.aload_n 0, 1) := by decide +kernel
theorem dX7_firstRoadOfWay_38 : decode cX7_firstRoadOfWay 38 = .ok (.getfield 25, 3) := by decide +kernel
theorem dX7_firstRoadOfWay_41 : decode cX7_firstRoadOfWay 41 = .ok (.iload_n 3, 1) := by decide +kernel
theorem dX7_firstRoadOfWay_42 : decode cX7_firstRoadOfWay 42 = .ok (.iaload, 1) := by decide +kernel
theorem dX7_firstRoadOfWay_43 : decode cX7_firstRoadOfWay 43 = .ok (.iload_n 1, 1) := by decide +kernel
theorem dX7_firstRoadOfWay_44 : decode cX7_firstRoadOfWay 44 = .ok (.if_icmp .ne 35, 3) := by decide +kernel
theorem dX7_firstRoadOfWay_47 : decode cX7_firstRoadOfWay 47 = .ok (.aload_n 0, 1) := by decide +kernel
theorem dX7_firstRoadOfWay_48 : decode cX7_firstRoadOfWay 48 = .ok (.iload_n 3, 1) := by decide +kernel
theorem dX7_firstRoadOfWay_49 : decode cX7_firstRoadOfWay 49 = .ok (.invokevirtual 62, 3) := by decide +kernel
theorem dX7_firstRoadOfWay_52 : decode cX7_firstRoadOfWay 52 = .ok (.aload_n 0, 1) := by decide +kernel
theorem dX7_firstRoadOfWay_53 : decode cX7_firstRoadOfWay 53 = .ok (.getfield 39, 3) := by decide +kernel
theorem dX7_firstRoadOfWay_56 : decode cX7_firstRoadOfWay 56 = .ok (.aload_n 0, 1) := by decide +kernel
theorem dX7_firstRoadOfWay_57 : decode cX7_firstRoadOfWay 57 = .ok (.iload_n 3, 1) := by decide +kernel
theorem dX7_firstRoadOfWay_58 : decode cX7_firstRoadOfWay 58 = .ok (.iload_n 1, 1) := by decide +kernel
theorem dX7_firstRoadOfWay_59 : decode cX7_firstRoadOfWay 59 = .ok (.invokevirtual 70, 3) := by decide +kernel
theorem dX7_firstRoadOfWay_62 : decode cX7_firstRoadOfWay 62 = .ok (.aaload, 1) := by decide +kernel
theorem dX7_firstRoadOfWay_63 : decode cX7_firstRoadOfWay 63 = .ok (.iload_n 2, 1) := by decide +kernel
theorem dX7_firstRoadOfWay_64 : decode cX7_firstRoadOfWay 64 = .ok (.iaload, 1) := by decide +kernel
theorem dX7_firstRoadOfWay_65 : decode cX7_firstRoadOfWay 65 = .ok (.iadd, 1) := by decide +kernel
theorem dX7_firstRoadOfWay_66 : decode cX7_firstRoadOfWay 66 = .ok (.aload_n 0, 1) := by decide +kernel
theorem dX7_firstRoadOfWay_67 : decode cX7_firstRoadOfWay 67 = .ok (.getfield 39, 3) := by decide +kernel
theorem dX7_firstRoadOfWay_70 : decode cX7_firstRoadOfWay 70 = .ok (.iload_n 1, 1) := by decide +kernel
theorem dX7_firstRoadOfWay_71 : decode cX7_firstRoadOfWay 71 = .ok (.aaload, 1) := by decide +kernel
theorem dX7_firstRoadOfWay_72 : decode cX7_firstRoadOfWay 72 = .ok (.iload_n 2, 1) := by decide +kernel
theorem dX7_firstRoadOfWay_73 : decode cX7_firstRoadOfWay 73 = .ok (.iaload, 1) := by decide +kernel
theorem dX7_firstRoadOfWay_74 : decode cX7_firstRoadOfWay 74 = .ok (.if_icmp .ne 5, 3) := by decide +kernel
theorem dX7_firstRoadOfWay_77 : decode cX7_firstRoadOfWay 77 = .ok (.iload_n 3, 1) := by decide +kernel
theorem dX7_firstRoadOfWay_78 : decode cX7_firstRoadOfWay 78 = .ok (.ireturn, 1) := by decide +kernel
theorem dX7_firstRoadOfWay_79 : decode cX7_firstRoadOfWay 79 = .ok (.iinc 3 1, 3) := by decide +kernel
theorem dX7_firstRoadOfWay_82 : decode cX7_firstRoadOfWay 82 = .ok (.goto (-63), 3) := by decide +kernel
theorem dX7_firstRoadOfWay_85 : decode cX7_firstRoadOfWay 85 = .ok (.bipush (-9), 2) := by decide +kernel
theorem dX7_firstRoadOfWay_87 : decode cX7_firstRoadOfWay 87 = .ok (.ireturn, 1) := by decide +kernel
theorem dX7_otherEnd_0 : decode cX7_otherEnd 0 = .ok (.aload_n 0, 1) := by decide +kernel
theorem dX7_otherEnd_1 : decode cX7_otherEnd 1 = .ok (.getfield 21, 3) := by decide +kernel
theorem dX7_otherEnd_4 : decode cX7_otherEnd 4 = .ok (.iload_n 1, 1) := by decide +kernel
theorem dX7_otherEnd_5 : decode cX7_otherEnd 5 = .ok (.iaload, 1) := by decide +kernel
theorem dX7_otherEnd_6 : decode cX7_otherEnd 6 = .ok (.iload_n 2, 1) := by decide +kernel
theorem dX7_otherEnd_7 : decode cX7_otherEnd 7 = .ok (.if_icmp .ne 12, 3) := by decide +kernel
theorem dX7_otherEnd_10 : decode cX7_otherEnd 10 = .ok (.aload_n 0, 1) := by decide +kernel
theorem dX7_otherEnd_11 : decode cX7_otherEnd 11 = .ok (.getfield 25, 3) := by decide +kernel
theorem dX7_otherEnd_14 : decode cX7_otherEnd 14 = .ok (.iload_n 1, 1) := by decide +kernel
theorem dX7_otherEnd_15 : decode cX7_otherEnd 15 = .ok (.iaload, 1) := by decide +kernel
theorem dX7_otherEnd_16 : decode cX7_otherEnd 16 = .ok (.goto 9, 3) := by decide +kernel
theorem dX7_otherEnd_19 : decode cX7_otherEnd 19 = .ok (.aload_n 0, 1) := by decide +kernel
theorem dX7_otherEnd_20 : decode cX7_otherEnd 20 = .ok (.getfield 21, 3) := by decide +kernel
theorem dX7_otherEnd_23 : decode cX7_otherEnd 23 = .ok (.iload_n 1, 1) := by decide +kernel
theorem dX7_otherEnd_24 : decode cX7_otherEnd 24 = .ok (.iaload, 1) := by decide +kernel
theorem dX7_otherEnd_25 : decode cX7_otherEnd 25 = .ok (.ireturn, 1) := by decide +kernel
theorem dX7_hasWay_0 : decode cX7_hasWay 0 = .ok (.aload_n 0, 1) := by decide +kernel
theorem dX7_hasWay_1 : decode cX7_hasWay 1 = .ok (.getfield 39, 3) := by decide +kernel
theorem dX7_hasWay_4 : decode cX7_hasWay 4 = .ok (.iload_n 1, 1) := by decide +kernel
theorem dX7_hasWay_5 : decode cX7_hasWay 5 = .ok (.aaload, 1) := by decide +kernel
theorem dX7_hasWay_6 : decode cX7_hasWay 6 = .ok (.iload_n 2, 1) := by decide +kernel
theorem dX7_hasWay_7 : decode cX7_hasWay 7 = .ok (.iaload, 1) := by decide +kernel
theorem dX7_hasWay_8 : decode cX7_hasWay 8 = .ok (.ldc 61, 2) := by decide +kernel
theorem dX7_hasWay_10 : decode cX7_hasWay 10 = .ok (.if_icmp .ge 7, 3) := by decide +kernel
theorem dX7_hasWay_13 : decode cX7_hasWay 13 = .ok (.iconst 1, 1) := by decide +kernel
theorem dX7_hasWay_14 : decode cX7_hasWay 14 = .ok (.goto 4, 3) := by decide +kernel
theorem dX7_hasWay_17 : decode cX7_hasWay 17 = .ok (.iconst 0, 1) := by decide +kernel
theorem dX7_hasWay_18 : decode cX7_hasWay 18 = .ok (.ireturn, 1) := by decide +kernel
theorem dX7_lengthOfWay_0 : decode cX7_lengthOfWay 0 = .ok (.aload_n 0, 1) := by decide +kernel
theorem dX7_lengthOfWay_1 : decode cX7_lengthOfWay 1 = .ok (.getfield 39, 3) := by decide +kernel
theorem dX7_lengthOfWay_4 : decode cX7_lengthOfWay 4 = .ok (.iload_n 1, 1) := by decide +kernel
theorem dX7_lengthOfWay_5 : decode cX7_lengthOfWay 5 = .ok (.aaload, 1) := by decide +kernel
theorem dX7_lengthOfWay_6 : decode cX7_lengthOfWay 6 = .ok (.iload_n 2, 1) := by decide +kernel
theorem dX7_lengthOfWay_7 : decode cX7_lengthOfWay 7 = .ok (.iaload, 1) := by decide +kernel
theorem dX7_lengthOfWay_8 : decode cX7_lengthOfWay 8 = .ok (.bipush 16, 2) := by decide +kernel
theorem dX7_lengthOfWay_10 : decode cX7_lengthOfWay 10 = .ok (.idiv, 1) := by decide +kernel
theorem dX7_lengthOfWay_11 : decode cX7_lengthOfWay 11 = .ok (.ireturn, 1) := by decide +kernel
theorem dX7_crossingsOfWay_0 : decode cX7_crossingsOfWay 0 = .ok (.aload_n 0, 1) := by decide +kernel
theorem dX7_crossingsOfWay_1 : decode cX7_crossingsOfWay 1 = .ok (.getfield 39, 3) := by decide +kernel
theorem dX7_crossingsOfWay_4 : decode cX7_crossingsOfWay 4 = .ok (.iload_n 1, 1) := by decide +kernel
theorem dX7_crossingsOfWay_5 : decode cX7_crossingsOfWay 5 = .ok (.aaload, 1) := by decide +kernel
theorem dX7_crossingsOfWay_6 : decode cX7_crossingsOfWay 6 = .ok (.iload_n 2, 1) := by decide +kernel
theorem dX7_crossingsOfWay_7 : decode cX7_crossingsOfWay 7 = .ok (.iaload, 1) := by decide +kernel
theorem dX7_crossingsOfWay_8 : decode cX7_crossingsOfWay 8 = .ok (.bipush 16, 2) := by decide +kernel
theorem dX7_crossingsOfWay_10 : decode cX7_crossingsOfWay 10 = .ok (.irem, 1) := by decide +kernel
theorem dX7_crossingsOfWay_11 : decode cX7_crossingsOfWay 11 = .ok (.ireturn, 1) := by decide +kernel
theorem dX7_roadsOfWay_0 : decode cX7_roadsOfWay 0 = .ok (.iload_n 1, 1) := by decide +kernel
theorem dX7_roadsOfWay_1 : decode cX7_roadsOfWay 1 = .ok (.istore_n 3, 1) := by decide +kernel
theorem dX7_roadsOfWay_2 : decode cX7_roadsOfWay 2 = .ok (.iconst 0, 1) := by decide +kernel
theorem dX7_roadsOfWay_3 : decode cX7_roadsOfWay 3 = .ok (.istore 4, 2) := by decide +kernel
theorem dX7_roadsOfWay_5 : decode cX7_roadsOfWay 5 = .ok (.iconst 0, 1) := by decide +kernel
theorem dX7_roadsOfWay_6 : decode cX7_roadsOfWay 6 = .ok (.istore 5, 2) := by decide +kernel
theorem dX7_roadsOfWay_8 : decode cX7_roadsOfWay 8 = .ok (.iload 5, 2) := by decide +kernel
theorem dX7_roadsOfWay_10 : decode cX7_roadsOfWay 10 = .ok (.bipush 7, 2) := by decide +kernel
theorem dX7_roadsOfWay_12 : decode cX7_roadsOfWay 12 = .ok (.if_icmp .ge 39, 3) := by decide +kernel
theorem dX7_roadsOfWay_15 : decode cX7_roadsOfWay 15 = .ok (.aload_n 0, 1) := by decide +kernel
theorem dX7_roadsOfWay_16 : decode cX7_roadsOfWay 16 = .ok (.getfield 42, 3) := by decide +kernel
theorem dX7_roadsOfWay_19 : decode cX7_roadsOfWay 19 = .ok (.iload_n 3, 1) := by decide +kernel
theorem dX7_roadsOfWay_20 : decode cX7_roadsOfWay 20 = .ok (.aaload, 1) := by decide +kernel
theorem dX7_roadsOfWay_21 : decode cX7_roadsOfWay 21 = .ok (.iload_n 2, 1) := by decide +kernel
theorem dX7_roadsOfWay_22 : decode cX7_roadsOfWay 22 = .ok (.iaload, 1) := by decide +kernel
theorem dX7_roadsOfWay_23 : decode cX7_roadsOfWay 23 = .ok (.bipush (-9), 2) := by decide +kernel
theorem dX7_roadsOfWay_25 : decode cX7_roadsOfWay 25 = .ok (.if_icmp .eq 26, 3) := by decide +kernel
theorem dX7_roadsOfWay_28 : decode cX7_roadsOfWay 28 = .ok (.aload_n 0, 1) := by decide +kernel
theorem dX7_roadsOfWay_29 : decode cX7_roadsOfWay 29 = .ok (.aload_n 0, 1) := by decide +kernel
theorem dX7_roadsOfWay_30 : decode cX7_roadsOfWay 30 = .ok (.getfield 42, 3) := by decide +kernel
theorem dX7_roadsOfWay_33 : decode cX7_roadsOfWay 33 = .ok (.iload_n 3, 1) := by decide +kernel
theorem dX7_roadsOfWay_34 : decode cX7_roadsOfWay 34 = .ok (.aaload, 1) := by decide +kernel
theorem dX7_roadsOfWay_35 : decode cX7_roadsOfWay 35 = .ok (.iload_n 2, 1) := by decide +kernel
theorem dX7_roadsOfWay_36 : decode cX7_roadsOfWay 36 = .ok (.iaload, 1) := by decide +kernel
theorem dX7_roadsOfWay_37 : decode cX7_roadsOfWay 37 = .ok (.iload_n 3, 1) := by decide +kernel
theorem dX7_roadsOfWay_38 : decode cX7_roadsOfWay 38 = .ok (.invokevirtual 70, 3) := by decide +kernel
theorem dX7_roadsOfWay_41 : decode cX7_roadsOfWay 41 = .ok (.istore_n 3, 1) := by decide +kernel
theorem dX7_roadsOfWay_42 : decode cX7_roadsOfWay 42 = .ok (.iinc 4 1, 3) := by decide +kernel
theorem dX7_roadsOfWay_45 : decode cX7_roadsOfWay 45 = .ok (.iinc 5 1, 3) := by decide +kernel
theorem dX7_roadsOfWay_48 : decode cX7_roadsOfWay 48 = .ok (.goto (-40), 3) := by decide +kernel
theorem dX7_roadsOfWay_51 : decode cX7_roadsOfWay 51 = .ok (.iload 4, 2) := by decide +kernel
theorem dX7_roadsOfWay_53 : decode cX7_roadsOfWay 53 = .ok (.ireturn, 1) := by decide +kernel
theorem dX7_roadOfWay_0 : decode cX7_roadOfWay 0 = .ok (.iload_n 1, 1) := by decide +kernel
theorem dX7_roadOfWay_1 : decode cX7_roadOfWay 1 = .ok (.istore 4, 2) := by decide +kernel
theorem dX7_roadOfWay_3 : decode cX7_roadOfWay 3 = .ok (.iconst 0, 1) := by decide +kernel
theorem dX7_roadOfWay_4 : decode cX7_roadOfWay 4 = .ok (.istore 5, 2) := by decide +kernel
theorem dX7_roadOfWay_6 : decode cX7_roadOfWay 6 = .ok (.iload 5, 2) := by decide +kernel
theorem dX7_roadOfWay_8 : decode cX7_roadOfWay 8 = .ok (.bipush 7, 2) := by decide +kernel
theorem dX7_roadOfWay_10 : decode cX7_roadOfWay 10 = .ok (.if_icmp .ge 56, 3) := by decide +kernel
theorem dX7_roadOfWay_13 : decode cX7_roadOfWay 13 = .ok (.aload_n 0, 1) := by decide +kernel
theorem dX7_roadOfWay_14 : decode cX7_roadOfWay 14 = .ok (.getfield 42, 3) := by decide +kernel
theorem dX7_roadOfWay_17 : decode cX7_roadOfWay 17 = .ok (.iload 4, 2) := by decide +kernel
theorem dX7_roadOfWay_19 : decode cX7_roadOfWay 19 = .ok (.aaload, 1) := by decide +kernel
theorem dX7_roadOfWay_20 : decode cX7_roadOfWay 20 = .ok (.iload_n 2, 1) := by decide +kernel
theorem dX7_roadOfWay_21 : decode cX7_roadOfWay 21 = .ok (.iaload, 1) := by decide +kernel
theorem dX7_roadOfWay_22 : decode cX7_roadOfWay 22 = .ok (.bipush (-9), 2) := by decide +kernel
theorem dX7_roadOfWay_24 : decode cX7_roadOfWay 24 = .ok (.if_icmp .eq 42, 3) := by decide +kernel
theorem dX7_roadOfWay_27 : decode cX7_roadOfWay 27 = .ok (.iload 5, 2) := by decide +kernel
theorem dX7_roadOfWay_29 : decode cX7_roadOfWay 29 = .ok (.iload_n 3, 1) := by decide +kernel
theorem dX7_roadOfWay_30 : decode cX7_roadOfWay 30 = .ok (.if_icmp .ne 13, 3) := by decide +kernel
theorem dX7_roadOfWay_33 : decode cX7_roadOfWay 33 = .ok (.aload_n 0, 1) := by decide +kernel
theorem dX7_roadOfWay_34 : decode cX7_roadOfWay 34 = .ok (.getfield 42, 3) := by decide +kernel
theorem dX7_roadOfWay_37 : decode cX7_roadOfWay 37 = .ok (.iload 4, 2) := by decide +kernel
theorem dX7_roadOfWay_39 : decode cX7_roadOfWay 39 = .ok (.aaload, 1) := by decide +kernel
theorem dX7_roadOfWay_40 : decode cX7_roadOfWay 40 = .ok (.iload_n 2, 1) := by decide +kernel
theorem dX7_roadOfWay_41 : decode cX7_roadOfWay 41 = .ok (.iaload, 1) := by decide +kernel
theorem dX7_roadOfWay_42 : decode cX7_roadOfWay 42 = .ok (.ireturn, 1) := by decide +kernel
theorem dX7_roadOfWay_43 : decode cX7_roadOfWay 43 = .ok (.aload_n 0, 1) := by decide +kernel
theorem dX7_roadOfWay_44 : decode cX7_roadOfWay 44 = .ok (.aload_n 0, 1) := by decide +kernel
theorem dX7_roadOfWay_45 : decode cX7_roadOfWay 45 = .ok (.getfield 42, 3) := by decide +kernel
theorem dX7_roadOfWay_48 : decode cX7_roadOfWay 48 = .ok (.iload 4, 2) := by decide +kernel
theorem dX7_roadOfWay_50 : decode cX7_roadOfWay 50 = .ok (.aaload, 1) := by decide +kernel
theorem dX7_roadOfWay_51 : decode cX7_roadOfWay 51 = .ok (.iload_n 2, 1) := by decide +kernel
theorem dX7_roadOfWay_52 : decode cX7_roadOfWay 52 = .ok (.iaload, 1) := by decide +kernel
theorem dX7_roadOfWay_53 : decode cX7_roadOfWay 53 = .ok (.iload 4, 2) := by decide +kernel
theorem dX7_roadOfWay_55 : decode cX7_roadOfWay 55 = .ok (.invokevirtual 70, 3) := by decide +kernel
theorem dX7_roadOfWay_58 : decode cX7_roadOfWay 58 = .ok (.istore 4, 2) := by decide +kernel
theorem dX7_roadOfWay_60 : decode cX7_roadOfWay 60 = .ok (.iinc 5 1, 3) := by decide +kernel
theorem dX7_roadOfWay_63 : decode cX7_roadOfWay 63 = .ok (.goto (-57), 3) := by decide +kernel
theorem dX7_roadOfWay_66 : decode cX7_roadOfWay 66 = .ok (.bipush (-9), 2) := by decide +kernel
theorem dX7_roadOfWay_68 : decode cX7_roadOfWay 68 = .ok (.ireturn, 1) := by decide +kernel
theorem dX8_init_0 : decode cX8_init 0 = .ok (.aload_n 0, 1) := by decide +kernel
theorem dX8_init_1 : decode cX8_init 1 = .ok (.invokespecial 3, 3) := by decide +kernel
theorem dX8_init_4 : decode cX8_init 4 = .ok (.aload_n 0, 1) := by decide +kernel
theorem dX8_init_5 : decode cX8_init 5 = .ok (.iconst 5, 1) := by decide +kernel
theorem dX8_init_6 : decode cX8_init 6 = .ok (.newarray .int, 2) := by decide +kernel
theorem dX8_init_8 : decode cX8_init 8 = .ok (.putfield 9, 3) := by decide +kernel
theorem dX8_init_11 : decode cX8_init 11 = .ok (.aload_n 0, 1) := by decide +kernel
theorem dX8_init_12 : decode cX8_init 12 = .ok (.iconst 5, 1) := by decide +kernel
theorem dX8_init_13 : decode cX8_init 13 = .ok (.newarray .int, 2) := by decide +kernel
theorem dX8_init_15 : decode cX8_init 15 = .ok (.putfield 15, 3) := by decide +kernel
theorem dX8_init_18 : decode cX8_init 18 = .ok (.aload_n 0, 1) := by decide +kernel
theorem dX8_init_19 : decode cX8_init 19 = .ok (.iconst 5, 1) := by decide +kernel
theorem dX8_init_20 : decode cX8_init 20 = .ok (.newarray .int, 2) := by decide +kernel
theorem dX8_init_22 : decode cX8_init 22 = .ok (.putfield 18, 3) := by decide +kernel
theorem dX8_init_25 : decode cX8_init 25 = .ok (.aload_n 0, 1) := by decide +kernel
theorem dX8_init_26 : decode cX8_init 26 = .ok (.iconst 0, 1) := by decide +kernel
theorem dX8_init_27 : decode cX8_init 27 = .ok (.putfield 21, 3) := by decide +kernel
theorem dX8_init_30 : decode cX8_init 30 = .ok (.aload_n 0, 1) := by decide +kernel
theorem dX8_init_31 : decode cX8_init 31 = .ok (.iconst 0, 1) := by decide +kernel
theorem dX8_init_32 : decode cX8_init 32 = .ok (.putfield 25, 3) := by decide +kernel
theorem dX8_init_35 : decode cX8_init 35 = .ok (.aload_n 0, 1) := by decide +kernel
theorem dX8_init_36 : decode cX8_init 36 = .ok (.bipush (-9), 2) := by decide +kernel
theorem dX8_init_38 : decode cX8_init 38 = .ok (.putfield 28, 3) := by decide +kernel
theorem dX8_init_41 : decode cX8_init 41 = .ok (.return_, 1) := by decide +kernel
theorem dX8_make_0 : decode cX8_make 0 = .ok (.aload_n 0, 1) := by decide +kernel
theorem dX8_make_1 : decode cX8_make 1 = .ok (.iload_n 3, 1) := by decide +kernel
theorem dX8_make_2 : decode cX8_make 2 = .ok (.putfield 21, 3) := by decide +kernel
theorem dX8_make_5 : decode cX8_make 5 = .ok (.aload_n 0, 1) := by decide +kernel
theorem dX8_make_6 : decode cX8_make 6 = .ok (.bipush (-9), 2) := by decide +kernel
theorem dX8_make_8 : decode cX8_make 8 = .ok (.putfield 28, 3) := by decide +kernel
theorem dX8_make_11 : decode cX8_make 11 = .ok (.iconst 0, 1) := by decide +kernel
theorem dX8_make_12 : decode cX8_make 12 = .ok (.istore 4, 2) := by decide +kernel
theorem dX8_make_14 : decode cX8_make 14 = .ok (.iload 4, 2) := by decide +kernel
theorem dX8_make_16 : decode cX8_make 16 = .ok (.iconst 5, 1) := by decide +kernel
theorem dX8_make_17 : decode cX8_make 17 = .ok (.if_icmp .ge 17, 3) := by decide +kernel
theorem dX8_make_20 : decode cX8_make 20 = .ok (.aload_n 0, 1) := by decide +kernel
theorem dX8_make_21 : decode cX8_make 21 = .ok (.getfield 15, 3) := by decide +kernel
theorem dX8_make_24 : decode cX8_make 24 = .ok (.iload 4, 2) := by decide +kernel
theorem dX8_make_26 : decode cX8_make 26 = .ok (.iconst 0, 1) := by decide +kernel
theorem dX8_make_27 : decode cX8_make 27 = .ok (.iastore, 1) := by decide +kernel
theorem dX8_make_28 : decode cX8_make 28 = .ok (.iinc 4 1, 3) := by decide +kernel
theorem dX8_make_31 : decode cX8_make 31 = .ok (.goto (-17), 3) := by decide +kernel
theorem dX8_make_34 : decode cX8_make 34 = .ok (.aload_n 0, 1) := by decide +kernel
theorem dX8_make_35 : decode cX8_make 35 = .ok (.aload_n 1, 1) := by decide +kernel
theorem dX8_make_36 : decode cX8_make 36 = .ok (.iload_n 2, 1) := by decide +kernel
theorem dX8_make_37 : decode cX8_make 37 = .ok (.invokevirtual 31, 3) := by decide +kernel
theorem dX8_make_40 : decode cX8_make 40 = .ok (.ifCond .ne 4, 3) := by decide +kernel
theorem dX8_make_43 : decode cX8_make 43 = .ok (.return_, 1) := by decide +kernel
theorem dX8_make_44 : decode cX8_make 44 = .ok (.aload_n 0, 1) := by decide +kernel
theorem dX8_make_45 : decode cX8_make 45 = .ok (.iconst 0, 1) := by decide +kernel
theorem dX8_make_46 : decode cX8_make 46 = .ok (.putfield 25, 3) := by decide +kernel
theorem dX8_make_49 : decode cX8_make 49 = .ok (.aload_n 0, 1) := by decide +kernel
theorem dX8_make_50 : decode cX8_make 50 = .ok (.getfield 25, 3) := by decide +kernel
theorem dX8_make_53 : decode cX8_make 53 = .ok (.iconst 5, 1) := by decide +kernel
theorem dX8_make_54 : decode cX8_make 54 = .ok (.if_icmp .gt 33, 3) := by decide +kernel
theorem dX8_make_57 : decode cX8_make 57 = .ok (.aload_n 0, 1) := by decide +kernel
theorem dX8_make_58 : decode cX8_make 58 = .ok (.iconst 0, 1) := by decide +kernel
theorem dX8_make_59 : decode cX8_make 59 = .ok (.invokestatic 35, 3) := by decide +kernel
theorem dX8_make_62 : decode cX8_make 62 = .ok (.ifCond .eq 12, 3) := by decide +kernel
theorem dX8_make_65 : decode cX8_make 65 = .ok (.aload_n 0, 1) := by decide +kernel
theorem dX8_make_66 : decode cX8_make 66 = .ok (.aload_n 0, 1) := by decide +kernel
theorem dX8_make_67 : decode cX8_make 67 = .ok (.getfield 25, 3) := by decide +kernel
theorem dX8_make_70 : decode cX8_make 70 = .ok (.putfield 28, 3) := by decide +kernel
theorem dX8_make_73 : decode cX8_make 73 = .ok (.return_, 1) := by decide +kernel
theorem dX8_make_74 : decode cX8_make 74 = .ok (.aload_n 0, 1) := by decide +kernel
theorem dX8_make_75 : decode cX8_make 75 = .ok (.dup, 1) := by decide +kernel
theorem dX8_make_76 : decode cX8_make 76 = .ok (.getfield 25, 3) := by decide +kernel
theorem dX8_make_79 : decode cX8_make 79 = .ok (.iconst 1, 1) := by decide +kernel
theorem dX8_make_80 : decode cX8_make 80 = .ok (.iadd, 1) := by decide +kernel
theorem dX8_make_81 : decode cX8_make 81 = .ok (.putfield 25, 3) := by decide +kernel
theorem dX8_make_84 : decode cX8_make 84 = .ok (.goto (-35), 3) := by decide +kernel
theorem dX8_make_87 : decode cX8_make 87 = .ok (.return_, 1) := by decide +kernel
theorem dX8_isEnough_0 : decode cX8_isEnough 0 = .ok (.iconst 1, 1) := by decide +kernel
theorem dX8_isEnough_1 : decode cX8_isEnough 1 = .ok (.istore_n 3, 1) := by decide +kernel
theorem dX8_isEnough_2 : decode cX8_isEnough 2 = .ok (.iconst 0, 1) := by decide +kernel
theorem dX8_isEnough_3 : decode cX8_isEnough 3 = .ok (.istore 4, 2) := by decide +kernel
theorem dX8_isEnough_5 : decode cX8_isEnough 5 = .ok (.iload 4, 2) := by decide +kernel
theorem dX8_isEnough_7 : decode cX8_isEnough 7 = .ok (.iconst 5, 1) := by decide +kernel
theorem dX8_isEnough_8 : decode cX8_isEnough 8 = .ok (.if_icmp .ge 79, 3) := by decide +kernel
theorem dX8_isEnough_11 : decode cX8_isEnough 11 = .ok (.aload_n 0, 1) := by decide +kernel
theorem dX8_isEnough_12 : decode cX8_isEnough 12 = .ok (.getfield 9, 3) := by decide +kernel
theorem dX8_isEnough_15 : decode cX8_isEnough 15 = .ok (.iload 4, 2) := by decide +kernel
theorem dX8_isEnough_17 : decode cX8_isEnough 17 = .ok (.iconst 0, 1) := by decide +kernel
theorem dX8_isEnough_18 : decode cX8_isEnough 18 = .ok (.iastore, 1) := by decide +kernel
theorem dX8_isEnough_19 : decode cX8_isEnough 19 = .ok (.iconst 0, 1) := by decide +kernel
theorem dX8_isEnough_20 : decode cX8_isEnough 20 = .ok (.istore 5, 2) := by decide +kernel
theorem dX8_isEnough_22 : decode cX8_isEnough 22 = .ok (.iload 5, 2) := by decide +kernel
theorem dX8_isEnough_24 : decode cX8_isEnough 24 = .ok (.iload_n 2, 1) := by decide +kernel
theorem dX8_isEnough_25 : decode cX8_isEnough 25 = .ok (.if_icmp .ge 31, 3) := by decide +kernel
theorem dX8_isEnough_28 : decode cX8_isEnough 28 = .ok (.aload_n 0, 1) := by decide +kernel
theorem dX8_isEnough_29 : decode cX8_isEnough 29 = .ok (.getfield 9, 3) := by decide +kernel
theorem dX8_isEnough_32 : decode cX8_isEnough 32 = .ok (.iload 4, 2) := by decide +kernel
theorem dX8_isEnough_34 : decode cX8_isEnough 34 = .ok (.dup2, 1) := by decide +kernel
theorem dX8_isEnough_35 : decode cX8_isEnough 35 = .ok (.iaload, 1) := by decide +kernel
theorem dX8_isEnough_36 : decode cX8_isEnough 36 = .ok (.aload_n 1, 1) := by decide +kernel
theorem dX8_isEnough_37 : decode cX8_isEnough 37 = .ok (.iload 5, 2) := by decide +kernel
theorem dX8_isEnough_39 : decode cX8_isEnough 39 = .ok (.iaload, 1) := by decide +kernel
theorem dX8_isEnough_40 : decode cX8_isEnough 40 = .ok (.iload 4, 2) := by decide +kernel
theorem dX8_isEnough_42 : decode cX8_isEnough 42 = .ok (.ishr, 1) := by decide +kernel
theorem dX8_isEnough_43 : decode cX8_isEnough 43 = .ok (.iconst 1, 1) := by decide +kernel
theorem dX8_isEnough_44 : decode cX8_isEnough 44 = .ok (.iand, 1) := by decide +kernel
theorem dX8_isEnough_45 : decode cX8_isEnough 45 = .ok (.iload 5, 2) := by decide +kernel
theorem dX8_isEnough_47 : decode cX8_isEnough 47 = .ok (.ishl, 1) := by decide +kernel
theorem dX8_isEnough_48 : decode cX8_isEnough 48 = .ok (.ior, 1) := by decide +kernel
theorem dX8_isEnough_49 : decode cX8_isEnough 49 = .ok (.iastore, 1) := by decide +kernel
theorem dX8_isEnough_50 : decode cX8_isEnough 50 = .ok (.iinc 5 1, 3) := by decide +kernel
theorem dX8_isEnough_53 : decode cX8_isEnough 53 = .ok (.goto (-31), 3) := by decide +kernel
theorem dX8_isEnough_56 : decode cX8_isEnough 56 = .ok (.iload_n 3, 1) := by decide +kernel
theorem dX8_isEnough_57 : decode cX8_isEnough 57 = .ok (.aload_n 0, 1) := by decide +kernel
theorem dX8_isEnough_58 : decode cX8_isEnough 58 = .ok (.getfield 9, 3) := by decide +kernel
theorem dX8_isEnough_61 : decode cX8_isEnough 61 = .ok (.iload 4, 2) := by decide +kernel
theorem dX8_isEnough_63 : decode cX8_isEnough 63 = .ok (.iaload, 1) := by decide +kernel
theorem dX8_isEnough_64 : decode cX8_isEnough 64 = .ok (.invokestatic 39, 3) := by decide +kernel
theorem dX8_isEnough_67 : decode cX8_isEnough 67 = .ok (.aload_n 0, 1) := by decide +kernel
theorem dX8_isEnough_68 : decode cX8_isEnough 68 = .ok (.getfield 21, 3) := by decide +kernel
theorem dX8_isEnough_71 : decode cX8_isEnough 71 = .ok (.if_icmp .lt 7, 3) := by decide +kernel
theorem dX8_isEnough_74 : decode cX8_isEnough 74 = .ok (.iconst 1, 1) := by decide +kernel
theorem dX8_isEnough_75 : decode cX8_isEnough 75 = .ok (.goto 4, 3) := by decide +kernel
theorem dX8_isEnough_78 : decode cX8_isEnough 78 = .ok (.iconst 0, 1) := by decide +kernel
theorem dX8_isEnough_79 : decode cX8_isEnough 79 = .ok (.iand, 1) := by decide +kernel
theorem dX8_isEnough_80 : decode cX8_isEnough 80 = .ok (.istore_n 3, 1) := by decide +kernel
theorem dX8_isEnough_81 : decode cX8_isEnough 81 = .ok (.iinc 4 1, 3) := by decide +kernel
theorem dX8_isEnough_84 : decode cX8_isEnough 84 = .ok (.goto (-79), 3) := by decide +kernel
theorem dX8_isEnough_87 : decode cX8_isEnough 87 = .ok (.iload_n 3, 1) := by decide +kernel
theorem dX8_isEnough_88 : decode cX8_isEnough 88 = .ok (.ireturn, 1) := by decide +kernel
theorem dX8_fill_0 : decode cX8_fill 0 = .ok (.iload_n 1, 1) := by decide +kernel
theorem dX8_fill_1 : decode cX8_fill 1 = .ok (.iconst 5, 1) := by decide +kernel
theorem dX8_fill_2 : decode cX8_fill 2 = .ok (.if_icmp .lt 5, 3) := by decide +kernel
theorem dX8_fill_5 : decode cX8_fill 5 = .ok (.iconst 1, 1) := by decide +kernel
theorem dX8_fill_6 : decode cX8_fill 6 = .ok (.ireturn, 1) := by decide +kernel
theorem dX8_fill_7 : decode cX8_fill 7 = .ok (.iconst 0, 1) := by decide +kernel
theorem dX8_fill_8 : decode cX8_fill 8 = .ok (.istore_n 2, 1) := by decide +kernel
theorem dX8_fill_9 : decode cX8_fill 9 = .ok (.iload_n 2, 1) := by decide +kernel
theorem dX8_fill_10 : decode cX8_fill 10 = .ok (.bipush 32, 2) := by decide +kernel
theorem dX8_fill_12 : decode cX8_fill 12 = .ok (.if_icmp .ge 49, 3) := by decide +kernel
theorem dX8_fill_15 : decode cX8_fill 15 = .ok (.aload_n 0, 1) := by decide +kernel
theorem dX8_fill_16 : decode cX8_fill 16 = .ok (.iload_n 2, 1) := by decide +kernel
theorem dX8_fill_17 : decode cX8_fill 17 = .ok (.iload_n 1, 1) := by decide +kernel
theorem dX8_fill_18 : decode cX8_fill 18 = .ok (.invokevirtual 45, 3) := by decide +kernel
theorem dX8_fill_21 : decode cX8_fill 21 = .ok (.ifCond .eq 34, 3) := by decide +kernel
theorem dX8_fill_24 : decode cX8_fill 24 = .ok (.aload_n 0, 1) := by decide +kernel
theorem dX8_fill_25 : decode cX8_fill 25 = .ok (.getfield 18, 3) := by decide +kernel
theorem dX8_fill_28 : decode cX8_fill 28 = .ok (.iload_n 1, 1) := by decide +kernel
theorem dX8_fill_29 : decode cX8_fill 29 = .ok (.iload_n 2, 1) := by decide +kernel
theorem dX8_fill_30 : decode cX8_fill 30 = .ok (.iastore, 1) := by decide +kernel
theorem dX8_fill_31 : decode cX8_fill 31 = .ok (.aload_n 0, 1) := by decide +kernel
theorem dX8_fill_32 : decode cX8_fill 32 = .ok (.iload_n 2, 1) := by decide +kernel
theorem dX8_fill_33 : decode cX8_fill 33 = .ok (.iconst 1, 1) := by decide +kernel
theorem dX8_fill_34 : decode cX8_fill 34 = .ok (.invokevirtual 49, 3) := by decide +kernel
theorem dX8_fill_37 : decode cX8_fill 37 = .ok (.aload_n 0, 1) := by decide +kernel
theorem dX8_fill_38 : decode cX8_fill 38 = .ok (.iload_n 1, 1) := by decide +kernel
theorem dX8_fill_39 : decode cX8_fill 39 = .ok (.iconst 1, 1) := by decide +kernel
theorem dX8_fill_40 : decode cX8_fill 40 = .ok (.iadd, 1) := by decide +kernel
theorem dX8_fill_41 : decode cX8_fill 41 = .ok (.invokestatic 35, 3) := by decide +kernel
theorem dX8_fill_44 : decode cX8_fill 44 = .ok (.ifCond .eq 5, 3) := by decide +kernel
theorem dX8_fill_47 : decode cX8_fill 47 = .ok (.iconst 1, 1) := by decide +kernel
theorem dX8_fill_48 : decode cX8_fill 48 = .ok (.ireturn, 1) := by decide +kernel
theorem dX8_fill_49 : decode cX8_fill 49 = .ok (.aload_n 0, 1) := by decide +kernel
theorem dX8_fill_50 : decode cX8_fill 50 = .ok (.iload_n 2, 1) := by decide +kernel
theorem dX8_fill_51 : decode cX8_fill 51 = .ok (.iconst (-1), 1) := by decide +kernel
theorem dX8_fill_52 : decode cX8_fill 52 = .ok (.invokevirtual 49, 3) := by decide +kernel
theorem dX8_fill_55 : decode cX8_fill 55 = .ok (.iinc 2 1, 3) := by decide +kernel
theorem dX8_fill_58 : decode cX8_fill 58 = .ok (.goto (-49), 3) := by decide +kernel
theorem dX8_fill_61 : decode cX8_fill 61 = .ok (.iconst 0, 1) := by decide +kernel
theorem dX8_fill_62 : decode cX8_fill 62 = .ok (.ireturn, 1) := by decide +kernel
theorem dX8_mayHelp_0 : decode cX8_mayHelp 0 = .ok (.iload_n 1, 1) := by decide +kernel
theorem dX8_mayHelp_1 : decode cX8_mayHelp 1 = .ok (.invokestatic 39, 3) := by decide +kernel
theorem dX8_mayHelp_4 : decode cX8_mayHelp 4 = .ok (.aload_n 0, 1) := by decide +kernel
theorem dX8_mayHelp_5 : decode cX8_mayHelp 5 = .ok (.getfield 21, 3) := by decide +kernel
theorem dX8_mayHelp_8 : decode cX8_mayHelp 8 = .ok (.if_icmp .ne 16, 3) := by decide +kernel
theorem dX8_mayHelp_11 : decode cX8_mayHelp 11 = .ok (.iload_n 1, 1) := by decide +kernel
theorem dX8_mayHelp_12 : decode cX8_mayHelp 12 = .ok (.aload_n 0, 1) := by decide +kernel
theorem dX8_mayHelp_13 : decode cX8_mayHelp 13 = .ok (.getfield 9, 3) := by decide +kernel
theorem dX8_mayHelp_16 : decode cX8_mayHelp 16 = .ok (.iload_n 2, 1) := by decide +kernel
theorem dX8_mayHelp_17 : decode cX8_mayHelp 17 = .ok (.iaload, 1) := by decide +kernel
theorem dX8_mayHelp_18 : decode cX8_mayHelp 18 = .ok (.iconst (-1), 1) := by decide +kernel
theorem dX8_mayHelp_19 : decode cX8_mayHelp 19 = .ok (.ixor, 1) := by decide +kernel
theorem dX8_mayHelp_20 : decode cX8_mayHelp 20 = .ok (.iand, 1) := by decide +kernel
theorem dX8_mayHelp_21 : decode cX8_mayHelp 21 = .ok (.ifCond .eq 5, 3) := by decide +kernel
theorem dX8_mayHelp_24 : decode cX8_mayHelp 24 = .ok (.iconst 0, 1) := by decide +kernel
theorem dX8_mayHelp_25 : decode cX8_mayHelp 25 = .ok (.ireturn, 1) := by decide +kernel
theorem dX8_mayHelp_26 : decode cX8_mayHelp 26 = .ok (.iconst 0, 1) := by decide +kernel
theorem dX8_mayHelp_27 : decode cX8_mayHelp 27 = .ok (.istore_n 3, 1) := by decide +kernel
theorem dX8_mayHelp_28 : decode cX8_mayHelp 28 = .ok (.iload_n 3, 1) := by decide +kernel
theorem dX8_mayHelp_29 : decode cX8_mayHelp 29 = .ok (.iconst 5, 1) := by decide +kernel
theorem dX8_mayHelp_30 : decode cX8_mayHelp 30 = .ok (.if_icmp .ge 32, 3) := by decide +kernel
theorem dX8_mayHelp_33 : decode cX8_mayHelp 33 = .ok (.iload_n 1, 1) := by decide +kernel
theorem dX8_mayHelp_34 : decode cX8_mayHelp 34 = .ok (.iload_n 3, 1) := by decide +kernel
theorem dX8_mayHelp_35 : decode cX8_mayHelp 35 = .ok (.ishr, 1) := by decide +kernel
theorem dX8_mayHelp_36 : decode cX8_mayHelp 36 = .ok (.iconst 1, 1) := by decide +kernel
theorem dX8_mayHelp_37 : decode cX8_mayHelp 37 = .ok (.iand, 1) := by decide +kernel
theorem dX8_mayHelp_38 : decode cX8_mayHelp 38 = .ok (.ifCond .eq 18, 3) := by decide +kernel
theorem dX8_mayHelp_41 : decode cX8_mayHelp 41 = .ok (.aload_n 0, 1) := by decide +kernel
theorem dX8_mayHelp_42 : decode cX8_mayHelp 42 = .ok (.getfield 15, 3) := by decide +kernel
theorem dX8_mayHelp_45 : decode cX8_mayHelp 45 = .ok (.iload_n 3, 1) := by decide +kernel
theorem dX8_mayHelp_46 : decode cX8_mayHelp 46 = .ok (.iaload, 1) := by decide +kernel
theorem dX8_mayHelp_47 : decode cX8_mayHelp 47 = .ok (.aload_n 0, 1) := by decide +kernel
theorem dX8_mayHelp_48 : decode cX8_mayHelp 48 = .ok (.getfield 25, 3) := by decide +kernel
theorem dX8_mayHelp_51 : decode cX8_mayHelp 51 = .ok (.if_icmp .lt 5, 3) := by decide +kernel
theorem dX8_mayHelp_54 : decode cX8_mayHelp 54 = .ok (.iconst 0, 1) := by decide +kernel
theorem dX8_mayHelp_55 : decode cX8_mayHelp 55 = .ok (.ireturn, 1) := by decide +kernel
theorem dX8_mayHelp_56 : decode cX8_mayHelp 56 = .ok (.iinc 3 1, 3) := by decide +kernel
theorem dX8_mayHelp_59 : decode cX8_mayHelp 59 = .ok (.goto (-31), 3) := by decide +kernel
theorem dX8_mayHelp_62 : decode cX8_mayHelp 62 = .ok (.iconst 1, 1) := by decide +kernel
theorem dX8_mayHelp_63 : decode cX8_mayHelp 63 = .ok (.ireturn, 1) := by decide +kernel
theorem dX8_addDays_0 : decode cX8_addDays 0 = .ok (.iconst 0, 1) := by decide +kernel
theorem dX8_addDays_1 : decode cX8_addDays 1 = .ok (.istore_n 3, 1) := by decide +kernel
theorem dX8_addDays_2 : decode cX8_addDays 2 = .ok (.iload_n 3, 1) := by decide +kernel
theorem dX8_addDays_3 : decode cX8_addDays 3 = .ok (.iconst 5, 1) := by decide +kernel
theorem dX8_addDays_4 : decode cX8_addDays 4 = .ok (.if_icmp .ge 25, 3) := by decide +kernel
theorem dX8_addDays_7 : decode cX8_addDays 7 = .ok (.aload_n 0, 1) := by decide +kernel
theorem dX8_addDays_8 : decode cX8_addDays 8 = .ok (.getfield 15, 3) := by decide +kernel
theorem dX8_addDays_11 : decode cX8_addDays 11 = .ok (.iload_n 3, 1) := by decide +kernel
theorem dX8_addDays_12 : decode cX8_addDays 12 = .ok (.dup2, 1) := by decide +kernel
theorem dX8_addDays_13 : decode cX8_addDays 13 = .ok (.iaload, 1) := by decide +kernel
theorem dX8_addDays_14 : decode cX8_addDays 14 = .ok (.iload_n 1, 1) := by decide +kernel
theorem dX8_addDays_15 : decode cX8_addDays 15 = .ok (.iload_n 3, 1) := by decide +kernel
theorem dX8_addDays_16 : decode cX8_addDays 16 = .ok (.ishr, 1) := by decide +kernel
theorem dX8_addDays_17 : decode cX8_addDays 17 = .ok (.iconst 1, 1) := by decide +kernel
theorem dX8_addDays_18 : decode cX8_addDays 18 = .ok (.iand, 1) := by decide +kernel
theorem dX8_addDays_19 : decode cX8_addDays 19 = .ok (.iload_n 2, 1) := by decide +kernel
theorem dX8_addDays_20 : decode cX8_addDays 20 = .ok (.imul, 1) := by decide +kernel
theorem dX8_addDays_21 : decode cX8_addDays 21 = .ok (.iadd, 1) := by decide +kernel
theorem dX8_addDays_22 : decode cX8_addDays 22 = .ok (.iastore, 1) := by decide +kernel
theorem dX8_addDays_23 : decode cX8_addDays 23 = .ok (.iinc 3 1, 3) := by decide +kernel
theorem dX8_addDays_26 : decode cX8_addDays 26 = .ok (.goto (-24), 3) := by decide +kernel
theorem dX8_addDays_29 : decode cX8_addDays 29 = .ok (.return_, 1) := by decide +kernel
