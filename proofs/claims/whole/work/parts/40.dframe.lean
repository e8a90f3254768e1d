theorem dX8_init_0 : decode cX8_init 0 = .ok (.aload_n 0, 1) := by decide +kernel
theorem dX8_init_1 : decode cX8_init 1 = .ok (.invokespecial 3, 3) := by decide +kernel
theorem dX8_init_4 : decode cX8_init 4 = .ok (.aload_n 0, 1) := by decide +kernel
theorem dX8_init_5 : decode cX8_init 5 = .ok (.bipush 64, 2) := by decide +kernel
theorem dX8_init_7 : decode cX8_init 7 = .ok (.newarray .long, 2) := by decide +kernel
theorem dX8_init_9 : decode cX8_init 9 = .ok (.putfield 9, 3) := by decide +kernel
theorem dX8_init_12 : decode cX8_init 12 = .ok (.aload_n 0, 1) := by decide +kernel
theorem dX8_init_13 : decode cX8_init 13 = .ok (.bipush 8, 2) := by decide +kernel
theorem dX8_init_15 : decode cX8_init 15 = .ok (.newarray .long, 2) := by decide +kernel
theorem dX8_init_17 : decode cX8_init 17 = .ok (.putfield 15, 3) := by decide +kernel
theorem dX8_init_20 : decode cX8_init 20 = .ok (.aload_n 0, 1) := by decide +kernel
theorem dX8_init_21 : decode cX8_init 21 = .ok (.bipush 13, 2) := by decide +kernel
theorem dX8_init_23 : decode cX8_init 23 = .ok (.newarray .int, 2) := by decide +kernel
theorem dX8_init_25 : decode cX8_init 25 = .ok (.putfield 18, 3) := by decide +kernel
theorem dX8_init_28 : decode cX8_init 28 = .ok (.aload_n 0, 1) := by decide +kernel
theorem dX8_init_29 : decode cX8_init 29 = .ok (.bipush 13, 2) := by decide +kernel
theorem dX8_init_31 : decode cX8_init 31 = .ok (.newarray .long, 2) := by decide +kernel
theorem dX8_init_33 : decode cX8_init 33 = .ok (.putfield 22, 3) := by decide +kernel
theorem dX8_init_36 : decode cX8_init 36 = .ok (.aload_n 0, 1) := by decide +kernel
theorem dX8_init_37 : decode cX8_init 37 = .ok (.bipush 13, 2) := by decide +kernel
theorem dX8_init_39 : decode cX8_init 39 = .ok (.anewarray 25, 3) := by decide +kernel
theorem dX8_init_42 : decode cX8_init 42 = .ok (.putfield 26, 3) := by decide +kernel
theorem dX8_init_45 : decode cX8_init 45 = .ok (.aload_n 0, 1) := by decide +kernel
theorem dX8_init_46 : decode cX8_init 46 = .ok (.iconst 4, 1) := by decide +kernel
theorem dX8_init_47 : decode cX8_init 47 = .ok (.newarray .int, 2) := by decide +kernel
theorem dX8_init_49 : decode cX8_init 49 = .ok (.putfield 30, 3) := by decide +kernel
theorem dX8_init_52 : decode cX8_init 52 = .ok (.aload_n 0, 1) := by decide +kernel
theorem dX8_init_53 : decode cX8_init 53 = .ok (.iconst 4, 1) := by decide +kernel
theorem dX8_init_54 : decode cX8_init 54 = .ok (.newarray .int, 2) := by decide +kernel
theorem dX8_init_56 : decode cX8_init 56 = .ok (.putfield 33, 3) := by decide +kernel
theorem dX8_init_59 : decode cX8_init 59 = .ok (.return_, 1) := by decide +kernel
theorem dX8_begin_0 : decode cX8_begin 0 = .ok (.aload_n 0, 1) := by decide +kernel
theorem dX8_begin_1 : decode cX8_begin 1 = .ok (.iload_n 1, 1) := by decide +kernel
theorem dX8_begin_2 : decode cX8_begin 2 = .ok (.putfield 36, 3) := by decide +kernel
theorem dX8_begin_5 : decode cX8_begin 5 = .ok (.aload_n 0, 1) := by decide +kernel
theorem dX8_begin_6 : decode cX8_begin 6 = .ok (.iload_n 2, 1) := by decide +kernel
theorem dX8_begin_7 : decode cX8_begin 7 = .ok (.putfield 40, 3) := by decide +kernel
theorem dX8_begin_10 : decode cX8_begin 10 = .ok (.aload_n 0, 1) := by decide +kernel
theorem dX8_begin_11 : decode cX8_begin 11 = .ok (.iload_n 3, 1) := by decide +kernel
theorem dX8_begin_12 : decode cX8_begin 12 = .ok (.putfield 43, 3) := by decide +kernel
theorem dX8_begin_15 : decode cX8_begin 15 = .ok (.aload_n 0, 1) := by decide +kernel
theorem dX8_begin_16 : decode cX8_begin 16 = .ok (.iload 4, 2) := by decide +kernel
theorem dX8_begin_18 : decode cX8_begin 18 = .ok (.putfield 46, 3) := by decide +kernel
theorem dX8_begin_21 : decode cX8_begin 21 = .ok (.aload_n 0, 1) := by decide +kernel
theorem dX8_begin_22 : decode cX8_begin 22 = .ok (.iconst 0, 1) := by decide +kernel
theorem dX8_begin_23 : decode cX8_begin 23 = .ok (.putfield 49, 3) := by decide +kernel
theorem dX8_begin_26 : decode cX8_begin 26 = .ok (.aload_n 0, 1) := by decide +kernel
theorem dX8_begin_27 : decode cX8_begin 27 = .ok (.iconst 0, 1) := by decide +kernel
theorem dX8_begin_28 : decode cX8_begin 28 = .ok (.putfield 52, 3) := by decide +kernel
theorem dX8_begin_31 : decode cX8_begin 31 = .ok (.aload_n 0, 1) := by decide +kernel
theorem dX8_begin_32 : decode cX8_begin 32 = .ok (.iconst 0, 1) := by decide +kernel
theorem dX8_begin_33 : decode cX8_begin 33 = .ok (.putfield 55, 3) := by decide +kernel
theorem dX8_begin_36 : decode cX8_begin 36 = .ok (.aload_n 0, 1) := by decide +kernel
theorem dX8_begin_37 : decode cX8_begin 37 = .ok (.lconst 0, 1) := by decide +kernel
theorem dX8_begin_38 : decode cX8_begin 38 = .ok (.putfield 58, 3) := by decide +kernel
theorem dX8_begin_41 : decode cX8_begin 41 = .ok (.return_, 1) := by decide +kernel
theorem dX8_push_0 : decode cX8_push 0 = .ok (.aload_n 0, 1) := by decide +kernel
theorem dX8_push_1 : decode cX8_push 1 = .ok (.getfield 18, 3) := by decide +kernel
theorem dX8_push_4 : decode cX8_push 4 = .ok (.aload_n 0, 1) := by decide +kernel
theorem dX8_push_5 : decode cX8_push 5 = .ok (.getfield 49, 3) := by decide +kernel
theorem dX8_push_8 : decode cX8_push 8 = .ok (.iload_n 1, 1) := by decide +kernel
theorem dX8_push_9 : decode cX8_push 9 = .ok (.iastore, 1) := by decide +kernel
theorem dX8_push_10 : decode cX8_push 10 = .ok (.aload_n 0, 1) := by decide +kernel
theorem dX8_push_11 : decode cX8_push 11 = .ok (.getfield 22, 3) := by decide +kernel
theorem dX8_push_14 : decode cX8_push 14 = .ok (.aload_n 0, 1) := by decide +kernel
theorem dX8_push_15 : decode cX8_push 15 = .ok (.getfield 49, 3) := by decide +kernel
theorem dX8_push_18 : decode cX8_push 18 = .ok (.lload_n 2, 1) := by decide +kernel
theorem dX8_push_19 : decode cX8_push 19 = .ok (.lastore, 1) := by decide +kernel
theorem dX8_push_20 : decode cX8_push 20 = .ok (.aload_n 0, 1) := by decide +kernel
theorem dX8_push_21 : decode cX8_push 21 = .ok (.getfield 26, 3) := by decide +kernel
theorem dX8_push_24 : decode cX8_push 24 = .ok (.aload_n 0, 1) := by decide +kernel
theorem dX8_push_25 : decode cX8_push 25 = .ok (.getfield 49, 3) := by decide +kernel
theorem dX8_push_28 : decode cX8_push 28 = .ok (.aload 4, 2) := by decide +kernel
theorem dX8_push_30 : decode cX8_push 30 = .ok (.aastore, 1) := by decide +kernel
theorem dX8_push_31 : decode cX8_push 31 = .ok (.aload_n 0, 1) := by decide +kernel
theorem dX8_push_32 : decode cX8_push 32 = .ok (.dup, 1) := by decide +kernel
theorem dX8_push_33 : decode cX8_push 33 = .ok (.getfield 49, 3) := by decide +kernel
theorem dX8_push_36 : decode cX8_push 36 = .ok (.iconst 1, 1) := by decide +kernel
theorem dX8_push_37 : decode cX8_push 37 = .ok (.iadd, 1) := by decide +kernel
theorem dX8_push_38 : decode cX8_push 38 = .ok (.putfield 49, 3) := by decide +kernel
theorem dX8_push_41 : decode cX8_push 41 = .ok (.return_, 1) := by decide +kernel
theorem dX8_number_0 : decode cX8_number 0 = .ok (.aload_n 0, 1) := by decide +kernel
theorem dX8_number_1 : decode cX8_number 1 = .ok (.iconst 0, 1) := by decide +kernel
theorem dX8_number_2 : decode cX8_number 2 = .ok (.lload_n 1, 1) := by decide +kernel
theorem dX8_number_3 : decode cX8_number 3 = .ok (.aconst_null, 1) := by decide +kernel
theorem dX8_number_4 : decode cX8_number 4 = .ok (.invokevirtual 62, 3) := by decide +kernel
theorem dX8_number_7 : decode cX8_number 7 = .ok (.return_, 1) := by decide +kernel
theorem dX8_isNumber_0 : decode cX8_isNumber 0 = .ok (.aload_n 0, 1) := by decide +kernel
theorem dX8_isNumber_1 : decode cX8_isNumber 1 = .ok (.getfield 18, 3) := by decide +kernel
theorem dX8_isNumber_4 : decode cX8_isNumber 4 = .ok (.iload_n 1, 1) := by decide +kernel
theorem dX8_isNumber_5 : decode cX8_isNumber 5 = .ok (.iaload, 1) := by decide +kernel
theorem dX8_isNumber_6 : decode cX8_isNumber 6 = .ok (.ifCond .ne 7, 3) := by decide +kernel
theorem dX8_isNumber_9 : decode cX8_isNumber 9 = .ok (.iconst 1, 1) := by decide +kernel
theorem dX8_isNumber_10 : decode cX8_isNumber 10 = .ok (.goto 4, 3) := by decide +kernel
theorem dX8_isNumber_13 : decode cX8_isNumber 13 = .ok (.iconst 0, 1) := by decide +kernel
theorem dX8_isNumber_14 : decode cX8_isNumber 14 = .ok (.ireturn, 1) := by decide +kernel
theorem dJ9_multiplyHigh_f86c9_0 : decode cJ9_multiplyHigh_f86c9 0 = .ok (.lload_n 0, 1) := by decide +kernel
theorem dJ9_multiplyHigh_f86c9_1 : decode cJ9_multiplyHigh_f86c9 1 = .ok (.bipush 32, 2) := by decide +kernel
theorem dJ9_multiplyHigh_f86c9_3 : decode cJ9_multiplyHigh_f86c9 3 = .ok (.lshr, 1) := by decide +kernel
theorem dJ9_multiplyHigh_f86c9_4 : decode cJ9_multiplyHigh_f86c9 4 = .ok (.lstore 4, 2) := by decide +kernel
theorem dJ9_multiplyHigh_f86c9_6 : decode cJ9_multiplyHigh_f86c9 6 = .ok (.lload_n 0, 1) := by decide +kernel
theorem dJ9_multiplyHigh_f86c9_7 : decode cJ9_multiplyHigh_f86c9 7 = .ok (.ldc2_w 138, 3) := by decide +kernel
theorem dJ9_multiplyHigh_f86c9_10 : decode cJ9_multiplyHigh_f86c9 10 = .ok (.land, 1) := by decide +kernel
theorem dJ9_multiplyHigh_f86c9_11 : decode cJ9_multiplyHigh_f86c9 11 = .ok (.lstore 6, 2) := by decide +kernel
theorem dJ9_multiplyHigh_f86c9_13 : decode cJ9_multiplyHigh_f86c9 13 = .ok (.lload_n 2, 1) := by decide +kernel
theorem dJ9_multiplyHigh_f86c9_14 : decode cJ9_multiplyHigh_f86c9 14 = .ok (.bipush 32, 2) := by decide +kernel
theorem dJ9_multiplyHigh_f86c9_16 : decode cJ9_multiplyHigh_f86c9 16 = .ok (.lshr, 1) := by decide +kernel
theorem dJ9_multiplyHigh_f86c9_17 : decode cJ9_multiplyHigh_f86c9 17 = .ok (.lstore 8, 2) := by decide +kernel
theorem dJ9_multiplyHigh_f86c9_19 : decode cJ9_multiplyHigh_f86c9 19 = .ok (.lload_n 2, 1) := by decide +kernel
theorem dJ9_multiplyHigh_f86c9_20 : decode cJ9_multiplyHigh_f86c9 20 = .ok (.ldc2_w 138, 3) := by decide +kernel
theorem dJ9_multiplyHigh_f86c9_23 : decode cJ9_multiplyHigh_f86c9 23 = .ok (.land, 1) := by decide +kernel
theorem dJ9_multiplyHigh_f86c9_24 : decode cJ9_multiplyHigh_f86c9 24 = .ok (.lstore 10, 2) := by decide +kernel
theorem dJ9_multiplyHigh_f86c9_26 : decode cJ9_multiplyHigh_f86c9 26 = .ok (.lload 6, 2) := by decide +kernel
theorem dJ9_multiplyHigh_f86c9_28 : decode cJ9_multiplyHigh_f86c9 28 = .ok (.lload 10, 2) := by decide +kernel
theorem dJ9_multiplyHigh_f86c9_30 : decode cJ9_multiplyHigh_f86c9 30 = .ok (.lmul, 1) := by decide +kernel
theorem dJ9_multiplyHigh_f86c9_31 : decode cJ9_multiplyHigh_f86c9 31 = .ok (.lstore 12, 2) := by decide +kernel
theorem dJ9_multiplyHigh_f86c9_33 : decode cJ9_multiplyHigh_f86c9 33 = .ok (.lload 4, 2) := by decide +kernel
theorem dJ9_multiplyHigh_f86c9_35 : decode cJ9_multiplyHigh_f86c9 35 = .ok (.lload 10, 2) := by decide +kernel
theorem dJ9_multiplyHigh_f86c9_37 : decode cJ9_multiplyHigh_f86c9 37 = .ok (.lmul, 1) := by decide +kernel
theorem dJ9_multiplyHigh_f86c9_38 : decode cJ9_multiplyHigh_f86c9 38 = .ok (.lload 12, 2) := by decide +kernel
theorem dJ9_multiplyHigh_f86c9_40 : decode cJ9_multiplyHigh_f86c9 40 = .ok (.bipush 32, 2) := by decide +kernel
theorem dJ9_multiplyHigh_f86c9_42 : decode cJ9_multiplyHigh_f86c9 42 = .ok (.lushr, 1) := by decide +kernel
theorem dJ9_multiplyHigh_f86c9_43 : decode cJ9_multiplyHigh_f86c9 43 = .ok (.ladd, 1) := by decide +kernel
theorem dJ9_multiplyHigh_f86c9_44 : decode cJ9_multiplyHigh_f86c9 44 = .ok (.lstore 14, 2) := by decide +kernel
theorem dJ9_multiplyHigh_f86c9_46 : decode cJ9_multiplyHigh_f86c9 46 = .ok (.lload 14, 2) := by decide +kernel
theorem dJ9_multiplyHigh_f86c9_48 : decode cJ9_multiplyHigh_f86c9 48 = .ok (.ldc2_w 138, 3) := by decide +kernel
theorem dJ9_multiplyHigh_f86c9_51 : decode cJ9_multiplyHigh_f86c9 51 = .ok (.land, 1) := by decide +kernel
theorem dJ9_multiplyHigh_f86c9_52 : decode cJ9_multiplyHigh_f86c9 52 = .ok (.lstore 16, 2) := by decide +kernel
theorem dJ9_multiplyHigh_f86c9_54 : decode cJ9_multiplyHigh_f86c9 54 = .ok (.lload 14, 2) := by decide +kernel
theorem dJ9_multiplyHigh_f86c9_56 : decode cJ9_multiplyHigh_f86c9 56 = .ok (.bipush 32, 2) := by decide +kernel
theorem dJ9_multiplyHigh_f86c9_58 : decode cJ9_multiplyHigh_f86c9 58 = .ok (.lshr, 1) := by decide +kernel
theorem dJ9_multiplyHigh_f86c9_59 : decode cJ9_multiplyHigh_f86c9 59 = .ok (.lstore 18, 2) := by decide +kernel
theorem dJ9_multiplyHigh_f86c9_61 : decode cJ9_multiplyHigh_f86c9 61 = .ok (.lload 16, 2) := by decide +kernel
theorem dJ9_multiplyHigh_f86c9_63 : decode cJ9_multiplyHigh_f86c9 63 = .ok (.lload 6, 2) := by decide +kernel
theorem dJ9_multiplyHigh_f86c9_65 : decode cJ9_multiplyHigh_f86c9 65 = .ok (.lload 8, 2) := by decide +kernel
theorem dJ9_multiplyHigh_f86c9_67 : decode cJ9_multiplyHigh_f86c9 67 = .ok (.lmul, 1) := by decide +kernel
theorem dJ9_multiplyHigh_f86c9_68 : decode cJ9_multiplyHigh_f86c9 68 = .ok (.ladd, 1) := by decide +kernel
theorem dJ9_multiplyHigh_f86c9_69 : decode cJ9_multiplyHigh_f86c9 69 = .ok (.lstore 16, 2) := by decide +kernel
theorem dJ9_multiplyHigh_f86c9_71 : decode cJ9_multiplyHigh_f86c9 71 = .ok (.lload 4, 2) := by decide +kernel
theorem dJ9_multiplyHigh_f86c9_73 : decode cJ9_multiplyHigh_f86c9 73 = .ok (.lload 8, 2) := by decide +kernel
theorem dJ9_multiplyHigh_f86c9_75 : decode cJ9_multiplyHigh_f86c9 75 = .ok (.lmul, 1) := by decide +kernel
theorem dJ9_multiplyHigh_f86c9_76 : decode cJ9_multiplyHigh_f86c9 76 = .ok (.lload 18, 2) := by decide +kernel
theorem dJ9_multiplyHigh_f86c9_78 : decode cJ9_multiplyHigh_f86c9 78 = .ok (.ladd, 1) := by decide +kernel
theorem dJ9_multiplyHigh_f86c9_79 : decode cJ9_multiplyHigh_f86c9 79 = .ok (.lload 16, 2) := by decide +kernel
theorem dJ9_multiplyHigh_f86c9_81 : decode cJ9_multiplyHigh_f86c9 81 = .ok (.bipush 32, 2) := by decide +kernel
theorem dJ9_multiplyHigh_f86c9_83 : decode cJ9_multiplyHigh_f86c9 83 = .ok (.lshr, 1) := by decide +kernel
theorem dJ9_multiplyHigh_f86c9_84 : decode cJ9_multiplyHigh_f86c9 84 = .ok (.ladd, 1) := by decide +kernel
theorem dJ9_multiplyHigh_f86c9_85 : decode cJ9_multiplyHigh_f86c9 85 = .ok (.lreturn, 1) := by decide +kernel
theorem dJ9_max_7cf53_0 : decode cJ9_max_7cf53 0 = .ok (.iload_n 0, 1) := by decide +kernel
theorem dJ9_max_7cf53_1 : decode cJ9_max_7cf53 1 = .ok (.iload_n 1, 1) := by decide +kernel
theorem dJ9_max_7cf53_2 : decode cJ9_max_7cf53 2 = .ok (.if_icmp .lt 7, 3) := by decide +kernel
theorem dJ9_max_7cf53_5 : decode cJ9_max_7cf53 5 = .ok (.iload_n 0, 1) := by decide +kernel
theorem dJ9_max_7cf53_6 : decode cJ9_max_7cf53 6 = .ok (.goto 4, 3) := by decide +kernel
theorem dJ9_max_7cf53_9 : decode cJ9_max_7cf53 9 = .ok (.iload_n 1, 1) := by decide +kernel
theorem dJ9_max_7cf53_10 : decode cJ9_max_7cf53 10 = .ok (.ireturn, 1) := by decide +kernel
theorem dJ9_max_f86c9_0 : decode cJ9_max_f86c9 0 = .ok (.lload_n 0, 1) := by decide +kernel
theorem dJ9_max_f86c9_1 : decode cJ9_max_f86c9 1 = .ok (.lload_n 2, 1) := by decide +kernel
theorem dJ9_max_f86c9_2 : decode cJ9_max_f86c9 2 = .ok (.lcmp, 1) := by decide +kernel
theorem dJ9_max_f86c9_3 : decode cJ9_max_f86c9 3 = .ok (.ifCond .lt 7, 3) := by decide +kernel
theorem dJ9_max_f86c9_6 : decode cJ9_max_f86c9 6 = .ok (.lload_n 0, 1) := by decide +kernel
theorem dJ9_max_f86c9_7 : decode cJ9_max_f86c9 7 = .ok (.goto 4, 3) := by decide +kernel
theorem dJ9_max_f86c9_10 : decode cJ9_max_f86c9 10 = .ok (.lload_n 2, 1) := by decide +kernel
theorem dJ9_max_f86c9_11 : decode cJ9_max_f86c9 11 = .ok (.lreturn, 1) := by decide +kernel
theorem dJ9_min_7cf53_0 : decode cJ9_min_7cf53 0 = .ok (.iload_n 0, 1) := by decide +kernel
theorem dJ9_min_7cf53_1 : decode cJ9_min_7cf53 1 = .ok (.iload_n 1, 1) := by decide +kernel
theorem dJ9_min_7cf53_2 : decode cJ9_min_7cf53 2 = .ok (.if_icmp .gt 7, 3) := by decide +kernel
theorem dJ9_min_7cf53_5 : decode cJ9_min_7cf53 5 = .ok (.iload_n 0, 1) := by decide +kernel
theorem dJ9_min_7cf53_6 : decode cJ9_min_7cf53 6 = .ok (.goto 4, 3) := by decide +kernel
theorem dJ9_min_7cf53_9 : decode cJ9_min_7cf53 9 = .ok (.iload_n 1, 1) := by decide +kernel
theorem dJ9_min_7cf53_10 : decode cJ9_min_7cf53 10 = .ok (.ireturn, 1) := by decide +kernel
theorem dJ9_min_f86c9_0 : decode cJ9_min_f86c9 0 = .ok (.lload_n 0, 1) := by decide +kernel
theorem dJ9_min_f86c9_1 : decode cJ9_min_f86c9 1 = .ok (.lload_n 2, 1) := by decide +kernel
theorem dJ9_min_f86c9_2 : decode cJ9_min_f86c9 2 = .ok (.lcmp, 1) := by decide +kernel
theorem dJ9_min_f86c9_3 : decode cJ9_min_f86c9 3 = .ok (.ifCond .gt 7, 3) := by decide +kernel
theorem dJ9_min_f86c9_6 : decode cJ9_min_f86c9 6 = .ok (.lload_n 0, 1) := by decide +kernel
theorem dJ9_min_f86c9_7 : decode cJ9_min_f86c9 7 = .ok (.goto 4, 3) := by decide +kernel
theorem dJ9_min_f86c9_10 : decode cJ9_min_f86c9 10 = .ok (.lload_n 2, 1) := by decide +kernel
theorem dJ9_min_f86c9_11 : decode cJ9_min_f86c9 11 = .ok (.lreturn, 1) := by decide +kernel
