abbrev vwCl : List vw_C := [(RX0, TX0, 3), (RX1, TX1, 2), (RX2, TX2, 10), (RX3, TX3, 8), (RX4, TX4, 4), (RX5, TX5, 3), (RX6, TX6, 7), (RX7, TX7, 3), (RX8, TX8, 15), (RX9, TX9, 19)]
theorem dX0_init_0 : decode cX0_init 0 = .ok (.aload_n 0, 1) := by decide +kernel
theorem dX0_init_1 : decode cX0_init 1 = .ok (.invokespecial 3, 3) := by decide +kernel
theorem dX0_init_4 : decode cX0_init 4 = .ok (.aload_n 0, 1) := by decide +kernel
theorem dX0_init_5 : decode cX0_init 5 = .ok (.bipush 24, 2) := by decide +kernel
theorem dX0_init_7 : decode cX0_init 7 = .ok (.newarray .int, 2) := by decide +kernel
theorem dX0_init_9 : decode cX0_init 9 = .ok (.putfield 9, 3) := by decide +kernel
theorem dX0_init_12 : decode cX0_init 12 = .ok (.aload_n 0, 1) := by decide +kernel
theorem dX0_init_13 : decode cX0_init 13 = .ok (.bipush 24, 2) := by decide +kernel
theorem dX0_init_15 : decode cX0_init 15 = .ok (.newarray .int, 2) := by decide +kernel
theorem dX0_init_17 : decode cX0_init 17 = .ok (.putfield 15, 3) := by decide +kernel
theorem dX0_init_20 : decode cX0_init 20 = .ok (.aload_n 0, 1) := by decide +kernel
theorem dX0_init_21 : decode cX0_init 21 = .ok (.iconst 0, 1) := by decide +kernel
theorem dX0_init_22 : decode cX0_init 22 = .ok (.putfield 18, 3) := by decide +kernel
theorem dX0_init_25 : decode cX0_init 25 = .ok (.return_, 1) := by decide +kernel
theorem dX0_append_0 : decode cX0_append 0 = .ok (.aload_n 0, 1) := by decide +kernel
theorem dX0_append_1 : decode cX0_append 1 = .ok (.getfield 18, 3) := by decide +kernel
theorem dX0_append_4 : decode cX0_append 4 = .ok (.bipush 24, 2) := by decide +kernel
theorem dX0_append_6 : decode cX0_append 6 = .ok (.if_icmp .lt 5, 3) := by decide +kernel
theorem dX0_append_9 : decode cX0_append 9 = .ok (.iconst 0, 1) := by decide +kernel
theorem dX0_append_10 : decode cX0_append 10 = .ok (.ireturn, 1) := by decide +kernel
theorem dX0_append_11 : decode cX0_append 11 = .ok (.aload_n 0, 1) := by decide +kernel
theorem dX0_append_12 : decode cX0_append 12 = .ok (.getfield 9, 3) := by decide +kernel
theorem dX0_append_15 : decode cX0_append 15 = .ok (.aload_n 0, 1) := by decide +kernel
theorem dX0_append_16 : decode cX0_append 16 = .ok (.getfield 18, 3) := by decide +kernel
theorem dX0_append_19 : decode cX0_append 19 = .ok (.iload_n 1, 1) := by decide +kernel
theorem dX0_append_20 : decode cX0_append 20 = .ok (.iastore, 1) := by decide +kernel
theorem dX0_append_21 : decode cX0_append 21 = .ok (.aload_n 0, 1) := by decide +kernel
theorem dX0_append_22 : decode cX0_append 22 = .ok (.getfield 15, 3) := by decide +kernel
theorem dX0_append_25 : decode cX0_append 25 = .ok (.aload_n 0, 1) := by decide +kernel
theorem dX0_append_26 : decode cX0_append 26 = .ok (.getfield 18, 3) := by decide +kernel
theorem dX0_append_29 : decode cX0_append 29 = .ok (.iload_n 2, 1) := by decide +kernel
theorem dX0_append_30 : decode cX0_append 30 = .ok (.iastore, 1) := by decide +kernel
theorem dX0_append_31 : decode cX0_append 31 = .ok (.aload_n 0, 1) := by decide +kernel
theorem dX0_append_32 : decode cX0_append 32 = .ok (.dup, 1) := by decide +kernel
theorem dX0_append_33 : decode cX0_append 33 = .ok (.getfield 18, 3) := by decide +kernel
theorem dX0_append_36 : decode cX0_append 36 = .ok (.iconst 1, 1) := by decide +kernel
theorem dX0_append_37 : decode cX0_append 37 = .ok (.iadd, 1) := by decide +kernel
theorem dX0_append_38 : decode cX0_append 38 = .ok (.putfield 18, 3) := by decide +kernel
theorem dX0_append_41 : decode cX0_append 41 = .ok (.iconst 1, 1) := by decide +kernel
theorem dX0_append_42 : decode cX0_append 42 = .ok (.ireturn, 1) := by decide +kernel
theorem dX0_hasPlace_0 : decode cX0_hasPlace 0 = .ok (.iload_n 1, 1) := by decide +kernel
theorem dX0_hasPlace_1 : decode cX0_hasPlace 1 = .ok (.ifCond .lt 15, 3) := by decide +kernel
theorem dX0_hasPlace_4 : decode cX0_hasPlace 4 = .ok (.iload_n 1, 1) := by decide +kernel
theorem dX0_hasPlace_5 : decode cX0_hasPlace 5 = .ok (.aload_n 0, 1) := by decide +kernel
theorem dX0_hasPlace_6 : decode cX0_hasPlace 6 = .ok (.getfield 18, 3) := by decide +kernel
theorem dX0_hasPlace_9 : decode cX0_hasPlace 9 = .ok (.if_icmp .gt 7, 3) := by decide +kernel
theorem dX0_hasPlace_12 : decode cX0_hasPlace 12 = .ok (.iconst 1, 1) := by decide +kernel
theorem dX0_hasPlace_13 : decode cX0_hasPlace 13 = .ok (.goto 4, 3) := by decide +kernel
theorem dX0_hasPlace_16 : decode cX0_hasPlace 16 = .ok (.iconst 0, 1) := by decide +kernel
theorem dX0_hasPlace_17 : decode cX0_hasPlace 17 = .ok (.ireturn, 1) := by decide +kernel
theorem dX1_init_0 : decode cX1_init 0 = .ok (.aload_n 0, 1) := by decide +kernel
theorem dX1_init_1 : decode cX1_init 1 = .ok (.invokespecial 3, 3) := by decide +kernel
theorem dX1_init_4 : decode cX1_init 4 = .ok (.aload_n 0, 1) := by decide +kernel
theorem dX1_init_5 : decode cX1_init 5 = .ok (.bipush 48, 2) := by decide +kernel
theorem dX1_init_7 : decode cX1_init 7 = .ok (.anewarray 9, 3) := by decide +kernel
theorem dX1_init_10 : decode cX1_init 10 = .ok (.putfield 11, 3) := by decide +kernel
theorem dX1_init_13 : decode cX1_init 13 = .ok (.aload_n 0, 1) := by decide +kernel
theorem dX1_init_14 : decode cX1_init 14 = .ok (.bipush 8, 2) := by decide +kernel
theorem dX1_init_16 : decode cX1_init 16 = .ok (.newarray .boolean, 2) := by decide +kernel
theorem dX1_init_18 : decode cX1_init 18 = .ok (.putfield 17, 3) := by decide +kernel
theorem dX1_init_21 : decode cX1_init 21 = .ok (.iconst 0, 1) := by decide +kernel
theorem dX1_init_22 : decode cX1_init 22 = .ok (.istore_n 1, 1) := by decide +kernel
theorem dX1_init_23 : decode cX1_init 23 = .ok (.iload_n 1, 1) := by decide +kernel
theorem dX1_init_24 : decode cX1_init 24 = .ok (.bipush 48, 2) := by decide +kernel
theorem dX1_init_26 : decode cX1_init 26 = .ok (.if_icmp .ge 22, 3) := by decide +kernel
theorem dX1_init_29 : decode cX1_init 29 = .ok (.aload_n 0, 1) := by decide +kernel
theorem dX1_init_30 : decode cX1_init 30 = .ok (.getfield 11, 3) := by decide +kernel
theorem dX1_init_33 : decode cX1_init 33 = .ok (.iload_n 1, 1) := by decide +kernel
theorem dX1_init_34 : decode cX1_init 34 = .ok (.new 9, 3) := by decide +kernel
theorem dX1_init_37 : decode cX1_init 37 = .ok (.dup, 1) := by decide +kernel
theorem dX1_init_38 : decode cX1_init 38 = .ok (.invokespecial 21, 3) := by decide +kernel
theorem dX1_init_41 : decode cX1_init 41 = .ok (.aastore, 1) := by decide +kernel
theorem dX1_init_42 : decode cX1_init 42 = .ok (.iinc 1 1, 3) := by decide +kernel
theorem dX1_init_45 : decode cX1_init 45 = .ok (.goto (-22), 3) := by decide +kernel
theorem dX1_init_48 : decode cX1_init 48 = .ok (.return_, 1) := by decide +kernel
theorem dX1_find_0 : decode cX1_find 0 = .ok (.aload_n 0, 1) := by decide +kernel
theorem dX1_find_1 : decode cX1_find 1 = .ok (.getfield 11, 3) := by decide +kernel
theorem dX1_find_4 : decode cX1_find 4 = .ok (.iload_n 1, 1) := by decide +kernel
theorem dX1_find_5 : decode cX1_find 5 = .ok (.bipush 6, 2) := by decide +kernel
theorem dX1_find_7 : decode cX1_find 7 = .ok (.imul, 1) := by decide +kernel
theorem dX1_find_8 : decode cX1_find 8 = .ok (.iload_n 2, 1) := by decide +kernel
theorem dX1_find_9 : decode cX1_find 9 = .ok (.iadd, 1) := by decide +kernel
theorem dX1_find_10 : decode cX1_find 10 = .ok (.aaload, 1) := by decide +kernel
theorem dX1_find_11 : decode cX1_find 11 = .ok (.areturn, 1) := by decide +kernel
theorem dX2_init_0 : decode cX2_init 0 = .ok (.aload_n 0, 1) := by decide +kernel
theorem dX2_init_1 : decode cX2_init 1 = .ok (.invokespecial 3, 3) := by decide +kernel
theorem dX2_init_4 : decode cX2_init 4 = .ok (.aload_n 0, 1) := by decide +kernel
theorem dX2_init_5 : decode cX2_init 5 = .ok (.iconst 4, 1) := by decide +kernel
theorem dX2_init_6 : decode cX2_init 6 = .ok (.newarray .int, 2) := by decide +kernel
theorem dX2_init_8 : decode cX2_init 8 = .ok (.putfield 9, 3) := by decide +kernel
theorem dX2_init_11 : decode cX2_init 11 = .ok (.aload_n 0, 1) := by decide +kernel
theorem dX2_init_12 : decode cX2_init 12 = .ok (.iconst 4, 1) := by decide +kernel
theorem dX2_init_13 : decode cX2_init 13 = .ok (.newarray .int, 2) := by decide +kernel
theorem dX2_init_15 : decode cX2_init 15 = .ok (.putfield 15, 3) := by decide +kernel
theorem dX2_init_18 : decode cX2_init 18 = .ok (.aload_n 0, 1) := by decide +kernel
theorem dX2_init_19 : decode cX2_init 19 = .ok (.iconst 0, 1) := by decide +kernel
theorem dX2_init_20 : decode cX2_init 20 = .ok (.putfield 18, 3) := by decide +kernel
theorem dX2_init_23 : decode cX2_init 23 = .ok (.aload_n 0, 1) := by decide +kernel
theorem dX2_init_24 : decode cX2_init 24 = .ok (.iconst 0, 1) := by decide +kernel
theorem dX2_init_25 : decode cX2_init 25 = .ok (.putfield 22, 3) := by decide +kernel
theorem dX2_init_28 : decode cX2_init 28 = .ok (.aload_n 0, 1) := by decide +kernel
theorem dX2_init_29 : decode cX2_init 29 = .ok (.iconst (-1), 1) := by decide +kernel
theorem dX2_init_30 : decode cX2_init 30 = .ok (.putfield 25, 3) := by decide +kernel
theorem dX2_init_33 : decode cX2_init 33 = .ok (.aload_n 0, 1) := by decide +kernel
theorem dX2_init_34 : decode cX2_init 34 = .ok (.iconst 0, 1) := by decide +kernel
theorem dX2_init_35 : decode cX2_init 35 = .ok (.putfield 28, 3) := by decide +kernel
theorem dX2_init_38 : decode cX2_init 38 = .ok (.aload_n 0, 1) := by decide +kernel
theorem dX2_init_39 : decode cX2_init 39 = .ok (.iconst 0, 1) := by decide +kernel
theorem dX2_init_40 : decode cX2_init 40 = .ok (.putfield 31, 3) := by decide +kernel
theorem dX2_init_43 : decode cX2_init 43 = .ok (.aload_n 0, 1) := by decide +kernel
theorem dX2_init_44 : decode cX2_init 44 = .ok (.aload_n 1, 1) := by decide +kernel
theorem dX2_init_45 : decode cX2_init 45 = .ok (.putfield 34, 3) := by decide +kernel
theorem dX2_init_48 : decode cX2_init 48 = .ok (.aload_n 0, 1) := by decide +kernel
theorem dX2_init_49 : decode cX2_init 49 = .ok (.new 38, 3) := by decide +kernel
theorem dX2_init_52 : decode cX2_init 52 = .ok (.dup, 1) := by decide +kernel
theorem dX2_init_53 : decode cX2_init 53 = .ok (.invokespecial 40, 3) := by decide +kernel
theorem dX2_init_56 : decode cX2_init 56 = .ok (.putfield 41, 3) := by decide +kernel
theorem dX2_init_59 : decode cX2_init 59 = .ok (.aload_n 0, 1) := by decide +kernel
theorem dX2_init_60 : decode cX2_init 60 = .ok (.new 45, 3) := by decide +kernel
theorem dX2_init_63 : decode cX2_init 63 = .ok (.dup, 1) := by decide +kernel
theorem dX2_init_64 : decode cX2_init 64 = .ok (.aload_n 0, 1) := by decide +kernel
theorem dX2_init_65 : decode cX2_init 65 = .ok (.getfield 41, 3) := by decide +kernel
theorem dX2_init_68 : decode cX2_init 68 = .ok (.invokespecial 47, 3) := by decide +kernel
theorem dX2_init_71 : decode cX2_init 71 = .ok (.putfield 50, 3) := by decide +kernel
theorem dX2_init_74 : decode cX2_init 74 = .ok (.return_, 1) := by decide +kernel
theorem dX2_begin_0 : decode cX2_begin 0 = .ok (.aload_n 0, 1) := by decide +kernel
theorem dX2_begin_1 : decode cX2_begin 1 = .ok (.aload_n 1, 1) := by decide +kernel
theorem dX2_begin_2 : decode cX2_begin 2 = .ok (.putfield 34, 3) := by decide +kernel
theorem dX2_begin_5 : decode cX2_begin 5 = .ok (.aload_n 0, 1) := by decide +kernel
theorem dX2_begin_6 : decode cX2_begin 6 = .ok (.iload_n 2, 1) := by decide +kernel
theorem dX2_begin_7 : decode cX2_begin 7 = .ok (.putfield 22, 3) := by decide +kernel
theorem dX2_begin_10 : decode cX2_begin 10 = .ok (.aload_n 0, 1) := by decide +kernel
theorem dX2_begin_11 : decode cX2_begin 11 = .ok (.iload_n 3, 1) := by decide +kernel
theorem dX2_begin_12 : decode cX2_begin 12 = .ok (.putfield 25, 3) := by decide +kernel
theorem dX2_begin_15 : decode cX2_begin 15 = .ok (.aload_n 0, 1) := by decide +kernel
theorem dX2_begin_16 : decode cX2_begin 16 = .ok (.iload 4, 2) := by decide +kernel
theorem dX2_begin_18 : decode cX2_begin 18 = .ok (.putfield 31, 3) := by decide +kernel
theorem dX2_begin_21 : decode cX2_begin 21 = .ok (.aload_n 0, 1) := by decide +kernel
theorem dX2_begin_22 : decode cX2_begin 22 = .ok (.iconst 0, 1) := by decide +kernel
theorem dX2_begin_23 : decode cX2_begin 23 = .ok (.putfield 28, 3) := by decide +kernel
theorem dX2_begin_26 : decode cX2_begin 26 = .ok (.aload_n 0, 1) := by decide +kernel
theorem dX2_begin_27 : decode cX2_begin 27 = .ok (.iconst 0, 1) := by decide +kernel
theorem dX2_begin_28 : decode cX2_begin 28 = .ok (.putfield 18, 3) := by decide +kernel
theorem dX2_begin_31 : decode cX2_begin 31 = .ok (.aload_n 0, 1) := by decide +kernel
theorem dX2_begin_32 : decode cX2_begin 32 = .ok (.getfield 41, 3) := by decide +kernel
theorem dX2_begin_35 : decode cX2_begin 35 = .ok (.iconst 0, 1) := by decide +kernel
theorem dX2_begin_36 : decode cX2_begin 36 = .ok (.putfield 54, 3) := by decide +kernel
theorem dX2_begin_39 : decode cX2_begin 39 = .ok (.return_, 1) := by decide +kernel
theorem dX2_isAtEnd_0 : decode cX2_isAtEnd 0 = .ok (.aload_n 0, 1) := by decide +kernel
theorem dX2_isAtEnd_1 : decode cX2_isAtEnd 1 = .ok (.getfield 28, 3) := by decide +kernel
theorem dX2_isAtEnd_4 : decode cX2_isAtEnd 4 = .ok (.ifCond .lt 17, 3) := by decide +kernel
theorem dX2_isAtEnd_7 : decode cX2_isAtEnd 7 = .ok (.aload_n 0, 1) := by decide +kernel
theorem dX2_isAtEnd_8 : decode cX2_isAtEnd 8 = .ok (.getfield 28, 3) := by decide +kernel
theorem dX2_isAtEnd_11 : decode cX2_isAtEnd 11 = .ok (.aload_n 0, 1) := by decide +kernel
theorem dX2_isAtEnd_12 : decode cX2_isAtEnd 12 = .ok (.getfield 34, 3) := by decide +kernel
theorem dX2_isAtEnd_15 : decode cX2_isAtEnd 15 = .ok (.getfield 57, 3) := by decide +kernel
theorem dX2_isAtEnd_18 : decode cX2_isAtEnd 18 = .ok (.if_icmp .lt 7, 3) := by decide +kernel
theorem dX2_isAtEnd_21 : decode cX2_isAtEnd 21 = .ok (.iconst 1, 1) := by decide +kernel
theorem dX2_isAtEnd_22 : decode cX2_isAtEnd 22 = .ok (.goto 4, 3) := by decide +kernel
theorem dX2_isAtEnd_25 : decode cX2_isAtEnd 25 = .ok (.iconst 0, 1) := by decide +kernel
theorem dX2_isAtEnd_26 : decode cX2_isAtEnd 26 = .ok (.ireturn, 1) := by decide +kernel
theorem dX2_jump_0 : decode cX2_jump 0 = .ok (.aload_n 0, 1) := by decide +kernel
theorem dX2_jump_1 : decode cX2_jump 1 = .ok (.getfield 34, 3) := by decide +kernel
theorem dX2_jump_4 : decode cX2_jump 4 = .ok (.iload_n 1, 1) := by decide +kernel
theorem dX2_jump_5 : decode cX2_jump 5 = .ok (.invokevirtual 62, 3) := by decide +kernel
theorem dX2_jump_8 : decode cX2_jump 8 = .ok (.ifCond .ne 6, 3) := by decide +kernel
theorem dX2_jump_11 : decode cX2_jump 11 = .ok (.bipush 12, 2) := by decide +kernel
theorem dX2_jump_13 : decode cX2_jump 13 = .ok (.ireturn, 1) := by decide +kernel
theorem dX2_jump_14 : decode cX2_jump 14 = .ok (.aload_n 0, 1) := by decide +kernel
theorem dX2_jump_15 : decode cX2_jump 15 = .ok (.iload_n 1, 1) := by decide +kernel
theorem dX2_jump_16 : decode cX2_jump 16 = .ok (.putfield 28, 3) := by decide +kernel
theorem dX2_jump_19 : decode cX2_jump 19 = .ok (.iconst 0, 1) := by decide +kernel
theorem dX2_jump_20 : decode cX2_jump 20 = .ok (.ireturn, 1) := by decide +kernel
theorem dX2_addHandler_0 : decode cX2_addHandler 0 = .ok (.aload_n 0, 1) := by decide +kernel
theorem dX2_addHandler_1 : decode cX2_addHandler 1 = .ok (.getfield 34, 3) := by decide +kernel
theorem dX2_addHandler_4 : decode cX2_addHandler 4 = .ok (.iload_n 1, 1) := by decide +kernel
theorem dX2_addHandler_5 : decode cX2_addHandler 5 = .ok (.invokevirtual 62, 3) := by decide +kernel
theorem dX2_addHandler_8 : decode cX2_addHandler 8 = .ok (.ifCond .ne 6, 3) := by decide +kernel
theorem dX2_addHandler_11 : decode cX2_addHandler 11 = .ok (.bipush 12, 2) := by decide +kernel
theorem dX2_addHandler_13 : decode cX2_addHandler 13 = .ok (.ireturn, 1) := by decide +kernel
theorem dX2_addHandler_14 : decode cX2_addHandler 14 = .ok (.aload_n 0, 1) := by decide +kernel
theorem dX2_addHandler_15 : decode cX2_addHandler 15 = .ok (.getfield 18, 3) := by decide +kernel
theorem dX2_addHandler_18 : decode cX2_addHandler 18 = .ok (.iconst 4, 1) := by decide +kernel
theorem dX2_addHandler_19 : decode cX2_addHandler 19 = .ok (.if_icmp .ge 15, 3) := by decide +kernel
theorem dX2_addHandler_22 : decode cX2_addHandler 22 = .ok (.aload_n 0, 1) := by decide +kernel
theorem dX2_addHandler_23 : decode cX2_addHandler 23 = .ok (.getfield 41, 3) := by decide +kernel
theorem dX2_addHandler_26 : decode cX2_addHandler 26 = .ok (.getfield 54, 3) := by decide +kernel
theorem dX2_addHandler_29 : decode cX2_addHandler 29 = .ok (.bipush 12, 2) := by decide +kernel
theorem dX2_addHandler_31 : decode cX2_addHandler 31 = .ok (.if_icmp .lt 6, 3) := by decide +kernel
theorem dX2_addHandler_34 : decode cX2_addHandler 34 = .ok (.bipush 11, 2) := by decide +kernel
theorem dX2_addHandler_36 : decode cX2_addHandler 36 = .ok (.ireturn, 1) := by decide +kernel
theorem dX2_addHandler_37 : decode cX2_addHandler 37 = .ok (.aload_n 0, 1) := by decide +kernel
theorem dX2_addHandler_38 : decode cX2_addHandler 38 = .ok (.getfield 9, 3) := by decide +kernel
theorem dX2_addHandler_41 : decode cX2_addHandler 41 = .ok (.aload_n 0, 1) := by decide +kernel
theorem dX2_addHandler_42 : decode cX2_addHandler 42 = .ok (.getfield 18, 3) := by decide +kernel
theorem dX2_addHandler_45 : decode cX2_addHandler 45 = .ok (.iload_n 1, 1) := by decide +kernel
theorem dX2_addHandler_46 : decode cX2_addHandler 46 = .ok (.iastore, 1) := by decide +kernel
theorem dX2_addHandler_47 : decode cX2_addHandler 47 = .ok (.aload_n 0, 1) := by decide +kernel
theorem dX2_addHandler_48 : decode cX2_addHandler 48 = .ok (.getfield 15, 3) := by decide +kernel
theorem dX2_addHandler_51 : decode cX2_addHandler 51 = .ok (.aload_n 0, 1) := by decide +kernel
theorem dX2_addHandler_52 : decode cX2_addHandler 52 = .ok (.getfield 18, 3) := by decide +kernel
theorem dX2_addHandler_55 : decode cX2_addHandler 55 = .ok (.aload_n 0, 1) := by decide +kernel
theorem dX2_addHandler_56 : decode cX2_addHandler 56 = .ok (.getfield 41, 3) := by decide +kernel
theorem dX2_addHandler_59 : decode cX2_addHandler 59 = .ok (.getfield 54, 3) := by decide +kernel
theorem dX2_addHandler_62 : decode cX2_addHandler 62 = .ok (.iastore, 1) := by decide +kernel
theorem dX2_addHandler_63 : decode cX2_addHandler 63 = .ok (.aload_n 0, 1) := by decide +kernel
theorem dX2_addHandler_64 : decode cX2_addHandler 64 = .ok (.dup, 1) := by decide +kernel
theorem dX2_addHandler_65 : decode cX2_addHandler 65 = .ok (.getfield 18, 3) := by decide +kernel
theorem dX2_addHandler_68 : decode cX2_addHandler 68 = .ok (.iconst 1, 1) := by decide +kernel
theorem dX2_addHandler_69 : decode cX2_addHandler 69 = .ok (.iadd, 1) := by decide +kernel
theorem dX2_addHandler_70 : decode cX2_addHandler 70 = .ok (.putfield 18, 3) := by decide +kernel
theorem dX2_addHandler_73 : decode cX2_addHandler 73 = .ok (.iconst 0, 1) := by decide +kernel
theorem dX2_addHandler_74 : decode cX2_addHandler 74 = .ok (.ireturn, 1) := by decide +kernel
theorem dX2_dropHandler_0 : decode cX2_dropHandler 0 = .ok (.aload_n 0, 1) := by decide +kernel
theorem dX2_dropHandler_1 : decode cX2_dropHandler 1 = .ok (.getfield 18, 3) := by decide +kernel
theorem dX2_dropHandler_4 : decode cX2_dropHandler 4 = .ok (.ifCond .gt 6, 3) := by decide +kernel
theorem dX2_dropHandler_7 : decode cX2_dropHandler 7 = .ok (.bipush 11, 2) := by decide +kernel
theorem dX2_dropHandler_9 : decode cX2_dropHandler 9 = .ok (.ireturn, 1) := by decide +kernel
theorem dX2_dropHandler_10 : decode cX2_dropHandler 10 = .ok (.aload_n 0, 1) := by decide +kernel
theorem dX2_dropHandler_11 : decode cX2_dropHandler 11 = .ok (.dup, 1) := by decide +kernel
theorem dX2_dropHandler_12 : decode cX2_dropHandler 12 = .ok (.getfield 18, 3) := by decide +kernel
theorem dX2_dropHandler_15 : decode cX2_dropHandler 15 = .ok (.iconst 1, 1) := by decide +kernel
theorem dX2_dropHandler_16 : decode cX2_dropHandler 16 = .ok (.isub, 1) := by decide +kernel
theorem dX2_dropHandler_17 : decode cX2_dropHandler 17 = .ok (.putfield 18, 3) := by decide +kernel
theorem dX2_dropHandler_20 : decode cX2_dropHandler 20 = .ok (.iconst 0, 1) := by decide +kernel
theorem dX2_dropHandler_21 : decode cX2_dropHandler 21 = .ok (.ireturn, 1) := by decide +kernel
theorem dX2_handle_0 : decode cX2_handle 0 = .ok (.aload_n 0, 1) := by decide +kernel
theorem dX2_handle_1 : decode cX2_handle 1 = .ok (.getfield 18, 3) := by decide +kernel
theorem dX2_handle_4 : decode cX2_handle 4 = .ok (.ifCond .gt 5, 3) := by decide +kernel
theorem dX2_handle_7 : decode cX2_handle 7 = .ok (.iconst 0, 1) := by decide +kernel
theorem dX2_handle_8 : decode cX2_handle 8 = .ok (.ireturn, 1) := by decide +kernel
theorem dX2_handle_9 : decode cX2_handle 9 = .ok (.aload_n 0, 1) := by decide +kernel
theorem dX2_handle_10 : decode cX2_handle 10 = .ok (.dup, 1) := by decide +kernel
theorem dX2_handle_11 : decode cX2_handle 11 = .ok (.getfield 18, 3) := by decide +kernel
theorem dX2_handle_14 : decode cX2_handle 14 = .ok (.iconst 1, 1) := by decide +kernel
theorem dX2_handle_15 : decode cX2_handle 15 = .ok (.isub, 1) := by decide +kernel
theorem dX2_handle_16 : decode cX2_handle 16 = .ok (.putfield 18, 3) := by decide +kernel
theorem dX2_handle_19 : decode cX2_handle 19 = .ok (.aload_n 0, 1) := by decide +kernel
theorem dX2_handle_20 : decode cX2_handle 20 = .ok (.getfield 41, 3) := by decide +kernel
theorem dX2_handle_23 : decode cX2_handle 23 = .ok (.aload_n 0, 1) := by decide +kernel
theorem dX2_handle_24 : decode cX2_handle 24 = .ok (.getfield 41, 3) := by decide +kernel
theorem dX2_handle_27 : decode cX2_handle 27 = .ok (.getfield 54, 3) := by decide +kernel
theorem dX2_handle_30 : decode cX2_handle 30 = .ok (.aload_n 0, 1) := by decide +kernel
theorem dX2_handle_31 : decode cX2_handle 31 = .ok (.getfield 15, 3) := by decide +kernel
theorem dX2_handle_34 : decode cX2_handle 34 = .ok (.aload_n 0, 1) := by decide +kernel
theorem dX2_handle_35 : decode cX2_handle 35 = .ok (.getfield 18, 3) := by decide +kernel
theorem dX2_handle_38 : decode cX2_handle 38 = .ok (.iaload, 1) := by decide +kernel
theorem dX2_handle_39 : decode cX2_handle 39 = .ok (.invokestatic 66, 3) := by decide +kernel
theorem dX2_handle_42 : decode cX2_handle 42 = .ok (.putfield 54, 3) := by decide +kernel
theorem dX2_handle_45 : decode cX2_handle 45 = .ok (.aload_n 0, 1) := by decide +kernel
theorem dX2_handle_46 : decode cX2_handle 46 = .ok (.getfield 41, 3) := by decide +kernel
theorem dX2_handle_49 : decode cX2_handle 49 = .ok (.iload_n 1, 1) := by decide +kernel
theorem dX2_handle_50 : decode cX2_handle 50 = .ok (.i2l, 1) := by decide +kernel
theorem dX2_handle_51 : decode cX2_handle 51 = .ok (.invokevirtual 72, 3) := by decide +kernel
theorem dX2_handle_54 : decode cX2_handle 54 = .ok (.pop, 1) := by decide +kernel
theorem dX2_handle_55 : decode cX2_handle 55 = .ok (.aload_n 0, 1) := by decide +kernel
theorem dX2_handle_56 : decode cX2_handle 56 = .ok (.aload_n 0, 1) := by decide +kernel
theorem dX2_handle_57 : decode cX2_handle 57 = .ok (.getfield 9, 3) := by decide +kernel
theorem dX2_handle_60 : decode cX2_handle 60 = .ok (.aload_n 0, 1) := by decide +kernel
theorem dX2_handle_61 : decode cX2_handle 61 = .ok (.getfield 18, 3) := by decide +kernel
theorem dX2_handle_64 : decode cX2_handle 64 = .ok (.iaload, 1) := by decide +kernel
theorem dX2_handle_65 : decode cX2_handle 65 = .ok (.putfield 28, 3) := by decide +kernel
theorem dX2_handle_68 : decode cX2_handle 68 = .ok (.iconst 1, 1) := by decide +kernel
theorem dX2_handle_69 : decode cX2_handle 69 = .ok (.ireturn, 1) := by decide +kernel
theorem dX3_init_0 : decode cX3_init 0 = .ok (.aload_n 0, 1) := by decide +kernel
theorem dX3_init_1 : decode cX3_init 1 = .ok (.invokespecial 3, 3) := by decide +kernel
theorem dX3_init_4 : decode cX3_init 4 = .ok (.aload_n 0, 1) := by decide +kernel
theorem dX3_init_5 : decode cX3_init 5 = .ok (.bipush 64, 2) := by decide +kernel
theorem dX3_init_7 : decode cX3_init 7 = .ok (.newarray .long, 2) := by decide +kernel
theorem dX3_init_9 : decode cX3_init 9 = .ok (.putfield 9, 3) := by decide +kernel
theorem dX3_init_12 : decode cX3_init 12 = .ok (.aload_n 0, 1) := by decide +kernel
theorem dX3_init_13 : decode cX3_init 13 = .ok (.bipush 8, 2) := by decide +kernel
theorem dX3_init_15 : decode cX3_init 15 = .ok (.newarray .long, 2) := by decide +kernel
theorem dX3_init_17 : decode cX3_init 17 = .ok (.putfield 15, 3) := by decide +kernel
theorem dX3_init_20 : decode cX3_init 20 = .ok (.aload_n 0, 1) := by decide +kernel
theorem dX3_init_21 : decode cX3_init 21 = .ok (.bipush 40, 2) := by decide +kernel
theorem dX3_init_23 : decode cX3_init 23 = .ok (.newarray .int, 2) := by decide +kernel
theorem dX3_init_25 : decode cX3_init 25 = .ok (.putfield 18, 3) := by decide +kernel
theorem dX3_init_28 : decode cX3_init 28 = .ok (.aload_n 0, 1) := by decide +kernel
theorem dX3_init_29 : decode cX3_init 29 = .ok (.bipush 40, 2) := by decide +kernel
theorem dX3_init_31 : decode cX3_init 31 = .ok (.newarray .long, 2) := by decide +kernel
theorem dX3_init_33 : decode cX3_init 33 = .ok (.putfield 22, 3) := by decide +kernel
theorem dX3_init_36 : decode cX3_init 36 = .ok (.aload_n 0, 1) := by decide +kernel
theorem dX3_init_37 : decode cX3_init 37 = .ok (.iconst 0, 1) := by decide +kernel
theorem dX3_init_38 : decode cX3_init 38 = .ok (.putfield 25, 3) := by decide +kernel
theorem dX3_init_41 : decode cX3_init 41 = .ok (.aload_n 0, 1) := by decide +kernel
theorem dX3_init_42 : decode cX3_init 42 = .ok (.bipush 10, 2) := by decide +kernel
theorem dX3_init_44 : decode cX3_init 44 = .ok (.bipush 64, 2) := by decide +kernel
theorem dX3_init_46 : decode cX3_init 46 = .ok (.multianewarray 29 2, 4) := by decide +kernel
theorem dX3_init_50 : decode cX3_init 50 = .ok (.putfield 31, 3) := by decide +kernel
theorem dX3_init_53 : decode cX3_init 53 = .ok (.aload_n 0, 1) := by decide +kernel
theorem dX3_init_54 : decode cX3_init 54 = .ok (.bipush 10, 2) := by decide +kernel
theorem dX3_init_56 : decode cX3_init 56 = .ok (.bipush 8, 2) := by decide +kernel
theorem dX3_init_58 : decode cX3_init 58 = .ok (.multianewarray 29 2, 4) := by decide +kernel
theorem dX3_init_62 : decode cX3_init 62 = .ok (.putfield 34, 3) := by decide +kernel
theorem dX3_init_65 : decode cX3_init 65 = .ok (.aload_n 0, 1) := by decide +kernel
theorem dX3_init_66 : decode cX3_init 66 = .ok (.bipush 10, 2) := by decide +kernel
theorem dX3_init_68 : decode cX3_init 68 = .ok (.newarray .int, 2) := by decide +kernel
theorem dX3_init_70 : decode cX3_init 70 = .ok (.putfield 37, 3) := by decide +kernel
theorem dX3_init_73 : decode cX3_init 73 = .ok (.return_, 1) := by decide +kernel
theorem dX3_hasEvent_0 : decode cX3_hasEvent 0 = .ok (.iload_n 1, 1) := by decide +kernel
theorem dX3_hasEvent_1 : decode cX3_hasEvent 1 = .ok (.ifCond .lt 15, 3) := by decide +kernel
theorem dX3_hasEvent_4 : decode cX3_hasEvent 4 = .ok (.iload_n 1, 1) := by decide +kernel
theorem dX3_hasEvent_5 : decode cX3_hasEvent 5 = .ok (.aload_n 0, 1) := by decide +kernel
theorem dX3_hasEvent_6 : decode cX3_hasEvent 6 = .ok (.getfield 25, 3) := by decide +kernel
theorem dX3_hasEvent_9 : decode cX3_hasEvent 9 = .ok (.if_icmp .ge 7, 3) := by decide +kernel
theorem dX3_hasEvent_12 : decode cX3_hasEvent 12 = .ok (.iconst 1, 1) := by decide +kernel
theorem dX3_hasEvent_13 : decode cX3_hasEvent 13 = .ok (.goto 4, 3) := by decide +kernel
theorem dX3_hasEvent_16 : decode cX3_hasEvent 16 = .ok (.iconst 0, 1) := by decide +kernel
theorem dX3_hasEvent_17 : decode cX3_hasEvent 17 = .ok (.ireturn, 1) := by decide +kernel
theorem dX3_addEvent_0 : decode cX3_addEvent 0 = .ok (.aload_n 0, 1) := by decide +kernel
theorem dX3_addEvent_1 : decode cX3_addEvent 1 = .ok (.getfield 25, 3) := by decide +kernel
theorem dX3_addEvent_4 : decode cX3_addEvent 4 = .ok (.bipush 40, 2) := by decide +kernel
theorem dX3_addEvent_6 : decode cX3_addEvent 6 = .ok (.if_icmp .lt 5, 3) := by decide +kernel
theorem dX3_addEvent_9 : decode cX3_addEvent 9 = .ok (.iconst 0, 1) := by decide +kernel
theorem dX3_addEvent_10 : decode cX3_addEvent 10 = .ok (.ireturn, 1) := by decide +kernel
theorem dX3_addEvent_11 : decode cX3_addEvent 11 = .ok (.aload_n 0, 1) := by decide +kernel
theorem dX3_addEvent_12 : decode cX3_addEvent 12 = .ok (.getfield 18, 3) := by decide +kernel
theorem dX3_addEvent_15 : decode cX3_addEvent 15 = .ok (.aload_n 0, 1) := by decide +kernel
theorem dX3_addEvent_16 : decode cX3_addEvent 16 = .ok (.getfield 25, 3) := by decide +kernel
theorem dX3_addEvent_19 : decode cX3_addEvent 19 = .ok (.iload_n 1, 1) := by decide +kernel
theorem dX3_addEvent_20 : decode cX3_addEvent 20 = .ok (.iastore, 1) := by decide +kernel
theorem dX3_addEvent_21 : decode cX3_addEvent 21 = .ok (.aload_n 0, 1) := by decide +kernel
theorem dX3_addEvent_22 : decode cX3_addEvent 22 = .ok (.getfield 22, 3) := by decide +kernel
theorem dX3_addEvent_25 : decode cX3_addEvent 25 = .ok (.aload_n 0, 1) := by decide +kernel
theorem dX3_addEvent_26 : decode cX3_addEvent 26 = .ok (.getfield 25, 3) := by decide +kernel
theorem dX3_addEvent_29 : decode cX3_addEvent 29 = .ok (.lload_n 2, 1) := by decide +kernel
theorem dX3_addEvent_30 : decode cX3_addEvent 30 = .ok (.lastore, 1) := by decide +kernel
theorem dX3_addEvent_31 : decode cX3_addEvent 31 = .ok (.aload_n 0, 1) := by decide +kernel
theorem dX3_addEvent_32 : decode cX3_addEvent 32 = .ok (.dup, 1) := by decide +kernel
theorem dX3_addEvent_33 : decode cX3_addEvent 33 = .ok (.getfield 25, 3) := by decide +kernel
theorem dX3_addEvent_36 : decode cX3_addEvent 36 = .ok (.iconst 1, 1) := by decide +kernel
theorem dX3_addEvent_37 : decode cX3_addEvent 37 = .ok (.iadd, 1) := by decide +kernel
theorem dX3_addEvent_38 : decode cX3_addEvent 38 = .ok (.putfield 25, 3) := by decide +kernel
theorem dX3_addEvent_41 : decode cX3_addEvent 41 = .ok (.iconst 1, 1) := by decide +kernel
theorem dX3_addEvent_42 : decode cX3_addEvent 42 = .ok (.ireturn, 1) := by decide +kernel
theorem dX3_canMove_0 : decode cX3_canMove 0 = .ok (.iload_n 1, 1) := by decide +kernel
theorem dX3_canMove_1 : decode cX3_canMove 1 = .ok (.iload_n 2, 1) := by decide +kernel
theorem dX3_canMove_2 : decode cX3_canMove 2 = .ok (.if_icmp .eq 18, 3) := by decide +kernel
theorem dX3_canMove_5 : decode cX3_canMove 5 = .ok (.aload_n 0, 1) := by decide +kernel
theorem dX3_canMove_6 : decode cX3_canMove 6 = .ok (.getfield 15, 3) := by decide +kernel
theorem dX3_canMove_9 : decode cX3_canMove 9 = .ok (.iload_n 2, 1) := by decide +kernel
theorem dX3_canMove_10 : decode cX3_canMove 10 = .ok (.laload, 1) := by decide +kernel
theorem dX3_canMove_11 : decode cX3_canMove 11 = .ok (.ldc2_w 42, 3) := by decide +kernel
theorem dX3_canMove_14 : decode cX3_canMove 14 = .ok (.lload_n 3, 1) := by decide +kernel
theorem dX3_canMove_15 : decode cX3_canMove 15 = .ok (.lsub, 1) := by decide +kernel
theorem dX3_canMove_16 : decode cX3_canMove 16 = .ok (.lcmp, 1) := by decide +kernel
theorem dX3_canMove_17 : decode cX3_canMove 17 = .ok (.ifCond .gt 7, 3) := by decide +kernel
theorem dX3_canMove_20 : decode cX3_canMove 20 = .ok (.iconst 1, 1) := by decide +kernel
theorem dX3_canMove_21 : decode cX3_canMove 21 = .ok (.goto 4, 3) := by decide +kernel
theorem dX3_canMove_24 : decode cX3_canMove 24 = .ok (.iconst 0, 1) := by decide +kernel
theorem dX3_canMove_25 : decode cX3_canMove 25 = .ok (.ireturn, 1) := by decide +kernel
theorem dX3_move_0 : decode cX3_move 0 = .ok (.aload_n 0, 1) := by decide +kernel
theorem dX3_move_1 : decode cX3_move 1 = .ok (.getfield 15, 3) := by decide +kernel
theorem dX3_move_4 : decode cX3_move 4 = .ok (.iload_n 1, 1) := by decide +kernel
theorem dX3_move_5 : decode cX3_move 5 = .ok (.dup2, 1) := by decide +kernel
theorem dX3_move_6 : decode cX3_move 6 = .ok (.laload, 1) := by decide +kernel
theorem dX3_move_7 : decode cX3_move 7 = .ok (.lload_n 3, 1) := by decide +kernel
theorem dX3_move_8 : decode cX3_move 8 = .ok (.lsub, 1) := by decide +kernel
theorem dX3_move_9 : decode cX3_move 9 = .ok (.lastore, 1) := by decide +kernel
theorem dX3_move_10 : decode cX3_move 10 = .ok (.aload_n 0, 1) := by decide +kernel
theorem dX3_move_11 : decode cX3_move 11 = .ok (.getfield 15, 3) := by decide +kernel
theorem dX3_move_14 : decode cX3_move 14 = .ok (.iload_n 2, 1) := by decide +kernel
theorem dX3_move_15 : decode cX3_move 15 = .ok (.dup2, 1) := by decide +kernel
theorem dX3_move_16 : decode cX3_move 16 = .ok (.laload, 1) := by decide +kernel
theorem dX3_move_17 : decode cX3_move 17 = .ok (.lload_n 3, 1) := by decide +kernel
theorem dX3_move_18 : decode cX3_move 18 = .ok (.ladd, 1) := by decide +kernel
theorem dX3_move_19 : decode cX3_move 19 = .ok (.lastore, 1) := by decide +kernel
theorem dX3_move_20 : decode cX3_move 20 = .ok (.return_, 1) := by decide +kernel
theorem dX3_keep_0 : decode cX3_keep 0 = .ok (.aload_n 0, 1) := by decide +kernel
theorem dX3_keep_1 : decode cX3_keep 1 = .ok (.getfield 9, 3) := by decide +kernel
theorem dX3_keep_4 : decode cX3_keep 4 = .ok (.iconst 0, 1) := by decide +kernel
theorem dX3_keep_5 : decode cX3_keep 5 = .ok (.aload_n 0, 1) := by decide +kernel
theorem dX3_keep_6 : decode cX3_keep 6 = .ok (.getfield 31, 3) := by decide +kernel
theorem dX3_keep_9 : decode cX3_keep 9 = .ok (.iload_n 1, 1) := by decide +kernel
theorem dX3_keep_10 : decode cX3_keep 10 = .ok (.aaload, 1) := by decide +kernel
theorem dX3_keep_11 : decode cX3_keep 11 = .ok (.iconst 0, 1) := by decide +kernel
theorem dX3_keep_12 : decode cX3_keep 12 = .ok (.bipush 64, 2) := by decide +kernel
theorem dX3_keep_14 : decode cX3_keep 14 = .ok (.invokestatic 44, 3) := by decide +kernel
theorem dX3_keep_17 : decode cX3_keep 17 = .ok (.aload_n 0, 1) := by decide +kernel
theorem dX3_keep_18 : decode cX3_keep 18 = .ok (.getfield 15, 3) := by decide +kernel
theorem dX3_keep_21 : decode cX3_keep 21 = .ok (.iconst 0, 1) := by decide +kernel
theorem dX3_keep_22 : decode cX3_keep 22 = .ok (.aload_n 0, 1) := by decide +kernel
theorem dX3_keep_23 : decode cX3_keep 23 = .ok (.getfield 34, 3) := by decide +kernel
theorem dX3_keep_26 : decode cX3_keep 26 = .ok (.iload_n 1, 1) := by decide +kernel
theorem dX3_keep_27 : decode cX3_keep 27 = .ok (.aaload, 1) := by decide +kernel
theorem dX3_keep_28 : decode cX3_keep 28 = .ok (.iconst 0, 1) := by decide +kernel
theorem dX3_keep_29 : decode cX3_keep 29 = .ok (.bipush 8, 2) := by decide +kernel
theorem dX3_keep_31 : decode cX3_keep 31 = .ok (.invokestatic 44, 3) := by decide +kernel
theorem dX3_keep_34 : decode cX3_keep 34 = .ok (.aload_n 0, 1) := by decide +kernel
theorem dX3_keep_35 : decode cX3_keep 35 = .ok (.getfield 37, 3) := by decide +kernel
theorem dX3_keep_38 : decode cX3_keep 38 = .ok (.iload_n 1, 1) := by decide +kernel
theorem dX3_keep_39 : decode cX3_keep 39 = .ok (.aload_n 0, 1) := by decide +kernel
theorem dX3_keep_40 : decode cX3_keep 40 = .ok (.getfield 25, 3) := by decide +kernel
theorem dX3_keep_43 : decode cX3_keep 43 = .ok (.iastore, 1) := by decide +kernel
theorem dX3_keep_44 : decode cX3_keep 44 = .ok (.return_, 1) := by decide +kernel
theorem dX3_restore_0 : decode cX3_restore 0 = .ok (.aload_n 0, 1) := by decide +kernel
theorem dX3_restore_1 : decode cX3_restore 1 = .ok (.getfield 31, 3) := by decide +kernel
theorem dX3_restore_4 : decode cX3_restore 4 = .ok (.iload_n 1, 1) := by decide +kernel
theorem dX3_restore_5 : decode cX3_restore 5 = .ok (.aaload, 1) := by decide +kernel
theorem dX3_restore_6 : decode cX3_restore 6 = .ok (.iconst 0, 1) := by decide +kernel
theorem dX3_restore_7 : decode cX3_restore 7 = .ok (.aload_n 0, 1) := by decide +kernel
theorem dX3_restore_8 : decode cX3_restore 8 = .ok (.getfield 9, 3) := by decide +kernel
theorem dX3_restore_11 : decode cX3_restore 11 = .ok (.iconst 0, 1) := by decide +kernel
theorem dX3_restore_12 : decode cX3_restore 12 = .ok (.bipush 64, 2) := by decide +kernel
theorem dX3_restore_14 : decode cX3_restore 14 = .ok (.invokestatic 44, 3) := by decide +kernel
theorem dX3_restore_17 : decode cX3_restore 17 = .ok (.aload_n 0, 1) := by decide +kernel
theorem dX3_restore_18 : decode cX3_restore 18 = .ok (.getfield 34, 3) := by decide +kernel
theorem dX3_restore_21 : decode cX3_restore 21 = .ok (.iload_n 1, 1) := by decide +kernel
theorem dX3_restore_22 : decode cX3_restore 22 = .ok (.aaload, 1) := by decide +kernel
theorem dX3_restore_23 : decode cX3_restore 23 = .ok (.iconst 0, 1) := by decide +kernel
theorem dX3_restore_24 : decode cX3_restore 24 = .ok (.aload_n 0, 1) := by decide +kernel
theorem dX3_restore_25 : decode cX3_restore 25 = .ok (.getfield 15, 3) := by decide +kernel
theorem dX3_restore_28 : decode cX3_restore 28 = .ok (.iconst 0, 1) := by decide +kernel
theorem dX3_restore_29 : decode cX3_restore 29 = .ok (.bipush 8, 2) := by decide +kernel
theorem dX3_restore_31 : decode cX3_restore 31 = .ok (.invokestatic 44, 3) := by decide +kernel
theorem dX3_restore_34 : decode cX3_restore 34 = .ok (.aload_n 0, 1) := by decide +kernel
theorem dX3_restore_35 : decode cX3_restore 35 = .ok (.aload_n 0, 1) := by decide +kernel
theorem dX3_restore_36 : decode cX3_restore 36 = .ok (.getfield 37, 3) := by decide +kernel
theorem dX3_restore_39 : decode cX3_restore 39 = .ok (.iload_n 1, 1) := by decide +kernel
theorem dX3_restore_40 : decode cX3_restore 40 = .ok (.iaload, 1) := by decide +kernel
theorem dX3_restore_41 : decode cX3_restore 41 = .ok (.putfield 25, 3) := by decide +kernel
theorem dX3_restore_44 : decode cX3_restore 44 = .ok (.return_, 1) := by decide +kernel
theorem dX4_init_0 : decode cX4_init 0 = .ok (.aload_n 0, 1) := by decide +kernel
theorem dX4_init_1 : decode cX4_init 1 = .ok (.invokespecial 3, 3) := by decide +kernel
theorem dX4_init_4 : decode cX4_init 4 = .ok (.aload_n 0, 1) := by decide +kernel
theorem dX4_init_5 : decode cX4_init 5 = .ok (.bipush 12, 2) := by decide +kernel
theorem dX4_init_7 : decode cX4_init 7 = .ok (.newarray .int, 2) := by decide +kernel
theorem dX4_init_9 : decode cX4_init 9 = .ok (.putfield 9, 3) := by decide +kernel
theorem dX4_init_12 : decode cX4_init 12 = .ok (.aload_n 0, 1) := by decide +kernel
theorem dX4_init_13 : decode cX4_init 13 = .ok (.bipush 12, 2) := by decide +kernel
theorem dX4_init_15 : decode cX4_init 15 = .ok (.newarray .long, 2) := by decide +kernel
theorem dX4_init_17 : decode cX4_init 17 = .ok (.putfield 15, 3) := by decide +kernel
theorem dX4_init_20 : decode cX4_init 20 = .ok (.aload_n 0, 1) := by decide +kernel
theorem dX4_init_21 : decode cX4_init 21 = .ok (.iconst 0, 1) := by decide +kernel
theorem dX4_init_22 : decode cX4_init 22 = .ok (.putfield 19, 3) := by decide +kernel
theorem dX4_init_25 : decode cX4_init 25 = .ok (.aload_n 0, 1) := by decide +kernel
theorem dX4_init_26 : decode cX4_init 26 = .ok (.iconst 0, 1) := by decide +kernel
theorem dX4_init_27 : decode cX4_init 27 = .ok (.putfield 23, 3) := by decide +kernel
theorem dX4_init_30 : decode cX4_init 30 = .ok (.return_, 1) := by decide +kernel
theorem dX4_allows_0 : decode cX4_allows 0 = .ok (.aload_n 0, 1) := by decide +kernel
theorem dX4_allows_1 : decode cX4_allows 1 = .ok (.getfield 19, 3) := by decide +kernel
theorem dX4_allows_4 : decode cX4_allows 4 = .ok (.iload_n 1, 1) := by decide +kernel
theorem dX4_allows_5 : decode cX4_allows 5 = .ok (.if_icmp .lt 20, 3) := by decide +kernel
theorem dX4_allows_8 : decode cX4_allows 8 = .ok (.aload_n 0, 1) := by decide +kernel
theorem dX4_allows_9 : decode cX4_allows 9 = .ok (.getfield 19, 3) := by decide +kernel
theorem dX4_allows_12 : decode cX4_allows 12 = .ok (.iload_n 1, 1) := by decide +kernel
theorem dX4_allows_13 : decode cX4_allows 13 = .ok (.isub, 1) := by decide +kernel
theorem dX4_allows_14 : decode cX4_allows 14 = .ok (.iload_n 2, 1) := by decide +kernel
theorem dX4_allows_15 : decode cX4_allows 15 = .ok (.iadd, 1) := by decide +kernel
theorem dX4_allows_16 : decode cX4_allows 16 = .ok (.bipush 12, 2) := by decide +kernel
theorem dX4_allows_18 : decode cX4_allows 18 = .ok (.if_icmp .gt 7, 3) := by decide +kernel
theorem dX4_allows_21 : decode cX4_allows 21 = .ok (.iconst 1, 1) := by decide +kernel
theorem dX4_allows_22 : decode cX4_allows 22 = .ok (.goto 4, 3) := by decide +kernel
theorem dX4_allows_25 : decode cX4_allows 25 = .ok (.iconst 0, 1) := by decide +kernel
theorem dX4_allows_26 : decode cX4_allows 26 = .ok (.ireturn, 1) := by decide +kernel
theorem dX4_take_0 : decode cX4_take 0 = .ok (.aload_n 0, 1) := by decide +kernel
theorem dX4_take_1 : decode cX4_take 1 = .ok (.aload_n 0, 1) := by decide +kernel
theorem dX4_take_2 : decode cX4_take 2 = .ok (.getfield 19, 3) := by decide +kernel
theorem dX4_take_5 : decode cX4_take 5 = .ok (.putfield 23, 3) := by decide +kernel
theorem dX4_take_8 : decode cX4_take 8 = .ok (.aload_n 0, 1) := by decide +kernel
theorem dX4_take_9 : decode cX4_take 9 = .ok (.iconst 0, 1) := by decide +kernel
theorem dX4_take_10 : decode cX4_take 10 = .ok (.aload_n 0, 1) := by decide +kernel
theorem dX4_take_11 : decode cX4_take 11 = .ok (.getfield 19, 3) := by decide +kernel
theorem dX4_take_14 : decode cX4_take 14 = .ok (.iload_n 1, 1) := by decide +kernel
theorem dX4_take_15 : decode cX4_take 15 = .ok (.isub, 1) := by decide +kernel
theorem dX4_take_16 : decode cX4_take 16 = .ok (.invokestatic 26, 3) := by decide +kernel
theorem dX4_take_19 : decode cX4_take 19 = .ok (.putfield 19, 3) := by decide +kernel
theorem dX4_take_22 : decode cX4_take 22 = .ok (.return_, 1) := by decide +kernel
theorem dX4_tookKind_0 : decode cX4_tookKind 0 = .ok (.aload_n 0, 1) := by decide +kernel
theorem dX4_tookKind_1 : decode cX4_tookKind 1 = .ok (.getfield 23, 3) := by decide +kernel
theorem dX4_tookKind_4 : decode cX4_tookKind 4 = .ok (.iconst 1, 1) := by decide +kernel
theorem dX4_tookKind_5 : decode cX4_tookKind 5 = .ok (.isub, 1) := by decide +kernel
theorem dX4_tookKind_6 : decode cX4_tookKind 6 = .ok (.iload_n 1, 1) := by decide +kernel
theorem dX4_tookKind_7 : decode cX4_tookKind 7 = .ok (.isub, 1) := by decide +kernel
theorem dX4_tookKind_8 : decode cX4_tookKind 8 = .ok (.istore_n 2, 1) := by decide +kernel
theorem dX4_tookKind_9 : decode cX4_tookKind 9 = .ok (.iload_n 2, 1) := by decide +kernel
theorem dX4_tookKind_10 : decode cX4_tookKind 10 = .ok (.ifCond .lt 18, 3) := by decide +kernel
theorem dX4_tookKind_13 : decode cX4_tookKind 13 = .ok (.iload_n 2, 1) := by decide +kernel
theorem dX4_tookKind_14 : decode cX4_tookKind 14 = .ok (.bipush 12, 2) := by decide +kernel
theorem dX4_tookKind_16 : decode cX4_tookKind 16 = .ok (.if_icmp .ge 12, 3) := by decide +kernel
theorem dX4_tookKind_19 : decode cX4_tookKind 19 = .ok (.aload_n 0, 1) := by decide +kernel
theorem dX4_tookKind_20 : decode cX4_tookKind 20 = .ok (.getfield 9, 3) := by decide +kernel
theorem dX4_tookKind_23 : decode cX4_tookKind 23 = .ok (.iload_n 2, 1) := by decide +kernel
theorem dX4_tookKind_24 : decode cX4_tookKind 24 = .ok (.iaload, 1) := by decide +kernel
theorem dX4_tookKind_25 : decode cX4_tookKind 25 = .ok (.goto 4, 3) := by decide +kernel
theorem dX4_tookKind_28 : decode cX4_tookKind 28 = .ok (.iconst 3, 1) := by decide +kernel
theorem dX4_tookKind_29 : decode cX4_tookKind 29 = .ok (.ireturn, 1) := by decide +kernel
theorem dX4_took_0 : decode cX4_took 0 = .ok (.aload_n 0, 1) := by decide +kernel
theorem dX4_took_1 : decode cX4_took 1 = .ok (.getfield 23, 3) := by decide +kernel
theorem dX4_took_4 : decode cX4_took 4 = .ok (.iconst 1, 1) := by decide +kernel
theorem dX4_took_5 : decode cX4_took 5 = .ok (.isub, 1) := by decide +kernel
theorem dX4_took_6 : decode cX4_took 6 = .ok (.iload_n 1, 1) := by decide +kernel
theorem dX4_took_7 : decode cX4_took 7 = .ok (.isub, 1) := by decide +kernel
theorem dX4_took_8 : decode cX4_took 8 = .ok (.istore_n 2, 1) := by decide +kernel
theorem dX4_took_9 : decode cX4_took 9 = .ok (.iload_n 2, 1) := by decide +kernel
theorem dX4_took_10 : decode cX4_took 10 = .ok (.ifCond .lt 18, 3) := by decide +kernel
theorem dX4_took_13 : decode cX4_took 13 = .ok (.iload_n 2, 1) := by decide +kernel
theorem dX4_took_14 : decode cX4_took 14 = .ok (.bipush 12, 2) := by decide +kernel
theorem dX4_took_16 : decode cX4_took 16 = .ok (.if_icmp .ge 12, 3) := by decide +kernel
theorem dX4_took_19 : decode cX4_took 19 = .ok (.aload_n 0, 1) := by decide +kernel
theorem dX4_took_20 : decode cX4_took 20 = .ok (.getfield 15, 3) := by decide +kernel
theorem dX4_took_23 : decode cX4_took 23 = .ok (.iload_n 2, 1) := by decide +kernel
theorem dX4_took_24 : decode cX4_took 24 = .ok (.laload, 1) := by decide +kernel
theorem dX4_took_25 : decode cX4_took 25 = .ok (.goto 4, 3) := by decide +kernel
theorem dX4_took_28 : decode cX4_took 28 = .ok (.lconst 0, 1) := by decide +kernel
theorem dX4_took_29 : decode cX4_took 29 = .ok (.lreturn, 1) := by decide +kernel
theorem dX4_tookNumber_0 : decode cX4_tookNumber 0 = .ok (.aload_n 0, 1) := by decide +kernel
theorem dX4_tookNumber_1 : decode cX4_tookNumber 1 = .ok (.iload_n 1, 1) := by decide +kernel
theorem dX4_tookNumber_2 : decode cX4_tookNumber 2 = .ok (.invokevirtual 32, 3) := by decide +kernel
theorem dX4_tookNumber_5 : decode cX4_tookNumber 5 = .ok (.ifCond .ne 7, 3) := by decide +kernel
theorem dX4_tookNumber_8 : decode cX4_tookNumber 8 = .ok (.iconst 1, 1) := by decide +kernel
theorem dX4_tookNumber_9 : decode cX4_tookNumber 9 = .ok (.goto 4, 3) := by decide +kernel
theorem dX4_tookNumber_12 : decode cX4_tookNumber 12 = .ok (.iconst 0, 1) := by decide +kernel
theorem dX4_tookNumber_13 : decode cX4_tookNumber 13 = .ok (.ireturn, 1) := by decide +kernel
theorem dX4_put_0 : decode cX4_put 0 = .ok (.aload_n 0, 1) := by decide +kernel
theorem dX4_put_1 : decode cX4_put 1 = .ok (.getfield 19, 3) := by decide +kernel
theorem dX4_put_4 : decode cX4_put 4 = .ok (.ifCond .lt 12, 3) := by decide +kernel
theorem dX4_put_7 : decode cX4_put 7 = .ok (.aload_n 0, 1) := by decide +kernel
theorem dX4_put_8 : decode cX4_put 8 = .ok (.getfield 19, 3) := by decide +kernel
theorem dX4_put_11 : decode cX4_put 11 = .ok (.bipush 12, 2) := by decide +kernel
theorem dX4_put_13 : decode cX4_put 13 = .ok (.if_icmp .lt 6, 3) := by decide +kernel
theorem dX4_put_16 : decode cX4_put 16 = .ok (.bipush 11, 2) := by decide +kernel
theorem dX4_put_18 : decode cX4_put 18 = .ok (.ireturn, 1) := by decide +kernel
theorem dX4_put_19 : decode cX4_put 19 = .ok (.aload_n 0, 1) := by decide +kernel
theorem dX4_put_20 : decode cX4_put 20 = .ok (.getfield 9, 3) := by decide +kernel
theorem dX4_put_23 : decode cX4_put 23 = .ok (.aload_n 0, 1) := by decide +kernel
theorem dX4_put_24 : decode cX4_put 24 = .ok (.getfield 19, 3) := by decide +kernel
theorem dX4_put_27 : decode cX4_put 27 = .ok (.iload_n 1, 1) := by decide +kernel
theorem dX4_put_28 : decode cX4_put 28 = .ok (.iastore, 1) := by decide +kernel
theorem dX4_put_29 : decode cX4_put 29 = .ok (.aload_n 0, 1) := by decide +kernel
theorem dX4_put_30 : decode cX4_put 30 = .ok (.getfield 15, 3) := by decide +kernel
theorem dX4_put_33 : decode cX4_put 33 = .ok (.aload_n 0, 1) := by decide +kernel
theorem dX4_put_34 : decode cX4_put 34 = .ok (.getfield 19, 3) := by decide +kernel
theorem dX4_put_37 : decode cX4_put 37 = .ok (.lload_n 2, 1) := by decide +kernel
theorem dX4_put_38 : decode cX4_put 38 = .ok (.lastore, 1) := by decide +kernel
theorem dX4_put_39 : decode cX4_put 39 = .ok (.aload_n 0, 1) := by decide +kernel
theorem dX4_put_40 : decode cX4_put 40 = .ok (.dup, 1) := by decide +kernel
theorem dX4_put_41 : decode cX4_put 41 = .ok (.getfield 19, 3) := by decide +kernel
theorem dX4_put_44 : decode cX4_put 44 = .ok (.iconst 1, 1) := by decide +kernel
theorem dX4_put_45 : decode cX4_put 45 = .ok (.iadd, 1) := by decide +kernel
theorem dX4_put_46 : decode cX4_put 46 = .ok (.putfield 19, 3) := by decide +kernel
theorem dX4_put_49 : decode cX4_put 49 = .ok (.iconst 0, 1) := by decide +kernel
theorem dX4_put_50 : decode cX4_put 50 = .ok (.ireturn, 1) := by decide +kernel
theorem dX4_putNumber_0 : decode cX4_putNumber 0 = .ok (.aload_n 0, 1) := by decide +kernel
theorem dX4_putNumber_1 : decode cX4_putNumber 1 = .ok (.iconst 0, 1) := by decide +kernel
theorem dX4_putNumber_2 : decode cX4_putNumber 2 = .ok (.lload_n 1, 1) := by decide +kernel
theorem dX4_putNumber_3 : decode cX4_putNumber 3 = .ok (.invokevirtual 36, 3) := by decide +kernel
theorem dX4_putNumber_6 : decode cX4_putNumber 6 = .ok (.ireturn, 1) := by decide +kernel
theorem dX4_freeRow_0 : decode cX4_freeRow 0 = .ok (.iconst 0, 1) := by decide +kernel
theorem dX4_freeRow_1 : decode cX4_freeRow 1 = .ok (.istore_n 1, 1) := by decide +kernel
theorem dX4_freeRow_2 : decode cX4_freeRow 2 = .ok (.iconst 0, 1) := by decide +kernel
theorem dX4_freeRow_3 : decode cX4_freeRow 3 = .ok (.istore_n 2, 1) := by decide +kernel
theorem dX4_freeRow_4 : decode cX4_freeRow 4 = .ok (.iload_n 2, 1) := by decide +kernel
theorem dX4_freeRow_5 : decode cX4_freeRow 5 = .ok (.aload_n 0, 1) := by decide +kernel
theorem dX4_freeRow_6 : decode cX4_freeRow 6 = .ok (.getfield 19, 3) := by decide +kernel
theorem dX4_freeRow_9 : decode cX4_freeRow 9 = .ok (.if_icmp .ge 47, 3) := by decide +kernel
theorem dX4_freeRow_12 : decode cX4_freeRow 12 = .ok (.iload_n 2, 1) := by decide +kernel
theorem dX4_freeRow_13 : decode cX4_freeRow 13 = .ok (.bipush 12, 2) := by decide +kernel
theorem dX4_freeRow_15 : decode cX4_freeRow 15 = .ok (.if_icmp .ge 41, 3) := by decide +kernel
theorem dX4_freeRow_18 : decode cX4_freeRow 18 = .ok (.aload_n 0, 1) := by decide +kernel
theorem dX4_freeRow_19 : decode cX4_freeRow 19 = .ok (.getfield 9, 3) := by decide +kernel
theorem dX4_freeRow_22 : decode cX4_freeRow 22 = .ok (.iload_n 2, 1) := by decide +kernel
theorem dX4_freeRow_23 : decode cX4_freeRow 23 = .ok (.iaload, 1) := by decide +kernel
theorem dX4_freeRow_24 : decode cX4_freeRow 24 = .ok (.iconst 1, 1) := by decide +kernel
theorem dX4_freeRow_25 : decode cX4_freeRow 25 = .ok (.if_icmp .eq 13, 3) := by decide +kernel
theorem dX4_freeRow_28 : decode cX4_freeRow 28 = .ok (.aload_n 0, 1) := by decide +kernel
theorem dX4_freeRow_29 : decode cX4_freeRow 29 = .ok (.getfield 9, 3) := by decide +kernel
theorem dX4_freeRow_32 : decode cX4_freeRow 32 = .ok (.iload_n 2, 1) := by decide +kernel
theorem dX4_freeRow_33 : decode cX4_freeRow 33 = .ok (.iaload, 1) := by decide +kernel
theorem dX4_freeRow_34 : decode cX4_freeRow 34 = .ok (.iconst 2, 1) := by decide +kernel
theorem dX4_freeRow_35 : decode cX4_freeRow 35 = .ok (.if_icmp .ne 15, 3) := by decide +kernel
theorem dX4_freeRow_38 : decode cX4_freeRow 38 = .ok (.iload_n 1, 1) := by decide +kernel
theorem dX4_freeRow_39 : decode cX4_freeRow 39 = .ok (.iconst 1, 1) := by decide +kernel
theorem dX4_freeRow_40 : decode cX4_freeRow 40 = .ok (.aload_n 0, 1) := by decide +kernel
theorem dX4_freeRow_41 : decode cX4_freeRow 41 = .ok (.getfield 15, 3) := by decide +kernel
theorem dX4_freeRow_44 : decode cX4_freeRow 44 = .ok (.iload_n 2, 1) := by decide +kernel
theorem dX4_freeRow_45 : decode cX4_freeRow 45 = .ok (.laload, 1) := by decide +kernel
theorem dX4_freeRow_46 : decode cX4_freeRow 46 = .ok (.l2i, 1) := by decide +kernel
theorem dX4_freeRow_47 : decode cX4_freeRow 47 = .ok (.ishl, 1) := by decide +kernel
theorem dX4_freeRow_48 : decode cX4_freeRow 48 = .ok (.ior, 1) := by decide +kernel
theorem dX4_freeRow_49 : decode cX4_freeRow 49 = .ok (.istore_n 1, 1) := by decide +kernel
theorem dX4_freeRow_50 : decode cX4_freeRow 50 = .ok (.iinc 2 1, 3) := by decide +kernel
theorem dX4_freeRow_53 : decode cX4_freeRow 53 = .ok (.goto (-49), 3) := by decide +kernel
theorem dX4_freeRow_56 : decode cX4_freeRow 56 = .ok (.iconst 0, 1) := by decide +kernel
theorem dX4_freeRow_57 : decode cX4_freeRow 57 = .ok (.istore_n 2, 1) := by decide +kernel
theorem dX4_freeRow_58 : decode cX4_freeRow 58 = .ok (.iload_n 2, 1) := by decide +kernel
theorem dX4_freeRow_59 : decode cX4_freeRow 59 = .ok (.bipush 12, 2) := by decide +kernel
theorem dX4_freeRow_61 : decode cX4_freeRow 61 = .ok (.if_icmp .ge 19, 3) := by decide +kernel
theorem dX4_freeRow_64 : decode cX4_freeRow 64 = .ok (.iload_n 1, 1) := by decide +kernel
theorem dX4_freeRow_65 : decode cX4_freeRow 65 = .ok (.iload_n 2, 1) := by decide +kernel
theorem dX4_freeRow_66 : decode cX4_freeRow 66 = .ok (.ishr, 1) := by decide +kernel
theorem dX4_freeRow_67 : decode cX4_freeRow 67 = .ok (.iconst 1, 1) := by decide +kernel
theorem dX4_freeRow_68 : decode cX4_freeRow 68 = .ok (.iand, 1) := by decide +kernel
theorem dX4_freeRow_69 : decode cX4_freeRow 69 = .ok (.ifCond .ne 5, 3) := by decide +kernel
theorem dX4_freeRow_72 : decode cX4_freeRow 72 = .ok (.iload_n 2, 1) := by decide +kernel
theorem dX4_freeRow_73 : decode cX4_freeRow 73 = .ok (.ireturn, 1) := by decide +kernel
theorem dX4_freeRow_74 : decode cX4_freeRow 74 = .ok (.iinc 2 1, 3) := by decide +kernel
theorem dX4_freeRow_77 : decode cX4_freeRow 77 = .ok (.goto (-19), 3) := by decide +kernel
theorem dX4_freeRow_80 : decode cX4_freeRow 80 = .ok (.iconst (-1), 1) := by decide +kernel
theorem dX4_freeRow_81 : decode cX4_freeRow 81 = .ok (.ireturn, 1) := by decide +kernel
theorem dX5_init_0 : decode cX5_init 0 = .ok (.aload_n 0, 1) := by decide +kernel
theorem dX5_init_1 : decode cX5_init 1 = .ok (.invokespecial 3, 3) := by decide +kernel
theorem dX5_init_4 : decode cX5_init 4 = .ok (.aload_n 0, 1) := by decide +kernel
theorem dX5_init_5 : decode cX5_init 5 = .ok (.sipush 192, 3) := by decide +kernel
theorem dX5_init_8 : decode cX5_init 8 = .ok (.newarray .long, 2) := by decide +kernel
theorem dX5_init_10 : decode cX5_init 10 = .ok (.putfield 9, 3) := by decide +kernel
theorem dX5_init_13 : decode cX5_init 13 = .ok (.aload_n 0, 1) := by decide +kernel
theorem dX5_init_14 : decode cX5_init 14 = .ok (.bipush 12, 2) := by decide +kernel
theorem dX5_init_16 : decode cX5_init 16 = .ok (.newarray .int, 2) := by decide +kernel
theorem dX5_init_18 : decode cX5_init 18 = .ok (.putfield 15, 3) := by decide +kernel
theorem dX5_init_21 : decode cX5_init 21 = .ok (.aload_n 0, 1) := by decide +kernel
theorem dX5_init_22 : decode cX5_init 22 = .ok (.aload_n 1, 1) := by decide +kernel
theorem dX5_init_23 : decode cX5_init 23 = .ok (.putfield 19, 3) := by decide +kernel
theorem dX5_init_26 : decode cX5_init 26 = .ok (.return_, 1) := by decide +kernel
theorem dX5_putNew_0 : decode cX5_putNew 0 = .ok (.aload_n 0, 1) := by decide +kernel
theorem dX5_putNew_1 : decode cX5_putNew 1 = .ok (.getfield 19, 3) := by decide +kernel
theorem dX5_putNew_4 : decode cX5_putNew 4 = .ok (.iconst 0, 1) := by decide +kernel
theorem dX5_putNew_5 : decode cX5_putNew 5 = .ok (.invokevirtual 23, 3) := by decide +kernel
theorem dX5_putNew_8 : decode cX5_putNew 8 = .ok (.ifCond .ne 5, 3) := by decide +kernel
theorem dX5_putNew_11 : decode cX5_putNew 11 = .ok (.iconst 4, 1) := by decide +kernel
theorem dX5_putNew_12 : decode cX5_putNew 12 = .ok (.ireturn, 1) := by decide +kernel
theorem dX5_putNew_13 : decode cX5_putNew 13 = .ok (.aload_n 0, 1) := by decide +kernel
theorem dX5_putNew_14 : decode cX5_putNew 14 = .ok (.getfield 19, 3) := by decide +kernel
theorem dX5_putNew_17 : decode cX5_putNew 17 = .ok (.iconst 0, 1) := by decide +kernel
theorem dX5_putNew_18 : decode cX5_putNew 18 = .ok (.invokevirtual 29, 3) := by decide +kernel
theorem dX5_putNew_21 : decode cX5_putNew 21 = .ok (.lstore_n 2, 1) := by decide +kernel
theorem dX5_putNew_22 : decode cX5_putNew 22 = .ok (.lload_n 2, 1) := by decide +kernel
theorem dX5_putNew_23 : decode cX5_putNew 23 = .ok (.lconst 0, 1) := by decide +kernel
theorem dX5_putNew_24 : decode cX5_putNew 24 = .ok (.lcmp, 1) := by decide +kernel
theorem dX5_putNew_25 : decode cX5_putNew 25 = .ok (.ifCond .ge 5, 3) := by decide +kernel
theorem dX5_putNew_28 : decode cX5_putNew 28 = .ok (.iconst 5, 1) := by decide +kernel
theorem dX5_putNew_29 : decode cX5_putNew 29 = .ok (.ireturn, 1) := by decide +kernel
theorem dX5_putNew_30 : decode cX5_putNew 30 = .ok (.lload_n 2, 1) := by decide +kernel
theorem dX5_putNew_31 : decode cX5_putNew 31 = .ok (.ldc2_w 33, 3) := by decide +kernel
theorem dX5_putNew_34 : decode cX5_putNew 34 = .ok (.lcmp, 1) := by decide +kernel
theorem dX5_putNew_35 : decode cX5_putNew 35 = .ok (.ifCond .le 6, 3) := by decide +kernel
theorem dX5_putNew_38 : decode cX5_putNew 38 = .ok (.bipush 6, 2) := by decide +kernel
theorem dX5_putNew_40 : decode cX5_putNew 40 = .ok (.ireturn, 1) := by decide +kernel
theorem dX5_putNew_41 : decode cX5_putNew 41 = .ok (.aload_n 0, 1) := by decide +kernel
theorem dX5_putNew_42 : decode cX5_putNew 42 = .ok (.getfield 19, 3) := by decide +kernel
theorem dX5_putNew_45 : decode cX5_putNew 45 = .ok (.invokevirtual 35, 3) := by decide +kernel
theorem dX5_putNew_48 : decode cX5_putNew 48 = .ok (.istore 4, 2) := by decide +kernel
theorem dX5_putNew_50 : decode cX5_putNew 50 = .ok (.iload 4, 2) := by decide +kernel
theorem dX5_putNew_52 : decode cX5_putNew 52 = .ok (.ifCond .ge 6, 3) := by decide +kernel
theorem dX5_putNew_55 : decode cX5_putNew 55 = .ok (.bipush 11, 2) := by decide +kernel
theorem dX5_putNew_57 : decode cX5_putNew 57 = .ok (.ireturn, 1) := by decide +kernel
theorem dX5_putNew_58 : decode cX5_putNew 58 = .ok (.aload_n 0, 1) := by decide +kernel
theorem dX5_putNew_59 : decode cX5_putNew 59 = .ok (.getfield 15, 3) := by decide +kernel
theorem dX5_putNew_62 : decode cX5_putNew 62 = .ok (.iload 4, 2) := by decide +kernel
theorem dX5_putNew_64 : decode cX5_putNew 64 = .ok (.lload_n 2, 1) := by decide +kernel
theorem dX5_putNew_65 : decode cX5_putNew 65 = .ok (.l2i, 1) := by decide +kernel
theorem dX5_putNew_66 : decode cX5_putNew 66 = .ok (.iastore, 1) := by decide +kernel
theorem dX5_putNew_67 : decode cX5_putNew 67 = .ok (.iconst 0, 1) := by decide +kernel
theorem dX5_putNew_68 : decode cX5_putNew 68 = .ok (.istore 5, 2) := by decide +kernel
theorem dX5_putNew_70 : decode cX5_putNew 70 = .ok (.iload 5, 2) := by decide +kernel
theorem dX5_putNew_72 : decode cX5_putNew 72 = .ok (.i2l, 1) := by decide +kernel
theorem dX5_putNew_73 : decode cX5_putNew 73 = .ok (.lload_n 2, 1) := by decide +kernel
theorem dX5_putNew_74 : decode cX5_putNew 74 = .ok (.lcmp, 1) := by decide +kernel
theorem dX5_putNew_75 : decode cX5_putNew 75 = .ok (.ifCond .ge 23, 3) := by decide +kernel
theorem dX5_putNew_78 : decode cX5_putNew 78 = .ok (.aload_n 0, 1) := by decide +kernel
theorem dX5_putNew_79 : decode cX5_putNew 79 = .ok (.getfield 9, 3) := by decide +kernel
theorem dX5_putNew_82 : decode cX5_putNew 82 = .ok (.iload 4, 2) := by decide +kernel
theorem dX5_putNew_84 : decode cX5_putNew 84 = .ok (.bipush 16, 2) := by decide +kernel
theorem dX5_putNew_86 : decode cX5_putNew 86 = .ok (.imul, 1) := by decide +kernel
theorem dX5_putNew_87 : decode cX5_putNew 87 = .ok (.iload 5, 2) := by decide +kernel
theorem dX5_putNew_89 : decode cX5_putNew 89 = .ok (.iadd, 1) := by decide +kernel
theorem dX5_putNew_90 : decode cX5_putNew 90 = .ok (.lconst 0, 1) := by decide +kernel
theorem dX5_putNew_91 : decode cX5_putNew 91 = .ok (.lastore, 1) := by decide +kernel
theorem dX5_putNew_92 : decode cX5_putNew 92 = .ok (.iinc 5 1, 3) := by decide +kernel
theorem dX5_putNew_95 : decode cX5_putNew 95 = .ok (.goto (-25), 3) := by decide +kernel
theorem dX5_putNew_98 : decode cX5_putNew 98 = .ok (.aload_n 0, 1) := by decide +kernel
theorem dX5_putNew_99 : decode cX5_putNew 99 = .ok (.getfield 19, 3) := by decide +kernel
theorem dX5_putNew_102 : decode cX5_putNew 102 = .ok (.iload_n 1, 1) := by decide +kernel
theorem dX5_putNew_103 : decode cX5_putNew 103 = .ok (.iload 4, 2) := by decide +kernel
theorem dX5_putNew_105 : decode cX5_putNew 105 = .ok (.i2l, 1) := by decide +kernel
theorem dX5_putNew_106 : decode cX5_putNew 106 = .ok (.invokevirtual 39, 3) := by decide +kernel
theorem dX5_putNew_109 : decode cX5_putNew 109 = .ok (.ireturn, 1) := by decide +kernel
theorem dX5_putCopy_0 : decode cX5_putCopy 0 = .ok (.aload_n 0, 1) := by decide +kernel
theorem dX5_putCopy_1 : decode cX5_putCopy 1 = .ok (.getfield 19, 3) := by decide +kernel
theorem dX5_putCopy_4 : decode cX5_putCopy 4 = .ok (.invokevirtual 35, 3) := by decide +kernel
theorem dX5_putCopy_7 : decode cX5_putCopy 7 = .ok (.istore 5, 2) := by decide +kernel
theorem dX5_putCopy_9 : decode cX5_putCopy 9 = .ok (.iload 5, 2) := by decide +kernel
theorem dX5_putCopy_11 : decode cX5_putCopy 11 = .ok (.ifCond .ge 6, 3) := by decide +kernel
theorem dX5_putCopy_14 : decode cX5_putCopy 14 = .ok (.bipush 11, 2) := by decide +kernel
theorem dX5_putCopy_16 : decode cX5_putCopy 16 = .ok (.ireturn, 1) := by decide +kernel
theorem dX5_putCopy_17 : decode cX5_putCopy 17 = .ok (.aload_n 0, 1) := by decide +kernel
theorem dX5_putCopy_18 : decode cX5_putCopy 18 = .ok (.getfield 15, 3) := by decide +kernel
theorem dX5_putCopy_21 : decode cX5_putCopy 21 = .ok (.iload 5, 2) := by decide +kernel
theorem dX5_putCopy_23 : decode cX5_putCopy 23 = .ok (.aload_n 2, 1) := by decide +kernel
theorem dX5_putCopy_24 : decode cX5_putCopy 24 = .ok (.lload_n 3, 1) := by decide +kernel
theorem dX5_putCopy_25 : decode cX5_putCopy 25 = .ok (.invokevirtual 43, 3) := by decide +kernel
theorem dX5_putCopy_28 : decode cX5_putCopy 28 = .ok (.iastore, 1) := by decide +kernel
theorem dX5_putCopy_29 : decode cX5_putCopy 29 = .ok (.aload_n 0, 1) := by decide +kernel
theorem dX5_putCopy_30 : decode cX5_putCopy 30 = .ok (.getfield 15, 3) := by decide +kernel
theorem dX5_putCopy_33 : decode cX5_putCopy 33 = .ok (.iload 5, 2) := by decide +kernel
theorem dX5_putCopy_35 : decode cX5_putCopy 35 = .ok (.iaload, 1) := by decide +kernel
theorem dX5_putCopy_36 : decode cX5_putCopy 36 = .ok (.ifCond .le 39, 3) := by decide +kernel
theorem dX5_putCopy_39 : decode cX5_putCopy 39 = .ok (.aload_n 2, 1) := by decide +kernel
theorem dX5_putCopy_40 : decode cX5_putCopy 40 = .ok (.lload_n 3, 1) := by decide +kernel
theorem dX5_putCopy_41 : decode cX5_putCopy 41 = .ok (.lconst 0, 1) := by decide +kernel
theorem dX5_putCopy_42 : decode cX5_putCopy 42 = .ok (.invokevirtual 47, 3) := by decide +kernel
theorem dX5_putCopy_45 : decode cX5_putCopy 45 = .ok (.istore 6, 2) := by decide +kernel
theorem dX5_putCopy_47 : decode cX5_putCopy 47 = .ok (.aload_n 2, 1) := by decide +kernel
theorem dX5_putCopy_48 : decode cX5_putCopy 48 = .ok (.getfield 9, 3) := by decide +kernel
theorem dX5_putCopy_51 : decode cX5_putCopy 51 = .ok (.iload 6, 2) := by decide +kernel
theorem dX5_putCopy_53 : decode cX5_putCopy 53 = .ok (.aload_n 0, 1) := by decide +kernel
theorem dX5_putCopy_54 : decode cX5_putCopy 54 = .ok (.getfield 9, 3) := by decide +kernel
theorem dX5_putCopy_57 : decode cX5_putCopy 57 = .ok (.aload_n 0, 1) := by decide +kernel
theorem dX5_putCopy_58 : decode cX5_putCopy 58 = .ok (.iload 5, 2) := by decide +kernel
theorem dX5_putCopy_60 : decode cX5_putCopy 60 = .ok (.i2l, 1) := by decide +kernel
theorem dX5_putCopy_61 : decode cX5_putCopy 61 = .ok (.lconst 0, 1) := by decide +kernel
theorem dX5_putCopy_62 : decode cX5_putCopy 62 = .ok (.invokevirtual 47, 3) := by decide +kernel
theorem dX5_putCopy_65 : decode cX5_putCopy 65 = .ok (.aload_n 0, 1) := by decide +kernel
theorem dX5_putCopy_66 : decode cX5_putCopy 66 = .ok (.getfield 15, 3) := by decide +kernel
theorem dX5_putCopy_69 : decode cX5_putCopy 69 = .ok (.iload 5, 2) := by decide +kernel
theorem dX5_putCopy_71 : decode cX5_putCopy 71 = .ok (.iaload, 1) := by decide +kernel
theorem dX5_putCopy_72 : decode cX5_putCopy 72 = .ok (.invokestatic 51, 3) := by decide +kernel
theorem dX5_putCopy_75 : decode cX5_putCopy 75 = .ok (.aload_n 0, 1) := by decide +kernel
theorem dX5_putCopy_76 : decode cX5_putCopy 76 = .ok (.getfield 19, 3) := by decide +kernel
theorem dX5_putCopy_79 : decode cX5_putCopy 79 = .ok (.iload_n 1, 1) := by decide +kernel
theorem dX5_putCopy_80 : decode cX5_putCopy 80 = .ok (.iload 5, 2) := by decide +kernel
theorem dX5_putCopy_82 : decode cX5_putCopy 82 = .ok (.i2l, 1) := by decide +kernel
theorem dX5_putCopy_83 : decode cX5_putCopy 83 = .ok (.invokevirtual 39, 3) := by decide +kernel
theorem dX5_putCopy_86 : decode cX5_putCopy 86 = .ok (.ireturn, 1) := by decide +kernel
theorem dX5_putElement_0 : decode cX5_putElement 0 = .ok (.aload_n 0, 1) := by decide +kernel
theorem dX5_putElement_1 : decode cX5_putElement 1 = .ok (.getfield 19, 3) := by decide +kernel
theorem dX5_putElement_4 : decode cX5_putElement 4 = .ok (.iconst 0, 1) := by decide +kernel
theorem dX5_putElement_5 : decode cX5_putElement 5 = .ok (.invokevirtual 23, 3) := by decide +kernel
theorem dX5_putElement_8 : decode cX5_putElement 8 = .ok (.ifCond .ne 5, 3) := by decide +kernel
theorem dX5_putElement_11 : decode cX5_putElement 11 = .ok (.iconst 4, 1) := by decide +kernel
theorem dX5_putElement_12 : decode cX5_putElement 12 = .ok (.ireturn, 1) := by decide +kernel
theorem dX5_putElement_13 : decode cX5_putElement 13 = .ok (.aload_n 0, 1) := by decide +kernel
theorem dX5_putElement_14 : decode cX5_putElement 14 = .ok (.getfield 19, 3) := by decide +kernel
theorem dX5_putElement_17 : decode cX5_putElement 17 = .ok (.iconst 0, 1) := by decide +kernel
theorem dX5_putElement_18 : decode cX5_putElement 18 = .ok (.invokevirtual 29, 3) := by decide +kernel
theorem dX5_putElement_21 : decode cX5_putElement 21 = .ok (.lstore_n 2, 1) := by decide +kernel
theorem dX5_putElement_22 : decode cX5_putElement 22 = .ok (.aload_n 0, 1) := by decide +kernel
theorem dX5_putElement_23 : decode cX5_putElement 23 = .ok (.getfield 19, 3) := by decide +kernel
theorem dX5_putElement_26 : decode cX5_putElement 26 = .ok (.iconst 1, 1) := by decide +kernel
theorem dX5_putElement_27 : decode cX5_putElement 27 = .ok (.invokevirtual 29, 3) := by decide +kernel
theorem dX5_putElement_30 : decode cX5_putElement 30 = .ok (.lstore 4, 2) := by decide +kernel
theorem dX5_putElement_32 : decode cX5_putElement 32 = .ok (.aload_n 0, 1) := by decide +kernel
theorem dX5_putElement_33 : decode cX5_putElement 33 = .ok (.iload_n 1, 1) := by decide +kernel
theorem dX5_putElement_34 : decode cX5_putElement 34 = .ok (.aload_n 0, 1) := by decide +kernel
theorem dX5_putElement_35 : decode cX5_putElement 35 = .ok (.getfield 19, 3) := by decide +kernel
theorem dX5_putElement_38 : decode cX5_putElement 38 = .ok (.iconst 1, 1) := by decide +kernel
theorem dX5_putElement_39 : decode cX5_putElement 39 = .ok (.invokevirtual 57, 3) := by decide +kernel
theorem dX5_putElement_42 : decode cX5_putElement 42 = .ok (.lload 4, 2) := by decide +kernel
theorem dX5_putElement_44 : decode cX5_putElement 44 = .ok (.lload_n 2, 1) := by decide +kernel
theorem dX5_putElement_45 : decode cX5_putElement 45 = .ok (.invokevirtual 61, 3) := by decide +kernel
theorem dX5_putElement_48 : decode cX5_putElement 48 = .ok (.istore 6, 2) := by decide +kernel
theorem dX5_putElement_50 : decode cX5_putElement 50 = .ok (.iload 6, 2) := by decide +kernel
theorem dX5_putElement_52 : decode cX5_putElement 52 = .ok (.ifCond .ne 25, 3) := by decide +kernel
theorem dX5_putElement_55 : decode cX5_putElement 55 = .ok (.aload_n 0, 1) := by decide +kernel
theorem dX5_putElement_56 : decode cX5_putElement 56 = .ok (.getfield 19, 3) := by decide +kernel
theorem dX5_putElement_59 : decode cX5_putElement 59 = .ok (.aload_n 0, 1) := by decide +kernel
theorem dX5_putElement_60 : decode cX5_putElement 60 = .ok (.getfield 9, 3) := by decide +kernel
theorem dX5_putElement_63 : decode cX5_putElement 63 = .ok (.aload_n 0, 1) := by decide +kernel
theorem dX5_putElement_64 : decode cX5_putElement 64 = .ok (.lload 4, 2) := by decide +kernel
theorem dX5_putElement_66 : decode cX5_putElement 66 = .ok (.lload_n 2, 1) := by decide +kernel
theorem dX5_putElement_67 : decode cX5_putElement 67 = .ok (.invokevirtual 47, 3) := by decide +kernel
theorem dX5_putElement_70 : decode cX5_putElement 70 = .ok (.laload, 1) := by decide +kernel
theorem dX5_putElement_71 : decode cX5_putElement 71 = .ok (.invokevirtual 65, 3) := by decide +kernel
theorem dX5_putElement_74 : decode cX5_putElement 74 = .ok (.goto 5, 3) := by decide +kernel
theorem dX5_putElement_77 : decode cX5_putElement 77 = .ok (.iload 6, 2) := by decide +kernel
theorem dX5_putElement_79 : decode cX5_putElement 79 = .ok (.ireturn, 1) := by decide +kernel
theorem dX5_changeElement_0 : decode cX5_changeElement 0 = .ok (.aload_n 0, 1) := by decide +kernel
theorem dX5_changeElement_1 : decode cX5_changeElement 1 = .ok (.getfield 19, 3) := by decide +kernel
theorem dX5_changeElement_4 : decode cX5_changeElement 4 = .ok (.iconst 0, 1) := by decide +kernel
theorem dX5_changeElement_5 : decode cX5_changeElement 5 = .ok (.invokevirtual 23, 3) := by decide +kernel
theorem dX5_changeElement_8 : decode cX5_changeElement 8 = .ok (.ifCond .eq 14, 3) := by decide +kernel
theorem dX5_changeElement_11 : decode cX5_changeElement 11 = .ok (.aload_n 0, 1) := by decide +kernel
theorem dX5_changeElement_12 : decode cX5_changeElement 12 = .ok (.getfield 19, 3) := by decide +kernel
theorem dX5_changeElement_15 : decode cX5_changeElement 15 = .ok (.iconst 1, 1) := by decide +kernel
theorem dX5_changeElement_16 : decode cX5_changeElement 16 = .ok (.invokevirtual 23, 3) := by decide +kernel
theorem dX5_changeElement_19 : decode cX5_changeElement 19 = .ok (.ifCond .ne 5, 3) := by decide +kernel
theorem dX5_changeElement_22 : decode cX5_changeElement 22 = .ok (.iconst 4, 1) := by decide +kernel
theorem dX5_changeElement_23 : decode cX5_changeElement 23 = .ok (.ireturn, 1) := by decide +kernel
theorem dX5_changeElement_24 : decode cX5_changeElement 24 = .ok (.aload_n 0, 1) := by decide +kernel
theorem dX5_changeElement_25 : decode cX5_changeElement 25 = .ok (.getfield 19, 3) := by decide +kernel
theorem dX5_changeElement_28 : decode cX5_changeElement 28 = .ok (.iconst 0, 1) := by decide +kernel
theorem dX5_changeElement_29 : decode cX5_changeElement 29 = .ok (.invokevirtual 29, 3) := by decide +kernel
theorem dX5_changeElement_32 : decode cX5_changeElement 32 = .ok (.lstore_n 2, 1) := by decide +kernel
theorem dX5_changeElement_33 : decode cX5_changeElement 33 = .ok (.aload_n 0, 1) := by decide +kernel
theorem dX5_changeElement_34 : decode cX5_changeElement 34 = .ok (.getfield 19, 3) := by decide +kernel
theorem dX5_changeElement_37 : decode cX5_changeElement 37 = .ok (.iconst 1, 1) := by decide +kernel
theorem dX5_changeElement_38 : decode cX5_changeElement 38 = .ok (.invokevirtual 29, 3) := by decide +kernel
theorem dX5_changeElement_41 : decode cX5_changeElement 41 = .ok (.lstore 4, 2) := by decide +kernel
theorem dX5_changeElement_43 : decode cX5_changeElement 43 = .ok (.aload_n 0, 1) := by decide +kernel
theorem dX5_changeElement_44 : decode cX5_changeElement 44 = .ok (.getfield 19, 3) := by decide +kernel
theorem dX5_changeElement_47 : decode cX5_changeElement 47 = .ok (.iconst 2, 1) := by decide +kernel
theorem dX5_changeElement_48 : decode cX5_changeElement 48 = .ok (.invokevirtual 29, 3) := by decide +kernel
theorem dX5_changeElement_51 : decode cX5_changeElement 51 = .ok (.lstore 6, 2) := by decide +kernel
theorem dX5_changeElement_53 : decode cX5_changeElement 53 = .ok (.aload_n 0, 1) := by decide +kernel
theorem dX5_changeElement_54 : decode cX5_changeElement 54 = .ok (.iload_n 1, 1) := by decide +kernel
theorem dX5_changeElement_55 : decode cX5_changeElement 55 = .ok (.aload_n 0, 1) := by decide +kernel
theorem dX5_changeElement_56 : decode cX5_changeElement 56 = .ok (.getfield 19, 3) := by decide +kernel
theorem dX5_changeElement_59 : decode cX5_changeElement 59 = .ok (.iconst 2, 1) := by decide +kernel
theorem dX5_changeElement_60 : decode cX5_changeElement 60 = .ok (.invokevirtual 57, 3) := by decide +kernel
theorem dX5_changeElement_63 : decode cX5_changeElement 63 = .ok (.lload 6, 2) := by decide +kernel
theorem dX5_changeElement_65 : decode cX5_changeElement 65 = .ok (.lload 4, 2) := by decide +kernel
theorem dX5_changeElement_67 : decode cX5_changeElement 67 = .ok (.invokevirtual 61, 3) := by decide +kernel
theorem dX5_changeElement_70 : decode cX5_changeElement 70 = .ok (.istore 8, 2) := by decide +kernel
theorem dX5_changeElement_72 : decode cX5_changeElement 72 = .ok (.iload 8, 2) := by decide +kernel
theorem dX5_changeElement_74 : decode cX5_changeElement 74 = .ok (.ifCond .ne 28, 3) := by decide +kernel
theorem dX5_changeElement_77 : decode cX5_changeElement 77 = .ok (.aload_n 0, 1) := by decide +kernel
theorem dX5_changeElement_78 : decode cX5_changeElement 78 = .ok (.getfield 9, 3) := by decide +kernel
theorem dX5_changeElement_81 : decode cX5_changeElement 81 = .ok (.aload_n 0, 1) := by decide +kernel
theorem dX5_changeElement_82 : decode cX5_changeElement 82 = .ok (.lload 6, 2) := by decide +kernel
theorem dX5_changeElement_84 : decode cX5_changeElement 84 = .ok (.lload 4, 2) := by decide +kernel
theorem dX5_changeElement_86 : decode cX5_changeElement 86 = .ok (.invokevirtual 47, 3) := by decide +kernel
theorem dX5_changeElement_89 : decode cX5_changeElement 89 = .ok (.iload_n 1, 1) := by decide +kernel
theorem dX5_changeElement_90 : decode cX5_changeElement 90 = .ok (.iconst 2, 1) := by decide +kernel
theorem dX5_changeElement_91 : decode cX5_changeElement 91 = .ok (.if_icmp .ne 9, 3) := by decide +kernel
theorem dX5_changeElement_94 : decode cX5_changeElement 94 = .ok (.lload_n 2, 1) := by decide +kernel
theorem dX5_changeElement_95 : decode cX5_changeElement 95 = .ok (.l2i, 1) := by decide +kernel
theorem dX5_changeElement_96 : decode cX5_changeElement 96 = .ok (.i2l, 1) := by decide +kernel
theorem dX5_changeElement_97 : decode cX5_changeElement 97 = .ok (.goto 4, 3) := by decide +kernel
theorem dX5_changeElement_100 : decode cX5_changeElement 100 = .ok (.lload_n 2, 1) := by decide +kernel
theorem dX5_changeElement_101 : decode cX5_changeElement 101 = .ok (.lastore, 1) := by decide +kernel
theorem dX5_changeElement_102 : decode cX5_changeElement 102 = .ok (.iload 8, 2) := by decide +kernel
theorem dX5_changeElement_104 : decode cX5_changeElement 104 = .ok (.ireturn, 1) := by decide +kernel
theorem dX5_elementFailure_0 : decode cX5_elementFailure 0 = .ok (.iload_n 2, 1) := by decide +kernel
theorem dX5_elementFailure_1 : decode cX5_elementFailure 1 = .ok (.iconst 3, 1) := by decide +kernel
theorem dX5_elementFailure_2 : decode cX5_elementFailure 2 = .ok (.if_icmp .ne 5, 3) := by decide +kernel
theorem dX5_elementFailure_5 : decode cX5_elementFailure 5 = .ok (.iconst 2, 1) := by decide +kernel
theorem dX5_elementFailure_6 : decode cX5_elementFailure 6 = .ok (.ireturn, 1) := by decide +kernel
theorem dX5_elementFailure_7 : decode cX5_elementFailure 7 = .ok (.iload_n 2, 1) := by decide +kernel
theorem dX5_elementFailure_8 : decode cX5_elementFailure 8 = .ok (.iload_n 1, 1) := by decide +kernel
theorem dX5_elementFailure_9 : decode cX5_elementFailure 9 = .ok (.if_icmp .eq 5, 3) := by decide +kernel
theorem dX5_elementFailure_12 : decode cX5_elementFailure 12 = .ok (.iconst 4, 1) := by decide +kernel
theorem dX5_elementFailure_13 : decode cX5_elementFailure 13 = .ok (.ireturn, 1) := by decide +kernel
theorem dX5_elementFailure_14 : decode cX5_elementFailure 14 = .ok (.lload 5, 2) := by decide +kernel
theorem dX5_elementFailure_16 : decode cX5_elementFailure 16 = .ok (.lconst 0, 1) := by decide +kernel
theorem dX5_elementFailure_17 : decode cX5_elementFailure 17 = .ok (.lcmp, 1) := by decide +kernel
theorem dX5_elementFailure_18 : decode cX5_elementFailure 18 = .ok (.ifCond .lt 19, 3) := by decide +kernel
theorem dX5_elementFailure_21 : decode cX5_elementFailure 21 = .ok (.lload 5, 2) := by decide +kernel
theorem dX5_elementFailure_23 : decode cX5_elementFailure 23 = .ok (.aload_n 0, 1) := by decide +kernel
theorem dX5_elementFailure_24 : decode cX5_elementFailure 24 = .ok (.lload_n 3, 1) := by decide +kernel
theorem dX5_elementFailure_25 : decode cX5_elementFailure 25 = .ok (.invokevirtual 43, 3) := by decide +kernel
theorem dX5_elementFailure_28 : decode cX5_elementFailure 28 = .ok (.i2l, 1) := by decide +kernel
theorem dX5_elementFailure_29 : decode cX5_elementFailure 29 = .ok (.lcmp, 1) := by decide +kernel
theorem dX5_elementFailure_30 : decode cX5_elementFailure 30 = .ok (.ifCond .ge 7, 3) := by decide +kernel
theorem dX5_elementFailure_33 : decode cX5_elementFailure 33 = .ok (.iconst 0, 1) := by decide +kernel
theorem dX5_elementFailure_34 : decode cX5_elementFailure 34 = .ok (.goto 4, 3) := by decide +kernel
theorem dX5_elementFailure_37 : decode cX5_elementFailure 37 = .ok (.iconst 3, 1) := by decide +kernel
theorem dX5_elementFailure_38 : decode cX5_elementFailure 38 = .ok (.ireturn, 1) := by decide +kernel
theorem dX5_putLength_0 : decode cX5_putLength 0 = .ok (.aload_n 0, 1) := by decide +kernel
theorem dX5_putLength_1 : decode cX5_putLength 1 = .ok (.getfield 19, 3) := by decide +kernel
theorem dX5_putLength_4 : decode cX5_putLength 4 = .ok (.iconst 0, 1) := by decide +kernel
theorem dX5_putLength_5 : decode cX5_putLength 5 = .ok (.invokevirtual 57, 3) := by decide +kernel
theorem dX5_putLength_8 : decode cX5_putLength 8 = .ok (.iconst 3, 1) := by decide +kernel
theorem dX5_putLength_9 : decode cX5_putLength 9 = .ok (.if_icmp .ne 5, 3) := by decide +kernel
theorem dX5_putLength_12 : decode cX5_putLength 12 = .ok (.iconst 2, 1) := by decide +kernel
theorem dX5_putLength_13 : decode cX5_putLength 13 = .ok (.ireturn, 1) := by decide +kernel
theorem dX5_putLength_14 : decode cX5_putLength 14 = .ok (.aload_n 0, 1) := by decide +kernel
theorem dX5_putLength_15 : decode cX5_putLength 15 = .ok (.getfield 19, 3) := by decide +kernel
theorem dX5_putLength_18 : decode cX5_putLength 18 = .ok (.iconst 0, 1) := by decide +kernel
theorem dX5_putLength_19 : decode cX5_putLength 19 = .ok (.invokevirtual 23, 3) := by decide +kernel
theorem dX5_putLength_22 : decode cX5_putLength 22 = .ok (.ifCond .eq 5, 3) := by decide +kernel
theorem dX5_putLength_25 : decode cX5_putLength 25 = .ok (.iconst 4, 1) := by decide +kernel
theorem dX5_putLength_26 : decode cX5_putLength 26 = .ok (.ireturn, 1) := by decide +kernel
theorem dX5_putLength_27 : decode cX5_putLength 27 = .ok (.aload_n 0, 1) := by decide +kernel
theorem dX5_putLength_28 : decode cX5_putLength 28 = .ok (.getfield 19, 3) := by decide +kernel
theorem dX5_putLength_31 : decode cX5_putLength 31 = .ok (.aload_n 0, 1) := by decide +kernel
theorem dX5_putLength_32 : decode cX5_putLength 32 = .ok (.aload_n 0, 1) := by decide +kernel
theorem dX5_putLength_33 : decode cX5_putLength 33 = .ok (.getfield 19, 3) := by decide +kernel
theorem dX5_putLength_36 : decode cX5_putLength 36 = .ok (.iconst 0, 1) := by decide +kernel
theorem dX5_putLength_37 : decode cX5_putLength 37 = .ok (.invokevirtual 29, 3) := by decide +kernel
theorem dX5_putLength_40 : decode cX5_putLength 40 = .ok (.invokevirtual 43, 3) := by decide +kernel
theorem dX5_putLength_43 : decode cX5_putLength 43 = .ok (.i2l, 1) := by decide +kernel
theorem dX5_putLength_44 : decode cX5_putLength 44 = .ok (.invokevirtual 65, 3) := by decide +kernel
theorem dX5_putLength_47 : decode cX5_putLength 47 = .ok (.ireturn, 1) := by decide +kernel
theorem dX5_copyElements_0 : decode cX5_copyElements 0 = .ok (.aload_n 0, 1) := by decide +kernel
theorem dX5_copyElements_1 : decode cX5_copyElements 1 = .ok (.getfield 19, 3) := by decide +kernel
theorem dX5_copyElements_4 : decode cX5_copyElements 4 = .ok (.iconst 0, 1) := by decide +kernel
theorem dX5_copyElements_5 : decode cX5_copyElements 5 = .ok (.invokevirtual 23, 3) := by decide +kernel
theorem dX5_copyElements_8 : decode cX5_copyElements 8 = .ok (.ifCond .eq 25, 3) := by decide +kernel
theorem dX5_copyElements_11 : decode cX5_copyElements 11 = .ok (.aload_n 0, 1) := by decide +kernel
theorem dX5_copyElements_12 : decode cX5_copyElements 12 = .ok (.getfield 19, 3) := by decide +kernel
theorem dX5_copyElements_15 : decode cX5_copyElements 15 = .ok (.iconst 1, 1) := by decide +kernel
theorem dX5_copyElements_16 : decode cX5_copyElements 16 = .ok (.invokevirtual 23, 3) := by decide +kernel
theorem dX5_copyElements_19 : decode cX5_copyElements 19 = .ok (.ifCond .eq 14, 3) := by decide +kernel
theorem dX5_copyElements_22 : decode cX5_copyElements 22 = .ok (.aload_n 0, 1) := by decide +kernel
theorem dX5_copyElements_23 : decode cX5_copyElements 23 = .ok (.getfield 19, 3) := by decide +kernel
theorem dX5_copyElements_26 : decode cX5_copyElements 26 = .ok (.iconst 3, 1) := by decide +kernel
theorem dX5_copyElements_27 : decode cX5_copyElements 27 = .ok (.invokevirtual 23, 3) := by decide +kernel
theorem dX5_copyElements_30 : decode cX5_copyElements 30 = .ok (.ifCond .ne 5, 3) := by decide +kernel
theorem dX5_copyElements_33 : decode cX5_copyElements 33 = .ok (.iconst 4, 1) := by decide +kernel
theorem dX5_copyElements_34 : decode cX5_copyElements 34 = .ok (.ireturn, 1) := by decide +kernel
theorem dX5_copyElements_35 : decode cX5_copyElements 35 = .ok (.aload_n 0, 1) := by decide +kernel
theorem dX5_copyElements_36 : decode cX5_copyElements 36 = .ok (.getfield 19, 3) := by decide +kernel
theorem dX5_copyElements_39 : decode cX5_copyElements 39 = .ok (.iconst 2, 1) := by decide +kernel
theorem dX5_copyElements_40 : decode cX5_copyElements 40 = .ok (.invokevirtual 57, 3) := by decide +kernel
theorem dX5_copyElements_43 : decode cX5_copyElements 43 = .ok (.iconst 3, 1) := by decide +kernel
theorem dX5_copyElements_44 : decode cX5_copyElements 44 = .ok (.if_icmp .eq 15, 3) := by decide +kernel
theorem dX5_copyElements_47 : decode cX5_copyElements 47 = .ok (.aload_n 0, 1) := by decide +kernel
theorem dX5_copyElements_48 : decode cX5_copyElements 48 = .ok (.getfield 19, 3) := by decide +kernel
theorem dX5_copyElements_51 : decode cX5_copyElements 51 = .ok (.iconst 4, 1) := by decide +kernel
theorem dX5_copyElements_52 : decode cX5_copyElements 52 = .ok (.invokevirtual 57, 3) := by decide +kernel
theorem dX5_copyElements_55 : decode cX5_copyElements 55 = .ok (.iconst 3, 1) := by decide +kernel
theorem dX5_copyElements_56 : decode cX5_copyElements 56 = .ok (.if_icmp .ne 5, 3) := by decide +kernel
theorem dX5_copyElements_59 : decode cX5_copyElements 59 = .ok (.iconst 2, 1) := by decide +kernel
theorem dX5_copyElements_60 : decode cX5_copyElements 60 = .ok (.ireturn, 1) := by decide +kernel
theorem dX5_copyElements_61 : decode cX5_copyElements 61 = .ok (.aload_n 0, 1) := by decide +kernel
theorem dX5_copyElements_62 : decode cX5_copyElements 62 = .ok (.getfield 19, 3) := by decide +kernel
theorem dX5_copyElements_65 : decode cX5_copyElements 65 = .ok (.iconst 2, 1) := by decide +kernel
theorem dX5_copyElements_66 : decode cX5_copyElements 66 = .ok (.invokevirtual 23, 3) := by decide +kernel
theorem dX5_copyElements_69 : decode cX5_copyElements 69 = .ok (.ifCond .ne 22, 3) := by decide +kernel
theorem dX5_copyElements_72 : decode cX5_copyElements 72 = .ok (.aload_n 0, 1) := by decide +kernel
theorem dX5_copyElements_73 : decode cX5_copyElements 73 = .ok (.getfield 19, 3) := by decide +kernel
theorem dX5_copyElements_76 : decode cX5_copyElements 76 = .ok (.iconst 2, 1) := by decide +kernel
theorem dX5_copyElements_77 : decode cX5_copyElements 77 = .ok (.invokevirtual 57, 3) := by decide +kernel
theorem dX5_copyElements_80 : decode cX5_copyElements 80 = .ok (.aload_n 0, 1) := by decide +kernel
theorem dX5_copyElements_81 : decode cX5_copyElements 81 = .ok (.getfield 19, 3) := by decide +kernel
theorem dX5_copyElements_84 : decode cX5_copyElements 84 = .ok (.iconst 4, 1) := by decide +kernel
theorem dX5_copyElements_85 : decode cX5_copyElements 85 = .ok (.invokevirtual 57, 3) := by decide +kernel
theorem dX5_copyElements_88 : decode cX5_copyElements 88 = .ok (.if_icmp .eq 5, 3) := by decide +kernel
theorem dX5_copyElements_91 : decode cX5_copyElements 91 = .ok (.iconst 4, 1) := by decide +kernel
theorem dX5_copyElements_92 : decode cX5_copyElements 92 = .ok (.ireturn, 1) := by decide +kernel
theorem dX5_copyElements_93 : decode cX5_copyElements 93 = .ok (.aload_n 0, 1) := by decide +kernel
theorem dX5_copyElements_94 : decode cX5_copyElements 94 = .ok (.getfield 19, 3) := by decide +kernel
theorem dX5_copyElements_97 : decode cX5_copyElements 97 = .ok (.iconst 0, 1) := by decide +kernel
theorem dX5_copyElements_98 : decode cX5_copyElements 98 = .ok (.invokevirtual 29, 3) := by decide +kernel
theorem dX5_copyElements_101 : decode cX5_copyElements 101 = .ok (.lstore_n 1, 1) := by decide +kernel
theorem dX5_copyElements_102 : decode cX5_copyElements 102 = .ok (.aload_n 0, 1) := by decide +kernel
theorem dX5_copyElements_103 : decode cX5_copyElements 103 = .ok (.getfield 19, 3) := by decide +kernel
theorem dX5_copyElements_106 : decode cX5_copyElements 106 = .ok (.iconst 1, 1) := by decide +kernel
theorem dX5_copyElements_107 : decode cX5_copyElements 107 = .ok (.invokevirtual 29, 3) := by decide +kernel
theorem dX5_copyElements_110 : decode cX5_copyElements 110 = .ok (.lstore_n 3, 1) := by decide +kernel
theorem dX5_copyElements_111 : decode cX5_copyElements 111 = .ok (.aload_n 0, 1) := by decide +kernel
theorem dX5_copyElements_112 : decode cX5_copyElements 112 = .ok (.getfield 19, 3) := by decide +kernel
theorem dX5_copyElements_115 : decode cX5_copyElements 115 = .ok (.iconst 2, 1) := by decide +kernel
theorem dX5_copyElements_116 : decode cX5_copyElements 116 = .ok (.invokevirtual 29, 3) := by decide +kernel
theorem dX5_copyElements_119 : decode cX5_copyElements 119 = .ok (.lstore 5, 2) := by decide +kernel
theorem dX5_copyElements_121 : decode cX5_copyElements 121 = .ok (.aload_n 0, 1) := by decide +kernel
theorem dX5_copyElements_122 : decode cX5_copyElements 122 = .ok (.getfield 19, 3) := by decide +kernel
theorem dX5_copyElements_125 : decode cX5_copyElements 125 = .ok (.iconst 3, 1) := by decide +kernel
theorem dX5_copyElements_126 : decode cX5_copyElements 126 = .ok (.invokevirtual 29, 3) := by decide +kernel
theorem dX5_copyElements_129 : decode cX5_copyElements 129 = .ok (.lstore 7, 2) := by decide +kernel
theorem dX5_copyElements_131 : decode cX5_copyElements 131 = .ok (.aload_n 0, 1) := by decide +kernel
theorem dX5_copyElements_132 : decode cX5_copyElements 132 = .ok (.getfield 19, 3) := by decide +kernel
theorem dX5_copyElements_135 : decode cX5_copyElements 135 = .ok (.iconst 4, 1) := by decide +kernel
theorem dX5_copyElements_136 : decode cX5_copyElements 136 = .ok (.invokevirtual 29, 3) := by decide +kernel
theorem dX5_copyElements_139 : decode cX5_copyElements 139 = .ok (.lstore 9, 2) := by decide +kernel
theorem dX5_copyElements_141 : decode cX5_copyElements 141 = .ok (.aload_n 0, 1) := by decide +kernel
theorem dX5_copyElements_142 : decode cX5_copyElements 142 = .ok (.lload 9, 2) := by decide +kernel
theorem dX5_copyElements_144 : decode cX5_copyElements 144 = .ok (.lload 7, 2) := by decide +kernel
theorem dX5_copyElements_146 : decode cX5_copyElements 146 = .ok (.lload_n 1, 1) := by decide +kernel
theorem dX5_copyElements_147 : decode cX5_copyElements 147 = .ok (.invokevirtual 68, 3) := by decide +kernel
theorem dX5_copyElements_150 : decode cX5_copyElements 150 = .ok (.ifCond .eq 14, 3) := by decide +kernel
theorem dX5_copyElements_153 : decode cX5_copyElements 153 = .ok (.aload_n 0, 1) := by decide +kernel
theorem dX5_copyElements_154 : decode cX5_copyElements 154 = .ok (.lload 5, 2) := by decide +kernel
theorem dX5_copyElements_156 : decode cX5_copyElements 156 = .ok (.lload_n 3, 1) := by decide +kernel
theorem dX5_copyElements_157 : decode cX5_copyElements 157 = .ok (.lload_n 1, 1) := by decide +kernel
theorem dX5_copyElements_158 : decode cX5_copyElements 158 = .ok (.invokevirtual 68, 3) := by decide +kernel
theorem dX5_copyElements_161 : decode cX5_copyElements 161 = .ok (.ifCond .ne 5, 3) := by decide +kernel
theorem dX5_copyElements_164 : decode cX5_copyElements 164 = .ok (.iconst 3, 1) := by decide +kernel
theorem dX5_copyElements_165 : decode cX5_copyElements 165 = .ok (.ireturn, 1) := by decide +kernel
theorem dX5_copyElements_166 : decode cX5_copyElements 166 = .ok (.lload_n 1, 1) := by decide +kernel
theorem dX5_copyElements_167 : decode cX5_copyElements 167 = .ok (.lconst 0, 1) := by decide +kernel
theorem dX5_copyElements_168 : decode cX5_copyElements 168 = .ok (.lcmp, 1) := by decide +kernel
theorem dX5_copyElements_169 : decode cX5_copyElements 169 = .ok (.ifCond .le 31, 3) := by decide +kernel
theorem dX5_copyElements_172 : decode cX5_copyElements 172 = .ok (.aload_n 0, 1) := by decide +kernel
theorem dX5_copyElements_173 : decode cX5_copyElements 173 = .ok (.getfield 9, 3) := by decide +kernel
theorem dX5_copyElements_176 : decode cX5_copyElements 176 = .ok (.aload_n 0, 1) := by decide +kernel
theorem dX5_copyElements_177 : decode cX5_copyElements 177 = .ok (.lload 9, 2) := by decide +kernel
theorem dX5_copyElements_179 : decode cX5_copyElements 179 = .ok (.lload 7, 2) := by decide +kernel
theorem dX5_copyElements_181 : decode cX5_copyElements 181 = .ok (.invokevirtual 47, 3) := by decide +kernel
theorem dX5_copyElements_184 : decode cX5_copyElements 184 = .ok (.aload_n 0, 1) := by decide +kernel
theorem dX5_copyElements_185 : decode cX5_copyElements 185 = .ok (.getfield 9, 3) := by decide +kernel
theorem dX5_copyElements_188 : decode cX5_copyElements 188 = .ok (.aload_n 0, 1) := by decide +kernel
theorem dX5_copyElements_189 : decode cX5_copyElements 189 = .ok (.lload 5, 2) := by decide +kernel
theorem dX5_copyElements_191 : decode cX5_copyElements 191 = .ok (.lload_n 3, 1) := by decide +kernel
theorem dX5_copyElements_192 : decode cX5_copyElements 192 = .ok (.invokevirtual 47, 3) := by decide +kernel
theorem dX5_copyElements_195 : decode cX5_copyElements 195 = .ok (.lload_n 1, 1) := by decide +kernel
theorem dX5_copyElements_196 : decode cX5_copyElements 196 = .ok (.l2i, 1) := by decide +kernel
theorem dX5_copyElements_197 : decode cX5_copyElements 197 = .ok (.invokestatic 51, 3) := by decide +kernel
theorem dX5_copyElements_200 : decode cX5_copyElements 200 = .ok (.iconst 0, 1) := by decide +kernel
theorem dX5_copyElements_201 : decode cX5_copyElements 201 = .ok (.ireturn, 1) := by decide +kernel
theorem dX5_lengthOf_0 : decode cX5_lengthOf 0 = .ok (.lload_n 1, 1) := by decide +kernel
theorem dX5_lengthOf_1 : decode cX5_lengthOf 1 = .ok (.lconst 0, 1) := by decide +kernel
theorem dX5_lengthOf_2 : decode cX5_lengthOf 2 = .ok (.lcmp, 1) := by decide +kernel
theorem dX5_lengthOf_3 : decode cX5_lengthOf 3 = .ok (.ifCond .lt 21, 3) := by decide +kernel
theorem dX5_lengthOf_6 : decode cX5_lengthOf 6 = .ok (.lload_n 1, 1) := by decide +kernel
theorem dX5_lengthOf_7 : decode cX5_lengthOf 7 = .ok (.ldc2_w 72, 3) := by decide +kernel
theorem dX5_lengthOf_10 : decode cX5_lengthOf 10 = .ok (.lcmp, 1) := by decide +kernel
theorem dX5_lengthOf_11 : decode cX5_lengthOf 11 = .ok (.ifCond .ge 13, 3) := by decide +kernel
theorem dX5_lengthOf_14 : decode cX5_lengthOf 14 = .ok (.aload_n 0, 1) := by decide +kernel
theorem dX5_lengthOf_15 : decode cX5_lengthOf 15 = .ok (.getfield 15, 3) := by decide +kernel
theorem dX5_lengthOf_18 : decode cX5_lengthOf 18 = .ok (.lload_n 1, 1) := by decide +kernel
theorem dX5_lengthOf_19 : decode cX5_lengthOf 19 = .ok (.l2i, 1) := by decide +kernel
theorem dX5_lengthOf_20 : decode cX5_lengthOf 20 = .ok (.iaload, 1) := by decide +kernel
theorem dX5_lengthOf_21 : decode cX5_lengthOf 21 = .ok (.goto 4, 3) := by decide +kernel
theorem dX5_lengthOf_24 : decode cX5_lengthOf 24 = .ok (.iconst 0, 1) := by decide +kernel
theorem dX5_lengthOf_25 : decode cX5_lengthOf 25 = .ok (.ireturn, 1) := by decide +kernel
theorem dX5_hasRange_0 : decode cX5_hasRange 0 = .ok (.aload_n 0, 1) := by decide +kernel
theorem dX5_hasRange_1 : decode cX5_hasRange 1 = .ok (.lload_n 1, 1) := by decide +kernel
theorem dX5_hasRange_2 : decode cX5_hasRange 2 = .ok (.invokevirtual 43, 3) := by decide +kernel
theorem dX5_hasRange_5 : decode cX5_hasRange 5 = .ok (.istore 7, 2) := by decide +kernel
theorem dX5_hasRange_7 : decode cX5_hasRange 7 = .ok (.lload 5, 2) := by decide +kernel
theorem dX5_hasRange_9 : decode cX5_hasRange 9 = .ok (.lconst 0, 1) := by decide +kernel
theorem dX5_hasRange_10 : decode cX5_hasRange 10 = .ok (.lcmp, 1) := by decide +kernel
theorem dX5_hasRange_11 : decode cX5_hasRange 11 = .ok (.ifCond .lt 32, 3) := by decide +kernel
theorem dX5_hasRange_14 : decode cX5_hasRange 14 = .ok (.lload_n 3, 1) := by decide +kernel
theorem dX5_hasRange_15 : decode cX5_hasRange 15 = .ok (.lconst 0, 1) := by decide +kernel
theorem dX5_hasRange_16 : decode cX5_hasRange 16 = .ok (.lcmp, 1) := by decide +kernel
theorem dX5_hasRange_17 : decode cX5_hasRange 17 = .ok (.ifCond .lt 26, 3) := by decide +kernel
theorem dX5_hasRange_20 : decode cX5_hasRange 20 = .ok (.lload_n 3, 1) := by decide +kernel
theorem dX5_hasRange_21 : decode cX5_hasRange 21 = .ok (.iload 7, 2) := by decide +kernel
theorem dX5_hasRange_23 : decode cX5_hasRange 23 = .ok (.i2l, 1) := by decide +kernel
theorem dX5_hasRange_24 : decode cX5_hasRange 24 = .ok (.lcmp, 1) := by decide +kernel
theorem dX5_hasRange_25 : decode cX5_hasRange 25 = .ok (.ifCond .gt 18, 3) := by decide +kernel
theorem dX5_hasRange_28 : decode cX5_hasRange 28 = .ok (.lload 5, 2) := by decide +kernel
theorem dX5_hasRange_30 : decode cX5_hasRange 30 = .ok (.iload 7, 2) := by decide +kernel
theorem dX5_hasRange_32 : decode cX5_hasRange 32 = .ok (.i2l, 1) := by decide +kernel
theorem dX5_hasRange_33 : decode cX5_hasRange 33 = .ok (.lload_n 3, 1) := by decide +kernel
theorem dX5_hasRange_34 : decode cX5_hasRange 34 = .ok (.lsub, 1) := by decide +kernel
theorem dX5_hasRange_35 : decode cX5_hasRange 35 = .ok (.lcmp, 1) := by decide +kernel
theorem dX5_hasRange_36 : decode cX5_hasRange 36 = .ok (.ifCond .gt 7, 3) := by decide +kernel
theorem dX5_hasRange_39 : decode cX5_hasRange 39 = .ok (.iconst 1, 1) := by decide +kernel
theorem dX5_hasRange_40 : decode cX5_hasRange 40 = .ok (.goto 4, 3) := by decide +kernel
theorem dX5_hasRange_43 : decode cX5_hasRange 43 = .ok (.iconst 0, 1) := by decide +kernel
theorem dX5_hasRange_44 : decode cX5_hasRange 44 = .ok (.ireturn, 1) := by decide +kernel
theorem dX5_placeOf_0 : decode cX5_placeOf 0 = .ok (.lload_n 1, 1) := by decide +kernel
theorem dX5_placeOf_1 : decode cX5_placeOf 1 = .ok (.l2i, 1) := by decide +kernel
theorem dX5_placeOf_2 : decode cX5_placeOf 2 = .ok (.bipush 16, 2) := by decide +kernel
theorem dX5_placeOf_4 : decode cX5_placeOf 4 = .ok (.imul, 1) := by decide +kernel
theorem dX5_placeOf_5 : decode cX5_placeOf 5 = .ok (.lload_n 3, 1) := by decide +kernel
theorem dX5_placeOf_6 : decode cX5_placeOf 6 = .ok (.l2i, 1) := by decide +kernel
theorem dX5_placeOf_7 : decode cX5_placeOf 7 = .ok (.iadd, 1) := by decide +kernel
theorem dX5_placeOf_8 : decode cX5_placeOf 8 = .ok (.ireturn, 1) := by decide +kernel
