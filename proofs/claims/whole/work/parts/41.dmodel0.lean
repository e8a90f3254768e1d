theorem dX9_init_0 : decode cX9_init 0 = .ok (.aload_n 0, 1) := by decide +kernel
theorem dX9_init_1 : decode cX9_init 1 = .ok (.invokespecial 1, 3) := by decide +kernel
theorem dX9_init_4 : decode cX9_init 4 = .ok (.aload_n 0, 1) := by decide +kernel
theorem dX9_init_5 : decode cX9_init 5 = .ok (.sipush 1152, 3) := by decide +kernel
theorem dX9_init_8 : decode cX9_init 8 = .ok (.newarray .int, 2) := by decide +kernel
theorem dX9_init_10 : decode cX9_init 10 = .ok (.putfield 9, 3) := by decide +kernel
theorem dX9_init_13 : decode cX9_init 13 = .ok (.aload_n 0, 1) := by decide +kernel
theorem dX9_init_14 : decode cX9_init 14 = .ok (.sipush 1152, 3) := by decide +kernel
theorem dX9_init_17 : decode cX9_init 17 = .ok (.newarray .int, 2) := by decide +kernel
theorem dX9_init_19 : decode cX9_init 19 = .ok (.putfield 13, 3) := by decide +kernel
theorem dX9_init_22 : decode cX9_init 22 = .ok (.aload_n 0, 1) := by decide +kernel
theorem dX9_init_23 : decode cX9_init 23 = .ok (.bipush 48, 2) := by decide +kernel
theorem dX9_init_25 : decode cX9_init 25 = .ok (.newarray .int, 2) := by decide +kernel
theorem dX9_init_27 : decode cX9_init 27 = .ok (.putfield 16, 3) := by decide +kernel
theorem dX9_init_30 : decode cX9_init 30 = .ok (.aload_n 0, 1) := by decide +kernel
theorem dX9_init_31 : decode cX9_init 31 = .ok (.bipush 8, 2) := by decide +kernel
theorem dX9_init_33 : decode cX9_init 33 = .ok (.newarray .boolean, 2) := by decide +kernel
theorem dX9_init_35 : decode cX9_init 35 = .ok (.putfield 19, 3) := by decide +kernel
theorem dX9_init_38 : decode cX9_init 38 = .ok (.aload_n 0, 1) := by decide +kernel
theorem dX9_init_39 : decode cX9_init 39 = .ok (.bipush 64, 2) := by decide +kernel
theorem dX9_init_41 : decode cX9_init 41 = .ok (.newarray .long, 2) := by decide +kernel
theorem dX9_init_43 : decode cX9_init 43 = .ok (.putfield 23, 3) := by decide +kernel
theorem dX9_init_46 : decode cX9_init 46 = .ok (.aload_n 0, 1) := by decide +kernel
theorem dX9_init_47 : decode cX9_init 47 = .ok (.bipush 8, 2) := by decide +kernel
theorem dX9_init_49 : decode cX9_init 49 = .ok (.newarray .long, 2) := by decide +kernel
theorem dX9_init_51 : decode cX9_init 51 = .ok (.putfield 27, 3) := by decide +kernel
theorem dX9_init_54 : decode cX9_init 54 = .ok (.aload_n 0, 1) := by decide +kernel
theorem dX9_init_55 : decode cX9_init 55 = .ok (.bipush 8, 2) := by decide +kernel
theorem dX9_init_57 : decode cX9_init 57 = .ok (.newarray .int, 2) := by decide +kernel
theorem dX9_init_59 : decode cX9_init 59 = .ok (.putfield 30, 3) := by decide +kernel
theorem dX9_init_62 : decode cX9_init 62 = .ok (.aload_n 0, 1) := by decide +kernel
theorem dX9_init_63 : decode cX9_init 63 = .ok (.bipush 40, 2) := by decide +kernel
theorem dX9_init_65 : decode cX9_init 65 = .ok (.newarray .int, 2) := by decide +kernel
theorem dX9_init_67 : decode cX9_init 67 = .ok (.putfield 33, 3) := by decide +kernel
theorem dX9_init_70 : decode cX9_init 70 = .ok (.aload_n 0, 1) := by decide +kernel
theorem dX9_init_71 : decode cX9_init 71 = .ok (.bipush 40, 2) := by decide +kernel
theorem dX9_init_73 : decode cX9_init 73 = .ok (.newarray .long, 2) := by decide +kernel
theorem dX9_init_75 : decode cX9_init 75 = .ok (.putfield 36, 3) := by decide +kernel
theorem dX9_init_78 : decode cX9_init 78 = .ok (.aload_n 0, 1) := by decide +kernel
theorem dX9_init_79 : decode cX9_init 79 = .ok (.bipush 11, 2) := by decide +kernel
theorem dX9_init_81 : decode cX9_init 81 = .ok (.anewarray 39, 3) := by decide +kernel
theorem dX9_init_84 : decode cX9_init 84 = .ok (.putfield 41, 3) := by decide +kernel
theorem dX9_init_87 : decode cX9_init 87 = .ok (.return_, 1) := by decide +kernel
theorem dX9_thrown_0 : decode cX9_thrown 0 = .ok (.aload_n 0, 1) := by decide +kernel
theorem dX9_thrown_1 : decode cX9_thrown 1 = .ok (.getfield 45, 3) := by decide +kernel
theorem dX9_thrown_4 : decode cX9_thrown 4 = .ok (.ireturn, 1) := by decide +kernel
theorem dX9_isIn_0 : decode cX9_isIn 0 = .ok (.iload_n 0, 1) := by decide +kernel
theorem dX9_isIn_1 : decode cX9_isIn 1 = .ok (.iload_n 1, 1) := by decide +kernel
theorem dX9_isIn_2 : decode cX9_isIn 2 = .ok (.if_icmp .lt 12, 3) := by decide +kernel
theorem dX9_isIn_5 : decode cX9_isIn 5 = .ok (.iload_n 0, 1) := by decide +kernel
theorem dX9_isIn_6 : decode cX9_isIn 6 = .ok (.iload_n 2, 1) := by decide +kernel
theorem dX9_isIn_7 : decode cX9_isIn 7 = .ok (.if_icmp .gt 7, 3) := by decide +kernel
theorem dX9_isIn_10 : decode cX9_isIn 10 = .ok (.iconst 1, 1) := by decide +kernel
theorem dX9_isIn_11 : decode cX9_isIn 11 = .ok (.goto 4, 3) := by decide +kernel
theorem dX9_isIn_14 : decode cX9_isIn 14 = .ok (.iconst 0, 1) := by decide +kernel
theorem dX9_isIn_15 : decode cX9_isIn 15 = .ok (.ireturn, 1) := by decide +kernel
theorem dX9_isContract_0 : decode cX9_isContract 0 = .ok (.aload_n 0, 1) := by decide +kernel
theorem dX9_isContract_1 : decode cX9_isContract 1 = .ok (.iconst 0, 1) := by decide +kernel
theorem dX9_isContract_2 : decode cX9_isContract 2 = .ok (.putfield 45, 3) := by decide +kernel
theorem dX9_isContract_5 : decode cX9_isContract 5 = .ok (.iload_n 1, 1) := by decide +kernel
theorem dX9_isContract_6 : decode cX9_isContract 6 = .ok (.iconst 0, 1) := by decide +kernel
theorem dX9_isContract_7 : decode cX9_isContract 7 = .ok (.bipush 7, 2) := by decide +kernel
theorem dX9_isContract_9 : decode cX9_isContract 9 = .ok (.invokestatic 49, 3) := by decide +kernel
theorem dX9_isContract_12 : decode cX9_isContract 12 = .ok (.ireturn, 1) := by decide +kernel
theorem dX9_isBehaviour_0 : decode cX9_isBehaviour 0 = .ok (.aload_n 0, 1) := by decide +kernel
theorem dX9_isBehaviour_1 : decode cX9_isBehaviour 1 = .ok (.iload_n 1, 1) := by decide +kernel
theorem dX9_isBehaviour_2 : decode cX9_isBehaviour 2 = .ok (.invokevirtual 53, 3) := by decide +kernel
theorem dX9_isBehaviour_5 : decode cX9_isBehaviour 5 = .ok (.ifCond .eq 16, 3) := by decide +kernel
theorem dX9_isBehaviour_8 : decode cX9_isBehaviour 8 = .ok (.iload_n 2, 1) := by decide +kernel
theorem dX9_isBehaviour_9 : decode cX9_isBehaviour 9 = .ok (.iconst 0, 1) := by decide +kernel
theorem dX9_isBehaviour_10 : decode cX9_isBehaviour 10 = .ok (.iconst 5, 1) := by decide +kernel
theorem dX9_isBehaviour_11 : decode cX9_isBehaviour 11 = .ok (.invokestatic 49, 3) := by decide +kernel
theorem dX9_isBehaviour_14 : decode cX9_isBehaviour 14 = .ok (.ifCond .eq 7, 3) := by decide +kernel
theorem dX9_isBehaviour_17 : decode cX9_isBehaviour 17 = .ok (.iconst 1, 1) := by decide +kernel
theorem dX9_isBehaviour_18 : decode cX9_isBehaviour 18 = .ok (.goto 4, 3) := by decide +kernel
theorem dX9_isBehaviour_21 : decode cX9_isBehaviour 21 = .ok (.iconst 0, 1) := by decide +kernel
theorem dX9_isBehaviour_22 : decode cX9_isBehaviour 22 = .ok (.ireturn, 1) := by decide +kernel
theorem dX9_step_0 : decode cX9_step 0 = .ok (.aload_n 0, 1) := by decide +kernel
theorem dX9_step_1 : decode cX9_step 1 = .ok (.iload_n 1, 1) := by decide +kernel
theorem dX9_step_2 : decode cX9_step 2 = .ok (.iload_n 2, 1) := by decide +kernel
theorem dX9_step_3 : decode cX9_step 3 = .ok (.invokevirtual 57, 3) := by decide +kernel
theorem dX9_step_6 : decode cX9_step 6 = .ok (.ifCond .ne 5, 3) := by decide +kernel
theorem dX9_step_9 : decode cX9_step 9 = .ok (.iconst (-1), 1) := by decide +kernel
theorem dX9_step_10 : decode cX9_step 10 = .ok (.ireturn, 1) := by decide +kernel
theorem dX9_step_11 : decode cX9_step 11 = .ok (.bipush 6, 2) := by decide +kernel
theorem dX9_step_13 : decode cX9_step 13 = .ok (.iload_n 1, 1) := by decide +kernel
theorem dX9_step_14 : decode cX9_step 14 = .ok (.imul, 1) := by decide +kernel
theorem dX9_step_15 : decode cX9_step 15 = .ok (.iload_n 2, 1) := by decide +kernel
theorem dX9_step_16 : decode cX9_step 16 = .ok (.iadd, 1) := by decide +kernel
theorem dX9_step_17 : decode cX9_step 17 = .ok (.istore 5, 2) := by decide +kernel
theorem dX9_step_19 : decode cX9_step 19 = .ok (.aload_n 0, 1) := by decide +kernel
theorem dX9_step_20 : decode cX9_step 20 = .ok (.getfield 16, 3) := by decide +kernel
theorem dX9_step_23 : decode cX9_step 23 = .ok (.iload 5, 2) := by decide +kernel
theorem dX9_step_25 : decode cX9_step 25 = .ok (.iaload, 1) := by decide +kernel
theorem dX9_step_26 : decode cX9_step 26 = .ok (.bipush 24, 2) := by decide +kernel
theorem dX9_step_28 : decode cX9_step 28 = .ok (.if_icmp .ne 6, 3) := by decide +kernel
theorem dX9_step_31 : decode cX9_step 31 = .ok (.bipush (-2), 2) := by decide +kernel
theorem dX9_step_33 : decode cX9_step 33 = .ok (.ireturn, 1) := by decide +kernel
theorem dX9_step_34 : decode cX9_step 34 = .ok (.aload_n 0, 1) := by decide +kernel
theorem dX9_step_35 : decode cX9_step 35 = .ok (.getfield 9, 3) := by decide +kernel
theorem dX9_step_38 : decode cX9_step 38 = .ok (.bipush 24, 2) := by decide +kernel
theorem dX9_step_40 : decode cX9_step 40 = .ok (.iload 5, 2) := by decide +kernel
theorem dX9_step_42 : decode cX9_step 42 = .ok (.imul, 1) := by decide +kernel
theorem dX9_step_43 : decode cX9_step 43 = .ok (.aload_n 0, 1) := by decide +kernel
theorem dX9_step_44 : decode cX9_step 44 = .ok (.getfield 16, 3) := by decide +kernel
theorem dX9_step_47 : decode cX9_step 47 = .ok (.iload 5, 2) := by decide +kernel
theorem dX9_step_49 : decode cX9_step 49 = .ok (.iaload, 1) := by decide +kernel
theorem dX9_step_50 : decode cX9_step 50 = .ok (.iadd, 1) := by decide +kernel
theorem dX9_step_51 : decode cX9_step 51 = .ok (.iload_n 3, 1) := by decide +kernel
theorem dX9_step_52 : decode cX9_step 52 = .ok (.iastore, 1) := by decide +kernel
theorem dX9_step_53 : decode cX9_step 53 = .ok (.aload_n 0, 1) := by decide +kernel
theorem dX9_step_54 : decode cX9_step 54 = .ok (.getfield 13, 3) := by decide +kernel
theorem dX9_step_57 : decode cX9_step 57 = .ok (.bipush 24, 2) := by decide +kernel
theorem dX9_step_59 : decode cX9_step 59 = .ok (.iload 5, 2) := by decide +kernel
theorem dX9_step_61 : decode cX9_step 61 = .ok (.imul, 1) := by decide +kernel
theorem dX9_step_62 : decode cX9_step 62 = .ok (.aload_n 0, 1) := by decide +kernel
theorem dX9_step_63 : decode cX9_step 63 = .ok (.getfield 16, 3) := by decide +kernel
theorem dX9_step_66 : decode cX9_step 66 = .ok (.iload 5, 2) := by decide +kernel
theorem dX9_step_68 : decode cX9_step 68 = .ok (.iaload, 1) := by decide +kernel
theorem dX9_step_69 : decode cX9_step 69 = .ok (.iadd, 1) := by decide +kernel
theorem dX9_step_70 : decode cX9_step 70 = .ok (.iload 4, 2) := by decide +kernel
theorem dX9_step_72 : decode cX9_step 72 = .ok (.iastore, 1) := by decide +kernel
theorem dX9_step_73 : decode cX9_step 73 = .ok (.aload_n 0, 1) := by decide +kernel
theorem dX9_step_74 : decode cX9_step 74 = .ok (.getfield 16, 3) := by decide +kernel
theorem dX9_step_77 : decode cX9_step 77 = .ok (.iload 5, 2) := by decide +kernel
theorem dX9_step_79 : decode cX9_step 79 = .ok (.dup2, 1) := by decide +kernel
theorem dX9_step_80 : decode cX9_step 80 = .ok (.iaload, 1) := by decide +kernel
theorem dX9_step_81 : decode cX9_step 81 = .ok (.iconst 1, 1) := by decide +kernel
theorem dX9_step_82 : decode cX9_step 82 = .ok (.iadd, 1) := by decide +kernel
theorem dX9_step_83 : decode cX9_step 83 = .ok (.iastore, 1) := by decide +kernel
theorem dX9_step_84 : decode cX9_step 84 = .ok (.aload_n 0, 1) := by decide +kernel
theorem dX9_step_85 : decode cX9_step 85 = .ok (.getfield 16, 3) := by decide +kernel
theorem dX9_step_88 : decode cX9_step 88 = .ok (.iload 5, 2) := by decide +kernel
theorem dX9_step_90 : decode cX9_step 90 = .ok (.iaload, 1) := by decide +kernel
theorem dX9_step_91 : decode cX9_step 91 = .ok (.ireturn, 1) := by decide +kernel
theorem dX9_empty_0 : decode cX9_empty 0 = .ok (.aload_n 0, 1) := by decide +kernel
theorem dX9_empty_1 : decode cX9_empty 1 = .ok (.iload_n 1, 1) := by decide +kernel
theorem dX9_empty_2 : decode cX9_empty 2 = .ok (.iload_n 2, 1) := by decide +kernel
theorem dX9_empty_3 : decode cX9_empty 3 = .ok (.invokevirtual 57, 3) := by decide +kernel
theorem dX9_empty_6 : decode cX9_empty 6 = .ok (.ifCond .ne 5, 3) := by decide +kernel
theorem dX9_empty_9 : decode cX9_empty 9 = .ok (.iconst (-1), 1) := by decide +kernel
theorem dX9_empty_10 : decode cX9_empty 10 = .ok (.ireturn, 1) := by decide +kernel
theorem dX9_empty_11 : decode cX9_empty 11 = .ok (.bipush 6, 2) := by decide +kernel
theorem dX9_empty_13 : decode cX9_empty 13 = .ok (.iload_n 1, 1) := by decide +kernel
theorem dX9_empty_14 : decode cX9_empty 14 = .ok (.imul, 1) := by decide +kernel
theorem dX9_empty_15 : decode cX9_empty 15 = .ok (.iload_n 2, 1) := by decide +kernel
theorem dX9_empty_16 : decode cX9_empty 16 = .ok (.iadd, 1) := by decide +kernel
theorem dX9_empty_17 : decode cX9_empty 17 = .ok (.istore_n 3, 1) := by decide +kernel
theorem dX9_empty_18 : decode cX9_empty 18 = .ok (.aload_n 0, 1) := by decide +kernel
theorem dX9_empty_19 : decode cX9_empty 19 = .ok (.getfield 16, 3) := by decide +kernel
theorem dX9_empty_22 : decode cX9_empty 22 = .ok (.iload_n 3, 1) := by decide +kernel
theorem dX9_empty_23 : decode cX9_empty 23 = .ok (.iaload, 1) := by decide +kernel
theorem dX9_empty_24 : decode cX9_empty 24 = .ok (.istore 4, 2) := by decide +kernel
theorem dX9_empty_26 : decode cX9_empty 26 = .ok (.aload_n 0, 1) := by decide +kernel
theorem dX9_empty_27 : decode cX9_empty 27 = .ok (.getfield 16, 3) := by decide +kernel
theorem dX9_empty_30 : decode cX9_empty 30 = .ok (.iload_n 3, 1) := by decide +kernel
theorem dX9_empty_31 : decode cX9_empty 31 = .ok (.iconst 0, 1) := by decide +kernel
theorem dX9_empty_32 : decode cX9_empty 32 = .ok (.iastore, 1) := by decide +kernel
theorem dX9_empty_33 : decode cX9_empty 33 = .ok (.iload 4, 2) := by decide +kernel
theorem dX9_empty_35 : decode cX9_empty 35 = .ok (.ireturn, 1) := by decide +kernel
theorem dX9_guard_0 : decode cX9_guard 0 = .ok (.aload_n 0, 1) := by decide +kernel
theorem dX9_guard_1 : decode cX9_guard 1 = .ok (.iload_n 1, 1) := by decide +kernel
theorem dX9_guard_2 : decode cX9_guard 2 = .ok (.invokevirtual 53, 3) := by decide +kernel
theorem dX9_guard_5 : decode cX9_guard 5 = .ok (.ifCond .ne 5, 3) := by decide +kernel
theorem dX9_guard_8 : decode cX9_guard 8 = .ok (.iconst (-1), 1) := by decide +kernel
theorem dX9_guard_9 : decode cX9_guard 9 = .ok (.ireturn, 1) := by decide +kernel
theorem dX9_guard_10 : decode cX9_guard 10 = .ok (.aload_n 0, 1) := by decide +kernel
theorem dX9_guard_11 : decode cX9_guard 11 = .ok (.getfield 19, 3) := by decide +kernel
theorem dX9_guard_14 : decode cX9_guard 14 = .ok (.iload_n 1, 1) := by decide +kernel
theorem dX9_guard_15 : decode cX9_guard 15 = .ok (.baload, 1) := by decide +kernel
theorem dX9_guard_16 : decode cX9_guard 16 = .ok (.istore_n 3, 1) := by decide +kernel
theorem dX9_guard_17 : decode cX9_guard 17 = .ok (.aload_n 0, 1) := by decide +kernel
theorem dX9_guard_18 : decode cX9_guard 18 = .ok (.getfield 19, 3) := by decide +kernel
theorem dX9_guard_21 : decode cX9_guard 21 = .ok (.iload_n 1, 1) := by decide +kernel
theorem dX9_guard_22 : decode cX9_guard 22 = .ok (.iload_n 2, 1) := by decide +kernel
theorem dX9_guard_23 : decode cX9_guard 23 = .ok (.bastore, 1) := by decide +kernel
theorem dX9_guard_24 : decode cX9_guard 24 = .ok (.iload_n 3, 1) := by decide +kernel
theorem dX9_guard_25 : decode cX9_guard 25 = .ok (.ifCond .eq 7, 3) := by decide +kernel
theorem dX9_guard_28 : decode cX9_guard 28 = .ok (.iconst 1, 1) := by decide +kernel
theorem dX9_guard_29 : decode cX9_guard 29 = .ok (.goto 4, 3) := by decide +kernel
theorem dX9_guard_32 : decode cX9_guard 32 = .ok (.iconst 0, 1) := by decide +kernel
theorem dX9_guard_33 : decode cX9_guard 33 = .ok (.ireturn, 1) := by decide +kernel
theorem dX9_fund_0 : decode cX9_fund 0 = .ok (.aload_n 0, 1) := by decide +kernel
theorem dX9_fund_1 : decode cX9_fund 1 = .ok (.iload_n 1, 1) := by decide +kernel
theorem dX9_fund_2 : decode cX9_fund 2 = .ok (.invokevirtual 53, 3) := by decide +kernel
theorem dX9_fund_5 : decode cX9_fund 5 = .ok (.ifCond .eq 9, 3) := by decide +kernel
theorem dX9_fund_8 : decode cX9_fund 8 = .ok (.lload_n 2, 1) := by decide +kernel
theorem dX9_fund_9 : decode cX9_fund 9 = .ok (.lconst 0, 1) := by decide +kernel
theorem dX9_fund_10 : decode cX9_fund 10 = .ok (.lcmp, 1) := by decide +kernel
theorem dX9_fund_11 : decode cX9_fund 11 = .ok (.ifCond .ge 5, 3) := by decide +kernel
theorem dX9_fund_14 : decode cX9_fund 14 = .ok (.iconst (-1), 1) := by decide +kernel
theorem dX9_fund_15 : decode cX9_fund 15 = .ok (.ireturn, 1) := by decide +kernel
theorem dX9_fund_16 : decode cX9_fund 16 = .ok (.aload_n 0, 1) := by decide +kernel
theorem dX9_fund_17 : decode cX9_fund 17 = .ok (.getfield 27, 3) := by decide +kernel
theorem dX9_fund_20 : decode cX9_fund 20 = .ok (.iload_n 1, 1) := by decide +kernel
theorem dX9_fund_21 : decode cX9_fund 21 = .ok (.lload_n 2, 1) := by decide +kernel
theorem dX9_fund_22 : decode cX9_fund 22 = .ok (.lastore, 1) := by decide +kernel
theorem dX9_fund_23 : decode cX9_fund 23 = .ok (.iconst 1, 1) := by decide +kernel
theorem dX9_fund_24 : decode cX9_fund 24 = .ok (.ireturn, 1) := by decide +kernel
theorem dX9_needs_0 : decode cX9_needs 0 = .ok (.iload_n 0, 1) := by decide +kernel
theorem dX9_needs_1 : decode cX9_needs 1 = .ok (.tableswitch 171 0 31 #[143, 143, 145, 148, 145, 151, 154, 154, 154, 154, 154, 154, 154, 157, 145, 159, 159, 154, 154, 162, 162, 159, 143, 165, 157, 157, 157, 145, 145, 168, 143, 143], 143) := by decide +kernel
theorem dX9_needs_144 : decode cX9_needs 144 = .ok (.iconst 1, 1) := by decide +kernel
theorem dX9_needs_145 : decode cX9_needs 145 = .ok (.ireturn, 1) := by decide +kernel
theorem dX9_needs_146 : decode cX9_needs 146 = .ok (.bipush 10, 2) := by decide +kernel
theorem dX9_needs_148 : decode cX9_needs 148 = .ok (.ireturn, 1) := by decide +kernel
theorem dX9_needs_149 : decode cX9_needs 149 = .ok (.bipush 12, 2) := by decide +kernel
theorem dX9_needs_151 : decode cX9_needs 151 = .ok (.ireturn, 1) := by decide +kernel
theorem dX9_needs_152 : decode cX9_needs 152 = .ok (.bipush 22, 2) := by decide +kernel
theorem dX9_needs_154 : decode cX9_needs 154 = .ok (.ireturn, 1) := by decide +kernel
theorem dX9_needs_155 : decode cX9_needs 155 = .ok (.bipush 21, 2) := by decide +kernel
theorem dX9_needs_157 : decode cX9_needs 157 = .ok (.ireturn, 1) := by decide +kernel
theorem dX9_needs_158 : decode cX9_needs 158 = .ok (.iconst 0, 1) := by decide +kernel
theorem dX9_needs_159 : decode cX9_needs 159 = .ok (.ireturn, 1) := by decide +kernel
theorem dX9_needs_160 : decode cX9_needs 160 = .ok (.bipush 11, 2) := by decide +kernel
theorem dX9_needs_162 : decode cX9_needs 162 = .ok (.ireturn, 1) := by decide +kernel
theorem dX9_needs_163 : decode cX9_needs 163 = .ok (.bipush 30, 2) := by decide +kernel
theorem dX9_needs_165 : decode cX9_needs 165 = .ok (.ireturn, 1) := by decide +kernel
theorem dX9_needs_166 : decode cX9_needs 166 = .ok (.bipush 50, 2) := by decide +kernel
theorem dX9_needs_168 : decode cX9_needs 168 = .ok (.ireturn, 1) := by decide +kernel
theorem dX9_needs_169 : decode cX9_needs 169 = .ok (.bipush 31, 2) := by decide +kernel
theorem dX9_needs_171 : decode cX9_needs 171 = .ok (.ireturn, 1) := by decide +kernel
theorem dX9_needs_172 : decode cX9_needs 172 = .ok (.iconst (-1), 1) := by decide +kernel
theorem dX9_needs_173 : decode cX9_needs 173 = .ok (.ireturn, 1) := by decide +kernel
theorem dX9_done_0 : decode cX9_done 0 = .ok (.aload_n 1, 1) := by decide +kernel
theorem dX9_done_1 : decode cX9_done 1 = .ok (.getfield 61, 3) := by decide +kernel
theorem dX9_done_4 : decode cX9_done 4 = .ok (.ifCond .ne 6, 3) := by decide +kernel
theorem dX9_done_7 : decode cX9_done 7 = .ok (.bipush 7, 2) := by decide +kernel
theorem dX9_done_9 : decode cX9_done 9 = .ok (.ireturn, 1) := by decide +kernel
theorem dX9_done_10 : decode cX9_done 10 = .ok (.aload_n 1, 1) := by decide +kernel
theorem dX9_done_11 : decode cX9_done 11 = .ok (.dup, 1) := by decide +kernel
theorem dX9_done_12 : decode cX9_done 12 = .ok (.getfield 61, 3) := by decide +kernel
theorem dX9_done_15 : decode cX9_done 15 = .ok (.iconst 1, 1) := by decide +kernel
theorem dX9_done_16 : decode cX9_done 16 = .ok (.isub, 1) := by decide +kernel
theorem dX9_done_17 : decode cX9_done 17 = .ok (.putfield 61, 3) := by decide +kernel
theorem dX9_done_20 : decode cX9_done 20 = .ok (.aload_n 0, 1) := by decide +kernel
theorem dX9_done_21 : decode cX9_done 21 = .ok (.dup, 1) := by decide +kernel
theorem dX9_done_22 : decode cX9_done 22 = .ok (.getfield 64, 3) := by decide +kernel
theorem dX9_done_25 : decode cX9_done 25 = .ok (.iconst 1, 1) := by decide +kernel
theorem dX9_done_26 : decode cX9_done 26 = .ok (.iadd, 1) := by decide +kernel
theorem dX9_done_27 : decode cX9_done 27 = .ok (.putfield 64, 3) := by decide +kernel
theorem dX9_done_30 : decode cX9_done 30 = .ok (.bipush 6, 2) := by decide +kernel
theorem dX9_done_32 : decode cX9_done 32 = .ok (.aload_n 1, 1) := by decide +kernel
theorem dX9_done_33 : decode cX9_done 33 = .ok (.getfield 67, 3) := by decide +kernel
theorem dX9_done_36 : decode cX9_done 36 = .ok (.imul, 1) := by decide +kernel
theorem dX9_done_37 : decode cX9_done 37 = .ok (.aload_n 1, 1) := by decide +kernel
theorem dX9_done_38 : decode cX9_done 38 = .ok (.getfield 70, 3) := by decide +kernel
theorem dX9_done_41 : decode cX9_done 41 = .ok (.iadd, 1) := by decide +kernel
theorem dX9_done_42 : decode cX9_done 42 = .ok (.istore_n 2, 1) := by decide +kernel
theorem dX9_done_43 : decode cX9_done 43 = .ok (.aload_n 0, 1) := by decide +kernel
theorem dX9_done_44 : decode cX9_done 44 = .ok (.getfield 9, 3) := by decide +kernel
theorem dX9_done_47 : decode cX9_done 47 = .ok (.bipush 24, 2) := by decide +kernel
theorem dX9_done_49 : decode cX9_done 49 = .ok (.iload_n 2, 1) := by decide +kernel
theorem dX9_done_50 : decode cX9_done 50 = .ok (.imul, 1) := by decide +kernel
theorem dX9_done_51 : decode cX9_done 51 = .ok (.aload_n 1, 1) := by decide +kernel
theorem dX9_done_52 : decode cX9_done 52 = .ok (.getfield 73, 3) := by decide +kernel
theorem dX9_done_55 : decode cX9_done 55 = .ok (.iadd, 1) := by decide +kernel
theorem dX9_done_56 : decode cX9_done 56 = .ok (.iaload, 1) := by decide +kernel
theorem dX9_done_57 : decode cX9_done 57 = .ok (.istore_n 3, 1) := by decide +kernel
theorem dX9_done_58 : decode cX9_done 58 = .ok (.aload_n 0, 1) := by decide +kernel
theorem dX9_done_59 : decode cX9_done 59 = .ok (.getfield 13, 3) := by decide +kernel
theorem dX9_done_62 : decode cX9_done 62 = .ok (.bipush 24, 2) := by decide +kernel
theorem dX9_done_64 : decode cX9_done 64 = .ok (.iload_n 2, 1) := by decide +kernel
theorem dX9_done_65 : decode cX9_done 65 = .ok (.imul, 1) := by decide +kernel
theorem dX9_done_66 : decode cX9_done 66 = .ok (.aload_n 1, 1) := by decide +kernel
theorem dX9_done_67 : decode cX9_done 67 = .ok (.getfield 73, 3) := by decide +kernel
theorem dX9_done_70 : decode cX9_done 70 = .ok (.iadd, 1) := by decide +kernel
theorem dX9_done_71 : decode cX9_done 71 = .ok (.iaload, 1) := by decide +kernel
theorem dX9_done_72 : decode cX9_done 72 = .ok (.istore 4, 2) := by decide +kernel
theorem dX9_done_74 : decode cX9_done 74 = .ok (.aload_n 1, 1) := by decide +kernel
theorem dX9_done_75 : decode cX9_done 75 = .ok (.dup, 1) := by decide +kernel
theorem dX9_done_76 : decode cX9_done 76 = .ok (.getfield 73, 3) := by decide +kernel
theorem dX9_done_79 : decode cX9_done 79 = .ok (.iconst 1, 1) := by decide +kernel
theorem dX9_done_80 : decode cX9_done 80 = .ok (.iadd, 1) := by decide +kernel
theorem dX9_done_81 : decode cX9_done 81 = .ok (.putfield 73, 3) := by decide +kernel
theorem dX9_done_84 : decode cX9_done 84 = .ok (.iload_n 3, 1) := by decide +kernel
theorem dX9_done_85 : decode cX9_done 85 = .ok (.invokestatic 76, 3) := by decide +kernel
theorem dX9_done_88 : decode cX9_done 88 = .ok (.istore 5, 2) := by decide +kernel
theorem dX9_done_90 : decode cX9_done 90 = .ok (.iload 5, 2) := by decide +kernel
theorem dX9_done_92 : decode cX9_done 92 = .ok (.ifCond .ge 6, 3) := by decide +kernel
theorem dX9_done_95 : decode cX9_done 95 = .ok (.bipush 12, 2) := by decide +kernel
theorem dX9_done_97 : decode cX9_done 97 = .ok (.ireturn, 1) := by decide +kernel
theorem dX9_done_98 : decode cX9_done 98 = .ok (.aload_n 1, 1) := by decide +kernel
theorem dX9_done_99 : decode cX9_done 99 = .ok (.getfield 80, 3) := by decide +kernel
theorem dX9_done_102 : decode cX9_done 102 = .ok (.iload 5, 2) := by decide +kernel
theorem dX9_done_104 : decode cX9_done 104 = .ok (.bipush 10, 2) := by decide +kernel
theorem dX9_done_106 : decode cX9_done 106 = .ok (.idiv, 1) := by decide +kernel
theorem dX9_done_107 : decode cX9_done 107 = .ok (.if_icmp .lt 24, 3) := by decide +kernel
theorem dX9_done_110 : decode cX9_done 110 = .ok (.aload_n 1, 1) := by decide +kernel
theorem dX9_done_111 : decode cX9_done 111 = .ok (.getfield 80, 3) := by decide +kernel
theorem dX9_done_114 : decode cX9_done 114 = .ok (.iload 5, 2) := by decide +kernel
theorem dX9_done_116 : decode cX9_done 116 = .ok (.bipush 10, 2) := by decide +kernel
theorem dX9_done_118 : decode cX9_done 118 = .ok (.idiv, 1) := by decide +kernel
theorem dX9_done_119 : decode cX9_done 119 = .ok (.isub, 1) := by decide +kernel
theorem dX9_done_120 : decode cX9_done 120 = .ok (.iload 5, 2) := by decide +kernel
theorem dX9_done_122 : decode cX9_done 122 = .ok (.bipush 10, 2) := by decide +kernel
theorem dX9_done_124 : decode cX9_done 124 = .ok (.irem, 1) := by decide +kernel
theorem dX9_done_125 : decode cX9_done 125 = .ok (.iadd, 1) := by decide +kernel
theorem dX9_done_126 : decode cX9_done 126 = .ok (.bipush 12, 2) := by decide +kernel
theorem dX9_done_128 : decode cX9_done 128 = .ok (.if_icmp .le 6, 3) := by decide +kernel
theorem dX9_done_131 : decode cX9_done 131 = .ok (.bipush 11, 2) := by decide +kernel
theorem dX9_done_133 : decode cX9_done 133 = .ok (.ireturn, 1) := by decide +kernel
theorem dX9_done_134 : decode cX9_done 134 = .ok (.aload_n 1, 1) := by decide +kernel
theorem dX9_done_135 : decode cX9_done 135 = .ok (.dup, 1) := by decide +kernel
theorem dX9_done_136 : decode cX9_done 136 = .ok (.getfield 80, 3) := by decide +kernel
theorem dX9_done_139 : decode cX9_done 139 = .ok (.iload 5, 2) := by decide +kernel
theorem dX9_done_141 : decode cX9_done 141 = .ok (.bipush 10, 2) := by decide +kernel
theorem dX9_done_143 : decode cX9_done 143 = .ok (.idiv, 1) := by decide +kernel
theorem dX9_done_144 : decode cX9_done 144 = .ok (.isub, 1) := by decide +kernel
theorem dX9_done_145 : decode cX9_done 145 = .ok (.putfield 80, 3) := by decide +kernel
theorem dX9_done_148 : decode cX9_done 148 = .ok (.aload_n 1, 1) := by decide +kernel
theorem dX9_done_149 : decode cX9_done 149 = .ok (.getfield 80, 3) := by decide +kernel
theorem dX9_done_152 : decode cX9_done 152 = .ok (.istore 6, 2) := by decide +kernel
theorem dX9_done_154 : decode cX9_done 154 = .ok (.iload_n 3, 1) := by decide +kernel
theorem dX9_done_155 : decode cX9_done 155 = .ok (.bipush 6, 2) := by decide +kernel
theorem dX9_done_157 : decode cX9_done 157 = .ok (.if_icmp .lt 18, 3) := by decide +kernel
theorem dX9_done_160 : decode cX9_done 160 = .ok (.iload_n 3, 1) := by decide +kernel
theorem dX9_done_161 : decode cX9_done 161 = .ok (.bipush 12, 2) := by decide +kernel
theorem dX9_done_163 : decode cX9_done 163 = .ok (.if_icmp .gt 12, 3) := by decide +kernel
theorem dX9_done_166 : decode cX9_done 166 = .ok (.aload_n 0, 1) := by decide +kernel
theorem dX9_done_167 : decode cX9_done 167 = .ok (.aload_n 1, 1) := by decide +kernel
theorem dX9_done_168 : decode cX9_done 168 = .ok (.iload_n 3, 1) := by decide +kernel
theorem dX9_done_169 : decode cX9_done 169 = .ok (.iload 6, 2) := by decide +kernel
theorem dX9_done_171 : decode cX9_done 171 = .ok (.invokevirtual 83, 3) := by decide +kernel
theorem dX9_done_174 : decode cX9_done 174 = .ok (.ireturn, 1) := by decide +kernel
theorem dX9_done_175 : decode cX9_done 175 = .ok (.iload_n 3, 1) := by decide +kernel
theorem dX9_done_176 : decode cX9_done 176 = .ok (.bipush 15, 2) := by decide +kernel
theorem dX9_done_178 : decode cX9_done 178 = .ok (.if_icmp .lt 24, 3) := by decide +kernel
theorem dX9_done_181 : decode cX9_done 181 = .ok (.iload_n 3, 1) := by decide +kernel
theorem dX9_done_182 : decode cX9_done 182 = .ok (.bipush 23, 2) := by decide +kernel
theorem dX9_done_184 : decode cX9_done 184 = .ok (.if_icmp .gt 18, 3) := by decide +kernel
theorem dX9_done_187 : decode cX9_done 187 = .ok (.iload_n 3, 1) := by decide +kernel
theorem dX9_done_188 : decode cX9_done 188 = .ok (.bipush 22, 2) := by decide +kernel
theorem dX9_done_190 : decode cX9_done 190 = .ok (.if_icmp .eq 12, 3) := by decide +kernel
theorem dX9_done_193 : decode cX9_done 193 = .ok (.aload_n 0, 1) := by decide +kernel
theorem dX9_done_194 : decode cX9_done 194 = .ok (.aload_n 1, 1) := by decide +kernel
theorem dX9_done_195 : decode cX9_done 195 = .ok (.iload_n 3, 1) := by decide +kernel
theorem dX9_done_196 : decode cX9_done 196 = .ok (.iload 6, 2) := by decide +kernel
theorem dX9_done_198 : decode cX9_done 198 = .ok (.invokevirtual 87, 3) := by decide +kernel
theorem dX9_done_201 : decode cX9_done 201 = .ok (.ireturn, 1) := by decide +kernel
theorem dX9_done_202 : decode cX9_done 202 = .ok (.iload_n 3, 1) := by decide +kernel
theorem dX9_done_203 : decode cX9_done 203 = .ok (.tableswitch 329 0 22 #[105, 114, 149, 211, 248, 250, 329, 329, 329, 329, 329, 329, 329, 329, 329, 329, 329, 329, 329, 329, 329, 329, 320], 105) := by decide +kernel
theorem dX9_done_308 : decode cX9_done 308 = .ok (.aload_n 1, 1) := by decide +kernel
theorem dX9_done_309 : decode cX9_done 309 = .ok (.iload 4, 2) := by decide +kernel
theorem dX9_done_311 : decode cX9_done 311 = .ok (.i2l, 1) := by decide +kernel
theorem dX9_done_312 : decode cX9_done 312 = .ok (.invokevirtual 90, 3) := by decide +kernel
theorem dX9_done_315 : decode cX9_done 315 = .ok (.iconst 0, 1) := by decide +kernel
theorem dX9_done_316 : decode cX9_done 316 = .ok (.ireturn, 1) := by decide +kernel
theorem dX9_done_317 : decode cX9_done 317 = .ok (.iload 4, 2) := by decide +kernel
theorem dX9_done_319 : decode cX9_done 319 = .ok (.iconst 0, 1) := by decide +kernel
theorem dX9_done_320 : decode cX9_done 320 = .ok (.bipush 7, 2) := by decide +kernel
theorem dX9_done_322 : decode cX9_done 322 = .ok (.invokestatic 49, 3) := by decide +kernel
theorem dX9_done_325 : decode cX9_done 325 = .ok (.ifCond .ne 6, 3) := by decide +kernel
theorem dX9_done_328 : decode cX9_done 328 = .ok (.bipush 12, 2) := by decide +kernel
theorem dX9_done_330 : decode cX9_done 330 = .ok (.ireturn, 1) := by decide +kernel
theorem dX9_done_331 : decode cX9_done 331 = .ok (.aload_n 1, 1) := by decide +kernel
theorem dX9_done_332 : decode cX9_done 332 = .ok (.aload_n 0, 1) := by decide +kernel
theorem dX9_done_333 : decode cX9_done 333 = .ok (.getfield 23, 3) := by decide +kernel
theorem dX9_done_336 : decode cX9_done 336 = .ok (.bipush 8, 2) := by decide +kernel
theorem dX9_done_338 : decode cX9_done 338 = .ok (.aload_n 1, 1) := by decide +kernel
theorem dX9_done_339 : decode cX9_done 339 = .ok (.getfield 67, 3) := by decide +kernel
theorem dX9_done_342 : decode cX9_done 342 = .ok (.imul, 1) := by decide +kernel
theorem dX9_done_343 : decode cX9_done 343 = .ok (.iload 4, 2) := by decide +kernel
theorem dX9_done_345 : decode cX9_done 345 = .ok (.iadd, 1) := by decide +kernel
theorem dX9_done_346 : decode cX9_done 346 = .ok (.laload, 1) := by decide +kernel
theorem dX9_done_347 : decode cX9_done 347 = .ok (.invokevirtual 90, 3) := by decide +kernel
theorem dX9_done_350 : decode cX9_done 350 = .ok (.iconst 0, 1) := by decide +kernel
theorem dX9_done_351 : decode cX9_done 351 = .ok (.ireturn, 1) := by decide +kernel
theorem dX9_done_352 : decode cX9_done 352 = .ok (.iload 4, 2) := by decide +kernel
theorem dX9_done_354 : decode cX9_done 354 = .ok (.iconst 0, 1) := by decide +kernel
theorem dX9_done_355 : decode cX9_done 355 = .ok (.bipush 7, 2) := by decide +kernel
theorem dX9_done_357 : decode cX9_done 357 = .ok (.invokestatic 49, 3) := by decide +kernel
theorem dX9_done_360 : decode cX9_done 360 = .ok (.ifCond .eq 12, 3) := by decide +kernel
theorem dX9_done_363 : decode cX9_done 363 = .ok (.aload_n 1, 1) := by decide +kernel
theorem dX9_done_364 : decode cX9_done 364 = .ok (.iload 6, 2) := by decide +kernel
theorem dX9_done_366 : decode cX9_done 366 = .ok (.invokevirtual 94, 3) := by decide +kernel
theorem dX9_done_369 : decode cX9_done 369 = .ok (.ifCond .ne 21, 3) := by decide +kernel
theorem dX9_done_372 : decode cX9_done 372 = .ok (.iload 4, 2) := by decide +kernel
theorem dX9_done_374 : decode cX9_done 374 = .ok (.iconst 0, 1) := by decide +kernel
theorem dX9_done_375 : decode cX9_done 375 = .ok (.bipush 7, 2) := by decide +kernel
theorem dX9_done_377 : decode cX9_done 377 = .ok (.invokestatic 49, 3) := by decide +kernel
theorem dX9_done_380 : decode cX9_done 380 = .ok (.ifCond .ne 8, 3) := by decide +kernel
theorem dX9_done_383 : decode cX9_done 383 = .ok (.bipush 12, 2) := by decide +kernel
theorem dX9_done_385 : decode cX9_done 385 = .ok (.goto 4, 3) := by decide +kernel
theorem dX9_done_388 : decode cX9_done 388 = .ok (.iconst 4, 1) := by decide +kernel
theorem dX9_done_389 : decode cX9_done 389 = .ok (.ireturn, 1) := by decide +kernel
theorem dX9_done_390 : decode cX9_done 390 = .ok (.aload_n 0, 1) := by decide +kernel
theorem dX9_done_391 : decode cX9_done 391 = .ok (.getfield 23, 3) := by decide +kernel
theorem dX9_done_394 : decode cX9_done 394 = .ok (.bipush 8, 2) := by decide +kernel
theorem dX9_done_396 : decode cX9_done 396 = .ok (.aload_n 1, 1) := by decide +kernel
theorem dX9_done_397 : decode cX9_done 397 = .ok (.getfield 67, 3) := by decide +kernel
theorem dX9_done_400 : decode cX9_done 400 = .ok (.imul, 1) := by decide +kernel
theorem dX9_done_401 : decode cX9_done 401 = .ok (.iload 4, 2) := by decide +kernel
theorem dX9_done_403 : decode cX9_done 403 = .ok (.iadd, 1) := by decide +kernel
theorem dX9_done_404 : decode cX9_done 404 = .ok (.aload_n 1, 1) := by decide +kernel
theorem dX9_done_405 : decode cX9_done 405 = .ok (.getfield 97, 3) := by decide +kernel
theorem dX9_done_408 : decode cX9_done 408 = .ok (.iload 6, 2) := by decide +kernel
theorem dX9_done_410 : decode cX9_done 410 = .ok (.laload, 1) := by decide +kernel
theorem dX9_done_411 : decode cX9_done 411 = .ok (.lastore, 1) := by decide +kernel
theorem dX9_done_412 : decode cX9_done 412 = .ok (.iconst 0, 1) := by decide +kernel
theorem dX9_done_413 : decode cX9_done 413 = .ok (.ireturn, 1) := by decide +kernel
theorem dX9_done_414 : decode cX9_done 414 = .ok (.aload_n 1, 1) := by decide +kernel
theorem dX9_done_415 : decode cX9_done 415 = .ok (.dup, 1) := by decide +kernel
theorem dX9_done_416 : decode cX9_done 416 = .ok (.getfield 80, 3) := by decide +kernel
theorem dX9_done_419 : decode cX9_done 419 = .ok (.iconst 1, 1) := by decide +kernel
theorem dX9_done_420 : decode cX9_done 420 = .ok (.iadd, 1) := by decide +kernel
theorem dX9_done_421 : decode cX9_done 421 = .ok (.putfield 80, 3) := by decide +kernel
theorem dX9_done_424 : decode cX9_done 424 = .ok (.aload_n 1, 1) := by decide +kernel
theorem dX9_done_425 : decode cX9_done 425 = .ok (.aload_n 1, 1) := by decide +kernel
theorem dX9_done_426 : decode cX9_done 426 = .ok (.getfield 100, 3) := by decide +kernel
theorem dX9_done_429 : decode cX9_done 429 = .ok (.iload 6, 2) := by decide +kernel
theorem dX9_done_431 : decode cX9_done 431 = .ok (.iaload, 1) := by decide +kernel
theorem dX9_done_432 : decode cX9_done 432 = .ok (.aload_n 1, 1) := by decide +kernel
theorem dX9_done_433 : decode cX9_done 433 = .ok (.getfield 97, 3) := by decide +kernel
theorem dX9_done_436 : decode cX9_done 436 = .ok (.iload 6, 2) := by decide +kernel
theorem dX9_done_438 : decode cX9_done 438 = .ok (.laload, 1) := by decide +kernel
theorem dX9_done_439 : decode cX9_done 439 = .ok (.aload_n 1, 1) := by decide +kernel
theorem dX9_done_440 : decode cX9_done 440 = .ok (.getfield 103, 3) := by decide +kernel
theorem dX9_done_443 : decode cX9_done 443 = .ok (.iload 6, 2) := by decide +kernel
theorem dX9_done_445 : decode cX9_done 445 = .ok (.aaload, 1) := by decide +kernel
theorem dX9_done_446 : decode cX9_done 446 = .ok (.invokevirtual 107, 3) := by decide +kernel
theorem dX9_done_449 : decode cX9_done 449 = .ok (.iconst 0, 1) := by decide +kernel
theorem dX9_done_450 : decode cX9_done 450 = .ok (.ireturn, 1) := by decide +kernel
theorem dX9_done_451 : decode cX9_done 451 = .ok (.iconst 0, 1) := by decide +kernel
theorem dX9_done_452 : decode cX9_done 452 = .ok (.ireturn, 1) := by decide +kernel
theorem dX9_done_453 : decode cX9_done 453 = .ok (.aload_n 1, 1) := by decide +kernel
theorem dX9_done_454 : decode cX9_done 454 = .ok (.getfield 100, 3) := by decide +kernel
theorem dX9_done_457 : decode cX9_done 457 = .ok (.iload 6, 2) := by decide +kernel
theorem dX9_done_459 : decode cX9_done 459 = .ok (.iaload, 1) := by decide +kernel
theorem dX9_done_460 : decode cX9_done 460 = .ok (.istore 7, 2) := by decide +kernel
theorem dX9_done_462 : decode cX9_done 462 = .ok (.aload_n 1, 1) := by decide +kernel
theorem dX9_done_463 : decode cX9_done 463 = .ok (.getfield 97, 3) := by decide +kernel
theorem dX9_done_466 : decode cX9_done 466 = .ok (.iload 6, 2) := by decide +kernel
theorem dX9_done_468 : decode cX9_done 468 = .ok (.laload, 1) := by decide +kernel
theorem dX9_done_469 : decode cX9_done 469 = .ok (.lstore 8, 2) := by decide +kernel
theorem dX9_done_471 : decode cX9_done 471 = .ok (.aload_n 1, 1) := by decide +kernel
theorem dX9_done_472 : decode cX9_done 472 = .ok (.getfield 103, 3) := by decide +kernel
theorem dX9_done_475 : decode cX9_done 475 = .ok (.iload 6, 2) := by decide +kernel
theorem dX9_done_477 : decode cX9_done 477 = .ok (.aaload, 1) := by decide +kernel
theorem dX9_done_478 : decode cX9_done 478 = .ok (.astore 10, 2) := by decide +kernel
theorem dX9_done_480 : decode cX9_done 480 = .ok (.aload_n 1, 1) := by decide +kernel
theorem dX9_done_481 : decode cX9_done 481 = .ok (.aload_n 1, 1) := by decide +kernel
theorem dX9_done_482 : decode cX9_done 482 = .ok (.getfield 100, 3) := by decide +kernel
theorem dX9_done_485 : decode cX9_done 485 = .ok (.iload 6, 2) := by decide +kernel
theorem dX9_done_487 : decode cX9_done 487 = .ok (.iconst 1, 1) := by decide +kernel
theorem dX9_done_488 : decode cX9_done 488 = .ok (.iadd, 1) := by decide +kernel
theorem dX9_done_489 : decode cX9_done 489 = .ok (.iaload, 1) := by decide +kernel
theorem dX9_done_490 : decode cX9_done 490 = .ok (.aload_n 1, 1) := by decide +kernel
theorem dX9_done_491 : decode cX9_done 491 = .ok (.getfield 97, 3) := by decide +kernel
theorem dX9_done_494 : decode cX9_done 494 = .ok (.iload 6, 2) := by decide +kernel
theorem dX9_done_496 : decode cX9_done 496 = .ok (.iconst 1, 1) := by decide +kernel
theorem dX9_done_497 : decode cX9_done 497 = .ok (.iadd, 1) := by decide +kernel
theorem dX9_done_498 : decode cX9_done 498 = .ok (.laload, 1) := by decide +kernel
theorem dX9_done_499 : decode cX9_done 499 = .ok (.aload_n 1, 1) := by decide +kernel
theorem dX9_done_500 : decode cX9_done 500 = .ok (.getfield 103, 3) := by decide +kernel
theorem dX9_done_503 : decode cX9_done 503 = .ok (.iload 6, 2) := by decide +kernel
theorem dX9_done_505 : decode cX9_done 505 = .ok (.iconst 1, 1) := by decide +kernel
theorem dX9_done_506 : decode cX9_done 506 = .ok (.iadd, 1) := by decide +kernel
theorem dX9_done_507 : decode cX9_done 507 = .ok (.aaload, 1) := by decide +kernel
theorem dX9_done_508 : decode cX9_done 508 = .ok (.invokevirtual 107, 3) := by decide +kernel
theorem dX9_done_511 : decode cX9_done 511 = .ok (.aload_n 1, 1) := by decide +kernel
theorem dX9_done_512 : decode cX9_done 512 = .ok (.iload 7, 2) := by decide +kernel
theorem dX9_done_514 : decode cX9_done 514 = .ok (.lload 8, 2) := by decide +kernel
theorem dX9_done_516 : decode cX9_done 516 = .ok (.aload 10, 2) := by decide +kernel
theorem dX9_done_518 : decode cX9_done 518 = .ok (.invokevirtual 107, 3) := by decide +kernel
theorem dX9_done_521 : decode cX9_done 521 = .ok (.iconst 0, 1) := by decide +kernel
theorem dX9_done_522 : decode cX9_done 522 = .ok (.ireturn, 1) := by decide +kernel
theorem dX9_done_523 : decode cX9_done 523 = .ok (.aload_n 1, 1) := by decide +kernel
theorem dX9_done_524 : decode cX9_done 524 = .ok (.iconst 3, 1) := by decide +kernel
theorem dX9_done_525 : decode cX9_done 525 = .ok (.lconst 0, 1) := by decide +kernel
theorem dX9_done_526 : decode cX9_done 526 = .ok (.aconst_null, 1) := by decide +kernel
theorem dX9_done_527 : decode cX9_done 527 = .ok (.invokevirtual 107, 3) := by decide +kernel
theorem dX9_done_530 : decode cX9_done 530 = .ok (.iconst 0, 1) := by decide +kernel
theorem dX9_done_531 : decode cX9_done 531 = .ok (.ireturn, 1) := by decide +kernel
theorem dX9_done_532 : decode cX9_done 532 = .ok (.aload_n 0, 1) := by decide +kernel
theorem dX9_done_533 : decode cX9_done 533 = .ok (.aload_n 1, 1) := by decide +kernel
theorem dX9_done_534 : decode cX9_done 534 = .ok (.iload_n 3, 1) := by decide +kernel
theorem dX9_done_535 : decode cX9_done 535 = .ok (.iload 4, 2) := by decide +kernel
theorem dX9_done_537 : decode cX9_done 537 = .ok (.iload 6, 2) := by decide +kernel
theorem dX9_done_539 : decode cX9_done 539 = .ok (.invokevirtual 111, 3) := by decide +kernel
theorem dX9_done_542 : decode cX9_done 542 = .ok (.ireturn, 1) := by decide +kernel
theorem dX9_went_0 : decode cX9_went 0 = .ok (.iload_n 3, 1) := by decide +kernel
theorem dX9_went_1 : decode cX9_went 1 = .ok (.iconst 0, 1) := by decide +kernel
theorem dX9_went_2 : decode cX9_went 2 = .ok (.aload_n 0, 1) := by decide +kernel
theorem dX9_went_3 : decode cX9_went 3 = .ok (.getfield 16, 3) := by decide +kernel
theorem dX9_went_6 : decode cX9_went 6 = .ok (.bipush 6, 2) := by decide +kernel
theorem dX9_went_8 : decode cX9_went 8 = .ok (.aload_n 1, 1) := by decide +kernel
theorem dX9_went_9 : decode cX9_went 9 = .ok (.getfield 67, 3) := by decide +kernel
theorem dX9_went_12 : decode cX9_went 12 = .ok (.imul, 1) := by decide +kernel
theorem dX9_went_13 : decode cX9_went 13 = .ok (.aload_n 1, 1) := by decide +kernel
theorem dX9_went_14 : decode cX9_went 14 = .ok (.getfield 70, 3) := by decide +kernel
theorem dX9_went_17 : decode cX9_went 17 = .ok (.iadd, 1) := by decide +kernel
theorem dX9_went_18 : decode cX9_went 18 = .ok (.iaload, 1) := by decide +kernel
theorem dX9_went_19 : decode cX9_went 19 = .ok (.invokestatic 49, 3) := by decide +kernel
theorem dX9_went_22 : decode cX9_went 22 = .ok (.istore 5, 2) := by decide +kernel
theorem dX9_went_24 : decode cX9_went 24 = .ok (.iload_n 2, 1) := by decide +kernel
theorem dX9_went_25 : decode cX9_went 25 = .ok (.tableswitch 397 13 29 #[83, 112, 397, 397, 397, 397, 397, 397, 397, 397, 397, 168, 231, 253, 273, 313, 388], 83) := by decide +kernel
theorem dX9_went_108 : decode cX9_went 108 = .ok (.aload_n 1, 1) := by decide +kernel
theorem dX9_went_109 : decode cX9_went 109 = .ok (.iload 5, 2) := by decide +kernel
theorem dX9_went_111 : decode cX9_went 111 = .ok (.ifCond .eq 7, 3) := by decide +kernel
theorem dX9_went_114 : decode cX9_went 114 = .ok (.iload_n 3, 1) := by decide +kernel
