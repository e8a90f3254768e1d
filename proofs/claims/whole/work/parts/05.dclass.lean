theorem dX7_init_0 : decode cX7_init 0 = .ok (.aload_n 0, 1) := by decide +kernel
theorem dX7_init_1 : decode cX7_init 1 = .ok (.invokespecial 1, 3) := by decide +kernel
theorem dX7_init_4 : decode cX7_init 4 = .ok (.aload_n 0, 1) := by decide +kernel
theorem dX7_init_5 : decode cX7_init 5 = .ok (.new 7, 3) := by decide +kernel
theorem dX7_init_8 : decode cX7_init 8 = .ok (.dup, 1) := by decide +kernel
theorem dX7_init_9 : decode cX7_init 9 = .ok (.invokespecial 9, 3) := by decide +kernel
theorem dX7_init_12 : decode cX7_init 12 = .ok (.putfield 10, 3) := by decide +kernel
theorem dX7_init_15 : decode cX7_init 15 = .ok (.aload_n 0, 1) := by decide +kernel
theorem dX7_init_16 : decode cX7_init 16 = .ok (.new 16, 3) := by decide +kernel
theorem dX7_init_19 : decode cX7_init 19 = .ok (.dup, 1) := by decide +kernel
theorem dX7_init_20 : decode cX7_init 20 = .ok (.invokespecial 18, 3) := by decide +kernel
theorem dX7_init_23 : decode cX7_init 23 = .ok (.putfield 19, 3) := by decide +kernel
theorem dX7_init_26 : decode cX7_init 26 = .ok (.aload_n 0, 1) := by decide +kernel
theorem dX7_init_27 : decode cX7_init 27 = .ok (.new 23, 3) := by decide +kernel
theorem dX7_init_30 : decode cX7_init 30 = .ok (.dup, 1) := by decide +kernel
theorem dX7_init_31 : decode cX7_init 31 = .ok (.aload_n 0, 1) := by decide +kernel
theorem dX7_init_32 : decode cX7_init 32 = .ok (.getfield 10, 3) := by decide +kernel
theorem dX7_init_35 : decode cX7_init 35 = .ok (.aload_n 0, 1) := by decide +kernel
theorem dX7_init_36 : decode cX7_init 36 = .ok (.getfield 19, 3) := by decide +kernel
theorem dX7_init_39 : decode cX7_init 39 = .ok (.invokespecial 25, 3) := by decide +kernel
theorem dX7_init_42 : decode cX7_init 42 = .ok (.putfield 28, 3) := by decide +kernel
theorem dX7_init_45 : decode cX7_init 45 = .ok (.return_, 1) := by decide +kernel
theorem dX7_step_0 : decode cX7_step 0 = .ok (.iload_n 1, 1) := by decide +kernel
theorem dX7_step_1 : decode cX7_step 1 = .ok (.iload_n 2, 1) := by decide +kernel
theorem dX7_step_2 : decode cX7_step 2 = .ok (.invokestatic 32, 3) := by decide +kernel
theorem dX7_step_5 : decode cX7_step 5 = .ok (.ifCond .ne 5, 3) := by decide +kernel
theorem dX7_step_8 : decode cX7_step 8 = .ok (.iconst (-1), 1) := by decide +kernel
theorem dX7_step_9 : decode cX7_step 9 = .ok (.ireturn, 1) := by decide +kernel
theorem dX7_step_10 : decode cX7_step 10 = .ok (.aload_n 0, 1) := by decide +kernel
theorem dX7_step_11 : decode cX7_step 11 = .ok (.getfield 10, 3) := by decide +kernel
theorem dX7_step_14 : decode cX7_step 14 = .ok (.iload_n 1, 1) := by decide +kernel
theorem dX7_step_15 : decode cX7_step 15 = .ok (.iload_n 2, 1) := by decide +kernel
theorem dX7_step_16 : decode cX7_step 16 = .ok (.invokevirtual 36, 3) := by decide +kernel
theorem dX7_step_19 : decode cX7_step 19 = .ok (.astore 5, 2) := by decide +kernel
theorem dX7_step_21 : decode cX7_step 21 = .ok (.aload 5, 2) := by decide +kernel
theorem dX7_step_23 : decode cX7_step 23 = .ok (.iload_n 3, 1) := by decide +kernel
theorem dX7_step_24 : decode cX7_step 24 = .ok (.iload 4, 2) := by decide +kernel
theorem dX7_step_26 : decode cX7_step 26 = .ok (.invokevirtual 40, 3) := by decide +kernel
theorem dX7_step_29 : decode cX7_step 29 = .ok (.ifCond .eq 11, 3) := by decide +kernel
theorem dX7_step_32 : decode cX7_step 32 = .ok (.aload 5, 2) := by decide +kernel
theorem dX7_step_34 : decode cX7_step 34 = .ok (.getfield 45, 3) := by decide +kernel
theorem dX7_step_37 : decode cX7_step 37 = .ok (.goto 5, 3) := by decide +kernel
theorem dX7_step_40 : decode cX7_step 40 = .ok (.bipush (-2), 2) := by decide +kernel
theorem dX7_step_42 : decode cX7_step 42 = .ok (.ireturn, 1) := by decide +kernel
theorem dX7_empty_0 : decode cX7_empty 0 = .ok (.iload_n 1, 1) := by decide +kernel
theorem dX7_empty_1 : decode cX7_empty 1 = .ok (.iload_n 2, 1) := by decide +kernel
theorem dX7_empty_2 : decode cX7_empty 2 = .ok (.invokestatic 32, 3) := by decide +kernel
theorem dX7_empty_5 : decode cX7_empty 5 = .ok (.ifCond .ne 5, 3) := by decide +kernel
theorem dX7_empty_8 : decode cX7_empty 8 = .ok (.iconst (-1), 1) := by decide +kernel
theorem dX7_empty_9 : decode cX7_empty 9 = .ok (.ireturn, 1) := by decide +kernel
theorem dX7_empty_10 : decode cX7_empty 10 = .ok (.aload_n 0, 1) := by decide +kernel
theorem dX7_empty_11 : decode cX7_empty 11 = .ok (.getfield 10, 3) := by decide +kernel
theorem dX7_empty_14 : decode cX7_empty 14 = .ok (.iload_n 1, 1) := by decide +kernel
theorem dX7_empty_15 : decode cX7_empty 15 = .ok (.iload_n 2, 1) := by decide +kernel
theorem dX7_empty_16 : decode cX7_empty 16 = .ok (.invokevirtual 36, 3) := by decide +kernel
theorem dX7_empty_19 : decode cX7_empty 19 = .ok (.astore_n 3, 1) := by decide +kernel
theorem dX7_empty_20 : decode cX7_empty 20 = .ok (.aload_n 3, 1) := by decide +kernel
theorem dX7_empty_21 : decode cX7_empty 21 = .ok (.getfield 45, 3) := by decide +kernel
theorem dX7_empty_24 : decode cX7_empty 24 = .ok (.istore 4, 2) := by decide +kernel
theorem dX7_empty_26 : decode cX7_empty 26 = .ok (.aload_n 3, 1) := by decide +kernel
theorem dX7_empty_27 : decode cX7_empty 27 = .ok (.iconst 0, 1) := by decide +kernel
theorem dX7_empty_28 : decode cX7_empty 28 = .ok (.putfield 45, 3) := by decide +kernel
theorem dX7_empty_31 : decode cX7_empty 31 = .ok (.iload 4, 2) := by decide +kernel
theorem dX7_empty_33 : decode cX7_empty 33 = .ok (.ireturn, 1) := by decide +kernel
theorem dX7_guard_0 : decode cX7_guard 0 = .ok (.iload_n 1, 1) := by decide +kernel
theorem dX7_guard_1 : decode cX7_guard 1 = .ok (.invokestatic 49, 3) := by decide +kernel
theorem dX7_guard_4 : decode cX7_guard 4 = .ok (.ifCond .ne 5, 3) := by decide +kernel
theorem dX7_guard_7 : decode cX7_guard 7 = .ok (.iconst (-1), 1) := by decide +kernel
theorem dX7_guard_8 : decode cX7_guard 8 = .ok (.ireturn, 1) := by decide +kernel
theorem dX7_guard_9 : decode cX7_guard 9 = .ok (.aload_n 0, 1) := by decide +kernel
theorem dX7_guard_10 : decode cX7_guard 10 = .ok (.getfield 10, 3) := by decide +kernel
theorem dX7_guard_13 : decode cX7_guard 13 = .ok (.getfield 53, 3) := by decide +kernel
theorem dX7_guard_16 : decode cX7_guard 16 = .ok (.iload_n 1, 1) := by decide +kernel
theorem dX7_guard_17 : decode cX7_guard 17 = .ok (.baload, 1) := by decide +kernel
theorem dX7_guard_18 : decode cX7_guard 18 = .ok (.istore_n 3, 1) := by decide +kernel
theorem dX7_guard_19 : decode cX7_guard 19 = .ok (.aload_n 0, 1) := by decide +kernel
theorem dX7_guard_20 : decode cX7_guard 20 = .ok (.getfield 10, 3) := by decide +kernel
theorem dX7_guard_23 : decode cX7_guard 23 = .ok (.getfield 53, 3) := by decide +kernel
theorem dX7_guard_26 : decode cX7_guard 26 = .ok (.iload_n 1, 1) := by decide +kernel
theorem dX7_guard_27 : decode cX7_guard 27 = .ok (.iload_n 2, 1) := by decide +kernel
theorem dX7_guard_28 : decode cX7_guard 28 = .ok (.bastore, 1) := by decide +kernel
theorem dX7_guard_29 : decode cX7_guard 29 = .ok (.iload_n 3, 1) := by decide +kernel
theorem dX7_guard_30 : decode cX7_guard 30 = .ok (.ifCond .eq 7, 3) := by decide +kernel
theorem dX7_guard_33 : decode cX7_guard 33 = .ok (.iconst 1, 1) := by decide +kernel
theorem dX7_guard_34 : decode cX7_guard 34 = .ok (.goto 4, 3) := by decide +kernel
theorem dX7_guard_37 : decode cX7_guard 37 = .ok (.iconst 0, 1) := by decide +kernel
theorem dX7_guard_38 : decode cX7_guard 38 = .ok (.ireturn, 1) := by decide +kernel
theorem dX7_fund_0 : decode cX7_fund 0 = .ok (.iload_n 1, 1) := by decide +kernel
theorem dX7_fund_1 : decode cX7_fund 1 = .ok (.invokestatic 49, 3) := by decide +kernel
theorem dX7_fund_4 : decode cX7_fund 4 = .ok (.ifCond .eq 9, 3) := by decide +kernel
theorem dX7_fund_7 : decode cX7_fund 7 = .ok (.lload_n 2, 1) := by decide +kernel
theorem dX7_fund_8 : decode cX7_fund 8 = .ok (.lconst 0, 1) := by decide +kernel
theorem dX7_fund_9 : decode cX7_fund 9 = .ok (.lcmp, 1) := by decide +kernel
theorem dX7_fund_10 : decode cX7_fund 10 = .ok (.ifCond .ge 5, 3) := by decide +kernel
theorem dX7_fund_13 : decode cX7_fund 13 = .ok (.iconst (-1), 1) := by decide +kernel
theorem dX7_fund_14 : decode cX7_fund 14 = .ok (.ireturn, 1) := by decide +kernel
theorem dX7_fund_15 : decode cX7_fund 15 = .ok (.aload_n 0, 1) := by decide +kernel
theorem dX7_fund_16 : decode cX7_fund 16 = .ok (.getfield 19, 3) := by decide +kernel
theorem dX7_fund_19 : decode cX7_fund 19 = .ok (.getfield 57, 3) := by decide +kernel
theorem dX7_fund_22 : decode cX7_fund 22 = .ok (.iload_n 1, 1) := by decide +kernel
theorem dX7_fund_23 : decode cX7_fund 23 = .ok (.lload_n 2, 1) := by decide +kernel
theorem dX7_fund_24 : decode cX7_fund 24 = .ok (.lastore, 1) := by decide +kernel
theorem dX7_fund_25 : decode cX7_fund 25 = .ok (.iconst 1, 1) := by decide +kernel
theorem dX7_fund_26 : decode cX7_fund 26 = .ok (.ireturn, 1) := by decide +kernel
theorem dX7_run_0 : decode cX7_run 0 = .ok (.iload_n 1, 1) := by decide +kernel
theorem dX7_run_1 : decode cX7_run 1 = .ok (.iload_n 2, 1) := by decide +kernel
theorem dX7_run_2 : decode cX7_run 2 = .ok (.invokestatic 32, 3) := by decide +kernel
theorem dX7_run_5 : decode cX7_run 5 = .ok (.ifCond .eq 16, 3) := by decide +kernel
theorem dX7_run_8 : decode cX7_run 8 = .ok (.iload 5, 2) := by decide +kernel
theorem dX7_run_10 : decode cX7_run 10 = .ok (.ifCond .lt 11, 3) := by decide +kernel
theorem dX7_run_13 : decode cX7_run 13 = .ok (.iload 5, 2) := by decide +kernel
theorem dX7_run_15 : decode cX7_run 15 = .ok (.sipush 600, 3) := by decide +kernel
theorem dX7_run_18 : decode cX7_run 18 = .ok (.if_icmp .le 5, 3) := by decide +kernel
theorem dX7_run_21 : decode cX7_run 21 = .ok (.iconst (-1), 1) := by decide +kernel
theorem dX7_run_22 : decode cX7_run 22 = .ok (.ireturn, 1) := by decide +kernel
theorem dX7_run_23 : decode cX7_run 23 = .ok (.aload_n 0, 1) := by decide +kernel
theorem dX7_run_24 : decode cX7_run 24 = .ok (.getfield 28, 3) := by decide +kernel
theorem dX7_run_27 : decode cX7_run 27 = .ok (.iload_n 1, 1) := by decide +kernel
theorem dX7_run_28 : decode cX7_run 28 = .ok (.iload_n 2, 1) := by decide +kernel
theorem dX7_run_29 : decode cX7_run 29 = .ok (.lload_n 3, 1) := by decide +kernel
theorem dX7_run_30 : decode cX7_run 30 = .ok (.iload 5, 2) := by decide +kernel
theorem dX7_run_32 : decode cX7_run 32 = .ok (.invokevirtual 61, 3) := by decide +kernel
theorem dX7_run_35 : decode cX7_run 35 = .ok (.ireturn, 1) := by decide +kernel
theorem dX7_given_0 : decode cX7_given 0 = .ok (.aload_n 0, 1) := by decide +kernel
theorem dX7_given_1 : decode cX7_given 1 = .ok (.getfield 28, 3) := by decide +kernel
theorem dX7_given_4 : decode cX7_given 4 = .ok (.getfield 65, 3) := by decide +kernel
theorem dX7_given_7 : decode cX7_given 7 = .ok (.lreturn, 1) := by decide +kernel
theorem dX7_told_0 : decode cX7_told 0 = .ok (.iload_n 1, 1) := by decide +kernel
theorem dX7_told_1 : decode cX7_told 1 = .ok (.ifCond .lt 20, 3) := by decide +kernel
theorem dX7_told_4 : decode cX7_told 4 = .ok (.iload_n 1, 1) := by decide +kernel
theorem dX7_told_5 : decode cX7_told 5 = .ok (.iconst 5, 1) := by decide +kernel
theorem dX7_told_6 : decode cX7_told 6 = .ok (.if_icmp .ge 15, 3) := by decide +kernel
theorem dX7_told_9 : decode cX7_told 9 = .ok (.aload_n 0, 1) := by decide +kernel
theorem dX7_told_10 : decode cX7_told 10 = .ok (.getfield 28, 3) := by decide +kernel
theorem dX7_told_13 : decode cX7_told 13 = .ok (.getfield 69, 3) := by decide +kernel
theorem dX7_told_16 : decode cX7_told 16 = .ok (.iload_n 1, 1) := by decide +kernel
theorem dX7_told_17 : decode cX7_told 17 = .ok (.iaload, 1) := by decide +kernel
theorem dX7_told_18 : decode cX7_told 18 = .ok (.goto 4, 3) := by decide +kernel
theorem dX7_told_21 : decode cX7_told 21 = .ok (.iconst (-1), 1) := by decide +kernel
theorem dX7_told_22 : decode cX7_told 22 = .ok (.ireturn, 1) := by decide +kernel
theorem dX7_leaf_0 : decode cX7_leaf 0 = .ok (.iload_n 1, 1) := by decide +kernel
theorem dX7_leaf_1 : decode cX7_leaf 1 = .ok (.invokestatic 49, 3) := by decide +kernel
theorem dX7_leaf_4 : decode cX7_leaf 4 = .ok (.ifCond .eq 27, 3) := by decide +kernel
theorem dX7_leaf_7 : decode cX7_leaf 7 = .ok (.iload_n 2, 1) := by decide +kernel
theorem dX7_leaf_8 : decode cX7_leaf 8 = .ok (.invokestatic 73, 3) := by decide +kernel
theorem dX7_leaf_11 : decode cX7_leaf 11 = .ok (.ifCond .eq 20, 3) := by decide +kernel
theorem dX7_leaf_14 : decode cX7_leaf 14 = .ok (.aload_n 0, 1) := by decide +kernel
theorem dX7_leaf_15 : decode cX7_leaf 15 = .ok (.getfield 19, 3) := by decide +kernel
theorem dX7_leaf_18 : decode cX7_leaf 18 = .ok (.getfield 76, 3) := by decide +kernel
theorem dX7_leaf_21 : decode cX7_leaf 21 = .ok (.iload_n 1, 1) := by decide +kernel
theorem dX7_leaf_22 : decode cX7_leaf 22 = .ok (.bipush 8, 2) := by decide +kernel
theorem dX7_leaf_24 : decode cX7_leaf 24 = .ok (.imul, 1) := by decide +kernel
theorem dX7_leaf_25 : decode cX7_leaf 25 = .ok (.iload_n 2, 1) := by decide +kernel
theorem dX7_leaf_26 : decode cX7_leaf 26 = .ok (.iadd, 1) := by decide +kernel
theorem dX7_leaf_27 : decode cX7_leaf 27 = .ok (.laload, 1) := by decide +kernel
theorem dX7_leaf_28 : decode cX7_leaf 28 = .ok (.goto 4, 3) := by decide +kernel
theorem dX7_leaf_31 : decode cX7_leaf 31 = .ok (.lconst 0, 1) := by decide +kernel
theorem dX7_leaf_32 : decode cX7_leaf 32 = .ok (.lreturn, 1) := by decide +kernel
theorem dX7_balance_0 : decode cX7_balance 0 = .ok (.iload_n 1, 1) := by decide +kernel
theorem dX7_balance_1 : decode cX7_balance 1 = .ok (.invokestatic 49, 3) := by decide +kernel
theorem dX7_balance_4 : decode cX7_balance 4 = .ok (.ifCond .eq 15, 3) := by decide +kernel
theorem dX7_balance_7 : decode cX7_balance 7 = .ok (.aload_n 0, 1) := by decide +kernel
theorem dX7_balance_8 : decode cX7_balance 8 = .ok (.getfield 19, 3) := by decide +kernel
theorem dX7_balance_11 : decode cX7_balance 11 = .ok (.getfield 57, 3) := by decide +kernel
theorem dX7_balance_14 : decode cX7_balance 14 = .ok (.iload_n 1, 1) := by decide +kernel
theorem dX7_balance_15 : decode cX7_balance 15 = .ok (.laload, 1) := by decide +kernel
theorem dX7_balance_16 : decode cX7_balance 16 = .ok (.goto 4, 3) := by decide +kernel
theorem dX7_balance_19 : decode cX7_balance 19 = .ok (.lconst 0, 1) := by decide +kernel
theorem dX7_balance_20 : decode cX7_balance 20 = .ok (.lreturn, 1) := by decide +kernel
theorem dX7_events_0 : decode cX7_events 0 = .ok (.aload_n 0, 1) := by decide +kernel
theorem dX7_events_1 : decode cX7_events 1 = .ok (.getfield 19, 3) := by decide +kernel
theorem dX7_events_4 : decode cX7_events 4 = .ok (.getfield 79, 3) := by decide +kernel
theorem dX7_events_7 : decode cX7_events 7 = .ok (.ireturn, 1) := by decide +kernel
theorem dX7_event_0 : decode cX7_event 0 = .ok (.aload_n 0, 1) := by decide +kernel
theorem dX7_event_1 : decode cX7_event 1 = .ok (.getfield 19, 3) := by decide +kernel
theorem dX7_event_4 : decode cX7_event 4 = .ok (.iload_n 1, 1) := by decide +kernel
theorem dX7_event_5 : decode cX7_event 5 = .ok (.invokevirtual 82, 3) := by decide +kernel
theorem dX7_event_8 : decode cX7_event 8 = .ok (.ifCond .eq 19, 3) := by decide +kernel
theorem dX7_event_11 : decode cX7_event 11 = .ok (.iload_n 2, 1) := by decide +kernel
theorem dX7_event_12 : decode cX7_event 12 = .ok (.ifCond .ne 15, 3) := by decide +kernel
theorem dX7_event_15 : decode cX7_event 15 = .ok (.aload_n 0, 1) := by decide +kernel
theorem dX7_event_16 : decode cX7_event 16 = .ok (.getfield 19, 3) := by decide +kernel
theorem dX7_event_19 : decode cX7_event 19 = .ok (.getfield 85, 3) := by decide +kernel
theorem dX7_event_22 : decode cX7_event 22 = .ok (.iload_n 1, 1) := by decide +kernel
theorem dX7_event_23 : decode cX7_event 23 = .ok (.iaload, 1) := by decide +kernel
theorem dX7_event_24 : decode cX7_event 24 = .ok (.goto 4, 3) := by decide +kernel
theorem dX7_event_27 : decode cX7_event 27 = .ok (.iconst (-1), 1) := by decide +kernel
theorem dX7_event_28 : decode cX7_event 28 = .ok (.ireturn, 1) := by decide +kernel
theorem dX7_value_0 : decode cX7_value 0 = .ok (.aload_n 0, 1) := by decide +kernel
theorem dX7_value_1 : decode cX7_value 1 = .ok (.getfield 19, 3) := by decide +kernel
theorem dX7_value_4 : decode cX7_value 4 = .ok (.iload_n 1, 1) := by decide +kernel
theorem dX7_value_5 : decode cX7_value 5 = .ok (.invokevirtual 82, 3) := by decide +kernel
theorem dX7_value_8 : decode cX7_value 8 = .ok (.ifCond .ne 13, 3) := by decide +kernel
theorem dX7_value_11 : decode cX7_value 11 = .ok (.new 88, 3) := by decide +kernel
theorem dX7_value_14 : decode cX7_value 14 = .ok (.dup, 1) := by decide +kernel
theorem dX7_value_15 : decode cX7_value 15 = .ok (.ldc 90, 2) := by decide +kernel
theorem dX7_value_17 : decode cX7_value 17 = .ok (.invokespecial 92, 3) := by decide +kernel
theorem dX7_value_20 : decode cX7_value 20 = .ok (.athrow, 1) := by decide +kernel
theorem dX7_value_21 : decode cX7_value 21 = .ok (.aload_n 0, 1) := by decide +kernel
theorem dX7_value_22 : decode cX7_value 22 = .ok (.getfield 19, 3) := by decide +kernel
theorem dX7_value_25 : decode cX7_value 25 = .ok (.getfield 95, 3) := by decide +kernel
theorem dX7_value_28 : decode cX7_value 28 = .ok (.iload_n 1, 1) := by decide +kernel
theorem dX7_value_29 : decode cX7_value 29 = .ok (.laload, 1) := by decide +kernel
theorem dX7_value_30 : decode cX7_value 30 = .ok (.lreturn, 1) := by decide +kernel
theorem dX7_isContract_0 : decode cX7_isContract 0 = .ok (.iload_n 0, 1) := by decide +kernel
theorem dX7_isContract_1 : decode cX7_isContract 1 = .ok (.ifCond .lt 13, 3) := by decide +kernel
theorem dX7_isContract_4 : decode cX7_isContract 4 = .ok (.iload_n 0, 1) := by decide +kernel
theorem dX7_isContract_5 : decode cX7_isContract 5 = .ok (.bipush 8, 2) := by decide +kernel
theorem dX7_isContract_7 : decode cX7_isContract 7 = .ok (.if_icmp .ge 7, 3) := by decide +kernel
theorem dX7_isContract_10 : decode cX7_isContract 10 = .ok (.iconst 1, 1) := by decide +kernel
theorem dX7_isContract_11 : decode cX7_isContract 11 = .ok (.goto 4, 3) := by decide +kernel
theorem dX7_isContract_14 : decode cX7_isContract 14 = .ok (.iconst 0, 1) := by decide +kernel
theorem dX7_isContract_15 : decode cX7_isContract 15 = .ok (.ireturn, 1) := by decide +kernel
theorem dX7_isBehaviour_0 : decode cX7_isBehaviour 0 = .ok (.iload_n 0, 1) := by decide +kernel
theorem dX7_isBehaviour_1 : decode cX7_isBehaviour 1 = .ok (.invokestatic 49, 3) := by decide +kernel
theorem dX7_isBehaviour_4 : decode cX7_isBehaviour 4 = .ok (.ifCond .eq 17, 3) := by decide +kernel
theorem dX7_isBehaviour_7 : decode cX7_isBehaviour 7 = .ok (.iload_n 1, 1) := by decide +kernel
theorem dX7_isBehaviour_8 : decode cX7_isBehaviour 8 = .ok (.ifCond .lt 13, 3) := by decide +kernel
theorem dX7_isBehaviour_11 : decode cX7_isBehaviour 11 = .ok (.iload_n 1, 1) := by decide +kernel
theorem dX7_isBehaviour_12 : decode cX7_isBehaviour 12 = .ok (.bipush 6, 2) := by decide +kernel
theorem dX7_isBehaviour_14 : decode cX7_isBehaviour 14 = .ok (.if_icmp .ge 7, 3) := by decide +kernel
theorem dX7_isBehaviour_17 : decode cX7_isBehaviour 17 = .ok (.iconst 1, 1) := by decide +kernel
theorem dX7_isBehaviour_18 : decode cX7_isBehaviour 18 = .ok (.goto 4, 3) := by decide +kernel
theorem dX7_isBehaviour_21 : decode cX7_isBehaviour 21 = .ok (.iconst 0, 1) := by decide +kernel
theorem dX7_isBehaviour_22 : decode cX7_isBehaviour 22 = .ok (.ireturn, 1) := by decide +kernel
theorem dX7_isLeaf_0 : decode cX7_isLeaf 0 = .ok (.iload_n 0, 1) := by decide +kernel
theorem dX7_isLeaf_1 : decode cX7_isLeaf 1 = .ok (.ifCond .lt 13, 3) := by decide +kernel
theorem dX7_isLeaf_4 : decode cX7_isLeaf 4 = .ok (.iload_n 0, 1) := by decide +kernel
theorem dX7_isLeaf_5 : decode cX7_isLeaf 5 = .ok (.bipush 8, 2) := by decide +kernel
theorem dX7_isLeaf_7 : decode cX7_isLeaf 7 = .ok (.if_icmp .ge 7, 3) := by decide +kernel
theorem dX7_isLeaf_10 : decode cX7_isLeaf 10 = .ok (.iconst 1, 1) := by decide +kernel
theorem dX7_isLeaf_11 : decode cX7_isLeaf 11 = .ok (.goto 4, 3) := by decide +kernel
theorem dX7_isLeaf_14 : decode cX7_isLeaf 14 = .ok (.iconst 0, 1) := by decide +kernel
theorem dX7_isLeaf_15 : decode cX7_isLeaf 15 = .ok (.ireturn, 1) := by decide +kernel
theorem dX7_sumFits_0 : decode cX7_sumFits 0 = .ok (.lload_n 0, 1) := by decide +kernel
theorem dX7_sumFits_1 : decode cX7_sumFits 1 = .ok (.lload_n 2, 1) := by decide +kernel
theorem dX7_sumFits_2 : decode cX7_sumFits 2 = .ok (.ladd, 1) := by decide +kernel
theorem dX7_sumFits_3 : decode cX7_sumFits 3 = .ok (.lstore 4, 2) := by decide +kernel
theorem dX7_sumFits_5 : decode cX7_sumFits 5 = .ok (.lload_n 0, 1) := by decide +kernel
theorem dX7_sumFits_6 : decode cX7_sumFits 6 = .ok (.lload 4, 2) := by decide +kernel
theorem dX7_sumFits_8 : decode cX7_sumFits 8 = .ok (.lxor, 1) := by decide +kernel
theorem dX7_sumFits_9 : decode cX7_sumFits 9 = .ok (.lload_n 2, 1) := by decide +kernel
theorem dX7_sumFits_10 : decode cX7_sumFits 10 = .ok (.lload 4, 2) := by decide +kernel
theorem dX7_sumFits_12 : decode cX7_sumFits 12 = .ok (.lxor, 1) := by decide +kernel
theorem dX7_sumFits_13 : decode cX7_sumFits 13 = .ok (.land, 1) := by decide +kernel
theorem dX7_sumFits_14 : decode cX7_sumFits 14 = .ok (.lconst 0, 1) := by decide +kernel
theorem dX7_sumFits_15 : decode cX7_sumFits 15 = .ok (.lcmp, 1) := by decide +kernel
theorem dX7_sumFits_16 : decode cX7_sumFits 16 = .ok (.ifCond .lt 7, 3) := by decide +kernel
theorem dX7_sumFits_19 : decode cX7_sumFits 19 = .ok (.iconst 1, 1) := by decide +kernel
theorem dX7_sumFits_20 : decode cX7_sumFits 20 = .ok (.goto 4, 3) := by decide +kernel
theorem dX7_sumFits_23 : decode cX7_sumFits 23 = .ok (.iconst 0, 1) := by decide +kernel
theorem dX7_sumFits_24 : decode cX7_sumFits 24 = .ok (.ireturn, 1) := by decide +kernel
theorem dX7_differenceFits_0 : decode cX7_differenceFits 0 = .ok (.lload_n 0, 1) := by decide +kernel
theorem dX7_differenceFits_1 : decode cX7_differenceFits 1 = .ok (.lload_n 2, 1) := by decide +kernel
theorem dX7_differenceFits_2 : decode cX7_differenceFits 2 = .ok (.lsub, 1) := by decide +kernel
theorem dX7_differenceFits_3 : decode cX7_differenceFits 3 = .ok (.lstore 4, 2) := by decide +kernel
theorem dX7_differenceFits_5 : decode cX7_differenceFits 5 = .ok (.lload_n 0, 1) := by decide +kernel
theorem dX7_differenceFits_6 : decode cX7_differenceFits 6 = .ok (.lload_n 2, 1) := by decide +kernel
theorem dX7_differenceFits_7 : decode cX7_differenceFits 7 = .ok (.lxor, 1) := by decide +kernel
theorem dX7_differenceFits_8 : decode cX7_differenceFits 8 = .ok (.lload_n 0, 1) := by decide +kernel
theorem dX7_differenceFits_9 : decode cX7_differenceFits 9 = .ok (.lload 4, 2) := by decide +kernel
theorem dX7_differenceFits_11 : decode cX7_differenceFits 11 = .ok (.lxor, 1) := by decide +kernel
theorem dX7_differenceFits_12 : decode cX7_differenceFits 12 = .ok (.land, 1) := by decide +kernel
theorem dX7_differenceFits_13 : decode cX7_differenceFits 13 = .ok (.lconst 0, 1) := by decide +kernel
theorem dX7_differenceFits_14 : decode cX7_differenceFits 14 = .ok (.lcmp, 1) := by decide +kernel
theorem dX7_differenceFits_15 : decode cX7_differenceFits 15 = .ok (.ifCond .lt 7, 3) := by decide +kernel
theorem dX7_differenceFits_18 : decode cX7_differenceFits 18 = .ok (.iconst 1, 1) := by decide +kernel
theorem dX7_differenceFits_19 : decode cX7_differenceFits 19 = .ok (.goto 4, 3) := by decide +kernel
theorem dX7_differenceFits_22 : decode cX7_differenceFits 22 = .ok (.iconst 0, 1) := by decide +kernel
theorem dX7_differenceFits_23 : decode cX7_differenceFits 23 = .ok (.ireturn, 1) := by decide +kernel
theorem dX7_productFits_0 : decode cX7_productFits 0 = .ok (.lload_n 0, 1) := by decide +kernel
theorem dX7_productFits_1 : decode cX7_productFits 1 = .ok (.lconst 0, 1) := by decide +kernel
theorem dX7_productFits_2 : decode cX7_productFits 2 = .ok (.lcmp, 1) := by decide +kernel
theorem dX7_productFits_3 : decode cX7_productFits 3 = .ok (.ifCond .ne 5, 3) := by decide +kernel
theorem dX7_productFits_6 : decode cX7_productFits 6 = .ok (.iconst 1, 1) := by decide +kernel
theorem dX7_productFits_7 : decode cX7_productFits 7 = .ok (.ireturn, 1) := by decide +kernel
theorem dX7_productFits_8 : decode cX7_productFits 8 = .ok (.lload_n 0, 1) := by decide +kernel
theorem dX7_productFits_9 : decode cX7_productFits 9 = .ok (.ldc2_w 98, 3) := by decide +kernel
theorem dX7_productFits_12 : decode cX7_productFits 12 = .ok (.lcmp, 1) := by decide +kernel
theorem dX7_productFits_13 : decode cX7_productFits 13 = .ok (.ifCond .ne 17, 3) := by decide +kernel
theorem dX7_productFits_16 : decode cX7_productFits 16 = .ok (.lload_n 2, 1) := by decide +kernel
theorem dX7_productFits_17 : decode cX7_productFits 17 = .ok (.ldc2_w 102, 3) := by decide +kernel
theorem dX7_productFits_20 : decode cX7_productFits 20 = .ok (.lcmp, 1) := by decide +kernel
theorem dX7_productFits_21 : decode cX7_productFits 21 = .ok (.ifCond .eq 7, 3) := by decide +kernel
theorem dX7_productFits_24 : decode cX7_productFits 24 = .ok (.iconst 1, 1) := by decide +kernel
theorem dX7_productFits_25 : decode cX7_productFits 25 = .ok (.goto 4, 3) := by decide +kernel
theorem dX7_productFits_28 : decode cX7_productFits 28 = .ok (.iconst 0, 1) := by decide +kernel
theorem dX7_productFits_29 : decode cX7_productFits 29 = .ok (.ireturn, 1) := by decide +kernel
theorem dX7_productFits_30 : decode cX7_productFits 30 = .ok (.lload_n 0, 1) := by decide +kernel
theorem dX7_productFits_31 : decode cX7_productFits 31 = .ok (.lload_n 2, 1) := by decide +kernel
theorem dX7_productFits_32 : decode cX7_productFits 32 = .ok (.lmul, 1) := by decide +kernel
theorem dX7_productFits_33 : decode cX7_productFits 33 = .ok (.lload_n 0, 1) := by decide +kernel
theorem dX7_productFits_34 : decode cX7_productFits 34 = .ok (.ldiv, 1) := by decide +kernel
theorem dX7_productFits_35 : decode cX7_productFits 35 = .ok (.lload_n 2, 1) := by decide +kernel
theorem dX7_productFits_36 : decode cX7_productFits 36 = .ok (.lcmp, 1) := by decide +kernel
theorem dX7_productFits_37 : decode cX7_productFits 37 = .ok (.ifCond .ne 7, 3) := by decide +kernel
theorem dX7_productFits_40 : decode cX7_productFits 40 = .ok (.iconst 1, 1) := by decide +kernel
theorem dX7_productFits_41 : decode cX7_productFits 41 = .ok (.goto 4, 3) := by decide +kernel
theorem dX7_productFits_44 : decode cX7_productFits 44 = .ok (.iconst 0, 1) := by decide +kernel
theorem dX7_productFits_45 : decode cX7_productFits 45 = .ok (.ireturn, 1) := by decide +kernel
