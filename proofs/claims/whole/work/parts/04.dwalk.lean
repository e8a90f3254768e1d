theorem dX6_init_0 : decode cX6_init 0 = .ok (.aload_n 0, 1) := by decide +kernel
theorem dX6_init_1 : decode cX6_init 1 = .ok (.invokespecial 3, 3) := by decide +kernel
theorem dX6_init_4 : decode cX6_init 4 = .ok (.aload_n 0, 1) := by decide +kernel
theorem dX6_init_5 : decode cX6_init 5 = .ok (.bipush 10, 2) := by decide +kernel
theorem dX6_init_7 : decode cX6_init 7 = .ok (.anewarray 9, 3) := by decide +kernel
theorem dX6_init_10 : decode cX6_init 10 = .ok (.putfield 11, 3) := by decide +kernel
theorem dX6_init_13 : decode cX6_init 13 = .ok (.aload_n 0, 1) := by decide +kernel
theorem dX6_init_14 : decode cX6_init 14 = .ok (.iconst 5, 1) := by decide +kernel
theorem dX6_init_15 : decode cX6_init 15 = .ok (.newarray .int, 2) := by decide +kernel
theorem dX6_init_17 : decode cX6_init 17 = .ok (.putfield 17, 3) := by decide +kernel
theorem dX6_init_20 : decode cX6_init 20 = .ok (.aload_n 0, 1) := by decide +kernel
theorem dX6_init_21 : decode cX6_init 21 = .ok (.iconst 0, 1) := by decide +kernel
theorem dX6_init_22 : decode cX6_init 22 = .ok (.putfield 21, 3) := by decide +kernel
theorem dX6_init_25 : decode cX6_init 25 = .ok (.aload_n 0, 1) := by decide +kernel
theorem dX6_init_26 : decode cX6_init 26 = .ok (.iconst 0, 1) := by decide +kernel
theorem dX6_init_27 : decode cX6_init 27 = .ok (.putfield 25, 3) := by decide +kernel
theorem dX6_init_30 : decode cX6_init 30 = .ok (.aload_n 0, 1) := by decide +kernel
theorem dX6_init_31 : decode cX6_init 31 = .ok (.lconst 0, 1) := by decide +kernel
theorem dX6_init_32 : decode cX6_init 32 = .ok (.putfield 28, 3) := by decide +kernel
theorem dX6_init_35 : decode cX6_init 35 = .ok (.aload_n 0, 1) := by decide +kernel
theorem dX6_init_36 : decode cX6_init 36 = .ok (.aload_n 1, 1) := by decide +kernel
theorem dX6_init_37 : decode cX6_init 37 = .ok (.putfield 32, 3) := by decide +kernel
theorem dX6_init_40 : decode cX6_init 40 = .ok (.aload_n 0, 1) := by decide +kernel
theorem dX6_init_41 : decode cX6_init 41 = .ok (.aload_n 2, 1) := by decide +kernel
theorem dX6_init_42 : decode cX6_init 42 = .ok (.putfield 36, 3) := by decide +kernel
theorem dX6_init_45 : decode cX6_init 45 = .ok (.iconst 0, 1) := by decide +kernel
theorem dX6_init_46 : decode cX6_init 46 = .ok (.istore_n 3, 1) := by decide +kernel
theorem dX6_init_47 : decode cX6_init 47 = .ok (.iload_n 3, 1) := by decide +kernel
theorem dX6_init_48 : decode cX6_init 48 = .ok (.bipush 10, 2) := by decide +kernel
theorem dX6_init_50 : decode cX6_init 50 = .ok (.if_icmp .ge 28, 3) := by decide +kernel
theorem dX6_init_53 : decode cX6_init 53 = .ok (.aload_n 0, 1) := by decide +kernel
theorem dX6_init_54 : decode cX6_init 54 = .ok (.getfield 11, 3) := by decide +kernel
theorem dX6_init_57 : decode cX6_init 57 = .ok (.iload_n 3, 1) := by decide +kernel
theorem dX6_init_58 : decode cX6_init 58 = .ok (.new 9, 3) := by decide +kernel
theorem dX6_init_61 : decode cX6_init 61 = .ok (.dup, 1) := by decide +kernel
theorem dX6_init_62 : decode cX6_init 62 = .ok (.aload_n 1, 1) := by decide +kernel
theorem dX6_init_63 : decode cX6_init 63 = .ok (.getfield 40, 3) := by decide +kernel
theorem dX6_init_66 : decode cX6_init 66 = .ok (.iconst 0, 1) := by decide +kernel
theorem dX6_init_67 : decode cX6_init 67 = .ok (.aaload, 1) := by decide +kernel
theorem dX6_init_68 : decode cX6_init 68 = .ok (.invokespecial 46, 3) := by decide +kernel
theorem dX6_init_71 : decode cX6_init 71 = .ok (.aastore, 1) := by decide +kernel
theorem dX6_init_72 : decode cX6_init 72 = .ok (.iinc 3 1, 3) := by decide +kernel
theorem dX6_init_75 : decode cX6_init 75 = .ok (.goto (-28), 3) := by decide +kernel
theorem dX6_init_78 : decode cX6_init 78 = .ok (.return_, 1) := by decide +kernel
theorem dX6_go_0 : decode cX6_go 0 = .ok (.iconst 0, 1) := by decide +kernel
theorem dX6_go_1 : decode cX6_go 1 = .ok (.istore 6, 2) := by decide +kernel
theorem dX6_go_3 : decode cX6_go 3 = .ok (.iload 6, 2) := by decide +kernel
theorem dX6_go_5 : decode cX6_go 5 = .ok (.iconst 5, 1) := by decide +kernel
theorem dX6_go_6 : decode cX6_go 6 = .ok (.if_icmp .ge 17, 3) := by decide +kernel
theorem dX6_go_9 : decode cX6_go 9 = .ok (.aload_n 0, 1) := by decide +kernel
theorem dX6_go_10 : decode cX6_go 10 = .ok (.getfield 17, 3) := by decide +kernel
theorem dX6_go_13 : decode cX6_go 13 = .ok (.iload 6, 2) := by decide +kernel
theorem dX6_go_15 : decode cX6_go 15 = .ok (.iconst 0, 1) := by decide +kernel
theorem dX6_go_16 : decode cX6_go 16 = .ok (.iastore, 1) := by decide +kernel
theorem dX6_go_17 : decode cX6_go 17 = .ok (.iinc 6 1, 3) := by decide +kernel
theorem dX6_go_20 : decode cX6_go 20 = .ok (.goto (-17), 3) := by decide +kernel
theorem dX6_go_23 : decode cX6_go 23 = .ok (.aload_n 0, 1) := by decide +kernel
theorem dX6_go_24 : decode cX6_go 24 = .ok (.getfield 36, 3) := by decide +kernel
theorem dX6_go_27 : decode cX6_go 27 = .ok (.iconst 0, 1) := by decide +kernel
theorem dX6_go_28 : decode cX6_go 28 = .ok (.putfield 49, 3) := by decide +kernel
theorem dX6_go_31 : decode cX6_go 31 = .ok (.aload_n 0, 1) := by decide +kernel
theorem dX6_go_32 : decode cX6_go 32 = .ok (.iconst 0, 1) := by decide +kernel
theorem dX6_go_33 : decode cX6_go 33 = .ok (.putfield 21, 3) := by decide +kernel
theorem dX6_go_36 : decode cX6_go 36 = .ok (.aload_n 0, 1) := by decide +kernel
theorem dX6_go_37 : decode cX6_go 37 = .ok (.iconst 0, 1) := by decide +kernel
theorem dX6_go_38 : decode cX6_go 38 = .ok (.putfield 25, 3) := by decide +kernel
theorem dX6_go_41 : decode cX6_go 41 = .ok (.aload_n 0, 1) := by decide +kernel
theorem dX6_go_42 : decode cX6_go 42 = .ok (.lconst 0, 1) := by decide +kernel
theorem dX6_go_43 : decode cX6_go 43 = .ok (.putfield 28, 3) := by decide +kernel
theorem dX6_go_46 : decode cX6_go 46 = .ok (.aload_n 0, 1) := by decide +kernel
theorem dX6_go_47 : decode cX6_go 47 = .ok (.aload_n 0, 1) := by decide +kernel
theorem dX6_go_48 : decode cX6_go 48 = .ok (.getfield 32, 3) := by decide +kernel
theorem dX6_go_51 : decode cX6_go 51 = .ok (.iload_n 1, 1) := by decide +kernel
theorem dX6_go_52 : decode cX6_go 52 = .ok (.iload_n 2, 1) := by decide +kernel
theorem dX6_go_53 : decode cX6_go 53 = .ok (.invokevirtual 54, 3) := by decide +kernel
theorem dX6_go_56 : decode cX6_go 56 = .ok (.iload_n 1, 1) := by decide +kernel
theorem dX6_go_57 : decode cX6_go 57 = .ok (.iconst (-1), 1) := by decide +kernel
theorem dX6_go_58 : decode cX6_go 58 = .ok (.iload 5, 2) := by decide +kernel
theorem dX6_go_60 : decode cX6_go 60 = .ok (.invokevirtual 58, 3) := by decide +kernel
theorem dX6_go_63 : decode cX6_go 63 = .ok (.astore 6, 2) := by decide +kernel
theorem dX6_go_65 : decode cX6_go 65 = .ok (.aload 6, 2) := by decide +kernel
theorem dX6_go_67 : decode cX6_go 67 = .ok (.getfield 62, 3) := by decide +kernel
theorem dX6_go_70 : decode cX6_go 70 = .ok (.lload_n 3, 1) := by decide +kernel
theorem dX6_go_71 : decode cX6_go 71 = .ok (.invokevirtual 66, 3) := by decide +kernel
theorem dX6_go_74 : decode cX6_go 74 = .ok (.pop, 1) := by decide +kernel
theorem dX6_go_75 : decode cX6_go 75 = .ok (.iconst 0, 1) := by decide +kernel
theorem dX6_go_76 : decode cX6_go 76 = .ok (.istore 7, 2) := by decide +kernel
theorem dX6_go_78 : decode cX6_go 78 = .ok (.iload 7, 2) := by decide +kernel
theorem dX6_go_80 : decode cX6_go 80 = .ok (.ldc 72, 2) := by decide +kernel
theorem dX6_go_82 : decode cX6_go 82 = .ok (.if_icmp .ge 31, 3) := by decide +kernel
theorem dX6_go_85 : decode cX6_go 85 = .ok (.aload_n 0, 1) := by decide +kernel
theorem dX6_go_86 : decode cX6_go 86 = .ok (.getfield 21, 3) := by decide +kernel
theorem dX6_go_89 : decode cX6_go 89 = .ok (.ifCond .le 24, 3) := by decide +kernel
theorem dX6_go_92 : decode cX6_go 92 = .ok (.aload_n 0, 1) := by decide +kernel
theorem dX6_go_93 : decode cX6_go 93 = .ok (.aload_n 0, 1) := by decide +kernel
theorem dX6_go_94 : decode cX6_go 94 = .ok (.getfield 11, 3) := by decide +kernel
theorem dX6_go_97 : decode cX6_go 97 = .ok (.aload_n 0, 1) := by decide +kernel
theorem dX6_go_98 : decode cX6_go 98 = .ok (.getfield 21, 3) := by decide +kernel
theorem dX6_go_101 : decode cX6_go 101 = .ok (.iconst 1, 1) := by decide +kernel
theorem dX6_go_102 : decode cX6_go 102 = .ok (.isub, 1) := by decide +kernel
theorem dX6_go_103 : decode cX6_go 103 = .ok (.aaload, 1) := by decide +kernel
theorem dX6_go_104 : decode cX6_go 104 = .ok (.invokevirtual 73, 3) := by decide +kernel
theorem dX6_go_107 : decode cX6_go 107 = .ok (.iinc 7 1, 3) := by decide +kernel
theorem dX6_go_110 : decode cX6_go 110 = .ok (.goto (-32), 3) := by decide +kernel
theorem dX6_go_113 : decode cX6_go 113 = .ok (.aload_n 0, 1) := by decide +kernel
theorem dX6_go_114 : decode cX6_go 114 = .ok (.getfield 25, 3) := by decide +kernel
theorem dX6_go_117 : decode cX6_go 117 = .ok (.ireturn, 1) := by decide +kernel
theorem dX6_open_0 : decode cX6_open 0 = .ok (.aload_n 0, 1) := by decide +kernel
theorem dX6_open_1 : decode cX6_open 1 = .ok (.getfield 36, 3) := by decide +kernel
theorem dX6_open_4 : decode cX6_open 4 = .ok (.aload_n 0, 1) := by decide +kernel
theorem dX6_open_5 : decode cX6_open 5 = .ok (.getfield 21, 3) := by decide +kernel
theorem dX6_open_8 : decode cX6_open 8 = .ok (.invokevirtual 77, 3) := by decide +kernel
theorem dX6_open_11 : decode cX6_open 11 = .ok (.aload_n 0, 1) := by decide +kernel
theorem dX6_open_12 : decode cX6_open 12 = .ok (.getfield 11, 3) := by decide +kernel
theorem dX6_open_15 : decode cX6_open 15 = .ok (.aload_n 0, 1) := by decide +kernel
theorem dX6_open_16 : decode cX6_open 16 = .ok (.getfield 21, 3) := by decide +kernel
theorem dX6_open_19 : decode cX6_open 19 = .ok (.aaload, 1) := by decide +kernel
theorem dX6_open_20 : decode cX6_open 20 = .ok (.astore 5, 2) := by decide +kernel
theorem dX6_open_22 : decode cX6_open 22 = .ok (.aload 5, 2) := by decide +kernel
theorem dX6_open_24 : decode cX6_open 24 = .ok (.aload_n 1, 1) := by decide +kernel
theorem dX6_open_25 : decode cX6_open 25 = .ok (.iload_n 2, 1) := by decide +kernel
theorem dX6_open_26 : decode cX6_open 26 = .ok (.iload_n 3, 1) := by decide +kernel
theorem dX6_open_27 : decode cX6_open 27 = .ok (.aload_n 0, 1) := by decide +kernel
theorem dX6_open_28 : decode cX6_open 28 = .ok (.getfield 17, 3) := by decide +kernel
theorem dX6_open_31 : decode cX6_open 31 = .ok (.iconst 0, 1) := by decide +kernel
theorem dX6_open_32 : decode cX6_open 32 = .ok (.iaload, 1) := by decide +kernel
theorem dX6_open_33 : decode cX6_open 33 = .ok (.iload 4, 2) := by decide +kernel
theorem dX6_open_35 : decode cX6_open 35 = .ok (.iadd, 1) := by decide +kernel
theorem dX6_open_36 : decode cX6_open 36 = .ok (.invokevirtual 81, 3) := by decide +kernel
theorem dX6_open_39 : decode cX6_open 39 = .ok (.aload_n 0, 1) := by decide +kernel
theorem dX6_open_40 : decode cX6_open 40 = .ok (.dup, 1) := by decide +kernel
theorem dX6_open_41 : decode cX6_open 41 = .ok (.getfield 21, 3) := by decide +kernel
theorem dX6_open_44 : decode cX6_open 44 = .ok (.iconst 1, 1) := by decide +kernel
theorem dX6_open_45 : decode cX6_open 45 = .ok (.iadd, 1) := by decide +kernel
theorem dX6_open_46 : decode cX6_open 46 = .ok (.putfield 21, 3) := by decide +kernel
theorem dX6_open_49 : decode cX6_open 49 = .ok (.aload_n 0, 1) := by decide +kernel
theorem dX6_open_50 : decode cX6_open 50 = .ok (.getfield 17, 3) := by decide +kernel
theorem dX6_open_53 : decode cX6_open 53 = .ok (.iconst 2, 1) := by decide +kernel
theorem dX6_open_54 : decode cX6_open 54 = .ok (.aload_n 0, 1) := by decide +kernel
theorem dX6_open_55 : decode cX6_open 55 = .ok (.getfield 17, 3) := by decide +kernel
theorem dX6_open_58 : decode cX6_open 58 = .ok (.iconst 2, 1) := by decide +kernel
theorem dX6_open_59 : decode cX6_open 59 = .ok (.iaload, 1) := by decide +kernel
theorem dX6_open_60 : decode cX6_open 60 = .ok (.aload_n 0, 1) := by decide +kernel
theorem dX6_open_61 : decode cX6_open 61 = .ok (.getfield 21, 3) := by decide +kernel
theorem dX6_open_64 : decode cX6_open 64 = .ok (.invokestatic 85, 3) := by decide +kernel
theorem dX6_open_67 : decode cX6_open 67 = .ok (.iastore, 1) := by decide +kernel
theorem dX6_open_68 : decode cX6_open 68 = .ok (.aload 5, 2) := by decide +kernel
theorem dX6_open_70 : decode cX6_open 70 = .ok (.areturn, 1) := by decide +kernel
theorem dX6_advance_0 : decode cX6_advance 0 = .ok (.aload_n 1, 1) := by decide +kernel
theorem dX6_advance_1 : decode cX6_advance 1 = .ok (.invokevirtual 91, 3) := by decide +kernel
theorem dX6_advance_4 : decode cX6_advance 4 = .ok (.ifCond .eq 9, 3) := by decide +kernel
theorem dX6_advance_7 : decode cX6_advance 7 = .ok (.aload_n 0, 1) := by decide +kernel
theorem dX6_advance_8 : decode cX6_advance 8 = .ok (.lconst 0, 1) := by decide +kernel
theorem dX6_advance_9 : decode cX6_advance 9 = .ok (.invokevirtual 95, 3) := by decide +kernel
theorem dX6_advance_12 : decode cX6_advance 12 = .ok (.return_, 1) := by decide +kernel
theorem dX6_advance_13 : decode cX6_advance 13 = .ok (.aload_n 0, 1) := by decide +kernel
theorem dX6_advance_14 : decode cX6_advance 14 = .ok (.getfield 17, 3) := by decide +kernel
theorem dX6_advance_17 : decode cX6_advance 17 = .ok (.iconst 0, 1) := by decide +kernel
theorem dX6_advance_18 : decode cX6_advance 18 = .ok (.iaload, 1) := by decide +kernel
theorem dX6_advance_19 : decode cX6_advance 19 = .ok (.aload_n 1, 1) := by decide +kernel
theorem dX6_advance_20 : decode cX6_advance 20 = .ok (.getfield 99, 3) := by decide +kernel
theorem dX6_advance_23 : decode cX6_advance 23 = .ok (.if_icmp .lt 10, 3) := by decide +kernel
theorem dX6_advance_26 : decode cX6_advance 26 = .ok (.aload_n 0, 1) := by decide +kernel
theorem dX6_advance_27 : decode cX6_advance 27 = .ok (.bipush 7, 2) := by decide +kernel
theorem dX6_advance_29 : decode cX6_advance 29 = .ok (.invokevirtual 102, 3) := by decide +kernel
theorem dX6_advance_32 : decode cX6_advance 32 = .ok (.return_, 1) := by decide +kernel
theorem dX6_advance_33 : decode cX6_advance 33 = .ok (.aload_n 0, 1) := by decide +kernel
theorem dX6_advance_34 : decode cX6_advance 34 = .ok (.getfield 17, 3) := by decide +kernel
theorem dX6_advance_37 : decode cX6_advance 37 = .ok (.iconst 0, 1) := by decide +kernel
theorem dX6_advance_38 : decode cX6_advance 38 = .ok (.dup2, 1) := by decide +kernel
theorem dX6_advance_39 : decode cX6_advance 39 = .ok (.iaload, 1) := by decide +kernel
theorem dX6_advance_40 : decode cX6_advance 40 = .ok (.iconst 1, 1) := by decide +kernel
theorem dX6_advance_41 : decode cX6_advance 41 = .ok (.iadd, 1) := by decide +kernel
theorem dX6_advance_42 : decode cX6_advance 42 = .ok (.iastore, 1) := by decide +kernel
theorem dX6_advance_43 : decode cX6_advance 43 = .ok (.aload_n 1, 1) := by decide +kernel
theorem dX6_advance_44 : decode cX6_advance 44 = .ok (.getfield 105, 3) := by decide +kernel
theorem dX6_advance_47 : decode cX6_advance 47 = .ok (.istore_n 2, 1) := by decide +kernel
theorem dX6_advance_48 : decode cX6_advance 48 = .ok (.aload_n 1, 1) := by decide +kernel
theorem dX6_advance_49 : decode cX6_advance 49 = .ok (.dup, 1) := by decide +kernel
theorem dX6_advance_50 : decode cX6_advance 50 = .ok (.getfield 105, 3) := by decide +kernel
theorem dX6_advance_53 : decode cX6_advance 53 = .ok (.iconst 1, 1) := by decide +kernel
theorem dX6_advance_54 : decode cX6_advance 54 = .ok (.iadd, 1) := by decide +kernel
theorem dX6_advance_55 : decode cX6_advance 55 = .ok (.putfield 105, 3) := by decide +kernel
theorem dX6_advance_58 : decode cX6_advance 58 = .ok (.aload_n 0, 1) := by decide +kernel
theorem dX6_advance_59 : decode cX6_advance 59 = .ok (.aload_n 1, 1) := by decide +kernel
theorem dX6_advance_60 : decode cX6_advance 60 = .ok (.aload_n 1, 1) := by decide +kernel
theorem dX6_advance_61 : decode cX6_advance 61 = .ok (.getfield 108, 3) := by decide +kernel
theorem dX6_advance_64 : decode cX6_advance 64 = .ok (.getfield 112, 3) := by decide +kernel
theorem dX6_advance_67 : decode cX6_advance 67 = .ok (.iload_n 2, 1) := by decide +kernel
theorem dX6_advance_68 : decode cX6_advance 68 = .ok (.iaload, 1) := by decide +kernel
theorem dX6_advance_69 : decode cX6_advance 69 = .ok (.aload_n 1, 1) := by decide +kernel
theorem dX6_advance_70 : decode cX6_advance 70 = .ok (.getfield 108, 3) := by decide +kernel
theorem dX6_advance_73 : decode cX6_advance 73 = .ok (.getfield 117, 3) := by decide +kernel
theorem dX6_advance_76 : decode cX6_advance 76 = .ok (.iload_n 2, 1) := by decide +kernel
theorem dX6_advance_77 : decode cX6_advance 77 = .ok (.iaload, 1) := by decide +kernel
theorem dX6_advance_78 : decode cX6_advance 78 = .ok (.invokevirtual 120, 3) := by decide +kernel
theorem dX6_advance_81 : decode cX6_advance 81 = .ok (.istore_n 3, 1) := by decide +kernel
theorem dX6_advance_82 : decode cX6_advance 82 = .ok (.iload_n 3, 1) := by decide +kernel
theorem dX6_advance_83 : decode cX6_advance 83 = .ok (.ifCond .eq 8, 3) := by decide +kernel
theorem dX6_advance_86 : decode cX6_advance 86 = .ok (.aload_n 0, 1) := by decide +kernel
theorem dX6_advance_87 : decode cX6_advance 87 = .ok (.iload_n 3, 1) := by decide +kernel
theorem dX6_advance_88 : decode cX6_advance 88 = .ok (.invokevirtual 102, 3) := by decide +kernel
theorem dX6_advance_91 : decode cX6_advance 91 = .ok (.return_, 1) := by decide +kernel
theorem dX6_endWell_0 : decode cX6_endWell 0 = .ok (.aload_n 0, 1) := by decide +kernel
theorem dX6_endWell_1 : decode cX6_endWell 1 = .ok (.getfield 17, 3) := by decide +kernel
theorem dX6_endWell_4 : decode cX6_endWell 4 = .ok (.iconst 3, 1) := by decide +kernel
theorem dX6_endWell_5 : decode cX6_endWell 5 = .ok (.dup2, 1) := by decide +kernel
theorem dX6_endWell_6 : decode cX6_endWell 6 = .ok (.iaload, 1) := by decide +kernel
theorem dX6_endWell_7 : decode cX6_endWell 7 = .ok (.iconst 1, 1) := by decide +kernel
theorem dX6_endWell_8 : decode cX6_endWell 8 = .ok (.iadd, 1) := by decide +kernel
theorem dX6_endWell_9 : decode cX6_endWell 9 = .ok (.iastore, 1) := by decide +kernel
theorem dX6_endWell_10 : decode cX6_endWell 10 = .ok (.aload_n 0, 1) := by decide +kernel
theorem dX6_endWell_11 : decode cX6_endWell 11 = .ok (.dup, 1) := by decide +kernel
theorem dX6_endWell_12 : decode cX6_endWell 12 = .ok (.getfield 21, 3) := by decide +kernel
theorem dX6_endWell_15 : decode cX6_endWell 15 = .ok (.iconst 1, 1) := by decide +kernel
theorem dX6_endWell_16 : decode cX6_endWell 16 = .ok (.isub, 1) := by decide +kernel
theorem dX6_endWell_17 : decode cX6_endWell 17 = .ok (.putfield 21, 3) := by decide +kernel
theorem dX6_endWell_20 : decode cX6_endWell 20 = .ok (.aload_n 0, 1) := by decide +kernel
theorem dX6_endWell_21 : decode cX6_endWell 21 = .ok (.getfield 21, 3) := by decide +kernel
theorem dX6_endWell_24 : decode cX6_endWell 24 = .ok (.ifCond .le 25, 3) := by decide +kernel
theorem dX6_endWell_27 : decode cX6_endWell 27 = .ok (.aload_n 0, 1) := by decide +kernel
theorem dX6_endWell_28 : decode cX6_endWell 28 = .ok (.getfield 11, 3) := by decide +kernel
theorem dX6_endWell_31 : decode cX6_endWell 31 = .ok (.aload_n 0, 1) := by decide +kernel
theorem dX6_endWell_32 : decode cX6_endWell 32 = .ok (.getfield 21, 3) := by decide +kernel
theorem dX6_endWell_35 : decode cX6_endWell 35 = .ok (.iconst 1, 1) := by decide +kernel
theorem dX6_endWell_36 : decode cX6_endWell 36 = .ok (.isub, 1) := by decide +kernel
theorem dX6_endWell_37 : decode cX6_endWell 37 = .ok (.aaload, 1) := by decide +kernel
theorem dX6_endWell_38 : decode cX6_endWell 38 = .ok (.getfield 62, 3) := by decide +kernel
theorem dX6_endWell_41 : decode cX6_endWell 41 = .ok (.lload_n 1, 1) := by decide +kernel
theorem dX6_endWell_42 : decode cX6_endWell 42 = .ok (.invokevirtual 66, 3) := by decide +kernel
theorem dX6_endWell_45 : decode cX6_endWell 45 = .ok (.pop, 1) := by decide +kernel
theorem dX6_endWell_46 : decode cX6_endWell 46 = .ok (.goto 8, 3) := by decide +kernel
theorem dX6_endWell_49 : decode cX6_endWell 49 = .ok (.aload_n 0, 1) := by decide +kernel
theorem dX6_endWell_50 : decode cX6_endWell 50 = .ok (.lload_n 1, 1) := by decide +kernel
theorem dX6_endWell_51 : decode cX6_endWell 51 = .ok (.putfield 28, 3) := by decide +kernel
theorem dX6_endWell_54 : decode cX6_endWell 54 = .ok (.return_, 1) := by decide +kernel
theorem dX6_fail_0 : decode cX6_fail 0 = .ok (.aload_n 0, 1) := by decide +kernel
theorem dX6_fail_1 : decode cX6_fail 1 = .ok (.getfield 17, 3) := by decide +kernel
theorem dX6_fail_4 : decode cX6_fail 4 = .ok (.iconst 1, 1) := by decide +kernel
theorem dX6_fail_5 : decode cX6_fail 5 = .ok (.iaload, 1) := by decide +kernel
theorem dX6_fail_6 : decode cX6_fail 6 = .ok (.bipush 10, 2) := by decide +kernel
theorem dX6_fail_8 : decode cX6_fail 8 = .ok (.if_icmp .lt 15, 3) := by decide +kernel
theorem dX6_fail_11 : decode cX6_fail 11 = .ok (.aload_n 0, 1) := by decide +kernel
theorem dX6_fail_12 : decode cX6_fail 12 = .ok (.iconst 0, 1) := by decide +kernel
theorem dX6_fail_13 : decode cX6_fail 13 = .ok (.invokevirtual 124, 3) := by decide +kernel
theorem dX6_fail_16 : decode cX6_fail 16 = .ok (.aload_n 0, 1) := by decide +kernel
theorem dX6_fail_17 : decode cX6_fail 17 = .ok (.bipush (-3), 2) := by decide +kernel
theorem dX6_fail_19 : decode cX6_fail 19 = .ok (.putfield 25, 3) := by decide +kernel
theorem dX6_fail_22 : decode cX6_fail 22 = .ok (.return_, 1) := by decide +kernel
theorem dX6_fail_23 : decode cX6_fail 23 = .ok (.aload_n 0, 1) := by decide +kernel
theorem dX6_fail_24 : decode cX6_fail 24 = .ok (.getfield 17, 3) := by decide +kernel
theorem dX6_fail_27 : decode cX6_fail 27 = .ok (.iconst 1, 1) := by decide +kernel
theorem dX6_fail_28 : decode cX6_fail 28 = .ok (.dup2, 1) := by decide +kernel
theorem dX6_fail_29 : decode cX6_fail 29 = .ok (.iaload, 1) := by decide +kernel
theorem dX6_fail_30 : decode cX6_fail 30 = .ok (.iconst 1, 1) := by decide +kernel
theorem dX6_fail_31 : decode cX6_fail 31 = .ok (.iadd, 1) := by decide +kernel
theorem dX6_fail_32 : decode cX6_fail 32 = .ok (.iastore, 1) := by decide +kernel
theorem dX6_fail_33 : decode cX6_fail 33 = .ok (.aload_n 0, 1) := by decide +kernel
theorem dX6_fail_34 : decode cX6_fail 34 = .ok (.getfield 21, 3) := by decide +kernel
theorem dX6_fail_37 : decode cX6_fail 37 = .ok (.istore_n 2, 1) := by decide +kernel
theorem dX6_fail_38 : decode cX6_fail 38 = .ok (.iload_n 2, 1) := by decide +kernel
theorem dX6_fail_39 : decode cX6_fail 39 = .ok (.ifCond .le 32, 3) := by decide +kernel
theorem dX6_fail_42 : decode cX6_fail 42 = .ok (.aload_n 0, 1) := by decide +kernel
theorem dX6_fail_43 : decode cX6_fail 43 = .ok (.getfield 11, 3) := by decide +kernel
theorem dX6_fail_46 : decode cX6_fail 46 = .ok (.iload_n 2, 1) := by decide +kernel
theorem dX6_fail_47 : decode cX6_fail 47 = .ok (.iconst 1, 1) := by decide +kernel
theorem dX6_fail_48 : decode cX6_fail 48 = .ok (.isub, 1) := by decide +kernel
theorem dX6_fail_49 : decode cX6_fail 49 = .ok (.aaload, 1) := by decide +kernel
theorem dX6_fail_50 : decode cX6_fail 50 = .ok (.iload_n 1, 1) := by decide +kernel
theorem dX6_fail_51 : decode cX6_fail 51 = .ok (.invokevirtual 127, 3) := by decide +kernel
theorem dX6_fail_54 : decode cX6_fail 54 = .ok (.ifCond .eq 4, 3) := by decide +kernel
theorem dX6_fail_57 : decode cX6_fail 57 = .ok (.return_, 1) := by decide +kernel
theorem dX6_fail_58 : decode cX6_fail 58 = .ok (.aload_n 0, 1) := by decide +kernel
theorem dX6_fail_59 : decode cX6_fail 59 = .ok (.iload_n 2, 1) := by decide +kernel
theorem dX6_fail_60 : decode cX6_fail 60 = .ok (.iconst 1, 1) := by decide +kernel
theorem dX6_fail_61 : decode cX6_fail 61 = .ok (.isub, 1) := by decide +kernel
theorem dX6_fail_62 : decode cX6_fail 62 = .ok (.invokevirtual 124, 3) := by decide +kernel
theorem dX6_fail_65 : decode cX6_fail 65 = .ok (.iinc 2 (-1), 3) := by decide +kernel
theorem dX6_fail_68 : decode cX6_fail 68 = .ok (.goto (-30), 3) := by decide +kernel
theorem dX6_fail_71 : decode cX6_fail 71 = .ok (.aload_n 0, 1) := by decide +kernel
theorem dX6_fail_72 : decode cX6_fail 72 = .ok (.iload_n 1, 1) := by decide +kernel
theorem dX6_fail_73 : decode cX6_fail 73 = .ok (.putfield 25, 3) := by decide +kernel
theorem dX6_fail_76 : decode cX6_fail 76 = .ok (.return_, 1) := by decide +kernel
theorem dX6_undoTo_0 : decode cX6_undoTo 0 = .ok (.aload_n 0, 1) := by decide +kernel
theorem dX6_undoTo_1 : decode cX6_undoTo 1 = .ok (.getfield 17, 3) := by decide +kernel
theorem dX6_undoTo_4 : decode cX6_undoTo 4 = .ok (.iconst 4, 1) := by decide +kernel
theorem dX6_undoTo_5 : decode cX6_undoTo 5 = .ok (.dup2, 1) := by decide +kernel
theorem dX6_undoTo_6 : decode cX6_undoTo 6 = .ok (.iaload, 1) := by decide +kernel
theorem dX6_undoTo_7 : decode cX6_undoTo 7 = .ok (.aload_n 0, 1) := by decide +kernel
theorem dX6_undoTo_8 : decode cX6_undoTo 8 = .ok (.getfield 21, 3) := by decide +kernel
theorem dX6_undoTo_11 : decode cX6_undoTo 11 = .ok (.iload_n 1, 1) := by decide +kernel
theorem dX6_undoTo_12 : decode cX6_undoTo 12 = .ok (.isub, 1) := by decide +kernel
theorem dX6_undoTo_13 : decode cX6_undoTo 13 = .ok (.iadd, 1) := by decide +kernel
theorem dX6_undoTo_14 : decode cX6_undoTo 14 = .ok (.iastore, 1) := by decide +kernel
theorem dX6_undoTo_15 : decode cX6_undoTo 15 = .ok (.aload_n 0, 1) := by decide +kernel
theorem dX6_undoTo_16 : decode cX6_undoTo 16 = .ok (.getfield 36, 3) := by decide +kernel
theorem dX6_undoTo_19 : decode cX6_undoTo 19 = .ok (.iload_n 1, 1) := by decide +kernel
theorem dX6_undoTo_20 : decode cX6_undoTo 20 = .ok (.invokevirtual 131, 3) := by decide +kernel
theorem dX6_undoTo_23 : decode cX6_undoTo 23 = .ok (.aload_n 0, 1) := by decide +kernel
theorem dX6_undoTo_24 : decode cX6_undoTo 24 = .ok (.iload_n 1, 1) := by decide +kernel
theorem dX6_undoTo_25 : decode cX6_undoTo 25 = .ok (.putfield 21, 3) := by decide +kernel
theorem dX6_undoTo_28 : decode cX6_undoTo 28 = .ok (.return_, 1) := by decide +kernel
theorem dX6_perform_0 : decode cX6_perform 0 = .ok (.iload_n 2, 1) := by decide +kernel
theorem dX6_perform_1 : decode cX6_perform 1 = .ok (.ifCond .lt 19, 3) := by decide +kernel
theorem dX6_perform_4 : decode cX6_perform 4 = .ok (.iload_n 2, 1) := by decide +kernel
theorem dX6_perform_5 : decode cX6_perform 5 = .ok (.getstatic 134, 3) := by decide +kernel
theorem dX6_perform_8 : decode cX6_perform 8 = .ok (.arraylength, 1) := by decide +kernel
theorem dX6_perform_9 : decode cX6_perform 9 = .ok (.if_icmp .ge 11, 3) := by decide +kernel
theorem dX6_perform_12 : decode cX6_perform 12 = .ok (.iload_n 2, 1) := by decide +kernel
theorem dX6_perform_13 : decode cX6_perform 13 = .ok (.getstatic 137, 3) := by decide +kernel
theorem dX6_perform_16 : decode cX6_perform 16 = .ok (.arraylength, 1) := by decide +kernel
theorem dX6_perform_17 : decode cX6_perform 17 = .ok (.if_icmp .lt 6, 3) := by decide +kernel
theorem dX6_perform_20 : decode cX6_perform 20 = .ok (.bipush 12, 2) := by decide +kernel
theorem dX6_perform_22 : decode cX6_perform 22 = .ok (.ireturn, 1) := by decide +kernel
theorem dX6_perform_23 : decode cX6_perform 23 = .ok (.aload_n 1, 1) := by decide +kernel
theorem dX6_perform_24 : decode cX6_perform 24 = .ok (.getfield 62, 3) := by decide +kernel
theorem dX6_perform_27 : decode cX6_perform 27 = .ok (.astore 4, 2) := by decide +kernel
theorem dX6_perform_29 : decode cX6_perform 29 = .ok (.aload 4, 2) := by decide +kernel
theorem dX6_perform_31 : decode cX6_perform 31 = .ok (.getstatic 134, 3) := by decide +kernel
theorem dX6_perform_34 : decode cX6_perform 34 = .ok (.iload_n 2, 1) := by decide +kernel
theorem dX6_perform_35 : decode cX6_perform 35 = .ok (.iaload, 1) := by decide +kernel
theorem dX6_perform_36 : decode cX6_perform 36 = .ok (.getstatic 137, 3) := by decide +kernel
theorem dX6_perform_39 : decode cX6_perform 39 = .ok (.iload_n 2, 1) := by decide +kernel
theorem dX6_perform_40 : decode cX6_perform 40 = .ok (.iaload, 1) := by decide +kernel
theorem dX6_perform_41 : decode cX6_perform 41 = .ok (.invokevirtual 140, 3) := by decide +kernel
theorem dX6_perform_44 : decode cX6_perform 44 = .ok (.ifCond .ne 6, 3) := by decide +kernel
theorem dX6_perform_47 : decode cX6_perform 47 = .ok (.bipush 11, 2) := by decide +kernel
theorem dX6_perform_49 : decode cX6_perform 49 = .ok (.ireturn, 1) := by decide +kernel
theorem dX6_perform_50 : decode cX6_perform 50 = .ok (.aload 4, 2) := by decide +kernel
theorem dX6_perform_52 : decode cX6_perform 52 = .ok (.getstatic 134, 3) := by decide +kernel
theorem dX6_perform_55 : decode cX6_perform 55 = .ok (.iload_n 2, 1) := by decide +kernel
theorem dX6_perform_56 : decode cX6_perform 56 = .ok (.iaload, 1) := by decide +kernel
theorem dX6_perform_57 : decode cX6_perform 57 = .ok (.invokevirtual 144, 3) := by decide +kernel
theorem dX6_perform_60 : decode cX6_perform 60 = .ok (.iload_n 2, 1) := by decide +kernel
theorem dX6_perform_61 : decode cX6_perform 61 = .ok (.tableswitch 349 0 31 #[143, 151, 158, 165, 171, 173, 349, 349, 349, 349, 349, 349, 349, 179, 185, 191, 200, 209, 218, 227, 236, 245, 253, 261, 269, 275, 280, 300, 307, 313, 320, 338], 143) := by decide +kernel
theorem dX6_perform_204 : decode cX6_perform 204 = .ok (.aload 4, 2) := by decide +kernel
theorem dX6_perform_206 : decode cX6_perform 206 = .ok (.iload_n 3, 1) := by decide +kernel
theorem dX6_perform_207 : decode cX6_perform 207 = .ok (.i2l, 1) := by decide +kernel
theorem dX6_perform_208 : decode cX6_perform 208 = .ok (.invokevirtual 66, 3) := by decide +kernel
theorem dX6_perform_211 : decode cX6_perform 211 = .ok (.ireturn, 1) := by decide +kernel
theorem dX6_perform_212 : decode cX6_perform 212 = .ok (.aload_n 0, 1) := by decide +kernel
theorem dX6_perform_213 : decode cX6_perform 213 = .ok (.aload_n 1, 1) := by decide +kernel
theorem dX6_perform_214 : decode cX6_perform 214 = .ok (.iload_n 3, 1) := by decide +kernel
theorem dX6_perform_215 : decode cX6_perform 215 = .ok (.invokevirtual 147, 3) := by decide +kernel
theorem dX6_perform_218 : decode cX6_perform 218 = .ok (.ireturn, 1) := by decide +kernel
theorem dX6_perform_219 : decode cX6_perform 219 = .ok (.aload_n 0, 1) := by decide +kernel
theorem dX6_perform_220 : decode cX6_perform 220 = .ok (.aload_n 1, 1) := by decide +kernel
theorem dX6_perform_221 : decode cX6_perform 221 = .ok (.iload_n 3, 1) := by decide +kernel
theorem dX6_perform_222 : decode cX6_perform 222 = .ok (.invokevirtual 151, 3) := by decide +kernel
theorem dX6_perform_225 : decode cX6_perform 225 = .ok (.ireturn, 1) := by decide +kernel
theorem dX6_perform_226 : decode cX6_perform 226 = .ok (.aload 4, 2) := by decide +kernel
theorem dX6_perform_228 : decode cX6_perform 228 = .ok (.invokestatic 154, 3) := by decide +kernel
theorem dX6_perform_231 : decode cX6_perform 231 = .ok (.ireturn, 1) := by decide +kernel
theorem dX6_perform_232 : decode cX6_perform 232 = .ok (.iconst 0, 1) := by decide +kernel
theorem dX6_perform_233 : decode cX6_perform 233 = .ok (.ireturn, 1) := by decide +kernel
theorem dX6_perform_234 : decode cX6_perform 234 = .ok (.aload 4, 2) := by decide +kernel
theorem dX6_perform_236 : decode cX6_perform 236 = .ok (.invokestatic 158, 3) := by decide +kernel
theorem dX6_perform_239 : decode cX6_perform 239 = .ok (.ireturn, 1) := by decide +kernel
theorem dX6_perform_240 : decode cX6_perform 240 = .ok (.aload_n 1, 1) := by decide +kernel
theorem dX6_perform_241 : decode cX6_perform 241 = .ok (.iload_n 3, 1) := by decide +kernel
theorem dX6_perform_242 : decode cX6_perform 242 = .ok (.invokevirtual 161, 3) := by decide +kernel
theorem dX6_perform_245 : decode cX6_perform 245 = .ok (.ireturn, 1) := by decide +kernel
theorem dX6_perform_246 : decode cX6_perform 246 = .ok (.aload_n 1, 1) := by decide +kernel
theorem dX6_perform_247 : decode cX6_perform 247 = .ok (.iload_n 3, 1) := by decide +kernel
theorem dX6_perform_248 : decode cX6_perform 248 = .ok (.invokestatic 165, 3) := by decide +kernel
theorem dX6_perform_251 : decode cX6_perform 251 = .ok (.ireturn, 1) := by decide +kernel
theorem dX6_perform_252 : decode cX6_perform 252 = .ok (.aload_n 1, 1) := by decide +kernel
theorem dX6_perform_253 : decode cX6_perform 253 = .ok (.getfield 168, 3) := by decide +kernel
theorem dX6_perform_256 : decode cX6_perform 256 = .ok (.iconst 1, 1) := by decide +kernel
theorem dX6_perform_257 : decode cX6_perform 257 = .ok (.invokevirtual 172, 3) := by decide +kernel
theorem dX6_perform_260 : decode cX6_perform 260 = .ok (.ireturn, 1) := by decide +kernel
theorem dX6_perform_261 : decode cX6_perform 261 = .ok (.aload_n 1, 1) := by decide +kernel
theorem dX6_perform_262 : decode cX6_perform 262 = .ok (.getfield 168, 3) := by decide +kernel
theorem dX6_perform_265 : decode cX6_perform 265 = .ok (.iconst 2, 1) := by decide +kernel
theorem dX6_perform_266 : decode cX6_perform 266 = .ok (.invokevirtual 172, 3) := by decide +kernel
theorem dX6_perform_269 : decode cX6_perform 269 = .ok (.ireturn, 1) := by decide +kernel
theorem dX6_perform_270 : decode cX6_perform 270 = .ok (.aload_n 1, 1) := by decide +kernel
theorem dX6_perform_271 : decode cX6_perform 271 = .ok (.getfield 168, 3) := by decide +kernel
theorem dX6_perform_274 : decode cX6_perform 274 = .ok (.iconst 1, 1) := by decide +kernel
theorem dX6_perform_275 : decode cX6_perform 275 = .ok (.invokevirtual 177, 3) := by decide +kernel
theorem dX6_perform_278 : decode cX6_perform 278 = .ok (.ireturn, 1) := by decide +kernel
theorem dX6_perform_279 : decode cX6_perform 279 = .ok (.aload_n 1, 1) := by decide +kernel
theorem dX6_perform_280 : decode cX6_perform 280 = .ok (.getfield 168, 3) := by decide +kernel
theorem dX6_perform_283 : decode cX6_perform 283 = .ok (.iconst 2, 1) := by decide +kernel
theorem dX6_perform_284 : decode cX6_perform 284 = .ok (.invokevirtual 177, 3) := by decide +kernel
theorem dX6_perform_287 : decode cX6_perform 287 = .ok (.ireturn, 1) := by decide +kernel
theorem dX6_perform_288 : decode cX6_perform 288 = .ok (.aload_n 1, 1) := by decide +kernel
theorem dX6_perform_289 : decode cX6_perform 289 = .ok (.getfield 168, 3) := by decide +kernel
theorem dX6_perform_292 : decode cX6_perform 292 = .ok (.iconst 1, 1) := by decide +kernel
theorem dX6_perform_293 : decode cX6_perform 293 = .ok (.invokevirtual 180, 3) := by decide +kernel
theorem dX6_perform_296 : decode cX6_perform 296 = .ok (.ireturn, 1) := by decide +kernel
theorem dX6_perform_297 : decode cX6_perform 297 = .ok (.aload_n 1, 1) := by decide +kernel
theorem dX6_perform_298 : decode cX6_perform 298 = .ok (.getfield 168, 3) := by decide +kernel
theorem dX6_perform_301 : decode cX6_perform 301 = .ok (.iconst 2, 1) := by decide +kernel
theorem dX6_perform_302 : decode cX6_perform 302 = .ok (.invokevirtual 180, 3) := by decide +kernel
theorem dX6_perform_305 : decode cX6_perform 305 = .ok (.ireturn, 1) := by decide +kernel
theorem dX6_perform_306 : decode cX6_perform 306 = .ok (.aload_n 1, 1) := by decide +kernel
theorem dX6_perform_307 : decode cX6_perform 307 = .ok (.getfield 168, 3) := by decide +kernel
theorem dX6_perform_310 : decode cX6_perform 310 = .ok (.invokevirtual 183, 3) := by decide +kernel
theorem dX6_perform_313 : decode cX6_perform 313 = .ok (.ireturn, 1) := by decide +kernel
theorem dX6_perform_314 : decode cX6_perform 314 = .ok (.aload 4, 2) := by decide +kernel
theorem dX6_perform_316 : decode cX6_perform 316 = .ok (.iconst 3, 1) := by decide +kernel
theorem dX6_perform_317 : decode cX6_perform 317 = .ok (.lconst 0, 1) := by decide +kernel
theorem dX6_perform_318 : decode cX6_perform 318 = .ok (.invokevirtual 187, 3) := by decide +kernel
theorem dX6_perform_321 : decode cX6_perform 321 = .ok (.ireturn, 1) := by decide +kernel
theorem dX6_perform_322 : decode cX6_perform 322 = .ok (.aload_n 1, 1) := by decide +kernel
theorem dX6_perform_323 : decode cX6_perform 323 = .ok (.getfield 168, 3) := by decide +kernel
theorem dX6_perform_326 : decode cX6_perform 326 = .ok (.invokevirtual 191, 3) := by decide +kernel
theorem dX6_perform_329 : decode cX6_perform 329 = .ok (.ireturn, 1) := by decide +kernel
theorem dX6_perform_330 : decode cX6_perform 330 = .ok (.aload_n 1, 1) := by decide +kernel
theorem dX6_perform_331 : decode cX6_perform 331 = .ok (.iload_n 3, 1) := by decide +kernel
theorem dX6_perform_332 : decode cX6_perform 332 = .ok (.invokevirtual 194, 3) := by decide +kernel
theorem dX6_perform_335 : decode cX6_perform 335 = .ok (.ireturn, 1) := by decide +kernel
theorem dX6_perform_336 : decode cX6_perform 336 = .ok (.aload_n 1, 1) := by decide +kernel
theorem dX6_perform_337 : decode cX6_perform 337 = .ok (.invokevirtual 197, 3) := by decide +kernel
theorem dX6_perform_340 : decode cX6_perform 340 = .ok (.ireturn, 1) := by decide +kernel
theorem dX6_perform_341 : decode cX6_perform 341 = .ok (.iload_n 3, 1) := by decide +kernel
theorem dX6_perform_342 : decode cX6_perform 342 = .ok (.ifCond .lt 16, 3) := by decide +kernel
theorem dX6_perform_345 : decode cX6_perform 345 = .ok (.iload_n 3, 1) := by decide +kernel
theorem dX6_perform_346 : decode cX6_perform 346 = .ok (.bipush 7, 2) := by decide +kernel
theorem dX6_perform_348 : decode cX6_perform 348 = .ok (.if_icmp .gt 10, 3) := by decide +kernel
theorem dX6_perform_351 : decode cX6_perform 351 = .ok (.bipush 13, 2) := by decide +kernel
theorem dX6_perform_353 : decode cX6_perform 353 = .ok (.iload_n 3, 1) := by decide +kernel
theorem dX6_perform_354 : decode cX6_perform 354 = .ok (.iadd, 1) := by decide +kernel
theorem dX6_perform_355 : decode cX6_perform 355 = .ok (.goto 5, 3) := by decide +kernel
theorem dX6_perform_358 : decode cX6_perform 358 = .ok (.bipush 12, 2) := by decide +kernel
theorem dX6_perform_360 : decode cX6_perform 360 = .ok (.ireturn, 1) := by decide +kernel
theorem dX6_perform_361 : decode cX6_perform 361 = .ok (.aload_n 0, 1) := by decide +kernel
theorem dX6_perform_362 : decode cX6_perform 362 = .ok (.aload 4, 2) := by decide +kernel
theorem dX6_perform_364 : decode cX6_perform 364 = .ok (.invokevirtual 200, 3) := by decide +kernel
theorem dX6_perform_367 : decode cX6_perform 367 = .ok (.ireturn, 1) := by decide +kernel
theorem dX6_perform_368 : decode cX6_perform 368 = .ok (.aload_n 0, 1) := by decide +kernel
theorem dX6_perform_369 : decode cX6_perform 369 = .ok (.aload_n 1, 1) := by decide +kernel
theorem dX6_perform_370 : decode cX6_perform 370 = .ok (.invokevirtual 203, 3) := by decide +kernel
theorem dX6_perform_373 : decode cX6_perform 373 = .ok (.ireturn, 1) := by decide +kernel
theorem dX6_perform_374 : decode cX6_perform 374 = .ok (.aload_n 0, 1) := by decide +kernel
theorem dX6_perform_375 : decode cX6_perform 375 = .ok (.aload_n 1, 1) := by decide +kernel
theorem dX6_perform_376 : decode cX6_perform 376 = .ok (.iload_n 3, 1) := by decide +kernel
theorem dX6_perform_377 : decode cX6_perform 377 = .ok (.invokevirtual 207, 3) := by decide +kernel
theorem dX6_perform_380 : decode cX6_perform 380 = .ok (.ireturn, 1) := by decide +kernel
theorem dX6_perform_381 : decode cX6_perform 381 = .ok (.aload 4, 2) := by decide +kernel
theorem dX6_perform_383 : decode cX6_perform 383 = .ok (.aload_n 0, 1) := by decide +kernel
theorem dX6_perform_384 : decode cX6_perform 384 = .ok (.getfield 36, 3) := by decide +kernel
theorem dX6_perform_387 : decode cX6_perform 387 = .ok (.getfield 210, 3) := by decide +kernel
theorem dX6_perform_390 : decode cX6_perform 390 = .ok (.aload_n 1, 1) := by decide +kernel
theorem dX6_perform_391 : decode cX6_perform 391 = .ok (.getfield 214, 3) := by decide +kernel
theorem dX6_perform_394 : decode cX6_perform 394 = .ok (.laload, 1) := by decide +kernel
theorem dX6_perform_395 : decode cX6_perform 395 = .ok (.invokevirtual 66, 3) := by decide +kernel
theorem dX6_perform_398 : decode cX6_perform 398 = .ok (.ireturn, 1) := by decide +kernel
theorem dX6_perform_399 : decode cX6_perform 399 = .ok (.aload 4, 2) := by decide +kernel
theorem dX6_perform_401 : decode cX6_perform 401 = .ok (.aload_n 1, 1) := by decide +kernel
theorem dX6_perform_402 : decode cX6_perform 402 = .ok (.getfield 217, 3) := by decide +kernel
theorem dX6_perform_405 : decode cX6_perform 405 = .ok (.i2l, 1) := by decide +kernel
theorem dX6_perform_406 : decode cX6_perform 406 = .ok (.invokevirtual 66, 3) := by decide +kernel
theorem dX6_perform_409 : decode cX6_perform 409 = .ok (.ireturn, 1) := by decide +kernel
theorem dX6_perform_410 : decode cX6_perform 410 = .ok (.aload 4, 2) := by decide +kernel
theorem dX6_perform_412 : decode cX6_perform 412 = .ok (.iload_n 2, 1) := by decide +kernel
theorem dX6_perform_413 : decode cX6_perform 413 = .ok (.invokestatic 220, 3) := by decide +kernel
theorem dX6_perform_416 : decode cX6_perform 416 = .ok (.ireturn, 1) := by decide +kernel
theorem dX6_putLeaf_0 : decode cX6_putLeaf 0 = .ok (.iload_n 2, 1) := by decide +kernel
theorem dX6_putLeaf_1 : decode cX6_putLeaf 1 = .ok (.invokestatic 224, 3) := by decide +kernel
theorem dX6_putLeaf_4 : decode cX6_putLeaf 4 = .ok (.ifCond .ne 6, 3) := by decide +kernel
theorem dX6_putLeaf_7 : decode cX6_putLeaf 7 = .ok (.bipush 12, 2) := by decide +kernel
theorem dX6_putLeaf_9 : decode cX6_putLeaf 9 = .ok (.ireturn, 1) := by decide +kernel
theorem dX6_putLeaf_10 : decode cX6_putLeaf 10 = .ok (.aload_n 1, 1) := by decide +kernel
theorem dX6_putLeaf_11 : decode cX6_putLeaf 11 = .ok (.getfield 62, 3) := by decide +kernel
theorem dX6_putLeaf_14 : decode cX6_putLeaf 14 = .ok (.aload_n 0, 1) := by decide +kernel
theorem dX6_putLeaf_15 : decode cX6_putLeaf 15 = .ok (.getfield 36, 3) := by decide +kernel
theorem dX6_putLeaf_18 : decode cX6_putLeaf 18 = .ok (.getfield 227, 3) := by decide +kernel
theorem dX6_putLeaf_21 : decode cX6_putLeaf 21 = .ok (.aload_n 1, 1) := by decide +kernel
theorem dX6_putLeaf_22 : decode cX6_putLeaf 22 = .ok (.getfield 214, 3) := by decide +kernel
theorem dX6_putLeaf_25 : decode cX6_putLeaf 25 = .ok (.bipush 8, 2) := by decide +kernel
theorem dX6_putLeaf_27 : decode cX6_putLeaf 27 = .ok (.imul, 1) := by decide +kernel
theorem dX6_putLeaf_28 : decode cX6_putLeaf 28 = .ok (.iload_n 2, 1) := by decide +kernel
theorem dX6_putLeaf_29 : decode cX6_putLeaf 29 = .ok (.iadd, 1) := by decide +kernel
theorem dX6_putLeaf_30 : decode cX6_putLeaf 30 = .ok (.laload, 1) := by decide +kernel
theorem dX6_putLeaf_31 : decode cX6_putLeaf 31 = .ok (.invokevirtual 66, 3) := by decide +kernel
theorem dX6_putLeaf_34 : decode cX6_putLeaf 34 = .ok (.ireturn, 1) := by decide +kernel
theorem dX6_changeLeaf_0 : decode cX6_changeLeaf 0 = .ok (.iload_n 2, 1) := by decide +kernel
theorem dX6_changeLeaf_1 : decode cX6_changeLeaf 1 = .ok (.invokestatic 224, 3) := by decide +kernel
theorem dX6_changeLeaf_4 : decode cX6_changeLeaf 4 = .ok (.ifCond .ne 6, 3) := by decide +kernel
theorem dX6_changeLeaf_7 : decode cX6_changeLeaf 7 = .ok (.bipush 12, 2) := by decide +kernel
theorem dX6_changeLeaf_9 : decode cX6_changeLeaf 9 = .ok (.ireturn, 1) := by decide +kernel
theorem dX6_changeLeaf_10 : decode cX6_changeLeaf 10 = .ok (.aload_n 1, 1) := by decide +kernel
theorem dX6_changeLeaf_11 : decode cX6_changeLeaf 11 = .ok (.getfield 62, 3) := by decide +kernel
theorem dX6_changeLeaf_14 : decode cX6_changeLeaf 14 = .ok (.iconst 0, 1) := by decide +kernel
theorem dX6_changeLeaf_15 : decode cX6_changeLeaf 15 = .ok (.invokevirtual 230, 3) := by decide +kernel
theorem dX6_changeLeaf_18 : decode cX6_changeLeaf 18 = .ok (.ifCond .ne 5, 3) := by decide +kernel
theorem dX6_changeLeaf_21 : decode cX6_changeLeaf 21 = .ok (.iconst 4, 1) := by decide +kernel
theorem dX6_changeLeaf_22 : decode cX6_changeLeaf 22 = .ok (.ireturn, 1) := by decide +kernel
theorem dX6_changeLeaf_23 : decode cX6_changeLeaf 23 = .ok (.aload_n 0, 1) := by decide +kernel
theorem dX6_changeLeaf_24 : decode cX6_changeLeaf 24 = .ok (.getfield 36, 3) := by decide +kernel
theorem dX6_changeLeaf_27 : decode cX6_changeLeaf 27 = .ok (.getfield 227, 3) := by decide +kernel
theorem dX6_changeLeaf_30 : decode cX6_changeLeaf 30 = .ok (.aload_n 1, 1) := by decide +kernel
theorem dX6_changeLeaf_31 : decode cX6_changeLeaf 31 = .ok (.getfield 214, 3) := by decide +kernel
theorem dX6_changeLeaf_34 : decode cX6_changeLeaf 34 = .ok (.bipush 8, 2) := by decide +kernel
theorem dX6_changeLeaf_36 : decode cX6_changeLeaf 36 = .ok (.imul, 1) := by decide +kernel
theorem dX6_changeLeaf_37 : decode cX6_changeLeaf 37 = .ok (.iload_n 2, 1) := by decide +kernel
theorem dX6_changeLeaf_38 : decode cX6_changeLeaf 38 = .ok (.iadd, 1) := by decide +kernel
theorem dX6_changeLeaf_39 : decode cX6_changeLeaf 39 = .ok (.aload_n 1, 1) := by decide +kernel
theorem dX6_changeLeaf_40 : decode cX6_changeLeaf 40 = .ok (.getfield 62, 3) := by decide +kernel
theorem dX6_changeLeaf_43 : decode cX6_changeLeaf 43 = .ok (.iconst 0, 1) := by decide +kernel
theorem dX6_changeLeaf_44 : decode cX6_changeLeaf 44 = .ok (.invokevirtual 233, 3) := by decide +kernel
theorem dX6_changeLeaf_47 : decode cX6_changeLeaf 47 = .ok (.lastore, 1) := by decide +kernel
theorem dX6_changeLeaf_48 : decode cX6_changeLeaf 48 = .ok (.iconst 0, 1) := by decide +kernel
theorem dX6_changeLeaf_49 : decode cX6_changeLeaf 49 = .ok (.ireturn, 1) := by decide +kernel
theorem dX6_putTwice_0 : decode cX6_putTwice 0 = .ok (.aload_n 0, 1) := by decide +kernel
theorem dX6_putTwice_1 : decode cX6_putTwice 1 = .ok (.iconst 0, 1) := by decide +kernel
theorem dX6_putTwice_2 : decode cX6_putTwice 2 = .ok (.invokevirtual 237, 3) := by decide +kernel
theorem dX6_putTwice_5 : decode cX6_putTwice 5 = .ok (.istore_n 1, 1) := by decide +kernel
theorem dX6_putTwice_6 : decode cX6_putTwice 6 = .ok (.aload_n 0, 1) := by decide +kernel
theorem dX6_putTwice_7 : decode cX6_putTwice 7 = .ok (.iconst 0, 1) := by decide +kernel
theorem dX6_putTwice_8 : decode cX6_putTwice 8 = .ok (.invokevirtual 233, 3) := by decide +kernel
theorem dX6_putTwice_11 : decode cX6_putTwice 11 = .ok (.lstore_n 2, 1) := by decide +kernel
theorem dX6_putTwice_12 : decode cX6_putTwice 12 = .ok (.aload_n 0, 1) := by decide +kernel
theorem dX6_putTwice_13 : decode cX6_putTwice 13 = .ok (.iload_n 1, 1) := by decide +kernel
theorem dX6_putTwice_14 : decode cX6_putTwice 14 = .ok (.lload_n 2, 1) := by decide +kernel
theorem dX6_putTwice_15 : decode cX6_putTwice 15 = .ok (.invokevirtual 187, 3) := by decide +kernel
theorem dX6_putTwice_18 : decode cX6_putTwice 18 = .ok (.pop, 1) := by decide +kernel
theorem dX6_putTwice_19 : decode cX6_putTwice 19 = .ok (.aload_n 0, 1) := by decide +kernel
theorem dX6_putTwice_20 : decode cX6_putTwice 20 = .ok (.iload_n 1, 1) := by decide +kernel
theorem dX6_putTwice_21 : decode cX6_putTwice 21 = .ok (.lload_n 2, 1) := by decide +kernel
theorem dX6_putTwice_22 : decode cX6_putTwice 22 = .ok (.invokevirtual 187, 3) := by decide +kernel
theorem dX6_putTwice_25 : decode cX6_putTwice 25 = .ok (.ireturn, 1) := by decide +kernel
theorem dX6_putSwapped_0 : decode cX6_putSwapped 0 = .ok (.aload_n 0, 1) := by decide +kernel
theorem dX6_putSwapped_1 : decode cX6_putSwapped 1 = .ok (.iconst 0, 1) := by decide +kernel
theorem dX6_putSwapped_2 : decode cX6_putSwapped 2 = .ok (.invokevirtual 237, 3) := by decide +kernel
theorem dX6_putSwapped_5 : decode cX6_putSwapped 5 = .ok (.istore_n 1, 1) := by decide +kernel
theorem dX6_putSwapped_6 : decode cX6_putSwapped 6 = .ok (.aload_n 0, 1) := by decide +kernel
theorem dX6_putSwapped_7 : decode cX6_putSwapped 7 = .ok (.iconst 0, 1) := by decide +kernel
theorem dX6_putSwapped_8 : decode cX6_putSwapped 8 = .ok (.invokevirtual 233, 3) := by decide +kernel
theorem dX6_putSwapped_11 : decode cX6_putSwapped 11 = .ok (.lstore_n 2, 1) := by decide +kernel
theorem dX6_putSwapped_12 : decode cX6_putSwapped 12 = .ok (.aload_n 0, 1) := by decide +kernel
theorem dX6_putSwapped_13 : decode cX6_putSwapped 13 = .ok (.iconst 1, 1) := by decide +kernel
theorem dX6_putSwapped_14 : decode cX6_putSwapped 14 = .ok (.invokevirtual 237, 3) := by decide +kernel
theorem dX6_putSwapped_17 : decode cX6_putSwapped 17 = .ok (.istore 4, 2) := by decide +kernel
theorem dX6_putSwapped_19 : decode cX6_putSwapped 19 = .ok (.aload_n 0, 1) := by decide +kernel
theorem dX6_putSwapped_20 : decode cX6_putSwapped 20 = .ok (.iconst 1, 1) := by decide +kernel
theorem dX6_putSwapped_21 : decode cX6_putSwapped 21 = .ok (.invokevirtual 233, 3) := by decide +kernel
theorem dX6_putSwapped_24 : decode cX6_putSwapped 24 = .ok (.lstore 5, 2) := by decide +kernel
theorem dX6_putSwapped_26 : decode cX6_putSwapped 26 = .ok (.aload_n 0, 1) := by decide +kernel
theorem dX6_putSwapped_27 : decode cX6_putSwapped 27 = .ok (.iload_n 1, 1) := by decide +kernel
theorem dX6_putSwapped_28 : decode cX6_putSwapped 28 = .ok (.lload_n 2, 1) := by decide +kernel
theorem dX6_putSwapped_29 : decode cX6_putSwapped 29 = .ok (.invokevirtual 187, 3) := by decide +kernel
theorem dX6_putSwapped_32 : decode cX6_putSwapped 32 = .ok (.pop, 1) := by decide +kernel
theorem dX6_putSwapped_33 : decode cX6_putSwapped 33 = .ok (.aload_n 0, 1) := by decide +kernel
theorem dX6_putSwapped_34 : decode cX6_putSwapped 34 = .ok (.iload 4, 2) := by decide +kernel
theorem dX6_putSwapped_36 : decode cX6_putSwapped 36 = .ok (.lload 5, 2) := by decide +kernel
theorem dX6_putSwapped_38 : decode cX6_putSwapped 38 = .ok (.invokevirtual 187, 3) := by decide +kernel
theorem dX6_putSwapped_41 : decode cX6_putSwapped 41 = .ok (.ireturn, 1) := by decide +kernel
theorem dX6_calculate_0 : decode cX6_calculate 0 = .ok (.aload_n 0, 1) := by decide +kernel
theorem dX6_calculate_1 : decode cX6_calculate 1 = .ok (.iconst 0, 1) := by decide +kernel
theorem dX6_calculate_2 : decode cX6_calculate 2 = .ok (.invokevirtual 230, 3) := by decide +kernel
theorem dX6_calculate_5 : decode cX6_calculate 5 = .ok (.ifCond .eq 11, 3) := by decide +kernel
theorem dX6_calculate_8 : decode cX6_calculate 8 = .ok (.aload_n 0, 1) := by decide +kernel
theorem dX6_calculate_9 : decode cX6_calculate 9 = .ok (.iconst 1, 1) := by decide +kernel
theorem dX6_calculate_10 : decode cX6_calculate 10 = .ok (.invokevirtual 230, 3) := by decide +kernel
theorem dX6_calculate_13 : decode cX6_calculate 13 = .ok (.ifCond .ne 5, 3) := by decide +kernel
theorem dX6_calculate_16 : decode cX6_calculate 16 = .ok (.iconst 4, 1) := by decide +kernel
theorem dX6_calculate_17 : decode cX6_calculate 17 = .ok (.ireturn, 1) := by decide +kernel
theorem dX6_calculate_18 : decode cX6_calculate 18 = .ok (.aload_n 0, 1) := by decide +kernel
theorem dX6_calculate_19 : decode cX6_calculate 19 = .ok (.iconst 0, 1) := by decide +kernel
theorem dX6_calculate_20 : decode cX6_calculate 20 = .ok (.invokevirtual 233, 3) := by decide +kernel
theorem dX6_calculate_23 : decode cX6_calculate 23 = .ok (.lstore_n 2, 1) := by decide +kernel
theorem dX6_calculate_24 : decode cX6_calculate 24 = .ok (.aload_n 0, 1) := by decide +kernel
theorem dX6_calculate_25 : decode cX6_calculate 25 = .ok (.iconst 1, 1) := by decide +kernel
theorem dX6_calculate_26 : decode cX6_calculate 26 = .ok (.invokevirtual 233, 3) := by decide +kernel
theorem dX6_calculate_29 : decode cX6_calculate 29 = .ok (.lstore 4, 2) := by decide +kernel
theorem dX6_calculate_31 : decode cX6_calculate 31 = .ok (.iload_n 1, 1) := by decide +kernel
theorem dX6_calculate_32 : decode cX6_calculate 32 = .ok (.tableswitch 185 6 12 #[44, 67, 90, 113, 132, 151, 168], 44) := by decide +kernel
theorem dX6_calculate_76 : decode cX6_calculate 76 = .ok (.lload 4, 2) := by decide +kernel
theorem dX6_calculate_78 : decode cX6_calculate 78 = .ok (.lload_n 2, 1) := by decide +kernel
theorem dX6_calculate_79 : decode cX6_calculate 79 = .ok (.invokestatic 240, 3) := by decide +kernel
theorem dX6_calculate_82 : decode cX6_calculate 82 = .ok (.ifCond .eq 14, 3) := by decide +kernel
theorem dX6_calculate_85 : decode cX6_calculate 85 = .ok (.aload_n 0, 1) := by decide +kernel
theorem dX6_calculate_86 : decode cX6_calculate 86 = .ok (.lload 4, 2) := by decide +kernel
theorem dX6_calculate_88 : decode cX6_calculate 88 = .ok (.lload_n 2, 1) := by decide +kernel
theorem dX6_calculate_89 : decode cX6_calculate 89 = .ok (.ladd, 1) := by decide +kernel
theorem dX6_calculate_90 : decode cX6_calculate 90 = .ok (.invokevirtual 66, 3) := by decide +kernel
theorem dX6_calculate_93 : decode cX6_calculate 93 = .ok (.goto 5, 3) := by decide +kernel
theorem dX6_calculate_96 : decode cX6_calculate 96 = .ok (.bipush 6, 2) := by decide +kernel
theorem dX6_calculate_98 : decode cX6_calculate 98 = .ok (.ireturn, 1) := by decide +kernel
theorem dX6_calculate_99 : decode cX6_calculate 99 = .ok (.lload 4, 2) := by decide +kernel
theorem dX6_calculate_101 : decode cX6_calculate 101 = .ok (.lload_n 2, 1) := by decide +kernel
theorem dX6_calculate_102 : decode cX6_calculate 102 = .ok (.invokestatic 244, 3) := by decide +kernel
theorem dX6_calculate_105 : decode cX6_calculate 105 = .ok (.ifCond .eq 14, 3) := by decide +kernel
theorem dX6_calculate_108 : decode cX6_calculate 108 = .ok (.aload_n 0, 1) := by decide +kernel
theorem dX6_calculate_109 : decode cX6_calculate 109 = .ok (.lload 4, 2) := by decide +kernel
theorem dX6_calculate_111 : decode cX6_calculate 111 = .ok (.lload_n 2, 1) := by decide +kernel
theorem dX6_calculate_112 : decode cX6_calculate 112 = .ok (.lsub, 1) := by decide +kernel
theorem dX6_calculate_113 : decode cX6_calculate 113 = .ok (.invokevirtual 66, 3) := by decide +kernel
theorem dX6_calculate_116 : decode cX6_calculate 116 = .ok (.goto 5, 3) := by decide +kernel
theorem dX6_calculate_119 : decode cX6_calculate 119 = .ok (.bipush 6, 2) := by decide +kernel
theorem dX6_calculate_121 : decode cX6_calculate 121 = .ok (.ireturn, 1) := by decide +kernel
theorem dX6_calculate_122 : decode cX6_calculate 122 = .ok (.lload 4, 2) := by decide +kernel
theorem dX6_calculate_124 : decode cX6_calculate 124 = .ok (.lload_n 2, 1) := by decide +kernel
theorem dX6_calculate_125 : decode cX6_calculate 125 = .ok (.invokestatic 247, 3) := by decide +kernel
theorem dX6_calculate_128 : decode cX6_calculate 128 = .ok (.ifCond .eq 14, 3) := by decide +kernel
theorem dX6_calculate_131 : decode cX6_calculate 131 = .ok (.aload_n 0, 1) := by decide +kernel
theorem dX6_calculate_132 : decode cX6_calculate 132 = .ok (.lload 4, 2) := by decide +kernel
theorem dX6_calculate_134 : decode cX6_calculate 134 = .ok (.lload_n 2, 1) := by decide +kernel
theorem dX6_calculate_135 : decode cX6_calculate 135 = .ok (.lmul, 1) := by decide +kernel
theorem dX6_calculate_136 : decode cX6_calculate 136 = .ok (.invokevirtual 66, 3) := by decide +kernel
theorem dX6_calculate_139 : decode cX6_calculate 139 = .ok (.goto 5, 3) := by decide +kernel
theorem dX6_calculate_142 : decode cX6_calculate 142 = .ok (.bipush 6, 2) := by decide +kernel
theorem dX6_calculate_144 : decode cX6_calculate 144 = .ok (.ireturn, 1) := by decide +kernel
theorem dX6_calculate_145 : decode cX6_calculate 145 = .ok (.lload_n 2, 1) := by decide +kernel
theorem dX6_calculate_146 : decode cX6_calculate 146 = .ok (.lconst 0, 1) := by decide +kernel
theorem dX6_calculate_147 : decode cX6_calculate 147 = .ok (.lcmp, 1) := by decide +kernel
theorem dX6_calculate_148 : decode cX6_calculate 148 = .ok (.ifCond .eq 14, 3) := by decide +kernel
theorem dX6_calculate_151 : decode cX6_calculate 151 = .ok (.aload_n 0, 1) := by decide +kernel
theorem dX6_calculate_152 : decode cX6_calculate 152 = .ok (.lload 4, 2) := by decide +kernel
theorem dX6_calculate_154 : decode cX6_calculate 154 = .ok (.lload_n 2, 1) := by decide +kernel
theorem dX6_calculate_155 : decode cX6_calculate 155 = .ok (.ldiv, 1) := by decide +kernel
theorem dX6_calculate_156 : decode cX6_calculate 156 = .ok (.invokevirtual 66, 3) := by decide +kernel
theorem dX6_calculate_159 : decode cX6_calculate 159 = .ok (.goto 4, 3) := by decide +kernel
theorem dX6_calculate_162 : decode cX6_calculate 162 = .ok (.iconst 1, 1) := by decide +kernel
theorem dX6_calculate_163 : decode cX6_calculate 163 = .ok (.ireturn, 1) := by decide +kernel
theorem dX6_calculate_164 : decode cX6_calculate 164 = .ok (.lload_n 2, 1) := by decide +kernel
theorem dX6_calculate_165 : decode cX6_calculate 165 = .ok (.lconst 0, 1) := by decide +kernel
theorem dX6_calculate_166 : decode cX6_calculate 166 = .ok (.lcmp, 1) := by decide +kernel
theorem dX6_calculate_167 : decode cX6_calculate 167 = .ok (.ifCond .eq 14, 3) := by decide +kernel
theorem dX6_calculate_170 : decode cX6_calculate 170 = .ok (.aload_n 0, 1) := by decide +kernel
theorem dX6_calculate_171 : decode cX6_calculate 171 = .ok (.lload 4, 2) := by decide +kernel
theorem dX6_calculate_173 : decode cX6_calculate 173 = .ok (.lload_n 2, 1) := by decide +kernel
theorem dX6_calculate_174 : decode cX6_calculate 174 = .ok (.lrem, 1) := by decide +kernel
theorem dX6_calculate_175 : decode cX6_calculate 175 = .ok (.invokevirtual 66, 3) := by decide +kernel
theorem dX6_calculate_178 : decode cX6_calculate 178 = .ok (.goto 4, 3) := by decide +kernel
theorem dX6_calculate_181 : decode cX6_calculate 181 = .ok (.iconst 1, 1) := by decide +kernel
theorem dX6_calculate_182 : decode cX6_calculate 182 = .ok (.ireturn, 1) := by decide +kernel
theorem dX6_calculate_183 : decode cX6_calculate 183 = .ok (.aload_n 0, 1) := by decide +kernel
theorem dX6_calculate_184 : decode cX6_calculate 184 = .ok (.lload 4, 2) := by decide +kernel
theorem dX6_calculate_186 : decode cX6_calculate 186 = .ok (.lload_n 2, 1) := by decide +kernel
theorem dX6_calculate_187 : decode cX6_calculate 187 = .ok (.lcmp, 1) := by decide +kernel
theorem dX6_calculate_188 : decode cX6_calculate 188 = .ok (.ifCond .ge 7, 3) := by decide +kernel
theorem dX6_calculate_191 : decode cX6_calculate 191 = .ok (.lconst 1, 1) := by decide +kernel
theorem dX6_calculate_192 : decode cX6_calculate 192 = .ok (.goto 4, 3) := by decide +kernel
theorem dX6_calculate_195 : decode cX6_calculate 195 = .ok (.lconst 0, 1) := by decide +kernel
theorem dX6_calculate_196 : decode cX6_calculate 196 = .ok (.invokevirtual 66, 3) := by decide +kernel
theorem dX6_calculate_199 : decode cX6_calculate 199 = .ok (.ireturn, 1) := by decide +kernel
theorem dX6_calculate_200 : decode cX6_calculate 200 = .ok (.aload_n 0, 1) := by decide +kernel
theorem dX6_calculate_201 : decode cX6_calculate 201 = .ok (.lload 4, 2) := by decide +kernel
theorem dX6_calculate_203 : decode cX6_calculate 203 = .ok (.lload_n 2, 1) := by decide +kernel
theorem dX6_calculate_204 : decode cX6_calculate 204 = .ok (.lcmp, 1) := by decide +kernel
theorem dX6_calculate_205 : decode cX6_calculate 205 = .ok (.ifCond .ne 7, 3) := by decide +kernel
theorem dX6_calculate_208 : decode cX6_calculate 208 = .ok (.lconst 1, 1) := by decide +kernel
theorem dX6_calculate_209 : decode cX6_calculate 209 = .ok (.goto 4, 3) := by decide +kernel
theorem dX6_calculate_212 : decode cX6_calculate 212 = .ok (.lconst 0, 1) := by decide +kernel
theorem dX6_calculate_213 : decode cX6_calculate 213 = .ok (.invokevirtual 66, 3) := by decide +kernel
theorem dX6_calculate_216 : decode cX6_calculate 216 = .ok (.ireturn, 1) := by decide +kernel
theorem dX6_calculate_217 : decode cX6_calculate 217 = .ok (.bipush 12, 2) := by decide +kernel
theorem dX6_calculate_219 : decode cX6_calculate 219 = .ok (.ireturn, 1) := by decide +kernel
theorem dX6_jumpIfZero_0 : decode cX6_jumpIfZero 0 = .ok (.aload_n 0, 1) := by decide +kernel
theorem dX6_jumpIfZero_1 : decode cX6_jumpIfZero 1 = .ok (.getfield 62, 3) := by decide +kernel
theorem dX6_jumpIfZero_4 : decode cX6_jumpIfZero 4 = .ok (.iconst 0, 1) := by decide +kernel
theorem dX6_jumpIfZero_5 : decode cX6_jumpIfZero 5 = .ok (.invokevirtual 230, 3) := by decide +kernel
theorem dX6_jumpIfZero_8 : decode cX6_jumpIfZero 8 = .ok (.ifCond .ne 5, 3) := by decide +kernel
theorem dX6_jumpIfZero_11 : decode cX6_jumpIfZero 11 = .ok (.iconst 4, 1) := by decide +kernel
theorem dX6_jumpIfZero_12 : decode cX6_jumpIfZero 12 = .ok (.ireturn, 1) := by decide +kernel
theorem dX6_jumpIfZero_13 : decode cX6_jumpIfZero 13 = .ok (.aload_n 0, 1) := by decide +kernel
theorem dX6_jumpIfZero_14 : decode cX6_jumpIfZero 14 = .ok (.getfield 108, 3) := by decide +kernel
theorem dX6_jumpIfZero_17 : decode cX6_jumpIfZero 17 = .ok (.iload_n 1, 1) := by decide +kernel
theorem dX6_jumpIfZero_18 : decode cX6_jumpIfZero 18 = .ok (.invokevirtual 250, 3) := by decide +kernel
theorem dX6_jumpIfZero_21 : decode cX6_jumpIfZero 21 = .ok (.ifCond .ne 6, 3) := by decide +kernel
theorem dX6_jumpIfZero_24 : decode cX6_jumpIfZero 24 = .ok (.bipush 12, 2) := by decide +kernel
theorem dX6_jumpIfZero_26 : decode cX6_jumpIfZero 26 = .ok (.ireturn, 1) := by decide +kernel
theorem dX6_jumpIfZero_27 : decode cX6_jumpIfZero 27 = .ok (.aload_n 0, 1) := by decide +kernel
theorem dX6_jumpIfZero_28 : decode cX6_jumpIfZero 28 = .ok (.getfield 62, 3) := by decide +kernel
theorem dX6_jumpIfZero_31 : decode cX6_jumpIfZero 31 = .ok (.iconst 0, 1) := by decide +kernel
theorem dX6_jumpIfZero_32 : decode cX6_jumpIfZero 32 = .ok (.invokevirtual 233, 3) := by decide +kernel
theorem dX6_jumpIfZero_35 : decode cX6_jumpIfZero 35 = .ok (.lconst 0, 1) := by decide +kernel
theorem dX6_jumpIfZero_36 : decode cX6_jumpIfZero 36 = .ok (.lcmp, 1) := by decide +kernel
theorem dX6_jumpIfZero_37 : decode cX6_jumpIfZero 37 = .ok (.ifCond .ne 11, 3) := by decide +kernel
theorem dX6_jumpIfZero_40 : decode cX6_jumpIfZero 40 = .ok (.aload_n 0, 1) := by decide +kernel
theorem dX6_jumpIfZero_41 : decode cX6_jumpIfZero 41 = .ok (.iload_n 1, 1) := by decide +kernel
theorem dX6_jumpIfZero_42 : decode cX6_jumpIfZero 42 = .ok (.invokevirtual 161, 3) := by decide +kernel
theorem dX6_jumpIfZero_45 : decode cX6_jumpIfZero 45 = .ok (.goto 4, 3) := by decide +kernel
theorem dX6_jumpIfZero_48 : decode cX6_jumpIfZero 48 = .ok (.iconst 0, 1) := by decide +kernel
theorem dX6_jumpIfZero_49 : decode cX6_jumpIfZero 49 = .ok (.ireturn, 1) := by decide +kernel
theorem dX6_giveBack_0 : decode cX6_giveBack 0 = .ok (.aload_n 1, 1) := by decide +kernel
theorem dX6_giveBack_1 : decode cX6_giveBack 1 = .ok (.iconst 0, 1) := by decide +kernel
theorem dX6_giveBack_2 : decode cX6_giveBack 2 = .ok (.invokevirtual 230, 3) := by decide +kernel
theorem dX6_giveBack_5 : decode cX6_giveBack 5 = .ok (.ifCond .ne 5, 3) := by decide +kernel
theorem dX6_giveBack_8 : decode cX6_giveBack 8 = .ok (.iconst 4, 1) := by decide +kernel
theorem dX6_giveBack_9 : decode cX6_giveBack 9 = .ok (.ireturn, 1) := by decide +kernel
theorem dX6_giveBack_10 : decode cX6_giveBack 10 = .ok (.aload_n 0, 1) := by decide +kernel
theorem dX6_giveBack_11 : decode cX6_giveBack 11 = .ok (.aload_n 1, 1) := by decide +kernel
theorem dX6_giveBack_12 : decode cX6_giveBack 12 = .ok (.iconst 0, 1) := by decide +kernel
theorem dX6_giveBack_13 : decode cX6_giveBack 13 = .ok (.invokevirtual 233, 3) := by decide +kernel
theorem dX6_giveBack_16 : decode cX6_giveBack 16 = .ok (.invokevirtual 95, 3) := by decide +kernel
theorem dX6_giveBack_19 : decode cX6_giveBack 19 = .ok (.iconst 0, 1) := by decide +kernel
theorem dX6_giveBack_20 : decode cX6_giveBack 20 = .ok (.ireturn, 1) := by decide +kernel
theorem dX6_tellEvent_0 : decode cX6_tellEvent 0 = .ok (.aload_n 1, 1) := by decide +kernel
theorem dX6_tellEvent_1 : decode cX6_tellEvent 1 = .ok (.getfield 62, 3) := by decide +kernel
theorem dX6_tellEvent_4 : decode cX6_tellEvent 4 = .ok (.iconst 0, 1) := by decide +kernel
theorem dX6_tellEvent_5 : decode cX6_tellEvent 5 = .ok (.invokevirtual 230, 3) := by decide +kernel
theorem dX6_tellEvent_8 : decode cX6_tellEvent 8 = .ok (.ifCond .ne 5, 3) := by decide +kernel
theorem dX6_tellEvent_11 : decode cX6_tellEvent 11 = .ok (.iconst 4, 1) := by decide +kernel
theorem dX6_tellEvent_12 : decode cX6_tellEvent 12 = .ok (.ireturn, 1) := by decide +kernel
theorem dX6_tellEvent_13 : decode cX6_tellEvent 13 = .ok (.aload_n 0, 1) := by decide +kernel
theorem dX6_tellEvent_14 : decode cX6_tellEvent 14 = .ok (.getfield 36, 3) := by decide +kernel
theorem dX6_tellEvent_17 : decode cX6_tellEvent 17 = .ok (.aload_n 1, 1) := by decide +kernel
theorem dX6_tellEvent_18 : decode cX6_tellEvent 18 = .ok (.getfield 214, 3) := by decide +kernel
theorem dX6_tellEvent_21 : decode cX6_tellEvent 21 = .ok (.aload_n 1, 1) := by decide +kernel
theorem dX6_tellEvent_22 : decode cX6_tellEvent 22 = .ok (.getfield 62, 3) := by decide +kernel
theorem dX6_tellEvent_25 : decode cX6_tellEvent 25 = .ok (.iconst 0, 1) := by decide +kernel
theorem dX6_tellEvent_26 : decode cX6_tellEvent 26 = .ok (.invokevirtual 233, 3) := by decide +kernel
theorem dX6_tellEvent_29 : decode cX6_tellEvent 29 = .ok (.invokevirtual 253, 3) := by decide +kernel
theorem dX6_tellEvent_32 : decode cX6_tellEvent 32 = .ok (.ifCond .eq 7, 3) := by decide +kernel
theorem dX6_tellEvent_35 : decode cX6_tellEvent 35 = .ok (.iconst 0, 1) := by decide +kernel
theorem dX6_tellEvent_36 : decode cX6_tellEvent 36 = .ok (.goto 5, 3) := by decide +kernel
theorem dX6_tellEvent_39 : decode cX6_tellEvent 39 = .ok (.bipush 11, 2) := by decide +kernel
theorem dX6_tellEvent_41 : decode cX6_tellEvent 41 = .ok (.ireturn, 1) := by decide +kernel
theorem dX6_callOther_0 : decode cX6_callOther 0 = .ok (.aload_n 1, 1) := by decide +kernel
theorem dX6_callOther_1 : decode cX6_callOther 1 = .ok (.getfield 62, 3) := by decide +kernel
theorem dX6_callOther_4 : decode cX6_callOther 4 = .ok (.astore_n 3, 1) := by decide +kernel
theorem dX6_callOther_5 : decode cX6_callOther 5 = .ok (.aload_n 3, 1) := by decide +kernel
theorem dX6_callOther_6 : decode cX6_callOther 6 = .ok (.iconst 1, 1) := by decide +kernel
theorem dX6_callOther_7 : decode cX6_callOther 7 = .ok (.invokevirtual 230, 3) := by decide +kernel
theorem dX6_callOther_10 : decode cX6_callOther 10 = .ok (.ifCond .eq 11, 3) := by decide +kernel
theorem dX6_callOther_13 : decode cX6_callOther 13 = .ok (.aload_n 3, 1) := by decide +kernel
theorem dX6_callOther_14 : decode cX6_callOther 14 = .ok (.iconst 2, 1) := by decide +kernel
theorem dX6_callOther_15 : decode cX6_callOther 15 = .ok (.invokevirtual 230, 3) := by decide +kernel
theorem dX6_callOther_18 : decode cX6_callOther 18 = .ok (.ifCond .ne 5, 3) := by decide +kernel
theorem dX6_callOther_21 : decode cX6_callOther 21 = .ok (.iconst 4, 1) := by decide +kernel
theorem dX6_callOther_22 : decode cX6_callOther 22 = .ok (.ireturn, 1) := by decide +kernel
theorem dX6_callOther_23 : decode cX6_callOther 23 = .ok (.aload_n 3, 1) := by decide +kernel
theorem dX6_callOther_24 : decode cX6_callOther 24 = .ok (.iconst 2, 1) := by decide +kernel
theorem dX6_callOther_25 : decode cX6_callOther 25 = .ok (.invokevirtual 233, 3) := by decide +kernel
theorem dX6_callOther_28 : decode cX6_callOther 28 = .ok (.lstore 4, 2) := by decide +kernel
theorem dX6_callOther_30 : decode cX6_callOther 30 = .ok (.aload_n 0, 1) := by decide +kernel
theorem dX6_callOther_31 : decode cX6_callOther 31 = .ok (.aload_n 1, 1) := by decide +kernel
theorem dX6_callOther_32 : decode cX6_callOther 32 = .ok (.getfield 214, 3) := by decide +kernel
theorem dX6_callOther_35 : decode cX6_callOther 35 = .ok (.lload 4, 2) := by decide +kernel
theorem dX6_callOther_37 : decode cX6_callOther 37 = .ok (.iload_n 2, 1) := by decide +kernel
theorem dX6_callOther_38 : decode cX6_callOther 38 = .ok (.invokevirtual 257, 3) := by decide +kernel
theorem dX6_callOther_41 : decode cX6_callOther 41 = .ok (.istore 6, 2) := by decide +kernel
theorem dX6_callOther_43 : decode cX6_callOther 43 = .ok (.iload 6, 2) := by decide +kernel
theorem dX6_callOther_45 : decode cX6_callOther 45 = .ok (.ifCond .eq 6, 3) := by decide +kernel
theorem dX6_callOther_48 : decode cX6_callOther 48 = .ok (.iload 6, 2) := by decide +kernel
theorem dX6_callOther_50 : decode cX6_callOther 50 = .ok (.ireturn, 1) := by decide +kernel
theorem dX6_callOther_51 : decode cX6_callOther 51 = .ok (.iload_n 2, 1) := by decide +kernel
theorem dX6_callOther_52 : decode cX6_callOther 52 = .ok (.bipush 8, 2) := by decide +kernel
theorem dX6_callOther_54 : decode cX6_callOther 54 = .ok (.idiv, 1) := by decide +kernel
theorem dX6_callOther_55 : decode cX6_callOther 55 = .ok (.istore 7, 2) := by decide +kernel
theorem dX6_callOther_57 : decode cX6_callOther 57 = .ok (.aload_n 1, 1) := by decide +kernel
theorem dX6_callOther_58 : decode cX6_callOther 58 = .ok (.getfield 99, 3) := by decide +kernel
theorem dX6_callOther_61 : decode cX6_callOther 61 = .ok (.aload_n 0, 1) := by decide +kernel
theorem dX6_callOther_62 : decode cX6_callOther 62 = .ok (.getfield 17, 3) := by decide +kernel
theorem dX6_callOther_65 : decode cX6_callOther 65 = .ok (.iconst 0, 1) := by decide +kernel
theorem dX6_callOther_66 : decode cX6_callOther 66 = .ok (.iaload, 1) := by decide +kernel
theorem dX6_callOther_67 : decode cX6_callOther 67 = .ok (.isub, 1) := by decide +kernel
theorem dX6_callOther_68 : decode cX6_callOther 68 = .ok (.i2l, 1) := by decide +kernel
theorem dX6_callOther_69 : decode cX6_callOther 69 = .ok (.lstore 8, 2) := by decide +kernel
theorem dX6_callOther_71 : decode cX6_callOther 71 = .ok (.lconst 0, 1) := by decide +kernel
theorem dX6_callOther_72 : decode cX6_callOther 72 = .ok (.aload_n 3, 1) := by decide +kernel
theorem dX6_callOther_73 : decode cX6_callOther 73 = .ok (.iconst 1, 1) := by decide +kernel
theorem dX6_callOther_74 : decode cX6_callOther 74 = .ok (.invokevirtual 233, 3) := by decide +kernel
theorem dX6_callOther_77 : decode cX6_callOther 77 = .ok (.lload 8, 2) := by decide +kernel
theorem dX6_callOther_79 : decode cX6_callOther 79 = .ok (.invokestatic 261, 3) := by decide +kernel
theorem dX6_callOther_82 : decode cX6_callOther 82 = .ok (.invokestatic 265, 3) := by decide +kernel
theorem dX6_callOther_85 : decode cX6_callOther 85 = .ok (.l2i, 1) := by decide +kernel
theorem dX6_callOther_86 : decode cX6_callOther 86 = .ok (.istore 10, 2) := by decide +kernel
theorem dX6_callOther_88 : decode cX6_callOther 88 = .ok (.aload_n 0, 1) := by decide +kernel
theorem dX6_callOther_89 : decode cX6_callOther 89 = .ok (.aload_n 0, 1) := by decide +kernel
theorem dX6_callOther_90 : decode cX6_callOther 90 = .ok (.getfield 32, 3) := by decide +kernel
theorem dX6_callOther_93 : decode cX6_callOther 93 = .ok (.iload 7, 2) := by decide +kernel
theorem dX6_callOther_95 : decode cX6_callOther 95 = .ok (.iload_n 2, 1) := by decide +kernel
theorem dX6_callOther_96 : decode cX6_callOther 96 = .ok (.bipush 8, 2) := by decide +kernel
theorem dX6_callOther_98 : decode cX6_callOther 98 = .ok (.irem, 1) := by decide +kernel
theorem dX6_callOther_99 : decode cX6_callOther 99 = .ok (.invokevirtual 54, 3) := by decide +kernel
theorem dX6_callOther_102 : decode cX6_callOther 102 = .ok (.iload 7, 2) := by decide +kernel
theorem dX6_callOther_104 : decode cX6_callOther 104 = .ok (.aload_n 1, 1) := by decide +kernel
theorem dX6_callOther_105 : decode cX6_callOther 105 = .ok (.getfield 214, 3) := by decide +kernel
theorem dX6_callOther_108 : decode cX6_callOther 108 = .ok (.iload 10, 2) := by decide +kernel
theorem dX6_callOther_110 : decode cX6_callOther 110 = .ok (.invokevirtual 58, 3) := by decide +kernel
theorem dX6_callOther_113 : decode cX6_callOther 113 = .ok (.astore 11, 2) := by decide +kernel
theorem dX6_callOther_115 : decode cX6_callOther 115 = .ok (.aload_n 0, 1) := by decide +kernel
theorem dX6_callOther_116 : decode cX6_callOther 116 = .ok (.getfield 36, 3) := by decide +kernel
theorem dX6_callOther_119 : decode cX6_callOther 119 = .ok (.aload_n 1, 1) := by decide +kernel
theorem dX6_callOther_120 : decode cX6_callOther 120 = .ok (.getfield 214, 3) := by decide +kernel
theorem dX6_callOther_123 : decode cX6_callOther 123 = .ok (.iload 7, 2) := by decide +kernel
theorem dX6_callOther_125 : decode cX6_callOther 125 = .ok (.lload 4, 2) := by decide +kernel
theorem dX6_callOther_127 : decode cX6_callOther 127 = .ok (.invokevirtual 267, 3) := by decide +kernel
theorem dX6_callOther_130 : decode cX6_callOther 130 = .ok (.aload_n 3, 1) := by decide +kernel
theorem dX6_callOther_131 : decode cX6_callOther 131 = .ok (.iconst 0, 1) := by decide +kernel
theorem dX6_callOther_132 : decode cX6_callOther 132 = .ok (.invokevirtual 237, 3) := by decide +kernel
theorem dX6_callOther_135 : decode cX6_callOther 135 = .ok (.istore 12, 2) := by decide +kernel
theorem dX6_callOther_137 : decode cX6_callOther 137 = .ok (.iload 12, 2) := by decide +kernel
theorem dX6_callOther_139 : decode cX6_callOther 139 = .ok (.iconst 1, 1) := by decide +kernel
theorem dX6_callOther_140 : decode cX6_callOther 140 = .ok (.if_icmp .eq 9, 3) := by decide +kernel
theorem dX6_callOther_143 : decode cX6_callOther 143 = .ok (.iload 12, 2) := by decide +kernel
theorem dX6_callOther_145 : decode cX6_callOther 145 = .ok (.iconst 2, 1) := by decide +kernel
theorem dX6_callOther_146 : decode cX6_callOther 146 = .ok (.if_icmp .ne 23, 3) := by decide +kernel
theorem dX6_callOther_149 : decode cX6_callOther 149 = .ok (.aload 11, 2) := by decide +kernel
theorem dX6_callOther_151 : decode cX6_callOther 151 = .ok (.getfield 168, 3) := by decide +kernel
theorem dX6_callOther_154 : decode cX6_callOther 154 = .ok (.iload 12, 2) := by decide +kernel
theorem dX6_callOther_156 : decode cX6_callOther 156 = .ok (.aload_n 1, 1) := by decide +kernel
theorem dX6_callOther_157 : decode cX6_callOther 157 = .ok (.getfield 168, 3) := by decide +kernel
theorem dX6_callOther_160 : decode cX6_callOther 160 = .ok (.aload_n 3, 1) := by decide +kernel
theorem dX6_callOther_161 : decode cX6_callOther 161 = .ok (.iconst 0, 1) := by decide +kernel
theorem dX6_callOther_162 : decode cX6_callOther 162 = .ok (.invokevirtual 233, 3) := by decide +kernel
theorem dX6_callOther_165 : decode cX6_callOther 165 = .ok (.invokevirtual 271, 3) := by decide +kernel
theorem dX6_callOther_168 : decode cX6_callOther 168 = .ok (.ireturn, 1) := by decide +kernel
theorem dX6_callOther_169 : decode cX6_callOther 169 = .ok (.aload 11, 2) := by decide +kernel
theorem dX6_callOther_171 : decode cX6_callOther 171 = .ok (.getfield 62, 3) := by decide +kernel
theorem dX6_callOther_174 : decode cX6_callOther 174 = .ok (.iload 12, 2) := by decide +kernel
theorem dX6_callOther_176 : decode cX6_callOther 176 = .ok (.aload_n 3, 1) := by decide +kernel
theorem dX6_callOther_177 : decode cX6_callOther 177 = .ok (.iconst 0, 1) := by decide +kernel
theorem dX6_callOther_178 : decode cX6_callOther 178 = .ok (.invokevirtual 233, 3) := by decide +kernel
theorem dX6_callOther_181 : decode cX6_callOther 181 = .ok (.invokevirtual 187, 3) := by decide +kernel
theorem dX6_callOther_184 : decode cX6_callOther 184 = .ok (.ireturn, 1) := by decide +kernel
theorem dX6_callFailure_0 : decode cX6_callFailure 0 = .ok (.lload_n 2, 1) := by decide +kernel
theorem dX6_callFailure_1 : decode cX6_callFailure 1 = .ok (.lconst 0, 1) := by decide +kernel
theorem dX6_callFailure_2 : decode cX6_callFailure 2 = .ok (.lcmp, 1) := by decide +kernel
theorem dX6_callFailure_3 : decode cX6_callFailure 3 = .ok (.ifCond .lt 17, 3) := by decide +kernel
theorem dX6_callFailure_6 : decode cX6_callFailure 6 = .ok (.lload_n 2, 1) := by decide +kernel
theorem dX6_callFailure_7 : decode cX6_callFailure 7 = .ok (.aload_n 0, 1) := by decide +kernel
theorem dX6_callFailure_8 : decode cX6_callFailure 8 = .ok (.getfield 36, 3) := by decide +kernel
theorem dX6_callFailure_11 : decode cX6_callFailure 11 = .ok (.getfield 210, 3) := by decide +kernel
theorem dX6_callFailure_14 : decode cX6_callFailure 14 = .ok (.iload_n 1, 1) := by decide +kernel
theorem dX6_callFailure_15 : decode cX6_callFailure 15 = .ok (.laload, 1) := by decide +kernel
theorem dX6_callFailure_16 : decode cX6_callFailure 16 = .ok (.lcmp, 1) := by decide +kernel
theorem dX6_callFailure_17 : decode cX6_callFailure 17 = .ok (.ifCond .le 6, 3) := by decide +kernel
theorem dX6_callFailure_20 : decode cX6_callFailure 20 = .ok (.bipush 9, 2) := by decide +kernel
theorem dX6_callFailure_22 : decode cX6_callFailure 22 = .ok (.ireturn, 1) := by decide +kernel
theorem dX6_callFailure_23 : decode cX6_callFailure 23 = .ok (.iload 4, 2) := by decide +kernel
theorem dX6_callFailure_25 : decode cX6_callFailure 25 = .ok (.ifCond .lt 19, 3) := by decide +kernel
theorem dX6_callFailure_28 : decode cX6_callFailure 28 = .ok (.iload 4, 2) := by decide +kernel
theorem dX6_callFailure_30 : decode cX6_callFailure 30 = .ok (.bipush 8, 2) := by decide +kernel
theorem dX6_callFailure_32 : decode cX6_callFailure 32 = .ok (.idiv, 1) := by decide +kernel
theorem dX6_callFailure_33 : decode cX6_callFailure 33 = .ok (.iload 4, 2) := by decide +kernel
theorem dX6_callFailure_35 : decode cX6_callFailure 35 = .ok (.bipush 8, 2) := by decide +kernel
theorem dX6_callFailure_37 : decode cX6_callFailure 37 = .ok (.irem, 1) := by decide +kernel
theorem dX6_callFailure_38 : decode cX6_callFailure 38 = .ok (.invokestatic 275, 3) := by decide +kernel
theorem dX6_callFailure_41 : decode cX6_callFailure 41 = .ok (.ifCond .ne 6, 3) := by decide +kernel
theorem dX6_callFailure_44 : decode cX6_callFailure 44 = .ok (.bipush 12, 2) := by decide +kernel
theorem dX6_callFailure_46 : decode cX6_callFailure 46 = .ok (.ireturn, 1) := by decide +kernel
theorem dX6_callFailure_47 : decode cX6_callFailure 47 = .ok (.aload_n 0, 1) := by decide +kernel
theorem dX6_callFailure_48 : decode cX6_callFailure 48 = .ok (.getfield 32, 3) := by decide +kernel
theorem dX6_callFailure_51 : decode cX6_callFailure 51 = .ok (.getfield 278, 3) := by decide +kernel
theorem dX6_callFailure_54 : decode cX6_callFailure 54 = .ok (.iload 4, 2) := by decide +kernel
theorem dX6_callFailure_56 : decode cX6_callFailure 56 = .ok (.bipush 8, 2) := by decide +kernel
theorem dX6_callFailure_58 : decode cX6_callFailure 58 = .ok (.idiv, 1) := by decide +kernel
theorem dX6_callFailure_59 : decode cX6_callFailure 59 = .ok (.baload, 1) := by decide +kernel
theorem dX6_callFailure_60 : decode cX6_callFailure 60 = .ok (.ifCond .eq 18, 3) := by decide +kernel
theorem dX6_callFailure_63 : decode cX6_callFailure 63 = .ok (.aload_n 0, 1) := by decide +kernel
theorem dX6_callFailure_64 : decode cX6_callFailure 64 = .ok (.iload 4, 2) := by decide +kernel
theorem dX6_callFailure_66 : decode cX6_callFailure 66 = .ok (.bipush 8, 2) := by decide +kernel
theorem dX6_callFailure_68 : decode cX6_callFailure 68 = .ok (.idiv, 1) := by decide +kernel
theorem dX6_callFailure_69 : decode cX6_callFailure 69 = .ok (.invokevirtual 282, 3) := by decide +kernel
theorem dX6_callFailure_72 : decode cX6_callFailure 72 = .ok (.ifCond .eq 6, 3) := by decide +kernel
theorem dX6_callFailure_75 : decode cX6_callFailure 75 = .ok (.bipush 8, 2) := by decide +kernel
theorem dX6_callFailure_77 : decode cX6_callFailure 77 = .ok (.ireturn, 1) := by decide +kernel
theorem dX6_callFailure_78 : decode cX6_callFailure 78 = .ok (.aload_n 0, 1) := by decide +kernel
theorem dX6_callFailure_79 : decode cX6_callFailure 79 = .ok (.getfield 21, 3) := by decide +kernel
theorem dX6_callFailure_82 : decode cX6_callFailure 82 = .ok (.bipush 10, 2) := by decide +kernel
theorem dX6_callFailure_84 : decode cX6_callFailure 84 = .ok (.if_icmp .lt 6, 3) := by decide +kernel
theorem dX6_callFailure_87 : decode cX6_callFailure 87 = .ok (.bipush 10, 2) := by decide +kernel
theorem dX6_callFailure_89 : decode cX6_callFailure 89 = .ok (.ireturn, 1) := by decide +kernel
theorem dX6_callFailure_90 : decode cX6_callFailure 90 = .ok (.aload_n 0, 1) := by decide +kernel
theorem dX6_callFailure_91 : decode cX6_callFailure 91 = .ok (.getfield 36, 3) := by decide +kernel
theorem dX6_callFailure_94 : decode cX6_callFailure 94 = .ok (.iload_n 1, 1) := by decide +kernel
theorem dX6_callFailure_95 : decode cX6_callFailure 95 = .ok (.iload 4, 2) := by decide +kernel
theorem dX6_callFailure_97 : decode cX6_callFailure 97 = .ok (.bipush 8, 2) := by decide +kernel
theorem dX6_callFailure_99 : decode cX6_callFailure 99 = .ok (.idiv, 1) := by decide +kernel
theorem dX6_callFailure_100 : decode cX6_callFailure 100 = .ok (.lload_n 2, 1) := by decide +kernel
theorem dX6_callFailure_101 : decode cX6_callFailure 101 = .ok (.invokevirtual 285, 3) := by decide +kernel
theorem dX6_callFailure_104 : decode cX6_callFailure 104 = .ok (.ifCond .eq 7, 3) := by decide +kernel
theorem dX6_callFailure_107 : decode cX6_callFailure 107 = .ok (.iconst 0, 1) := by decide +kernel
theorem dX6_callFailure_108 : decode cX6_callFailure 108 = .ok (.goto 5, 3) := by decide +kernel
theorem dX6_callFailure_111 : decode cX6_callFailure 111 = .ok (.bipush 6, 2) := by decide +kernel
theorem dX6_callFailure_113 : decode cX6_callFailure 113 = .ok (.ireturn, 1) := by decide +kernel
theorem dX6_isUnderWay_0 : decode cX6_isUnderWay 0 = .ok (.iconst 0, 1) := by decide +kernel
theorem dX6_isUnderWay_1 : decode cX6_isUnderWay 1 = .ok (.istore_n 2, 1) := by decide +kernel
theorem dX6_isUnderWay_2 : decode cX6_isUnderWay 2 = .ok (.iload_n 2, 1) := by decide +kernel
theorem dX6_isUnderWay_3 : decode cX6_isUnderWay 3 = .ok (.aload_n 0, 1) := by decide +kernel
theorem dX6_isUnderWay_4 : decode cX6_isUnderWay 4 = .ok (.getfield 21, 3) := by decide +kernel
theorem dX6_isUnderWay_7 : decode cX6_isUnderWay 7 = .ok (.if_icmp .ge 30, 3) := by decide +kernel
theorem dX6_isUnderWay_10 : decode cX6_isUnderWay 10 = .ok (.iload_n 2, 1) := by decide +kernel
theorem dX6_isUnderWay_11 : decode cX6_isUnderWay 11 = .ok (.bipush 10, 2) := by decide +kernel
theorem dX6_isUnderWay_13 : decode cX6_isUnderWay 13 = .ok (.if_icmp .ge 24, 3) := by decide +kernel
theorem dX6_isUnderWay_16 : decode cX6_isUnderWay 16 = .ok (.aload_n 0, 1) := by decide +kernel
theorem dX6_isUnderWay_17 : decode cX6_isUnderWay 17 = .ok (.getfield 11, 3) := by decide +kernel
theorem dX6_isUnderWay_20 : decode cX6_isUnderWay 20 = .ok (.iload_n 2, 1) := by decide +kernel
theorem dX6_isUnderWay_21 : decode cX6_isUnderWay 21 = .ok (.aaload, 1) := by decide +kernel
theorem dX6_isUnderWay_22 : decode cX6_isUnderWay 22 = .ok (.getfield 214, 3) := by decide +kernel
theorem dX6_isUnderWay_25 : decode cX6_isUnderWay 25 = .ok (.iload_n 1, 1) := by decide +kernel
theorem dX6_isUnderWay_26 : decode cX6_isUnderWay 26 = .ok (.if_icmp .ne 5, 3) := by decide +kernel
theorem dX6_isUnderWay_29 : decode cX6_isUnderWay 29 = .ok (.iconst 1, 1) := by decide +kernel
theorem dX6_isUnderWay_30 : decode cX6_isUnderWay 30 = .ok (.ireturn, 1) := by decide +kernel
theorem dX6_isUnderWay_31 : decode cX6_isUnderWay 31 = .ok (.iinc 2 1, 3) := by decide +kernel
theorem dX6_isUnderWay_34 : decode cX6_isUnderWay 34 = .ok (.goto (-32), 3) := by decide +kernel
theorem dX6_isUnderWay_37 : decode cX6_isUnderWay 37 = .ok (.iconst 0, 1) := by decide +kernel
theorem dX6_isUnderWay_38 : decode cX6_isUnderWay 38 = .ok (.ireturn, 1) := by decide +kernel
