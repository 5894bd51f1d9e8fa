theorem dX0_init_0 : decode cX0_init 0 = .ok (.aload_n 0, 1) := by decide +kernel
theorem dX0_init_1 : decode cX0_init 1 = .ok (.invokespecial 3, 3) := by decide +kernel
theorem dX0_init_4 : decode cX0_init 4 = .ok (.aload_n 0, 1) := by decide +kernel
theorem dX0_init_5 : decode cX0_init 5 = .ok (.iconst 2, 1) := by decide +kernel
theorem dX0_init_6 : decode cX0_init 6 = .ok (.putfield 9, 3) := by decide +kernel
theorem dX0_init_9 : decode cX0_init 9 = .ok (.aload_n 0, 1) := by decide +kernel
theorem dX0_init_10 : decode cX0_init 10 = .ok (.bipush 12, 2) := by decide +kernel
theorem dX0_init_12 : decode cX0_init 12 = .ok (.putfield 15, 3) := by decide +kernel
theorem dX0_init_15 : decode cX0_init 15 = .ok (.aload_n 0, 1) := by decide +kernel
theorem dX0_init_16 : decode cX0_init 16 = .ok (.iconst 0, 1) := by decide +kernel
theorem dX0_init_17 : decode cX0_init 17 = .ok (.putfield 18, 3) := by decide +kernel
theorem dX0_init_20 : decode cX0_init 20 = .ok (.aload_n 0, 1) := by decide +kernel
theorem dX0_init_21 : decode cX0_init 21 = .ok (.bipush 12, 2) := by decide +kernel
theorem dX0_init_23 : decode cX0_init 23 = .ok (.newarray .int, 2) := by decide +kernel
theorem dX0_init_25 : decode cX0_init 25 = .ok (.putfield 21, 3) := by decide +kernel
theorem dX0_init_28 : decode cX0_init 28 = .ok (.aload_n 0, 1) := by decide +kernel
theorem dX0_init_29 : decode cX0_init 29 = .ok (.iconst 4, 1) := by decide +kernel
theorem dX0_init_30 : decode cX0_init 30 = .ok (.newarray .int, 2) := by decide +kernel
theorem dX0_init_32 : decode cX0_init 32 = .ok (.putfield 25, 3) := by decide +kernel
theorem dX0_init_35 : decode cX0_init 35 = .ok (.aload_n 0, 1) := by decide +kernel
theorem dX0_init_36 : decode cX0_init 36 = .ok (.iconst 4, 1) := by decide +kernel
theorem dX0_init_37 : decode cX0_init 37 = .ok (.newarray .int, 2) := by decide +kernel
theorem dX0_init_39 : decode cX0_init 39 = .ok (.putfield 28, 3) := by decide +kernel
theorem dX0_init_42 : decode cX0_init 42 = .ok (.aload_n 0, 1) := by decide +kernel
theorem dX0_init_43 : decode cX0_init 43 = .ok (.iconst 0, 1) := by decide +kernel
theorem dX0_init_44 : decode cX0_init 44 = .ok (.putfield 31, 3) := by decide +kernel
theorem dX0_init_47 : decode cX0_init 47 = .ok (.aload_n 0, 1) := by decide +kernel
theorem dX0_init_48 : decode cX0_init 48 = .ok (.iconst 0, 1) := by decide +kernel
theorem dX0_init_49 : decode cX0_init 49 = .ok (.putfield 34, 3) := by decide +kernel
theorem dX0_init_52 : decode cX0_init 52 = .ok (.aload_n 0, 1) := by decide +kernel
theorem dX0_init_53 : decode cX0_init 53 = .ok (.iconst 0, 1) := by decide +kernel
theorem dX0_init_54 : decode cX0_init 54 = .ok (.putfield 37, 3) := by decide +kernel
theorem dX0_init_57 : decode cX0_init 57 = .ok (.aload_n 0, 1) := by decide +kernel
theorem dX0_init_58 : decode cX0_init 58 = .ok (.iconst 0, 1) := by decide +kernel
theorem dX0_init_59 : decode cX0_init 59 = .ok (.putfield 40, 3) := by decide +kernel
theorem dX0_init_62 : decode cX0_init 62 = .ok (.return_, 1) := by decide +kernel
theorem dX0_setColumns_0 : decode cX0_setColumns 0 = .ok (.aload_n 0, 1) := by decide +kernel
theorem dX0_setColumns_1 : decode cX0_setColumns 1 = .ok (.getfield 9, 3) := by decide +kernel
theorem dX0_setColumns_4 : decode cX0_setColumns 4 = .ok (.istore_n 2, 1) := by decide +kernel
theorem dX0_setColumns_5 : decode cX0_setColumns 5 = .ok (.aload_n 0, 1) := by decide +kernel
theorem dX0_setColumns_6 : decode cX0_setColumns 6 = .ok (.iload_n 1, 1) := by decide +kernel
theorem dX0_setColumns_7 : decode cX0_setColumns 7 = .ok (.putfield 9, 3) := by decide +kernel
theorem dX0_setColumns_10 : decode cX0_setColumns 10 = .ok (.iload_n 2, 1) := by decide +kernel
theorem dX0_setColumns_11 : decode cX0_setColumns 11 = .ok (.ireturn, 1) := by decide +kernel
theorem dX0_setDepth_0 : decode cX0_setDepth 0 = .ok (.aload_n 0, 1) := by decide +kernel
theorem dX0_setDepth_1 : decode cX0_setDepth 1 = .ok (.getfield 15, 3) := by decide +kernel
theorem dX0_setDepth_4 : decode cX0_setDepth 4 = .ok (.istore_n 2, 1) := by decide +kernel
theorem dX0_setDepth_5 : decode cX0_setDepth 5 = .ok (.aload_n 0, 1) := by decide +kernel
theorem dX0_setDepth_6 : decode cX0_setDepth 6 = .ok (.iload_n 1, 1) := by decide +kernel
theorem dX0_setDepth_7 : decode cX0_setDepth 7 = .ok (.putfield 15, 3) := by decide +kernel
theorem dX0_setDepth_10 : decode cX0_setDepth 10 = .ok (.iload_n 2, 1) := by decide +kernel
theorem dX0_setDepth_11 : decode cX0_setDepth 11 = .ok (.ireturn, 1) := by decide +kernel
theorem dX0_setRule_0 : decode cX0_setRule 0 = .ok (.aload_n 0, 1) := by decide +kernel
theorem dX0_setRule_1 : decode cX0_setRule 1 = .ok (.getfield 18, 3) := by decide +kernel
theorem dX0_setRule_4 : decode cX0_setRule 4 = .ok (.istore_n 2, 1) := by decide +kernel
theorem dX0_setRule_5 : decode cX0_setRule 5 = .ok (.aload_n 0, 1) := by decide +kernel
theorem dX0_setRule_6 : decode cX0_setRule 6 = .ok (.iload_n 1, 1) := by decide +kernel
theorem dX0_setRule_7 : decode cX0_setRule 7 = .ok (.putfield 18, 3) := by decide +kernel
theorem dX0_setRule_10 : decode cX0_setRule 10 = .ok (.iload_n 2, 1) := by decide +kernel
theorem dX0_setRule_11 : decode cX0_setRule 11 = .ok (.ireturn, 1) := by decide +kernel
theorem dX0_layContests_0 : decode cX0_layContests 0 = .ok (.aload_n 0, 1) := by decide +kernel
theorem dX0_layContests_1 : decode cX0_layContests 1 = .ok (.iconst 0, 1) := by decide +kernel
theorem dX0_layContests_2 : decode cX0_layContests 2 = .ok (.putfield 31, 3) := by decide +kernel
theorem dX0_layContests_5 : decode cX0_layContests 5 = .ok (.aload_n 0, 1) := by decide +kernel
theorem dX0_layContests_6 : decode cX0_layContests 6 = .ok (.iconst 0, 1) := by decide +kernel
theorem dX0_layContests_7 : decode cX0_layContests 7 = .ok (.putfield 34, 3) := by decide +kernel
theorem dX0_layContests_10 : decode cX0_layContests 10 = .ok (.aload_n 0, 1) := by decide +kernel
theorem dX0_layContests_11 : decode cX0_layContests 11 = .ok (.iconst 0, 1) := by decide +kernel
theorem dX0_layContests_12 : decode cX0_layContests 12 = .ok (.putfield 37, 3) := by decide +kernel
theorem dX0_layContests_15 : decode cX0_layContests 15 = .ok (.aload_n 0, 1) := by decide +kernel
theorem dX0_layContests_16 : decode cX0_layContests 16 = .ok (.iconst 0, 1) := by decide +kernel
theorem dX0_layContests_17 : decode cX0_layContests 17 = .ok (.putfield 40, 3) := by decide +kernel
theorem dX0_layContests_20 : decode cX0_layContests 20 = .ok (.aload_n 0, 1) := by decide +kernel
theorem dX0_layContests_21 : decode cX0_layContests 21 = .ok (.invokevirtual 44, 3) := by decide +kernel
theorem dX0_layContests_24 : decode cX0_layContests 24 = .ok (.iconst 0, 1) := by decide +kernel
theorem dX0_layContests_25 : decode cX0_layContests 25 = .ok (.istore 4, 2) := by decide +kernel
theorem dX0_layContests_27 : decode cX0_layContests 27 = .ok (.iload 4, 2) := by decide +kernel
theorem dX0_layContests_29 : decode cX0_layContests 29 = .ok (.iconst 4, 1) := by decide +kernel
theorem dX0_layContests_30 : decode cX0_layContests 30 = .ok (.if_icmp .ge 51, 3) := by decide +kernel
theorem dX0_layContests_33 : decode cX0_layContests 33 = .ok (.aload_n 1, 1) := by decide +kernel
theorem dX0_layContests_34 : decode cX0_layContests 34 = .ok (.iload 4, 2) := by decide +kernel
theorem dX0_layContests_36 : decode cX0_layContests 36 = .ok (.invokevirtual 47, 3) := by decide +kernel
theorem dX0_layContests_39 : decode cX0_layContests 39 = .ok (.ifCond .eq 36, 3) := by decide +kernel
theorem dX0_layContests_42 : decode cX0_layContests 42 = .ok (.aload_n 0, 1) := by decide +kernel
theorem dX0_layContests_43 : decode cX0_layContests 43 = .ok (.getfield 25, 3) := by decide +kernel
theorem dX0_layContests_46 : decode cX0_layContests 46 = .ok (.aload_n 0, 1) := by decide +kernel
theorem dX0_layContests_47 : decode cX0_layContests 47 = .ok (.getfield 31, 3) := by decide +kernel
theorem dX0_layContests_50 : decode cX0_layContests 50 = .ok (.iload 4, 2) := by decide +kernel
theorem dX0_layContests_52 : decode cX0_layContests 52 = .ok (.iastore, 1) := by decide +kernel
theorem dX0_layContests_53 : decode cX0_layContests 53 = .ok (.aload_n 0, 1) := by decide +kernel
theorem dX0_layContests_54 : decode cX0_layContests 54 = .ok (.aload_n 1, 1) := by decide +kernel
theorem dX0_layContests_55 : decode cX0_layContests 55 = .ok (.iload 4, 2) := by decide +kernel
theorem dX0_layContests_57 : decode cX0_layContests 57 = .ok (.iload_n 2, 1) := by decide +kernel
theorem dX0_layContests_58 : decode cX0_layContests 58 = .ok (.invokevirtual 53, 3) := by decide +kernel
theorem dX0_layContests_61 : decode cX0_layContests 61 = .ok (.iload_n 3, 1) := by decide +kernel
theorem dX0_layContests_62 : decode cX0_layContests 62 = .ok (.invokevirtual 57, 3) := by decide +kernel
theorem dX0_layContests_65 : decode cX0_layContests 65 = .ok (.aload_n 0, 1) := by decide +kernel
theorem dX0_layContests_66 : decode cX0_layContests 66 = .ok (.dup, 1) := by decide +kernel
theorem dX0_layContests_67 : decode cX0_layContests 67 = .ok (.getfield 31, 3) := by decide +kernel
theorem dX0_layContests_70 : decode cX0_layContests 70 = .ok (.iconst 1, 1) := by decide +kernel
theorem dX0_layContests_71 : decode cX0_layContests 71 = .ok (.iadd, 1) := by decide +kernel
theorem dX0_layContests_72 : decode cX0_layContests 72 = .ok (.putfield 31, 3) := by decide +kernel
theorem dX0_layContests_75 : decode cX0_layContests 75 = .ok (.iinc 4 1, 3) := by decide +kernel
theorem dX0_layContests_78 : decode cX0_layContests 78 = .ok (.goto (-51), 3) := by decide +kernel
theorem dX0_layContests_81 : decode cX0_layContests 81 = .ok (.return_, 1) := by decide +kernel
theorem dX0_layOne_0 : decode cX0_layOne 0 = .ok (.iload_n 1, 1) := by decide +kernel
theorem dX0_layOne_1 : decode cX0_layOne 1 = .ok (.aload_n 0, 1) := by decide +kernel
theorem dX0_layOne_2 : decode cX0_layOne 2 = .ok (.getfield 15, 3) := by decide +kernel
theorem dX0_layOne_5 : decode cX0_layOne 5 = .ok (.if_icmp .le 8, 3) := by decide +kernel
theorem dX0_layOne_8 : decode cX0_layOne 8 = .ok (.aload_n 0, 1) := by decide +kernel
theorem dX0_layOne_9 : decode cX0_layOne 9 = .ok (.iconst 1, 1) := by decide +kernel
theorem dX0_layOne_10 : decode cX0_layOne 10 = .ok (.putfield 40, 3) := by decide +kernel
theorem dX0_layOne_13 : decode cX0_layOne 13 = .ok (.aload_n 0, 1) := by decide +kernel
theorem dX0_layOne_14 : decode cX0_layOne 14 = .ok (.getfield 40, 3) := by decide +kernel
theorem dX0_layOne_17 : decode cX0_layOne 17 = .ok (.ifCond .eq 4, 3) := by decide +kernel
theorem dX0_layOne_20 : decode cX0_layOne 20 = .ok (.return_, 1) := by decide +kernel
theorem dX0_layOne_21 : decode cX0_layOne 21 = .ok (.aload_n 0, 1) := by decide +kernel
theorem dX0_layOne_22 : decode cX0_layOne 22 = .ok (.iload_n 1, 1) := by decide +kernel
theorem dX0_layOne_23 : decode cX0_layOne 23 = .ok (.iload_n 2, 1) := by decide +kernel
theorem dX0_layOne_24 : decode cX0_layOne 24 = .ok (.invokevirtual 61, 3) := by decide +kernel
theorem dX0_layOne_27 : decode cX0_layOne 27 = .ok (.istore_n 3, 1) := by decide +kernel
theorem dX0_layOne_28 : decode cX0_layOne 28 = .ok (.iload_n 3, 1) := by decide +kernel
theorem dX0_layOne_29 : decode cX0_layOne 29 = .ok (.iconst (-1), 1) := by decide +kernel
theorem dX0_layOne_30 : decode cX0_layOne 30 = .ok (.if_icmp .ne 17, 3) := by decide +kernel
theorem dX0_layOne_33 : decode cX0_layOne 33 = .ok (.aload_n 0, 1) := by decide +kernel
theorem dX0_layOne_34 : decode cX0_layOne 34 = .ok (.getfield 34, 3) := by decide +kernel
theorem dX0_layOne_37 : decode cX0_layOne 37 = .ok (.aload_n 0, 1) := by decide +kernel
theorem dX0_layOne_38 : decode cX0_layOne 38 = .ok (.getfield 9, 3) := by decide +kernel
theorem dX0_layOne_41 : decode cX0_layOne 41 = .ok (.imul, 1) := by decide +kernel
theorem dX0_layOne_42 : decode cX0_layOne 42 = .ok (.istore_n 3, 1) := by decide +kernel
theorem dX0_layOne_43 : decode cX0_layOne 43 = .ok (.aload_n 0, 1) := by decide +kernel
theorem dX0_layOne_44 : decode cX0_layOne 44 = .ok (.invokevirtual 44, 3) := by decide +kernel
theorem dX0_layOne_47 : decode cX0_layOne 47 = .ok (.aload_n 0, 1) := by decide +kernel
theorem dX0_layOne_48 : decode cX0_layOne 48 = .ok (.getfield 21, 3) := by decide +kernel
theorem dX0_layOne_51 : decode cX0_layOne 51 = .ok (.iload_n 3, 1) := by decide +kernel
theorem dX0_layOne_52 : decode cX0_layOne 52 = .ok (.dup2, 1) := by decide +kernel
theorem dX0_layOne_53 : decode cX0_layOne 53 = .ok (.iaload, 1) := by decide +kernel
theorem dX0_layOne_54 : decode cX0_layOne 54 = .ok (.iload_n 1, 1) := by decide +kernel
theorem dX0_layOne_55 : decode cX0_layOne 55 = .ok (.isub, 1) := by decide +kernel
theorem dX0_layOne_56 : decode cX0_layOne 56 = .ok (.iastore, 1) := by decide +kernel
theorem dX0_layOne_57 : decode cX0_layOne 57 = .ok (.aload_n 0, 1) := by decide +kernel
theorem dX0_layOne_58 : decode cX0_layOne 58 = .ok (.getfield 28, 3) := by decide +kernel
theorem dX0_layOne_61 : decode cX0_layOne 61 = .ok (.aload_n 0, 1) := by decide +kernel
theorem dX0_layOne_62 : decode cX0_layOne 62 = .ok (.getfield 31, 3) := by decide +kernel
theorem dX0_layOne_65 : decode cX0_layOne 65 = .ok (.iload_n 3, 1) := by decide +kernel
theorem dX0_layOne_66 : decode cX0_layOne 66 = .ok (.iastore, 1) := by decide +kernel
theorem dX0_layOne_67 : decode cX0_layOne 67 = .ok (.aload_n 0, 1) := by decide +kernel
theorem dX0_layOne_68 : decode cX0_layOne 68 = .ok (.iload_n 3, 1) := by decide +kernel
theorem dX0_layOne_69 : decode cX0_layOne 69 = .ok (.putfield 37, 3) := by decide +kernel
theorem dX0_layOne_72 : decode cX0_layOne 72 = .ok (.return_, 1) := by decide +kernel
theorem dX0_beginSheet_0 : decode cX0_beginSheet 0 = .ok (.iconst 0, 1) := by decide +kernel
theorem dX0_beginSheet_1 : decode cX0_beginSheet 1 = .ok (.istore_n 1, 1) := by decide +kernel
theorem dX0_beginSheet_2 : decode cX0_beginSheet 2 = .ok (.iload_n 1, 1) := by decide +kernel
theorem dX0_beginSheet_3 : decode cX0_beginSheet 3 = .ok (.aload_n 0, 1) := by decide +kernel
theorem dX0_beginSheet_4 : decode cX0_beginSheet 4 = .ok (.getfield 9, 3) := by decide +kernel
theorem dX0_beginSheet_7 : decode cX0_beginSheet 7 = .ok (.if_icmp .ge 29, 3) := by decide +kernel
theorem dX0_beginSheet_10 : decode cX0_beginSheet 10 = .ok (.aload_n 0, 1) := by decide +kernel
theorem dX0_beginSheet_11 : decode cX0_beginSheet 11 = .ok (.getfield 21, 3) := by decide +kernel
theorem dX0_beginSheet_14 : decode cX0_beginSheet 14 = .ok (.aload_n 0, 1) := by decide +kernel
theorem dX0_beginSheet_15 : decode cX0_beginSheet 15 = .ok (.getfield 34, 3) := by decide +kernel
theorem dX0_beginSheet_18 : decode cX0_beginSheet 18 = .ok (.aload_n 0, 1) := by decide +kernel
theorem dX0_beginSheet_19 : decode cX0_beginSheet 19 = .ok (.getfield 9, 3) := by decide +kernel
theorem dX0_beginSheet_22 : decode cX0_beginSheet 22 = .ok (.imul, 1) := by decide +kernel
theorem dX0_beginSheet_23 : decode cX0_beginSheet 23 = .ok (.iload_n 1, 1) := by decide +kernel
theorem dX0_beginSheet_24 : decode cX0_beginSheet 24 = .ok (.iadd, 1) := by decide +kernel
theorem dX0_beginSheet_25 : decode cX0_beginSheet 25 = .ok (.aload_n 0, 1) := by decide +kernel
theorem dX0_beginSheet_26 : decode cX0_beginSheet 26 = .ok (.getfield 15, 3) := by decide +kernel
theorem dX0_beginSheet_29 : decode cX0_beginSheet 29 = .ok (.iastore, 1) := by decide +kernel
theorem dX0_beginSheet_30 : decode cX0_beginSheet 30 = .ok (.iinc 1 1, 3) := by decide +kernel
theorem dX0_beginSheet_33 : decode cX0_beginSheet 33 = .ok (.goto (-31), 3) := by decide +kernel
theorem dX0_beginSheet_36 : decode cX0_beginSheet 36 = .ok (.aload_n 0, 1) := by decide +kernel
theorem dX0_beginSheet_37 : decode cX0_beginSheet 37 = .ok (.dup, 1) := by decide +kernel
theorem dX0_beginSheet_38 : decode cX0_beginSheet 38 = .ok (.getfield 34, 3) := by decide +kernel
theorem dX0_beginSheet_41 : decode cX0_beginSheet 41 = .ok (.iconst 1, 1) := by decide +kernel
theorem dX0_beginSheet_42 : decode cX0_beginSheet 42 = .ok (.iadd, 1) := by decide +kernel
theorem dX0_beginSheet_43 : decode cX0_beginSheet 43 = .ok (.putfield 34, 3) := by decide +kernel
theorem dX0_beginSheet_46 : decode cX0_beginSheet 46 = .ok (.return_, 1) := by decide +kernel
theorem dX0_columnFor_0 : decode cX0_columnFor 0 = .ok (.iload_n 2, 1) := by decide +kernel
theorem dX0_columnFor_1 : decode cX0_columnFor 1 = .ok (.tableswitch 45 0 2 #[27, 33, 39], 27) := by decide +kernel
theorem dX0_columnFor_28 : decode cX0_columnFor 28 = .ok (.aload_n 0, 1) := by decide +kernel
theorem dX0_columnFor_29 : decode cX0_columnFor 29 = .ok (.iload_n 1, 1) := by decide +kernel
theorem dX0_columnFor_30 : decode cX0_columnFor 30 = .ok (.invokevirtual 64, 3) := by decide +kernel
theorem dX0_columnFor_33 : decode cX0_columnFor 33 = .ok (.ireturn, 1) := by decide +kernel
theorem dX0_columnFor_34 : decode cX0_columnFor 34 = .ok (.aload_n 0, 1) := by decide +kernel
theorem dX0_columnFor_35 : decode cX0_columnFor 35 = .ok (.iload_n 1, 1) := by decide +kernel
theorem dX0_columnFor_36 : decode cX0_columnFor 36 = .ok (.invokevirtual 68, 3) := by decide +kernel
theorem dX0_columnFor_39 : decode cX0_columnFor 39 = .ok (.ireturn, 1) := by decide +kernel
theorem dX0_columnFor_40 : decode cX0_columnFor 40 = .ok (.aload_n 0, 1) := by decide +kernel
theorem dX0_columnFor_41 : decode cX0_columnFor 41 = .ok (.iload_n 1, 1) := by decide +kernel
theorem dX0_columnFor_42 : decode cX0_columnFor 42 = .ok (.invokevirtual 71, 3) := by decide +kernel
theorem dX0_columnFor_45 : decode cX0_columnFor 45 = .ok (.ireturn, 1) := by decide +kernel
theorem dX0_columnFor_46 : decode cX0_columnFor 46 = .ok (.aload_n 0, 1) := by decide +kernel
theorem dX0_columnFor_47 : decode cX0_columnFor 47 = .ok (.iload_n 1, 1) := by decide +kernel
theorem dX0_columnFor_48 : decode cX0_columnFor 48 = .ok (.invokevirtual 74, 3) := by decide +kernel
theorem dX0_columnFor_51 : decode cX0_columnFor 51 = .ok (.ireturn, 1) := by decide +kernel
theorem dX0_nextColumn_0 : decode cX0_nextColumn 0 = .ok (.aload_n 0, 1) := by decide +kernel
theorem dX0_nextColumn_1 : decode cX0_nextColumn 1 = .ok (.getfield 37, 3) := by decide +kernel
theorem dX0_nextColumn_4 : decode cX0_nextColumn 4 = .ok (.istore_n 2, 1) := by decide +kernel
theorem dX0_nextColumn_5 : decode cX0_nextColumn 5 = .ok (.iload_n 2, 1) := by decide +kernel
theorem dX0_nextColumn_6 : decode cX0_nextColumn 6 = .ok (.aload_n 0, 1) := by decide +kernel
theorem dX0_nextColumn_7 : decode cX0_nextColumn 7 = .ok (.getfield 37, 3) := by decide +kernel
theorem dX0_nextColumn_10 : decode cX0_nextColumn 10 = .ok (.iconst 1, 1) := by decide +kernel
theorem dX0_nextColumn_11 : decode cX0_nextColumn 11 = .ok (.iadd, 1) := by decide +kernel
theorem dX0_nextColumn_12 : decode cX0_nextColumn 12 = .ok (.if_icmp .gt 34, 3) := by decide +kernel
theorem dX0_nextColumn_15 : decode cX0_nextColumn 15 = .ok (.iload_n 2, 1) := by decide +kernel
theorem dX0_nextColumn_16 : decode cX0_nextColumn 16 = .ok (.aload_n 0, 1) := by decide +kernel
theorem dX0_nextColumn_17 : decode cX0_nextColumn 17 = .ok (.getfield 34, 3) := by decide +kernel
theorem dX0_nextColumn_20 : decode cX0_nextColumn 20 = .ok (.aload_n 0, 1) := by decide +kernel
theorem dX0_nextColumn_21 : decode cX0_nextColumn 21 = .ok (.getfield 9, 3) := by decide +kernel
theorem dX0_nextColumn_24 : decode cX0_nextColumn 24 = .ok (.imul, 1) := by decide +kernel
theorem dX0_nextColumn_25 : decode cX0_nextColumn 25 = .ok (.if_icmp .ge 21, 3) := by decide +kernel
theorem dX0_nextColumn_28 : decode cX0_nextColumn 28 = .ok (.aload_n 0, 1) := by decide +kernel
theorem dX0_nextColumn_29 : decode cX0_nextColumn 29 = .ok (.getfield 21, 3) := by decide +kernel
theorem dX0_nextColumn_32 : decode cX0_nextColumn 32 = .ok (.iload_n 2, 1) := by decide +kernel
theorem dX0_nextColumn_33 : decode cX0_nextColumn 33 = .ok (.iaload, 1) := by decide +kernel
theorem dX0_nextColumn_34 : decode cX0_nextColumn 34 = .ok (.iload_n 1, 1) := by decide +kernel
theorem dX0_nextColumn_35 : decode cX0_nextColumn 35 = .ok (.if_icmp .lt 5, 3) := by decide +kernel
theorem dX0_nextColumn_38 : decode cX0_nextColumn 38 = .ok (.iload_n 2, 1) := by decide +kernel
theorem dX0_nextColumn_39 : decode cX0_nextColumn 39 = .ok (.ireturn, 1) := by decide +kernel
theorem dX0_nextColumn_40 : decode cX0_nextColumn 40 = .ok (.iinc 2 1, 3) := by decide +kernel
theorem dX0_nextColumn_43 : decode cX0_nextColumn 43 = .ok (.goto (-38), 3) := by decide +kernel
theorem dX0_nextColumn_46 : decode cX0_nextColumn 46 = .ok (.iconst (-1), 1) := by decide +kernel
theorem dX0_nextColumn_47 : decode cX0_nextColumn 47 = .ok (.ireturn, 1) := by decide +kernel
theorem dX0_firstColumn_0 : decode cX0_firstColumn 0 = .ok (.iconst 0, 1) := by decide +kernel
theorem dX0_firstColumn_1 : decode cX0_firstColumn 1 = .ok (.istore_n 2, 1) := by decide +kernel
theorem dX0_firstColumn_2 : decode cX0_firstColumn 2 = .ok (.iload_n 2, 1) := by decide +kernel
theorem dX0_firstColumn_3 : decode cX0_firstColumn 3 = .ok (.aload_n 0, 1) := by decide +kernel
theorem dX0_firstColumn_4 : decode cX0_firstColumn 4 = .ok (.getfield 34, 3) := by decide +kernel
theorem dX0_firstColumn_7 : decode cX0_firstColumn 7 = .ok (.aload_n 0, 1) := by decide +kernel
theorem dX0_firstColumn_8 : decode cX0_firstColumn 8 = .ok (.getfield 9, 3) := by decide +kernel
theorem dX0_firstColumn_11 : decode cX0_firstColumn 11 = .ok (.imul, 1) := by decide +kernel
theorem dX0_firstColumn_12 : decode cX0_firstColumn 12 = .ok (.if_icmp .ge 21, 3) := by decide +kernel
theorem dX0_firstColumn_15 : decode cX0_firstColumn 15 = .ok (.aload_n 0, 1) := by decide +kernel
theorem dX0_firstColumn_16 : decode cX0_firstColumn 16 = .ok (.getfield 21, 3) := by decide +kernel
theorem dX0_firstColumn_19 : decode cX0_firstColumn 19 = .ok (.iload_n 2, 1) := by decide +kernel
theorem dX0_firstColumn_20 : decode cX0_firstColumn 20 = .ok (.iaload, 1) := by decide +kernel
theorem dX0_firstColumn_21 : decode cX0_firstColumn 21 = .ok (.iload_n 1, 1) := by decide +kernel
theorem dX0_firstColumn_22 : decode cX0_firstColumn 22 = .ok (.if_icmp .lt 5, 3) := by decide +kernel
theorem dX0_firstColumn_25 : decode cX0_firstColumn 25 = .ok (.iload_n 2, 1) := by decide +kernel
theorem dX0_firstColumn_26 : decode cX0_firstColumn 26 = .ok (.ireturn, 1) := by decide +kernel
theorem dX0_firstColumn_27 : decode cX0_firstColumn 27 = .ok (.iinc 2 1, 3) := by decide +kernel
theorem dX0_firstColumn_30 : decode cX0_firstColumn 30 = .ok (.goto (-28), 3) := by decide +kernel
theorem dX0_firstColumn_33 : decode cX0_firstColumn 33 = .ok (.iconst (-1), 1) := by decide +kernel
theorem dX0_firstColumn_34 : decode cX0_firstColumn 34 = .ok (.ireturn, 1) := by decide +kernel
theorem dX0_tightColumn_0 : decode cX0_tightColumn 0 = .ok (.iconst (-1), 1) := by decide +kernel
theorem dX0_tightColumn_1 : decode cX0_tightColumn 1 = .ok (.istore_n 2, 1) := by decide +kernel
theorem dX0_tightColumn_2 : decode cX0_tightColumn 2 = .ok (.iconst 0, 1) := by decide +kernel
theorem dX0_tightColumn_3 : decode cX0_tightColumn 3 = .ok (.istore_n 3, 1) := by decide +kernel
theorem dX0_tightColumn_4 : decode cX0_tightColumn 4 = .ok (.iload_n 3, 1) := by decide +kernel
theorem dX0_tightColumn_5 : decode cX0_tightColumn 5 = .ok (.aload_n 0, 1) := by decide +kernel
theorem dX0_tightColumn_6 : decode cX0_tightColumn 6 = .ok (.getfield 34, 3) := by decide +kernel
theorem dX0_tightColumn_9 : decode cX0_tightColumn 9 = .ok (.aload_n 0, 1) := by decide +kernel
theorem dX0_tightColumn_10 : decode cX0_tightColumn 10 = .ok (.getfield 9, 3) := by decide +kernel
theorem dX0_tightColumn_13 : decode cX0_tightColumn 13 = .ok (.imul, 1) := by decide +kernel
theorem dX0_tightColumn_14 : decode cX0_tightColumn 14 = .ok (.if_icmp .ge 41, 3) := by decide +kernel
theorem dX0_tightColumn_17 : decode cX0_tightColumn 17 = .ok (.aload_n 0, 1) := by decide +kernel
theorem dX0_tightColumn_18 : decode cX0_tightColumn 18 = .ok (.getfield 21, 3) := by decide +kernel
theorem dX0_tightColumn_21 : decode cX0_tightColumn 21 = .ok (.iload_n 3, 1) := by decide +kernel
theorem dX0_tightColumn_22 : decode cX0_tightColumn 22 = .ok (.iaload, 1) := by decide +kernel
theorem dX0_tightColumn_23 : decode cX0_tightColumn 23 = .ok (.iload_n 1, 1) := by decide +kernel
theorem dX0_tightColumn_24 : decode cX0_tightColumn 24 = .ok (.if_icmp .lt 25, 3) := by decide +kernel
theorem dX0_tightColumn_27 : decode cX0_tightColumn 27 = .ok (.iload_n 2, 1) := by decide +kernel
theorem dX0_tightColumn_28 : decode cX0_tightColumn 28 = .ok (.iconst (-1), 1) := by decide +kernel
theorem dX0_tightColumn_29 : decode cX0_tightColumn 29 = .ok (.if_icmp .eq 18, 3) := by decide +kernel
theorem dX0_tightColumn_32 : decode cX0_tightColumn 32 = .ok (.aload_n 0, 1) := by decide +kernel
theorem dX0_tightColumn_33 : decode cX0_tightColumn 33 = .ok (.getfield 21, 3) := by decide +kernel
theorem dX0_tightColumn_36 : decode cX0_tightColumn 36 = .ok (.iload_n 3, 1) := by decide +kernel
theorem dX0_tightColumn_37 : decode cX0_tightColumn 37 = .ok (.iaload, 1) := by decide +kernel
theorem dX0_tightColumn_38 : decode cX0_tightColumn 38 = .ok (.aload_n 0, 1) := by decide +kernel
theorem dX0_tightColumn_39 : decode cX0_tightColumn 39 = .ok (.getfield 21, 3) := by decide +kernel
theorem dX0_tightColumn_42 : decode cX0_tightColumn 42 = .ok (.iload_n 2, 1) := by decide +kernel
theorem dX0_tightColumn_43 : decode cX0_tightColumn 43 = .ok (.iaload, 1) := by decide +kernel
theorem dX0_tightColumn_44 : decode cX0_tightColumn 44 = .ok (.if_icmp .ge 5, 3) := by decide +kernel
theorem dX0_tightColumn_47 : decode cX0_tightColumn 47 = .ok (.iload_n 3, 1) := by decide +kernel
theorem dX0_tightColumn_48 : decode cX0_tightColumn 48 = .ok (.istore_n 2, 1) := by decide +kernel
theorem dX0_tightColumn_49 : decode cX0_tightColumn 49 = .ok (.iinc 3 1, 3) := by decide +kernel
theorem dX0_tightColumn_52 : decode cX0_tightColumn 52 = .ok (.goto (-48), 3) := by decide +kernel
theorem dX0_tightColumn_55 : decode cX0_tightColumn 55 = .ok (.iload_n 2, 1) := by decide +kernel
theorem dX0_tightColumn_56 : decode cX0_tightColumn 56 = .ok (.ireturn, 1) := by decide +kernel
theorem dX0_looseColumn_0 : decode cX0_looseColumn 0 = .ok (.iconst (-1), 1) := by decide +kernel
theorem dX0_looseColumn_1 : decode cX0_looseColumn 1 = .ok (.istore_n 2, 1) := by decide +kernel
theorem dX0_looseColumn_2 : decode cX0_looseColumn 2 = .ok (.iconst 0, 1) := by decide +kernel
theorem dX0_looseColumn_3 : decode cX0_looseColumn 3 = .ok (.istore_n 3, 1) := by decide +kernel
theorem dX0_looseColumn_4 : decode cX0_looseColumn 4 = .ok (.iload_n 3, 1) := by decide +kernel
theorem dX0_looseColumn_5 : decode cX0_looseColumn 5 = .ok (.aload_n 0, 1) := by decide +kernel
theorem dX0_looseColumn_6 : decode cX0_looseColumn 6 = .ok (.getfield 34, 3) := by decide +kernel
theorem dX0_looseColumn_9 : decode cX0_looseColumn 9 = .ok (.aload_n 0, 1) := by decide +kernel
theorem dX0_looseColumn_10 : decode cX0_looseColumn 10 = .ok (.getfield 9, 3) := by decide +kernel
theorem dX0_looseColumn_13 : decode cX0_looseColumn 13 = .ok (.imul, 1) := by decide +kernel
theorem dX0_looseColumn_14 : decode cX0_looseColumn 14 = .ok (.if_icmp .ge 41, 3) := by decide +kernel
theorem dX0_looseColumn_17 : decode cX0_looseColumn 17 = .ok (.aload_n 0, 1) := by decide +kernel
theorem dX0_looseColumn_18 : decode cX0_looseColumn 18 = .ok (.getfield 21, 3) := by decide +kernel
theorem dX0_looseColumn_21 : decode cX0_looseColumn 21 = .ok (.iload_n 3, 1) := by decide +kernel
theorem dX0_looseColumn_22 : decode cX0_looseColumn 22 = .ok (.iaload, 1) := by decide +kernel
theorem dX0_looseColumn_23 : decode cX0_looseColumn 23 = .ok (.iload_n 1, 1) := by decide +kernel
theorem dX0_looseColumn_24 : decode cX0_looseColumn 24 = .ok (.if_icmp .lt 25, 3) := by decide +kernel
theorem dX0_looseColumn_27 : decode cX0_looseColumn 27 = .ok (.iload_n 2, 1) := by decide +kernel
theorem dX0_looseColumn_28 : decode cX0_looseColumn 28 = .ok (.iconst (-1), 1) := by decide +kernel
theorem dX0_looseColumn_29 : decode cX0_looseColumn 29 = .ok (.if_icmp .eq 18, 3) := by decide +kernel
theorem dX0_looseColumn_32 : decode cX0_looseColumn 32 = .ok (.aload_n 0, 1) := by decide +kernel
theorem dX0_looseColumn_33 : decode cX0_looseColumn 33 = .ok (.getfield 21, 3) := by decide +kernel
theorem dX0_looseColumn_36 : decode cX0_looseColumn 36 = .ok (.iload_n 3, 1) := by decide +kernel
theorem dX0_looseColumn_37 : decode cX0_looseColumn 37 = .ok (.iaload, 1) := by decide +kernel
theorem dX0_looseColumn_38 : decode cX0_looseColumn 38 = .ok (.aload_n 0, 1) := by decide +kernel
theorem dX0_looseColumn_39 : decode cX0_looseColumn 39 = .ok (.getfield 21, 3) := by decide +kernel
theorem dX0_looseColumn_42 : decode cX0_looseColumn 42 = .ok (.iload_n 2, 1) := by decide +kernel
theorem dX0_looseColumn_43 : decode cX0_looseColumn 43 = .ok (.iaload, 1) := by decide +kernel
theorem dX0_looseColumn_44 : decode cX0_looseColumn 44 = .ok (.if_icmp .le 5, 3) := by decide +kernel
theorem dX0_looseColumn_47 : decode cX0_looseColumn 47 = .ok (.iload_n 3, 1) := by decide +kernel
theorem dX0_looseColumn_48 : decode cX0_looseColumn 48 = .ok (.istore_n 2, 1) := by decide +kernel
theorem dX0_looseColumn_49 : decode cX0_looseColumn 49 = .ok (.iinc 3 1, 3) := by decide +kernel
theorem dX0_looseColumn_52 : decode cX0_looseColumn 52 = .ok (.goto (-48), 3) := by decide +kernel
theorem dX0_looseColumn_55 : decode cX0_looseColumn 55 = .ok (.iload_n 2, 1) := by decide +kernel
theorem dX0_looseColumn_56 : decode cX0_looseColumn 56 = .ok (.ireturn, 1) := by decide +kernel
theorem dX0_roomLeft_0 : decode cX0_roomLeft 0 = .ok (.iconst 0, 1) := by decide +kernel
theorem dX0_roomLeft_1 : decode cX0_roomLeft 1 = .ok (.istore_n 1, 1) := by decide +kernel
theorem dX0_roomLeft_2 : decode cX0_roomLeft 2 = .ok (.iconst 0, 1) := by decide +kernel
theorem dX0_roomLeft_3 : decode cX0_roomLeft 3 = .ok (.istore_n 2, 1) := by decide +kernel
theorem dX0_roomLeft_4 : decode cX0_roomLeft 4 = .ok (.iload_n 2, 1) := by decide +kernel
theorem dX0_roomLeft_5 : decode cX0_roomLeft 5 = .ok (.aload_n 0, 1) := by decide +kernel
theorem dX0_roomLeft_6 : decode cX0_roomLeft 6 = .ok (.getfield 34, 3) := by decide +kernel
theorem dX0_roomLeft_9 : decode cX0_roomLeft 9 = .ok (.aload_n 0, 1) := by decide +kernel
theorem dX0_roomLeft_10 : decode cX0_roomLeft 10 = .ok (.getfield 9, 3) := by decide +kernel
theorem dX0_roomLeft_13 : decode cX0_roomLeft 13 = .ok (.imul, 1) := by decide +kernel
theorem dX0_roomLeft_14 : decode cX0_roomLeft 14 = .ok (.if_icmp .ge 18, 3) := by decide +kernel
theorem dX0_roomLeft_17 : decode cX0_roomLeft 17 = .ok (.iload_n 1, 1) := by decide +kernel
theorem dX0_roomLeft_18 : decode cX0_roomLeft 18 = .ok (.aload_n 0, 1) := by decide +kernel
theorem dX0_roomLeft_19 : decode cX0_roomLeft 19 = .ok (.getfield 21, 3) := by decide +kernel
theorem dX0_roomLeft_22 : decode cX0_roomLeft 22 = .ok (.iload_n 2, 1) := by decide +kernel
theorem dX0_roomLeft_23 : decode cX0_roomLeft 23 = .ok (.iaload, 1) := by decide +kernel
theorem dX0_roomLeft_24 : decode cX0_roomLeft 24 = .ok (.iadd, 1) := by decide +kernel
theorem dX0_roomLeft_25 : decode cX0_roomLeft 25 = .ok (.istore_n 1, 1) := by decide +kernel
theorem dX0_roomLeft_26 : decode cX0_roomLeft 26 = .ok (.iinc 2 1, 3) := by decide +kernel
theorem dX0_roomLeft_29 : decode cX0_roomLeft 29 = .ok (.goto (-25), 3) := by decide +kernel
theorem dX0_roomLeft_32 : decode cX0_roomLeft 32 = .ok (.iload_n 1, 1) := by decide +kernel
theorem dX0_roomLeft_33 : decode cX0_roomLeft 33 = .ok (.ireturn, 1) := by decide +kernel
theorem dX1_init_0 : decode cX1_init 0 = .ok (.aload_n 0, 1) := by decide +kernel
theorem dX1_init_1 : decode cX1_init 1 = .ok (.invokespecial 1, 3) := by decide +kernel
theorem dX1_init_4 : decode cX1_init 4 = .ok (.aload_n 0, 1) := by decide +kernel
theorem dX1_init_5 : decode cX1_init 5 = .ok (.bipush 8, 2) := by decide +kernel
theorem dX1_init_7 : decode cX1_init 7 = .ok (.anewarray 9, 3) := by decide +kernel
theorem dX1_init_10 : decode cX1_init 10 = .ok (.putfield 11, 3) := by decide +kernel
theorem dX1_init_13 : decode cX1_init 13 = .ok (.aload_n 0, 1) := by decide +kernel
theorem dX1_init_14 : decode cX1_init 14 = .ok (.iconst 0, 1) := by decide +kernel
theorem dX1_init_15 : decode cX1_init 15 = .ok (.putfield 15, 3) := by decide +kernel
theorem dX1_init_18 : decode cX1_init 18 = .ok (.aload_n 0, 1) := by decide +kernel
theorem dX1_init_19 : decode cX1_init 19 = .ok (.iconst 0, 1) := by decide +kernel
theorem dX1_init_20 : decode cX1_init 20 = .ok (.putfield 19, 3) := by decide +kernel
theorem dX1_init_23 : decode cX1_init 23 = .ok (.iconst 0, 1) := by decide +kernel
theorem dX1_init_24 : decode cX1_init 24 = .ok (.istore_n 1, 1) := by decide +kernel
theorem dX1_init_25 : decode cX1_init 25 = .ok (.iload_n 1, 1) := by decide +kernel
theorem dX1_init_26 : decode cX1_init 26 = .ok (.bipush 8, 2) := by decide +kernel
theorem dX1_init_28 : decode cX1_init 28 = .ok (.if_icmp .ge 22, 3) := by decide +kernel
theorem dX1_init_31 : decode cX1_init 31 = .ok (.aload_n 0, 1) := by decide +kernel
theorem dX1_init_32 : decode cX1_init 32 = .ok (.getfield 11, 3) := by decide +kernel
theorem dX1_init_35 : decode cX1_init 35 = .ok (.iload_n 1, 1) := by decide +kernel
theorem dX1_init_36 : decode cX1_init 36 = .ok (.new 9, 3) := by decide +kernel
theorem dX1_init_39 : decode cX1_init 39 = .ok (.dup, 1) := by decide +kernel
theorem dX1_init_40 : decode cX1_init 40 = .ok (.invokespecial 22, 3) := by decide +kernel
theorem dX1_init_43 : decode cX1_init 43 = .ok (.aastore, 1) := by decide +kernel
theorem dX1_init_44 : decode cX1_init 44 = .ok (.iinc 1 1, 3) := by decide +kernel
theorem dX1_init_47 : decode cX1_init 47 = .ok (.goto (-22), 3) := by decide +kernel
theorem dX1_init_50 : decode cX1_init 50 = .ok (.return_, 1) := by decide +kernel
theorem dX1_keep_0 : decode cX1_keep 0 = .ok (.aload_n 0, 1) := by decide +kernel
theorem dX1_keep_1 : decode cX1_keep 1 = .ok (.getfield 11, 3) := by decide +kernel
theorem dX1_keep_4 : decode cX1_keep 4 = .ok (.aload_n 0, 1) := by decide +kernel
theorem dX1_keep_5 : decode cX1_keep 5 = .ok (.getfield 15, 3) := by decide +kernel
theorem dX1_keep_8 : decode cX1_keep 8 = .ok (.aaload, 1) := by decide +kernel
theorem dX1_keep_9 : decode cX1_keep 9 = .ok (.astore_n 2, 1) := by decide +kernel
theorem dX1_keep_10 : decode cX1_keep 10 = .ok (.aload_n 2, 1) := by decide +kernel
theorem dX1_keep_11 : decode cX1_keep 11 = .ok (.aload_n 1, 1) := by decide +kernel
theorem dX1_keep_12 : decode cX1_keep 12 = .ok (.invokevirtual 23, 3) := by decide +kernel
theorem dX1_keep_15 : decode cX1_keep 15 = .ok (.aload_n 0, 1) := by decide +kernel
theorem dX1_keep_16 : decode cX1_keep 16 = .ok (.aload_n 0, 1) := by decide +kernel
theorem dX1_keep_17 : decode cX1_keep 17 = .ok (.getfield 15, 3) := by decide +kernel
theorem dX1_keep_20 : decode cX1_keep 20 = .ok (.iconst 1, 1) := by decide +kernel
theorem dX1_keep_21 : decode cX1_keep 21 = .ok (.iadd, 1) := by decide +kernel
theorem dX1_keep_22 : decode cX1_keep 22 = .ok (.bipush 8, 2) := by decide +kernel
theorem dX1_keep_24 : decode cX1_keep 24 = .ok (.irem, 1) := by decide +kernel
theorem dX1_keep_25 : decode cX1_keep 25 = .ok (.putfield 15, 3) := by decide +kernel
theorem dX1_keep_28 : decode cX1_keep 28 = .ok (.aload_n 0, 1) := by decide +kernel
theorem dX1_keep_29 : decode cX1_keep 29 = .ok (.aload_n 0, 1) := by decide +kernel
theorem dX1_keep_30 : decode cX1_keep 30 = .ok (.getfield 19, 3) := by decide +kernel
theorem dX1_keep_33 : decode cX1_keep 33 = .ok (.iconst 1, 1) := by decide +kernel
theorem dX1_keep_34 : decode cX1_keep 34 = .ok (.iadd, 1) := by decide +kernel
theorem dX1_keep_35 : decode cX1_keep 35 = .ok (.bipush 8, 2) := by decide +kernel
theorem dX1_keep_37 : decode cX1_keep 37 = .ok (.invokestatic 27, 3) := by decide +kernel
theorem dX1_keep_40 : decode cX1_keep 40 = .ok (.putfield 19, 3) := by decide +kernel
theorem dX1_keep_43 : decode cX1_keep 43 = .ok (.aload_n 2, 1) := by decide +kernel
theorem dX1_keep_44 : decode cX1_keep 44 = .ok (.areturn, 1) := by decide +kernel
theorem dX1_takeBack_0 : decode cX1_takeBack 0 = .ok (.aload_n 0, 1) := by decide +kernel
theorem dX1_takeBack_1 : decode cX1_takeBack 1 = .ok (.getfield 19, 3) := by decide +kernel
theorem dX1_takeBack_4 : decode cX1_takeBack 4 = .ok (.ifCond .le 42, 3) := by decide +kernel
theorem dX1_takeBack_7 : decode cX1_takeBack 7 = .ok (.aload_n 0, 1) := by decide +kernel
theorem dX1_takeBack_8 : decode cX1_takeBack 8 = .ok (.aload_n 0, 1) := by decide +kernel
theorem dX1_takeBack_9 : decode cX1_takeBack 9 = .ok (.getfield 15, 3) := by decide +kernel
theorem dX1_takeBack_12 : decode cX1_takeBack 12 = .ok (.bipush 8, 2) := by decide +kernel
theorem dX1_takeBack_14 : decode cX1_takeBack 14 = .ok (.iadd, 1) := by decide +kernel
theorem dX1_takeBack_15 : decode cX1_takeBack 15 = .ok (.iconst 1, 1) := by decide +kernel
theorem dX1_takeBack_16 : decode cX1_takeBack 16 = .ok (.isub, 1) := by decide +kernel
theorem dX1_takeBack_17 : decode cX1_takeBack 17 = .ok (.bipush 8, 2) := by decide +kernel
theorem dX1_takeBack_19 : decode cX1_takeBack 19 = .ok (.irem, 1) := by decide +kernel
theorem dX1_takeBack_20 : decode cX1_takeBack 20 = .ok (.putfield 15, 3) := by decide +kernel
theorem dX1_takeBack_23 : decode cX1_takeBack 23 = .ok (.aload_n 0, 1) := by decide +kernel
theorem dX1_takeBack_24 : decode cX1_takeBack 24 = .ok (.dup, 1) := by decide +kernel
theorem dX1_takeBack_25 : decode cX1_takeBack 25 = .ok (.getfield 19, 3) := by decide +kernel
theorem dX1_takeBack_28 : decode cX1_takeBack 28 = .ok (.iconst 1, 1) := by decide +kernel
theorem dX1_takeBack_29 : decode cX1_takeBack 29 = .ok (.isub, 1) := by decide +kernel
theorem dX1_takeBack_30 : decode cX1_takeBack 30 = .ok (.putfield 19, 3) := by decide +kernel
theorem dX1_takeBack_33 : decode cX1_takeBack 33 = .ok (.aload_n 1, 1) := by decide +kernel
theorem dX1_takeBack_34 : decode cX1_takeBack 34 = .ok (.aload_n 0, 1) := by decide +kernel
theorem dX1_takeBack_35 : decode cX1_takeBack 35 = .ok (.getfield 11, 3) := by decide +kernel
theorem dX1_takeBack_38 : decode cX1_takeBack 38 = .ok (.aload_n 0, 1) := by decide +kernel
theorem dX1_takeBack_39 : decode cX1_takeBack 39 = .ok (.getfield 15, 3) := by decide +kernel
theorem dX1_takeBack_42 : decode cX1_takeBack 42 = .ok (.aaload, 1) := by decide +kernel
theorem dX1_takeBack_43 : decode cX1_takeBack 43 = .ok (.invokevirtual 23, 3) := by decide +kernel
theorem dX1_takeBack_46 : decode cX1_takeBack 46 = .ok (.aload_n 0, 1) := by decide +kernel
theorem dX1_takeBack_47 : decode cX1_takeBack 47 = .ok (.getfield 19, 3) := by decide +kernel
theorem dX1_takeBack_50 : decode cX1_takeBack 50 = .ok (.ireturn, 1) := by decide +kernel
theorem dX2_init_0 : decode cX2_init 0 = .ok (.aload_n 0, 1) := by decide +kernel
theorem dX2_init_1 : decode cX2_init 1 = .ok (.invokespecial 5, 3) := by decide +kernel
theorem dX2_init_4 : decode cX2_init 4 = .ok (.aload_n 0, 1) := by decide +kernel
theorem dX2_init_5 : decode cX2_init 5 = .ok (.bipush 120, 2) := by decide +kernel
theorem dX2_init_7 : decode cX2_init 7 = .ok (.newarray .byte, 2) := by decide +kernel
theorem dX2_init_9 : decode cX2_init 9 = .ok (.putfield 11, 3) := by decide +kernel
theorem dX2_init_12 : decode cX2_init 12 = .ok (.aload_n 0, 1) := by decide +kernel
theorem dX2_init_13 : decode cX2_init 13 = .ok (.iconst 0, 1) := by decide +kernel
theorem dX2_init_14 : decode cX2_init 14 = .ok (.putfield 15, 3) := by decide +kernel
theorem dX2_init_17 : decode cX2_init 17 = .ok (.aload_n 0, 1) := by decide +kernel
theorem dX2_init_18 : decode cX2_init 18 = .ok (.sipush 150, 3) := by decide +kernel
theorem dX2_init_21 : decode cX2_init 21 = .ok (.newarray .int, 2) := by decide +kernel
theorem dX2_init_23 : decode cX2_init 23 = .ok (.putfield 19, 3) := by decide +kernel
theorem dX2_init_26 : decode cX2_init 26 = .ok (.aload_n 0, 1) := by decide +kernel
theorem dX2_init_27 : decode cX2_init 27 = .ok (.iconst 0, 1) := by decide +kernel
theorem dX2_init_28 : decode cX2_init 28 = .ok (.putfield 23, 3) := by decide +kernel
theorem dX2_init_31 : decode cX2_init 31 = .ok (.aload_n 0, 1) := by decide +kernel
theorem dX2_init_32 : decode cX2_init 32 = .ok (.iconst 0, 1) := by decide +kernel
theorem dX2_init_33 : decode cX2_init 33 = .ok (.putfield 26, 3) := by decide +kernel
theorem dX2_init_36 : decode cX2_init 36 = .ok (.aload_n 0, 1) := by decide +kernel
theorem dX2_init_37 : decode cX2_init 37 = .ok (.iconst 0, 1) := by decide +kernel
theorem dX2_init_38 : decode cX2_init 38 = .ok (.putfield 29, 3) := by decide +kernel
theorem dX2_init_41 : decode cX2_init 41 = .ok (.aload_n 0, 1) := by decide +kernel
theorem dX2_init_42 : decode cX2_init 42 = .ok (.iconst 0, 1) := by decide +kernel
theorem dX2_init_43 : decode cX2_init 43 = .ok (.putfield 32, 3) := by decide +kernel
theorem dX2_init_46 : decode cX2_init 46 = .ok (.return_, 1) := by decide +kernel
theorem dX2_isFull_0 : decode cX2_isFull 0 = .ok (.aload_n 0, 1) := by decide +kernel
theorem dX2_isFull_1 : decode cX2_isFull 1 = .ok (.getfield 15, 3) := by decide +kernel
theorem dX2_isFull_4 : decode cX2_isFull 4 = .ok (.bipush 120, 2) := by decide +kernel
theorem dX2_isFull_6 : decode cX2_isFull 6 = .ok (.if_icmp .lt 7, 3) := by decide +kernel
theorem dX2_isFull_9 : decode cX2_isFull 9 = .ok (.iconst 1, 1) := by decide +kernel
theorem dX2_isFull_10 : decode cX2_isFull 10 = .ok (.goto 4, 3) := by decide +kernel
theorem dX2_isFull_13 : decode cX2_isFull 13 = .ok (.iconst 0, 1) := by decide +kernel
theorem dX2_isFull_14 : decode cX2_isFull 14 = .ok (.ireturn, 1) := by decide +kernel
theorem dX2_addByte_0 : decode cX2_addByte 0 = .ok (.aload_n 0, 1) := by decide +kernel
theorem dX2_addByte_1 : decode cX2_addByte 1 = .ok (.invokevirtual 35, 3) := by decide +kernel
theorem dX2_addByte_4 : decode cX2_addByte 4 = .ok (.ifCond .ne 24, 3) := by decide +kernel
theorem dX2_addByte_7 : decode cX2_addByte 7 = .ok (.aload_n 0, 1) := by decide +kernel
theorem dX2_addByte_8 : decode cX2_addByte 8 = .ok (.getfield 11, 3) := by decide +kernel
theorem dX2_addByte_11 : decode cX2_addByte 11 = .ok (.aload_n 0, 1) := by decide +kernel
theorem dX2_addByte_12 : decode cX2_addByte 12 = .ok (.getfield 15, 3) := by decide +kernel
theorem dX2_addByte_15 : decode cX2_addByte 15 = .ok (.iload_n 1, 1) := by decide +kernel
theorem dX2_addByte_16 : decode cX2_addByte 16 = .ok (.i2b, 1) := by decide +kernel
theorem dX2_addByte_17 : decode cX2_addByte 17 = .ok (.bastore, 1) := by decide +kernel
theorem dX2_addByte_18 : decode cX2_addByte 18 = .ok (.aload_n 0, 1) := by decide +kernel
theorem dX2_addByte_19 : decode cX2_addByte 19 = .ok (.dup, 1) := by decide +kernel
theorem dX2_addByte_20 : decode cX2_addByte 20 = .ok (.getfield 15, 3) := by decide +kernel
theorem dX2_addByte_23 : decode cX2_addByte 23 = .ok (.iconst 1, 1) := by decide +kernel
theorem dX2_addByte_24 : decode cX2_addByte 24 = .ok (.iadd, 1) := by decide +kernel
theorem dX2_addByte_25 : decode cX2_addByte 25 = .ok (.putfield 15, 3) := by decide +kernel
theorem dX2_addByte_28 : decode cX2_addByte 28 = .ok (.aload_n 0, 1) := by decide +kernel
theorem dX2_addByte_29 : decode cX2_addByte 29 = .ok (.getfield 15, 3) := by decide +kernel
theorem dX2_addByte_32 : decode cX2_addByte 32 = .ok (.ireturn, 1) := by decide +kernel
theorem dX2_makeEmpty_0 : decode cX2_makeEmpty 0 = .ok (.aload_n 0, 1) := by decide +kernel
theorem dX2_makeEmpty_1 : decode cX2_makeEmpty 1 = .ok (.getfield 15, 3) := by decide +kernel
theorem dX2_makeEmpty_4 : decode cX2_makeEmpty 4 = .ok (.istore_n 1, 1) := by decide +kernel
theorem dX2_makeEmpty_5 : decode cX2_makeEmpty 5 = .ok (.aload_n 0, 1) := by decide +kernel
theorem dX2_makeEmpty_6 : decode cX2_makeEmpty 6 = .ok (.iconst 0, 1) := by decide +kernel
theorem dX2_makeEmpty_7 : decode cX2_makeEmpty 7 = .ok (.putfield 15, 3) := by decide +kernel
theorem dX2_makeEmpty_10 : decode cX2_makeEmpty 10 = .ok (.iload_n 1, 1) := by decide +kernel
theorem dX2_makeEmpty_11 : decode cX2_makeEmpty 11 = .ok (.ireturn, 1) := by decide +kernel
theorem dX2_readOrders_0 : decode cX2_readOrders 0 = .ok (.aload_n 0, 1) := by decide +kernel
theorem dX2_readOrders_1 : decode cX2_readOrders 1 = .ok (.iconst 0, 1) := by decide +kernel
theorem dX2_readOrders_2 : decode cX2_readOrders 2 = .ok (.putfield 23, 3) := by decide +kernel
theorem dX2_readOrders_5 : decode cX2_readOrders 5 = .ok (.aload_n 0, 1) := by decide +kernel
theorem dX2_readOrders_6 : decode cX2_readOrders 6 = .ok (.iconst 0, 1) := by decide +kernel
theorem dX2_readOrders_7 : decode cX2_readOrders 7 = .ok (.putfield 32, 3) := by decide +kernel
theorem dX2_readOrders_10 : decode cX2_readOrders 10 = .ok (.aload_n 0, 1) := by decide +kernel
theorem dX2_readOrders_11 : decode cX2_readOrders 11 = .ok (.invokevirtual 39, 3) := by decide +kernel
theorem dX2_readOrders_14 : decode cX2_readOrders 14 = .ok (.aload_n 0, 1) := by decide +kernel
theorem dX2_readOrders_15 : decode cX2_readOrders 15 = .ok (.invokevirtual 42, 3) := by decide +kernel
theorem dX2_readOrders_18 : decode cX2_readOrders 18 = .ok (.istore_n 1, 1) := by decide +kernel
theorem dX2_readOrders_19 : decode cX2_readOrders 19 = .ok (.iload_n 1, 1) := by decide +kernel
theorem dX2_readOrders_20 : decode cX2_readOrders 20 = .ok (.iconst (-1), 1) := by decide +kernel
theorem dX2_readOrders_21 : decode cX2_readOrders 21 = .ok (.if_icmp .eq 5, 3) := by decide +kernel
theorem dX2_readOrders_24 : decode cX2_readOrders 24 = .ok (.iload_n 1, 1) := by decide +kernel
theorem dX2_readOrders_25 : decode cX2_readOrders 25 = .ok (.ireturn, 1) := by decide +kernel
theorem dX2_readOrders_26 : decode cX2_readOrders 26 = .ok (.aload_n 0, 1) := by decide +kernel
theorem dX2_readOrders_27 : decode cX2_readOrders 27 = .ok (.dup, 1) := by decide +kernel
theorem dX2_readOrders_28 : decode cX2_readOrders 28 = .ok (.getfield 23, 3) := by decide +kernel
theorem dX2_readOrders_31 : decode cX2_readOrders 31 = .ok (.iconst 1, 1) := by decide +kernel
theorem dX2_readOrders_32 : decode cX2_readOrders 32 = .ok (.iadd, 1) := by decide +kernel
theorem dX2_readOrders_33 : decode cX2_readOrders 33 = .ok (.putfield 23, 3) := by decide +kernel
theorem dX2_readOrders_36 : decode cX2_readOrders 36 = .ok (.aload_n 0, 1) := by decide +kernel
theorem dX2_readOrders_37 : decode cX2_readOrders 37 = .ok (.invokevirtual 39, 3) := by decide +kernel
theorem dX2_readOrders_40 : decode cX2_readOrders 40 = .ok (.aload_n 0, 1) := by decide +kernel
theorem dX2_readOrders_41 : decode cX2_readOrders 41 = .ok (.getfield 26, 3) := by decide +kernel
theorem dX2_readOrders_44 : decode cX2_readOrders 44 = .ok (.ifCond .eq 12, 3) := by decide +kernel
theorem dX2_readOrders_47 : decode cX2_readOrders 47 = .ok (.aload_n 0, 1) := by decide +kernel
theorem dX2_readOrders_48 : decode cX2_readOrders 48 = .ok (.getfield 23, 3) := by decide +kernel
theorem dX2_readOrders_51 : decode cX2_readOrders 51 = .ok (.bipush 30, 2) := by decide +kernel
theorem dX2_readOrders_53 : decode cX2_readOrders 53 = .ok (.if_icmp .lt (-39), 3) := by decide +kernel
theorem dX2_readOrders_56 : decode cX2_readOrders 56 = .ok (.iconst (-1), 1) := by decide +kernel
theorem dX2_readOrders_57 : decode cX2_readOrders 57 = .ok (.ireturn, 1) := by decide +kernel
theorem dX2_readOrder_0 : decode cX2_readOrder 0 = .ok (.aload_n 0, 1) := by decide +kernel
theorem dX2_readOrder_1 : decode cX2_readOrder 1 = .ok (.getfield 26, 3) := by decide +kernel
theorem dX2_readOrder_4 : decode cX2_readOrder 4 = .ok (.iconst 1, 1) := by decide +kernel
theorem dX2_readOrder_5 : decode cX2_readOrder 5 = .ok (.if_icmp .ne 10, 3) := by decide +kernel
theorem dX2_readOrder_8 : decode cX2_readOrder 8 = .ok (.aload_n 0, 1) := by decide +kernel
theorem dX2_readOrder_9 : decode cX2_readOrder 9 = .ok (.invokevirtual 46, 3) := by decide +kernel
theorem dX2_readOrder_12 : decode cX2_readOrder 12 = .ok (.goto 4, 3) := by decide +kernel
theorem dX2_readOrder_15 : decode cX2_readOrder 15 = .ok (.iconst (-1), 1) := by decide +kernel
theorem dX2_readOrder_16 : decode cX2_readOrder 16 = .ok (.istore_n 1, 1) := by decide +kernel
theorem dX2_readOrder_17 : decode cX2_readOrder 17 = .ok (.iload_n 1, 1) := by decide +kernel
theorem dX2_readOrder_18 : decode cX2_readOrder 18 = .ok (.iconst (-1), 1) := by decide +kernel
theorem dX2_readOrder_19 : decode cX2_readOrder 19 = .ok (.if_icmp .ne 8, 3) := by decide +kernel
theorem dX2_readOrder_22 : decode cX2_readOrder 22 = .ok (.aload_n 0, 1) := by decide +kernel
theorem dX2_readOrder_23 : decode cX2_readOrder 23 = .ok (.getfield 29, 3) := by decide +kernel
theorem dX2_readOrder_26 : decode cX2_readOrder 26 = .ok (.ireturn, 1) := by decide +kernel
theorem dX2_readOrder_27 : decode cX2_readOrder 27 = .ok (.aload_n 0, 1) := by decide +kernel
theorem dX2_readOrder_28 : decode cX2_readOrder 28 = .ok (.getfield 23, 3) := by decide +kernel
theorem dX2_readOrder_31 : decode cX2_readOrder 31 = .ok (.iconst 5, 1) := by decide +kernel
theorem dX2_readOrder_32 : decode cX2_readOrder 32 = .ok (.imul, 1) := by decide +kernel
theorem dX2_readOrder_33 : decode cX2_readOrder 33 = .ok (.istore_n 2, 1) := by decide +kernel
theorem dX2_readOrder_34 : decode cX2_readOrder 34 = .ok (.aload_n 0, 1) := by decide +kernel
theorem dX2_readOrder_35 : decode cX2_readOrder 35 = .ok (.getfield 19, 3) := by decide +kernel
theorem dX2_readOrder_38 : decode cX2_readOrder 38 = .ok (.iload_n 2, 1) := by decide +kernel
theorem dX2_readOrder_39 : decode cX2_readOrder 39 = .ok (.iload_n 1, 1) := by decide +kernel
theorem dX2_readOrder_40 : decode cX2_readOrder 40 = .ok (.iastore, 1) := by decide +kernel
theorem dX2_readOrder_41 : decode cX2_readOrder 41 = .ok (.iconst 0, 1) := by decide +kernel
theorem dX2_readOrder_42 : decode cX2_readOrder 42 = .ok (.istore_n 3, 1) := by decide +kernel
theorem dX2_readOrder_43 : decode cX2_readOrder 43 = .ok (.iload_n 3, 1) := by decide +kernel
theorem dX2_readOrder_44 : decode cX2_readOrder 44 = .ok (.getstatic 49, 3) := by decide +kernel
theorem dX2_readOrder_47 : decode cX2_readOrder 47 = .ok (.iload_n 1, 1) := by decide +kernel
theorem dX2_readOrder_48 : decode cX2_readOrder 48 = .ok (.iaload, 1) := by decide +kernel
theorem dX2_readOrder_49 : decode cX2_readOrder 49 = .ok (.if_icmp .ge 54, 3) := by decide +kernel
theorem dX2_readOrder_52 : decode cX2_readOrder 52 = .ok (.aload_n 0, 1) := by decide +kernel
theorem dX2_readOrder_53 : decode cX2_readOrder 53 = .ok (.invokevirtual 39, 3) := by decide +kernel
theorem dX2_readOrder_56 : decode cX2_readOrder 56 = .ok (.aload_n 0, 1) := by decide +kernel
theorem dX2_readOrder_57 : decode cX2_readOrder 57 = .ok (.getfield 26, 3) := by decide +kernel
theorem dX2_readOrder_60 : decode cX2_readOrder 60 = .ok (.iconst 2, 1) := by decide +kernel
theorem dX2_readOrder_61 : decode cX2_readOrder 61 = .ok (.if_icmp .eq 8, 3) := by decide +kernel
theorem dX2_readOrder_64 : decode cX2_readOrder 64 = .ok (.aload_n 0, 1) := by decide +kernel
theorem dX2_readOrder_65 : decode cX2_readOrder 65 = .ok (.getfield 29, 3) := by decide +kernel
theorem dX2_readOrder_68 : decode cX2_readOrder 68 = .ok (.ireturn, 1) := by decide +kernel
theorem dX2_readOrder_69 : decode cX2_readOrder 69 = .ok (.aload_n 0, 1) := by decide +kernel
theorem dX2_readOrder_70 : decode cX2_readOrder 70 = .ok (.getfield 19, 3) := by decide +kernel
theorem dX2_readOrder_73 : decode cX2_readOrder 73 = .ok (.iload_n 2, 1) := by decide +kernel
theorem dX2_readOrder_74 : decode cX2_readOrder 74 = .ok (.iconst 1, 1) := by decide +kernel
theorem dX2_readOrder_75 : decode cX2_readOrder 75 = .ok (.iadd, 1) := by decide +kernel
theorem dX2_readOrder_76 : decode cX2_readOrder 76 = .ok (.iload_n 3, 1) := by decide +kernel
theorem dX2_readOrder_77 : decode cX2_readOrder 77 = .ok (.iadd, 1) := by decide +kernel
theorem dX2_readOrder_78 : decode cX2_readOrder 78 = .ok (.aload_n 0, 1) := by decide +kernel
theorem dX2_readOrder_79 : decode cX2_readOrder 79 = .ok (.invokevirtual 52, 3) := by decide +kernel
theorem dX2_readOrder_82 : decode cX2_readOrder 82 = .ok (.iastore, 1) := by decide +kernel
theorem dX2_readOrder_83 : decode cX2_readOrder 83 = .ok (.aload_n 0, 1) := by decide +kernel
theorem dX2_readOrder_84 : decode cX2_readOrder 84 = .ok (.iload_n 2, 1) := by decide +kernel
theorem dX2_readOrder_85 : decode cX2_readOrder 85 = .ok (.iload_n 3, 1) := by decide +kernel
theorem dX2_readOrder_86 : decode cX2_readOrder 86 = .ok (.invokevirtual 55, 3) := by decide +kernel
theorem dX2_readOrder_89 : decode cX2_readOrder 89 = .ok (.ifCond .ne 8, 3) := by decide +kernel
theorem dX2_readOrder_92 : decode cX2_readOrder 92 = .ok (.aload_n 0, 1) := by decide +kernel
theorem dX2_readOrder_93 : decode cX2_readOrder 93 = .ok (.getfield 29, 3) := by decide +kernel
theorem dX2_readOrder_96 : decode cX2_readOrder 96 = .ok (.ireturn, 1) := by decide +kernel
theorem dX2_readOrder_97 : decode cX2_readOrder 97 = .ok (.iinc 3 1, 3) := by decide +kernel
theorem dX2_readOrder_100 : decode cX2_readOrder 100 = .ok (.goto (-57), 3) := by decide +kernel
theorem dX2_readOrder_103 : decode cX2_readOrder 103 = .ok (.aload_n 0, 1) := by decide +kernel
theorem dX2_readOrder_104 : decode cX2_readOrder 104 = .ok (.invokevirtual 39, 3) := by decide +kernel
theorem dX2_readOrder_107 : decode cX2_readOrder 107 = .ok (.aload_n 0, 1) := by decide +kernel
theorem dX2_readOrder_108 : decode cX2_readOrder 108 = .ok (.getfield 26, 3) := by decide +kernel
theorem dX2_readOrder_111 : decode cX2_readOrder 111 = .ok (.iconst 3, 1) := by decide +kernel
theorem dX2_readOrder_112 : decode cX2_readOrder 112 = .ok (.if_icmp .ne 21, 3) := by decide +kernel
theorem dX2_readOrder_115 : decode cX2_readOrder 115 = .ok (.aload_n 0, 1) := by decide +kernel
theorem dX2_readOrder_116 : decode cX2_readOrder 116 = .ok (.getfield 11, 3) := by decide +kernel
theorem dX2_readOrder_119 : decode cX2_readOrder 119 = .ok (.aload_n 0, 1) := by decide +kernel
theorem dX2_readOrder_120 : decode cX2_readOrder 120 = .ok (.getfield 29, 3) := by decide +kernel
theorem dX2_readOrder_123 : decode cX2_readOrder 123 = .ok (.baload, 1) := by decide +kernel
theorem dX2_readOrder_124 : decode cX2_readOrder 124 = .ok (.bipush 59, 2) := by decide +kernel
theorem dX2_readOrder_126 : decode cX2_readOrder 126 = .ok (.if_icmp .ne 7, 3) := by decide +kernel
theorem dX2_readOrder_129 : decode cX2_readOrder 129 = .ok (.iconst (-1), 1) := by decide +kernel
theorem dX2_readOrder_130 : decode cX2_readOrder 130 = .ok (.goto 7, 3) := by decide +kernel
theorem dX2_readOrder_133 : decode cX2_readOrder 133 = .ok (.aload_n 0, 1) := by decide +kernel
theorem dX2_readOrder_134 : decode cX2_readOrder 134 = .ok (.getfield 29, 3) := by decide +kernel
theorem dX2_readOrder_137 : decode cX2_readOrder 137 = .ok (.ireturn, 1) := by decide +kernel
theorem dX2_isAsTold_0 : decode cX2_isAsTold 0 = .ok (.aload_n 0, 1) := by decide +kernel
theorem dX2_isAsTold_1 : decode cX2_isAsTold 1 = .ok (.getfield 19, 3) := by decide +kernel
theorem dX2_isAsTold_4 : decode cX2_isAsTold 4 = .ok (.iload_n 1, 1) := by decide +kernel
theorem dX2_isAsTold_5 : decode cX2_isAsTold 5 = .ok (.iaload, 1) := by decide +kernel
theorem dX2_isAsTold_6 : decode cX2_isAsTold 6 = .ok (.istore_n 3, 1) := by decide +kernel
theorem dX2_isAsTold_7 : decode cX2_isAsTold 7 = .ok (.iload_n 3, 1) := by decide +kernel
theorem dX2_isAsTold_8 : decode cX2_isAsTold 8 = .ok (.iconst 4, 1) := by decide +kernel
theorem dX2_isAsTold_9 : decode cX2_isAsTold 9 = .ok (.imul, 1) := by decide +kernel
theorem dX2_isAsTold_10 : decode cX2_isAsTold 10 = .ok (.iload_n 2, 1) := by decide +kernel
theorem dX2_isAsTold_11 : decode cX2_isAsTold 11 = .ok (.iadd, 1) := by decide +kernel
theorem dX2_isAsTold_12 : decode cX2_isAsTold 12 = .ok (.istore 4, 2) := by decide +kernel
theorem dX2_isAsTold_14 : decode cX2_isAsTold 14 = .ok (.aload_n 0, 1) := by decide +kernel
theorem dX2_isAsTold_15 : decode cX2_isAsTold 15 = .ok (.getfield 19, 3) := by decide +kernel
theorem dX2_isAsTold_18 : decode cX2_isAsTold 18 = .ok (.iload_n 1, 1) := by decide +kernel
theorem dX2_isAsTold_19 : decode cX2_isAsTold 19 = .ok (.iconst 1, 1) := by decide +kernel
theorem dX2_isAsTold_20 : decode cX2_isAsTold 20 = .ok (.iadd, 1) := by decide +kernel
theorem dX2_isAsTold_21 : decode cX2_isAsTold 21 = .ok (.iload_n 2, 1) := by decide +kernel
theorem dX2_isAsTold_22 : decode cX2_isAsTold 22 = .ok (.iadd, 1) := by decide +kernel
theorem dX2_isAsTold_23 : decode cX2_isAsTold 23 = .ok (.iaload, 1) := by decide +kernel
theorem dX2_isAsTold_24 : decode cX2_isAsTold 24 = .ok (.getstatic 59, 3) := by decide +kernel
theorem dX2_isAsTold_27 : decode cX2_isAsTold 27 = .ok (.iload 4, 2) := by decide +kernel
theorem dX2_isAsTold_29 : decode cX2_isAsTold 29 = .ok (.iaload, 1) := by decide +kernel
theorem dX2_isAsTold_30 : decode cX2_isAsTold 30 = .ok (.getstatic 62, 3) := by decide +kernel
theorem dX2_isAsTold_33 : decode cX2_isAsTold 33 = .ok (.iload 4, 2) := by decide +kernel
theorem dX2_isAsTold_35 : decode cX2_isAsTold 35 = .ok (.iaload, 1) := by decide +kernel
theorem dX2_isAsTold_36 : decode cX2_isAsTold 36 = .ok (.invokestatic 65, 3) := by decide +kernel
theorem dX2_isAsTold_39 : decode cX2_isAsTold 39 = .ok (.ifCond .ne 5, 3) := by decide +kernel
theorem dX2_isAsTold_42 : decode cX2_isAsTold 42 = .ok (.iconst 0, 1) := by decide +kernel
theorem dX2_isAsTold_43 : decode cX2_isAsTold 43 = .ok (.ireturn, 1) := by decide +kernel
theorem dX2_isAsTold_44 : decode cX2_isAsTold 44 = .ok (.iload_n 3, 1) := by decide +kernel
theorem dX2_isAsTold_45 : decode cX2_isAsTold 45 = .ok (.iconst 2, 1) := by decide +kernel
theorem dX2_isAsTold_46 : decode cX2_isAsTold 46 = .ok (.if_icmp .ne 30, 3) := by decide +kernel
theorem dX2_isAsTold_49 : decode cX2_isAsTold 49 = .ok (.iload_n 2, 1) := by decide +kernel
theorem dX2_isAsTold_50 : decode cX2_isAsTold 50 = .ok (.iconst 3, 1) := by decide +kernel
theorem dX2_isAsTold_51 : decode cX2_isAsTold 51 = .ok (.if_icmp .ne 25, 3) := by decide +kernel
theorem dX2_isAsTold_54 : decode cX2_isAsTold 54 = .ok (.aload_n 0, 1) := by decide +kernel
theorem dX2_isAsTold_55 : decode cX2_isAsTold 55 = .ok (.getfield 19, 3) := by decide +kernel
theorem dX2_isAsTold_58 : decode cX2_isAsTold 58 = .ok (.iload_n 1, 1) := by decide +kernel
theorem dX2_isAsTold_59 : decode cX2_isAsTold 59 = .ok (.iconst 3, 1) := by decide +kernel
theorem dX2_isAsTold_60 : decode cX2_isAsTold 60 = .ok (.iadd, 1) := by decide +kernel
theorem dX2_isAsTold_61 : decode cX2_isAsTold 61 = .ok (.iaload, 1) := by decide +kernel
theorem dX2_isAsTold_62 : decode cX2_isAsTold 62 = .ok (.aload_n 0, 1) := by decide +kernel
theorem dX2_isAsTold_63 : decode cX2_isAsTold 63 = .ok (.getfield 19, 3) := by decide +kernel
theorem dX2_isAsTold_66 : decode cX2_isAsTold 66 = .ok (.iload_n 1, 1) := by decide +kernel
theorem dX2_isAsTold_67 : decode cX2_isAsTold 67 = .ok (.iconst 4, 1) := by decide +kernel
theorem dX2_isAsTold_68 : decode cX2_isAsTold 68 = .ok (.iadd, 1) := by decide +kernel
theorem dX2_isAsTold_69 : decode cX2_isAsTold 69 = .ok (.iaload, 1) := by decide +kernel
theorem dX2_isAsTold_70 : decode cX2_isAsTold 70 = .ok (.invokestatic 69, 3) := by decide +kernel
theorem dX2_isAsTold_73 : decode cX2_isAsTold 73 = .ok (.ifCond .eq 7, 3) := by decide +kernel
theorem dX2_isAsTold_76 : decode cX2_isAsTold 76 = .ok (.iconst 1, 1) := by decide +kernel
theorem dX2_isAsTold_77 : decode cX2_isAsTold 77 = .ok (.goto 4, 3) := by decide +kernel
theorem dX2_isAsTold_80 : decode cX2_isAsTold 80 = .ok (.iconst 0, 1) := by decide +kernel
theorem dX2_isAsTold_81 : decode cX2_isAsTold 81 = .ok (.ireturn, 1) := by decide +kernel
theorem dX2_readPiece_0 : decode cX2_readPiece 0 = .ok (.aload_n 0, 1) := by decide +kernel
theorem dX2_readPiece_1 : decode cX2_readPiece 1 = .ok (.aload_n 0, 1) := by decide +kernel
theorem dX2_readPiece_2 : decode cX2_readPiece 2 = .ok (.getfield 32, 3) := by decide +kernel
theorem dX2_readPiece_5 : decode cX2_readPiece 5 = .ok (.putfield 29, 3) := by decide +kernel
theorem dX2_readPiece_8 : decode cX2_readPiece 8 = .ok (.aload_n 0, 1) := by decide +kernel
theorem dX2_readPiece_9 : decode cX2_readPiece 9 = .ok (.getfield 29, 3) := by decide +kernel
theorem dX2_readPiece_12 : decode cX2_readPiece 12 = .ok (.aload_n 0, 1) := by decide +kernel
theorem dX2_readPiece_13 : decode cX2_readPiece 13 = .ok (.getfield 15, 3) := by decide +kernel
theorem dX2_readPiece_16 : decode cX2_readPiece 16 = .ok (.if_icmp .ge 30, 3) := by decide +kernel
theorem dX2_readPiece_19 : decode cX2_readPiece 19 = .ok (.aload_n 0, 1) := by decide +kernel
theorem dX2_readPiece_20 : decode cX2_readPiece 20 = .ok (.getfield 11, 3) := by decide +kernel
theorem dX2_readPiece_23 : decode cX2_readPiece 23 = .ok (.aload_n 0, 1) := by decide +kernel
theorem dX2_readPiece_24 : decode cX2_readPiece 24 = .ok (.getfield 29, 3) := by decide +kernel
theorem dX2_readPiece_27 : decode cX2_readPiece 27 = .ok (.baload, 1) := by decide +kernel
theorem dX2_readPiece_28 : decode cX2_readPiece 28 = .ok (.bipush 32, 2) := by decide +kernel
theorem dX2_readPiece_30 : decode cX2_readPiece 30 = .ok (.if_icmp .ne 16, 3) := by decide +kernel
theorem dX2_readPiece_33 : decode cX2_readPiece 33 = .ok (.aload_n 0, 1) := by decide +kernel
theorem dX2_readPiece_34 : decode cX2_readPiece 34 = .ok (.dup, 1) := by decide +kernel
theorem dX2_readPiece_35 : decode cX2_readPiece 35 = .ok (.getfield 29, 3) := by decide +kernel
theorem dX2_readPiece_38 : decode cX2_readPiece 38 = .ok (.iconst 1, 1) := by decide +kernel
theorem dX2_readPiece_39 : decode cX2_readPiece 39 = .ok (.iadd, 1) := by decide +kernel
theorem dX2_readPiece_40 : decode cX2_readPiece 40 = .ok (.putfield 29, 3) := by decide +kernel
theorem dX2_readPiece_43 : decode cX2_readPiece 43 = .ok (.goto (-35), 3) := by decide +kernel
theorem dX2_readPiece_46 : decode cX2_readPiece 46 = .ok (.aload_n 0, 1) := by decide +kernel
theorem dX2_readPiece_47 : decode cX2_readPiece 47 = .ok (.aload_n 0, 1) := by decide +kernel
theorem dX2_readPiece_48 : decode cX2_readPiece 48 = .ok (.getfield 29, 3) := by decide +kernel
theorem dX2_readPiece_51 : decode cX2_readPiece 51 = .ok (.putfield 32, 3) := by decide +kernel
theorem dX2_readPiece_54 : decode cX2_readPiece 54 = .ok (.aload_n 0, 1) := by decide +kernel
theorem dX2_readPiece_55 : decode cX2_readPiece 55 = .ok (.getfield 29, 3) := by decide +kernel
theorem dX2_readPiece_58 : decode cX2_readPiece 58 = .ok (.aload_n 0, 1) := by decide +kernel
theorem dX2_readPiece_59 : decode cX2_readPiece 59 = .ok (.getfield 15, 3) := by decide +kernel
theorem dX2_readPiece_62 : decode cX2_readPiece 62 = .ok (.if_icmp .lt 11, 3) := by decide +kernel
theorem dX2_readPiece_65 : decode cX2_readPiece 65 = .ok (.aload_n 0, 1) := by decide +kernel
theorem dX2_readPiece_66 : decode cX2_readPiece 66 = .ok (.iconst 0, 1) := by decide +kernel
theorem dX2_readPiece_67 : decode cX2_readPiece 67 = .ok (.putfield 26, 3) := by decide +kernel
theorem dX2_readPiece_70 : decode cX2_readPiece 70 = .ok (.goto 136, 3) := by decide +kernel
theorem dX2_readPiece_73 : decode cX2_readPiece 73 = .ok (.aload_n 0, 1) := by decide +kernel
theorem dX2_readPiece_74 : decode cX2_readPiece 74 = .ok (.getfield 11, 3) := by decide +kernel
theorem dX2_readPiece_77 : decode cX2_readPiece 77 = .ok (.aload_n 0, 1) := by decide +kernel
theorem dX2_readPiece_78 : decode cX2_readPiece 78 = .ok (.getfield 29, 3) := by decide +kernel
theorem dX2_readPiece_81 : decode cX2_readPiece 81 = .ok (.baload, 1) := by decide +kernel
theorem dX2_readPiece_82 : decode cX2_readPiece 82 = .ok (.invokestatic 72, 3) := by decide +kernel
theorem dX2_readPiece_85 : decode cX2_readPiece 85 = .ok (.ifCond .eq 47, 3) := by decide +kernel
theorem dX2_readPiece_88 : decode cX2_readPiece 88 = .ok (.aload_n 0, 1) := by decide +kernel
theorem dX2_readPiece_89 : decode cX2_readPiece 89 = .ok (.iconst 1, 1) := by decide +kernel
theorem dX2_readPiece_90 : decode cX2_readPiece 90 = .ok (.putfield 26, 3) := by decide +kernel
theorem dX2_readPiece_93 : decode cX2_readPiece 93 = .ok (.aload_n 0, 1) := by decide +kernel
theorem dX2_readPiece_94 : decode cX2_readPiece 94 = .ok (.getfield 32, 3) := by decide +kernel
theorem dX2_readPiece_97 : decode cX2_readPiece 97 = .ok (.aload_n 0, 1) := by decide +kernel
theorem dX2_readPiece_98 : decode cX2_readPiece 98 = .ok (.getfield 15, 3) := by decide +kernel
theorem dX2_readPiece_101 : decode cX2_readPiece 101 = .ok (.if_icmp .ge 105, 3) := by decide +kernel
theorem dX2_readPiece_104 : decode cX2_readPiece 104 = .ok (.aload_n 0, 1) := by decide +kernel
theorem dX2_readPiece_105 : decode cX2_readPiece 105 = .ok (.getfield 11, 3) := by decide +kernel
theorem dX2_readPiece_108 : decode cX2_readPiece 108 = .ok (.aload_n 0, 1) := by decide +kernel
theorem dX2_readPiece_109 : decode cX2_readPiece 109 = .ok (.getfield 32, 3) := by decide +kernel
theorem dX2_readPiece_112 : decode cX2_readPiece 112 = .ok (.baload, 1) := by decide +kernel
theorem dX2_readPiece_113 : decode cX2_readPiece 113 = .ok (.invokestatic 72, 3) := by decide +kernel
theorem dX2_readPiece_116 : decode cX2_readPiece 116 = .ok (.ifCond .eq 90, 3) := by decide +kernel
theorem dX2_readPiece_119 : decode cX2_readPiece 119 = .ok (.aload_n 0, 1) := by decide +kernel
theorem dX2_readPiece_120 : decode cX2_readPiece 120 = .ok (.dup, 1) := by decide +kernel
theorem dX2_readPiece_121 : decode cX2_readPiece 121 = .ok (.getfield 32, 3) := by decide +kernel
theorem dX2_readPiece_124 : decode cX2_readPiece 124 = .ok (.iconst 1, 1) := by decide +kernel
theorem dX2_readPiece_125 : decode cX2_readPiece 125 = .ok (.iadd, 1) := by decide +kernel
theorem dX2_readPiece_126 : decode cX2_readPiece 126 = .ok (.putfield 32, 3) := by decide +kernel
theorem dX2_readPiece_129 : decode cX2_readPiece 129 = .ok (.goto (-36), 3) := by decide +kernel
theorem dX2_readPiece_132 : decode cX2_readPiece 132 = .ok (.aload_n 0, 1) := by decide +kernel
theorem dX2_readPiece_133 : decode cX2_readPiece 133 = .ok (.getfield 11, 3) := by decide +kernel
theorem dX2_readPiece_136 : decode cX2_readPiece 136 = .ok (.aload_n 0, 1) := by decide +kernel
theorem dX2_readPiece_137 : decode cX2_readPiece 137 = .ok (.getfield 29, 3) := by decide +kernel
theorem dX2_readPiece_140 : decode cX2_readPiece 140 = .ok (.baload, 1) := by decide +kernel
theorem dX2_readPiece_141 : decode cX2_readPiece 141 = .ok (.invokestatic 76, 3) := by decide +kernel
theorem dX2_readPiece_144 : decode cX2_readPiece 144 = .ok (.ifCond .eq 47, 3) := by decide +kernel
theorem dX2_readPiece_147 : decode cX2_readPiece 147 = .ok (.aload_n 0, 1) := by decide +kernel
theorem dX2_readPiece_148 : decode cX2_readPiece 148 = .ok (.iconst 2, 1) := by decide +kernel
theorem dX2_readPiece_149 : decode cX2_readPiece 149 = .ok (.putfield 26, 3) := by decide +kernel
theorem dX2_readPiece_152 : decode cX2_readPiece 152 = .ok (.aload_n 0, 1) := by decide +kernel
theorem dX2_readPiece_153 : decode cX2_readPiece 153 = .ok (.getfield 32, 3) := by decide +kernel
theorem dX2_readPiece_156 : decode cX2_readPiece 156 = .ok (.aload_n 0, 1) := by decide +kernel
theorem dX2_readPiece_157 : decode cX2_readPiece 157 = .ok (.getfield 15, 3) := by decide +kernel
theorem dX2_readPiece_160 : decode cX2_readPiece 160 = .ok (.if_icmp .ge 46, 3) := by decide +kernel
theorem dX2_readPiece_163 : decode cX2_readPiece 163 = .ok (.aload_n 0, 1) := by decide +kernel
theorem dX2_readPiece_164 : decode cX2_readPiece 164 = .ok (.getfield 11, 3) := by decide +kernel
theorem dX2_readPiece_167 : decode cX2_readPiece 167 = .ok (.aload_n 0, 1) := by decide +kernel
theorem dX2_readPiece_168 : decode cX2_readPiece 168 = .ok (.getfield 32, 3) := by decide +kernel
theorem dX2_readPiece_171 : decode cX2_readPiece 171 = .ok (.baload, 1) := by decide +kernel
theorem dX2_readPiece_172 : decode cX2_readPiece 172 = .ok (.invokestatic 76, 3) := by decide +kernel
theorem dX2_readPiece_175 : decode cX2_readPiece 175 = .ok (.ifCond .eq 31, 3) := by decide +kernel
theorem dX2_readPiece_178 : decode cX2_readPiece 178 = .ok (.aload_n 0, 1) := by decide +kernel
theorem dX2_readPiece_179 : decode cX2_readPiece 179 = .ok (.dup, 1) := by decide +kernel
theorem dX2_readPiece_180 : decode cX2_readPiece 180 = .ok (.getfield 32, 3) := by decide +kernel
theorem dX2_readPiece_183 : decode cX2_readPiece 183 = .ok (.iconst 1, 1) := by decide +kernel
theorem dX2_readPiece_184 : decode cX2_readPiece 184 = .ok (.iadd, 1) := by decide +kernel
theorem dX2_readPiece_185 : decode cX2_readPiece 185 = .ok (.putfield 32, 3) := by decide +kernel
theorem dX2_readPiece_188 : decode cX2_readPiece 188 = .ok (.goto (-36), 3) := by decide +kernel
theorem dX2_readPiece_191 : decode cX2_readPiece 191 = .ok (.aload_n 0, 1) := by decide +kernel
theorem dX2_readPiece_192 : decode cX2_readPiece 192 = .ok (.iconst 3, 1) := by decide +kernel
theorem dX2_readPiece_193 : decode cX2_readPiece 193 = .ok (.putfield 26, 3) := by decide +kernel
theorem dX2_readPiece_196 : decode cX2_readPiece 196 = .ok (.aload_n 0, 1) := by decide +kernel
theorem dX2_readPiece_197 : decode cX2_readPiece 197 = .ok (.dup, 1) := by decide +kernel
theorem dX2_readPiece_198 : decode cX2_readPiece 198 = .ok (.getfield 32, 3) := by decide +kernel
theorem dX2_readPiece_201 : decode cX2_readPiece 201 = .ok (.iconst 1, 1) := by decide +kernel
theorem dX2_readPiece_202 : decode cX2_readPiece 202 = .ok (.iadd, 1) := by decide +kernel
theorem dX2_readPiece_203 : decode cX2_readPiece 203 = .ok (.putfield 32, 3) := by decide +kernel
theorem dX2_readPiece_206 : decode cX2_readPiece 206 = .ok (.return_, 1) := by decide +kernel
theorem dX2_isLetter_0 : decode cX2_isLetter 0 = .ok (.iload_n 0, 1) := by decide +kernel
theorem dX2_isLetter_1 : decode cX2_isLetter 1 = .ok (.bipush 97, 2) := by decide +kernel
theorem dX2_isLetter_3 : decode cX2_isLetter 3 = .ok (.bipush 122, 2) := by decide +kernel
theorem dX2_isLetter_5 : decode cX2_isLetter 5 = .ok (.invokestatic 65, 3) := by decide +kernel
theorem dX2_isLetter_8 : decode cX2_isLetter 8 = .ok (.ireturn, 1) := by decide +kernel
theorem dX2_isFigure_0 : decode cX2_isFigure 0 = .ok (.iload_n 0, 1) := by decide +kernel
theorem dX2_isFigure_1 : decode cX2_isFigure 1 = .ok (.bipush 48, 2) := by decide +kernel
theorem dX2_isFigure_3 : decode cX2_isFigure 3 = .ok (.bipush 57, 2) := by decide +kernel
theorem dX2_isFigure_5 : decode cX2_isFigure 5 = .ok (.invokestatic 65, 3) := by decide +kernel
theorem dX2_isFigure_8 : decode cX2_isFigure 8 = .ok (.ireturn, 1) := by decide +kernel
theorem dX2_orderHere_0 : decode cX2_orderHere 0 = .ok (.iconst 0, 1) := by decide +kernel
theorem dX2_orderHere_1 : decode cX2_orderHere 1 = .ok (.istore_n 1, 1) := by decide +kernel
theorem dX2_orderHere_2 : decode cX2_orderHere 2 = .ok (.iload_n 1, 1) := by decide +kernel
theorem dX2_orderHere_3 : decode cX2_orderHere 3 = .ok (.iconst 5, 1) := by decide +kernel
theorem dX2_orderHere_4 : decode cX2_orderHere 4 = .ok (.if_icmp .ge 22, 3) := by decide +kernel
theorem dX2_orderHere_7 : decode cX2_orderHere 7 = .ok (.aload_n 0, 1) := by decide +kernel
theorem dX2_orderHere_8 : decode cX2_orderHere 8 = .ok (.iload_n 1, 1) := by decide +kernel
theorem dX2_orderHere_9 : decode cX2_orderHere 9 = .ok (.invokestatic 79, 3) := by decide +kernel
theorem dX2_orderHere_12 : decode cX2_orderHere 12 = .ok (.invokevirtual 83, 3) := by decide +kernel
theorem dX2_orderHere_15 : decode cX2_orderHere 15 = .ok (.ifCond .eq 5, 3) := by decide +kernel
theorem dX2_orderHere_18 : decode cX2_orderHere 18 = .ok (.iload_n 1, 1) := by decide +kernel
theorem dX2_orderHere_19 : decode cX2_orderHere 19 = .ok (.ireturn, 1) := by decide +kernel
theorem dX2_orderHere_20 : decode cX2_orderHere 20 = .ok (.iinc 1 1, 3) := by decide +kernel
theorem dX2_orderHere_23 : decode cX2_orderHere 23 = .ok (.goto (-21), 3) := by decide +kernel
theorem dX2_orderHere_26 : decode cX2_orderHere 26 = .ok (.iconst (-1), 1) := by decide +kernel
theorem dX2_orderHere_27 : decode cX2_orderHere 27 = .ok (.ireturn, 1) := by decide +kernel
theorem dX2_wordOf_0 : decode cX2_wordOf 0 = .ok (.iload_n 0, 1) := by decide +kernel
theorem dX2_wordOf_1 : decode cX2_wordOf 1 = .ok (.tableswitch 43 0 3 #[31, 34, 37, 40], 31) := by decide +kernel
theorem dX2_wordOf_32 : decode cX2_wordOf 32 = .ok (.ldc 87, 2) := by decide +kernel
theorem dX2_wordOf_34 : decode cX2_wordOf 34 = .ok (.areturn, 1) := by decide +kernel
theorem dX2_wordOf_35 : decode cX2_wordOf 35 = .ok (.ldc 89, 2) := by decide +kernel
theorem dX2_wordOf_37 : decode cX2_wordOf 37 = .ok (.areturn, 1) := by decide +kernel
theorem dX2_wordOf_38 : decode cX2_wordOf 38 = .ok (.ldc 91, 2) := by decide +kernel
theorem dX2_wordOf_40 : decode cX2_wordOf 40 = .ok (.areturn, 1) := by decide +kernel
theorem dX2_wordOf_41 : decode cX2_wordOf 41 = .ok (.ldc 93, 2) := by decide +kernel
theorem dX2_wordOf_43 : decode cX2_wordOf 43 = .ok (.areturn, 1) := by decide +kernel
theorem dX2_wordOf_44 : decode cX2_wordOf 44 = .ok (.ldc 95, 2) := by decide +kernel
theorem dX2_wordOf_46 : decode cX2_wordOf 46 = .ok (.areturn, 1) := by decide +kernel
theorem dX2_isHere_0 : decode cX2_isHere 0 = .ok (.aload_n 1, 1) := by decide +kernel
theorem dX2_isHere_1 : decode cX2_isHere 1 = .ok (.invokevirtual 97, 3) := by decide +kernel
theorem dX2_isHere_4 : decode cX2_isHere 4 = .ok (.aload_n 0, 1) := by decide +kernel
theorem dX2_isHere_5 : decode cX2_isHere 5 = .ok (.getfield 32, 3) := by decide +kernel
theorem dX2_isHere_8 : decode cX2_isHere 8 = .ok (.aload_n 0, 1) := by decide +kernel
theorem dX2_isHere_9 : decode cX2_isHere 9 = .ok (.getfield 29, 3) := by decide +kernel
theorem dX2_isHere_12 : decode cX2_isHere 12 = .ok (.isub, 1) := by decide +kernel
theorem dX2_isHere_13 : decode cX2_isHere 13 = .ok (.if_icmp .eq 5, 3) := by decide +kernel
theorem dX2_isHere_16 : decode cX2_isHere 16 = .ok (.iconst 0, 1) := by decide +kernel
theorem dX2_isHere_17 : decode cX2_isHere 17 = .ok (.ireturn, 1) := by decide +kernel
theorem dX2_isHere_18 : decode cX2_isHere 18 = .ok (.iconst 0, 1) := by decide +kernel
theorem dX2_isHere_19 : decode cX2_isHere 19 = .ok (.istore_n 2, 1) := by decide +kernel
theorem dX2_isHere_20 : decode cX2_isHere 20 = .ok (.iload_n 2, 1) := by decide +kernel
theorem dX2_isHere_21 : decode cX2_isHere 21 = .ok (.aload_n 1, 1) := by decide +kernel
theorem dX2_isHere_22 : decode cX2_isHere 22 = .ok (.invokevirtual 97, 3) := by decide +kernel
theorem dX2_isHere_25 : decode cX2_isHere 25 = .ok (.if_icmp .ge 30, 3) := by decide +kernel
theorem dX2_isHere_28 : decode cX2_isHere 28 = .ok (.aload_n 1, 1) := by decide +kernel
theorem dX2_isHere_29 : decode cX2_isHere 29 = .ok (.iload_n 2, 1) := by decide +kernel
theorem dX2_isHere_30 : decode cX2_isHere 30 = .ok (.invokevirtual 101, 3) := by decide +kernel
theorem dX2_isHere_33 : decode cX2_isHere 33 = .ok (.aload_n 0, 1) := by decide +kernel
theorem dX2_isHere_34 : decode cX2_isHere 34 = .ok (.getfield 11, 3) := by decide +kernel
theorem dX2_isHere_37 : decode cX2_isHere 37 = .ok (.aload_n 0, 1) := by decide +kernel
theorem dX2_isHere_38 : decode cX2_isHere 38 = .ok (.getfield 29, 3) := by decide +kernel
theorem dX2_isHere_41 : decode cX2_isHere 41 = .ok (.iload_n 2, 1) := by decide +kernel
theorem dX2_isHere_42 : decode cX2_isHere 42 = .ok (.iadd, 1) := by decide +kernel
theorem dX2_isHere_43 : decode cX2_isHere 43 = .ok (.baload, 1) := by decide +kernel
theorem dX2_isHere_44 : decode cX2_isHere 44 = .ok (.if_icmp .eq 5, 3) := by decide +kernel
theorem dX2_isHere_47 : decode cX2_isHere 47 = .ok (.iconst 0, 1) := by decide +kernel
theorem dX2_isHere_48 : decode cX2_isHere 48 = .ok (.ireturn, 1) := by decide +kernel
theorem dX2_isHere_49 : decode cX2_isHere 49 = .ok (.iinc 2 1, 3) := by decide +kernel
theorem dX2_isHere_52 : decode cX2_isHere 52 = .ok (.goto (-32), 3) := by decide +kernel
theorem dX2_isHere_55 : decode cX2_isHere 55 = .ok (.iconst 1, 1) := by decide +kernel
theorem dX2_isHere_56 : decode cX2_isHere 56 = .ok (.ireturn, 1) := by decide +kernel
theorem dX2_numberHere_0 : decode cX2_numberHere 0 = .ok (.aload_n 0, 1) := by decide +kernel
theorem dX2_numberHere_1 : decode cX2_numberHere 1 = .ok (.getfield 32, 3) := by decide +kernel
theorem dX2_numberHere_4 : decode cX2_numberHere 4 = .ok (.aload_n 0, 1) := by decide +kernel
theorem dX2_numberHere_5 : decode cX2_numberHere 5 = .ok (.getfield 29, 3) := by decide +kernel
theorem dX2_numberHere_8 : decode cX2_numberHere 8 = .ok (.isub, 1) := by decide +kernel
theorem dX2_numberHere_9 : decode cX2_numberHere 9 = .ok (.iconst 2, 1) := by decide +kernel
theorem dX2_numberHere_10 : decode cX2_numberHere 10 = .ok (.if_icmp .le 5, 3) := by decide +kernel
theorem dX2_numberHere_13 : decode cX2_numberHere 13 = .ok (.iconst (-1), 1) := by decide +kernel
theorem dX2_numberHere_14 : decode cX2_numberHere 14 = .ok (.ireturn, 1) := by decide +kernel
theorem dX2_numberHere_15 : decode cX2_numberHere 15 = .ok (.iconst 0, 1) := by decide +kernel
theorem dX2_numberHere_16 : decode cX2_numberHere 16 = .ok (.istore_n 1, 1) := by decide +kernel
theorem dX2_numberHere_17 : decode cX2_numberHere 17 = .ok (.aload_n 0, 1) := by decide +kernel
theorem dX2_numberHere_18 : decode cX2_numberHere 18 = .ok (.getfield 29, 3) := by decide +kernel
theorem dX2_numberHere_21 : decode cX2_numberHere 21 = .ok (.istore_n 2, 1) := by decide +kernel
theorem dX2_numberHere_22 : decode cX2_numberHere 22 = .ok (.iload_n 2, 1) := by decide +kernel
theorem dX2_numberHere_23 : decode cX2_numberHere 23 = .ok (.aload_n 0, 1) := by decide +kernel
theorem dX2_numberHere_24 : decode cX2_numberHere 24 = .ok (.getfield 32, 3) := by decide +kernel
theorem dX2_numberHere_27 : decode cX2_numberHere 27 = .ok (.if_icmp .ge 24, 3) := by decide +kernel
theorem dX2_numberHere_30 : decode cX2_numberHere 30 = .ok (.bipush 10, 2) := by decide +kernel
theorem dX2_numberHere_32 : decode cX2_numberHere 32 = .ok (.iload_n 1, 1) := by decide +kernel
theorem dX2_numberHere_33 : decode cX2_numberHere 33 = .ok (.imul, 1) := by decide +kernel
theorem dX2_numberHere_34 : decode cX2_numberHere 34 = .ok (.aload_n 0, 1) := by decide +kernel
theorem dX2_numberHere_35 : decode cX2_numberHere 35 = .ok (.getfield 11, 3) := by decide +kernel
theorem dX2_numberHere_38 : decode cX2_numberHere 38 = .ok (.iload_n 2, 1) := by decide +kernel
theorem dX2_numberHere_39 : decode cX2_numberHere 39 = .ok (.baload, 1) := by decide +kernel
theorem dX2_numberHere_40 : decode cX2_numberHere 40 = .ok (.iadd, 1) := by decide +kernel
theorem dX2_numberHere_41 : decode cX2_numberHere 41 = .ok (.bipush 48, 2) := by decide +kernel
theorem dX2_numberHere_43 : decode cX2_numberHere 43 = .ok (.isub, 1) := by decide +kernel
theorem dX2_numberHere_44 : decode cX2_numberHere 44 = .ok (.istore_n 1, 1) := by decide +kernel
theorem dX2_numberHere_45 : decode cX2_numberHere 45 = .ok (.iinc 2 1, 3) := by decide +kernel
theorem dX2_numberHere_48 : decode cX2_numberHere 48 = .ok (.goto (-26), 3) := by decide +kernel
theorem dX2_numberHere_51 : decode cX2_numberHere 51 = .ok (.iload_n 1, 1) := by decide +kernel
theorem dX2_numberHere_52 : decode cX2_numberHere 52 = .ok (.ireturn, 1) := by decide +kernel
theorem dX2_carryOut_0 : decode cX2_carryOut 0 = .ok (.iload_n 1, 1) := by decide +kernel
theorem dX2_carryOut_1 : decode cX2_carryOut 1 = .ok (.iconst 5, 1) := by decide +kernel
theorem dX2_carryOut_2 : decode cX2_carryOut 2 = .ok (.imul, 1) := by decide +kernel
theorem dX2_carryOut_3 : decode cX2_carryOut 3 = .ok (.istore_n 3, 1) := by decide +kernel
theorem dX2_carryOut_4 : decode cX2_carryOut 4 = .ok (.aload_n 0, 1) := by decide +kernel
theorem dX2_carryOut_5 : decode cX2_carryOut 5 = .ok (.getfield 19, 3) := by decide +kernel
theorem dX2_carryOut_8 : decode cX2_carryOut 8 = .ok (.iload_n 3, 1) := by decide +kernel
theorem dX2_carryOut_9 : decode cX2_carryOut 9 = .ok (.iconst 1, 1) := by decide +kernel
theorem dX2_carryOut_10 : decode cX2_carryOut 10 = .ok (.iadd, 1) := by decide +kernel
theorem dX2_carryOut_11 : decode cX2_carryOut 11 = .ok (.iaload, 1) := by decide +kernel
theorem dX2_carryOut_12 : decode cX2_carryOut 12 = .ok (.istore 4, 2) := by decide +kernel
theorem dX2_carryOut_14 : decode cX2_carryOut 14 = .ok (.aload_n 0, 1) := by decide +kernel
theorem dX2_carryOut_15 : decode cX2_carryOut 15 = .ok (.getfield 19, 3) := by decide +kernel
theorem dX2_carryOut_18 : decode cX2_carryOut 18 = .ok (.iload_n 3, 1) := by decide +kernel
theorem dX2_carryOut_19 : decode cX2_carryOut 19 = .ok (.iconst 2, 1) := by decide +kernel
theorem dX2_carryOut_20 : decode cX2_carryOut 20 = .ok (.iadd, 1) := by decide +kernel
theorem dX2_carryOut_21 : decode cX2_carryOut 21 = .ok (.iaload, 1) := by decide +kernel
theorem dX2_carryOut_22 : decode cX2_carryOut 22 = .ok (.istore 5, 2) := by decide +kernel
theorem dX2_carryOut_24 : decode cX2_carryOut 24 = .ok (.aload_n 0, 1) := by decide +kernel
theorem dX2_carryOut_25 : decode cX2_carryOut 25 = .ok (.getfield 19, 3) := by decide +kernel
theorem dX2_carryOut_28 : decode cX2_carryOut 28 = .ok (.iload_n 3, 1) := by decide +kernel
theorem dX2_carryOut_29 : decode cX2_carryOut 29 = .ok (.iaload, 1) := by decide +kernel
theorem dX2_carryOut_30 : decode cX2_carryOut 30 = .ok (.tableswitch 100 0 3 #[30, 41, 52, 80], 30) := by decide +kernel
theorem dX2_carryOut_60 : decode cX2_carryOut 60 = .ok (.aload_n 2, 1) := by decide +kernel
theorem dX2_carryOut_61 : decode cX2_carryOut 61 = .ok (.iload 4, 2) := by decide +kernel
theorem dX2_carryOut_63 : decode cX2_carryOut 63 = .ok (.iconst 1, 1) := by decide +kernel
theorem dX2_carryOut_64 : decode cX2_carryOut 64 = .ok (.invokevirtual 105, 3) := by decide +kernel
theorem dX2_carryOut_67 : decode cX2_carryOut 67 = .ok (.pop, 1) := by decide +kernel
theorem dX2_carryOut_68 : decode cX2_carryOut 68 = .ok (.goto 71, 3) := by decide +kernel
theorem dX2_carryOut_71 : decode cX2_carryOut 71 = .ok (.aload_n 2, 1) := by decide +kernel
theorem dX2_carryOut_72 : decode cX2_carryOut 72 = .ok (.iload 4, 2) := by decide +kernel
theorem dX2_carryOut_74 : decode cX2_carryOut 74 = .ok (.iconst 0, 1) := by decide +kernel
theorem dX2_carryOut_75 : decode cX2_carryOut 75 = .ok (.invokevirtual 105, 3) := by decide +kernel
theorem dX2_carryOut_78 : decode cX2_carryOut 78 = .ok (.pop, 1) := by decide +kernel
theorem dX2_carryOut_79 : decode cX2_carryOut 79 = .ok (.goto 60, 3) := by decide +kernel
theorem dX2_carryOut_82 : decode cX2_carryOut 82 = .ok (.aload_n 2, 1) := by decide +kernel
theorem dX2_carryOut_83 : decode cX2_carryOut 83 = .ok (.iload 4, 2) := by decide +kernel
theorem dX2_carryOut_85 : decode cX2_carryOut 85 = .ok (.iload 5, 2) := by decide +kernel
theorem dX2_carryOut_87 : decode cX2_carryOut 87 = .ok (.aload_n 0, 1) := by decide +kernel
theorem dX2_carryOut_88 : decode cX2_carryOut 88 = .ok (.getfield 19, 3) := by decide +kernel
theorem dX2_carryOut_91 : decode cX2_carryOut 91 = .ok (.iload_n 3, 1) := by decide +kernel
theorem dX2_carryOut_92 : decode cX2_carryOut 92 = .ok (.iconst 3, 1) := by decide +kernel
theorem dX2_carryOut_93 : decode cX2_carryOut 93 = .ok (.iadd, 1) := by decide +kernel
theorem dX2_carryOut_94 : decode cX2_carryOut 94 = .ok (.iaload, 1) := by decide +kernel
theorem dX2_carryOut_95 : decode cX2_carryOut 95 = .ok (.aload_n 0, 1) := by decide +kernel
theorem dX2_carryOut_96 : decode cX2_carryOut 96 = .ok (.getfield 19, 3) := by decide +kernel
theorem dX2_carryOut_99 : decode cX2_carryOut 99 = .ok (.iload_n 3, 1) := by decide +kernel
theorem dX2_carryOut_100 : decode cX2_carryOut 100 = .ok (.iconst 4, 1) := by decide +kernel
theorem dX2_carryOut_101 : decode cX2_carryOut 101 = .ok (.iadd, 1) := by decide +kernel
theorem dX2_carryOut_102 : decode cX2_carryOut 102 = .ok (.iaload, 1) := by decide +kernel
theorem dX2_carryOut_103 : decode cX2_carryOut 103 = .ok (.invokevirtual 111, 3) := by decide +kernel
theorem dX2_carryOut_106 : decode cX2_carryOut 106 = .ok (.pop, 1) := by decide +kernel
theorem dX2_carryOut_107 : decode cX2_carryOut 107 = .ok (.goto 32, 3) := by decide +kernel
theorem dX2_carryOut_110 : decode cX2_carryOut 110 = .ok (.aload_n 2, 1) := by decide +kernel
theorem dX2_carryOut_111 : decode cX2_carryOut 111 = .ok (.iload 4, 2) := by decide +kernel
theorem dX2_carryOut_113 : decode cX2_carryOut 113 = .ok (.iload 5, 2) := by decide +kernel
theorem dX2_carryOut_115 : decode cX2_carryOut 115 = .ok (.aload_n 0, 1) := by decide +kernel
theorem dX2_carryOut_116 : decode cX2_carryOut 116 = .ok (.getfield 19, 3) := by decide +kernel
theorem dX2_carryOut_119 : decode cX2_carryOut 119 = .ok (.iload_n 3, 1) := by decide +kernel
theorem dX2_carryOut_120 : decode cX2_carryOut 120 = .ok (.iconst 3, 1) := by decide +kernel
theorem dX2_carryOut_121 : decode cX2_carryOut 121 = .ok (.iadd, 1) := by decide +kernel
theorem dX2_carryOut_122 : decode cX2_carryOut 122 = .ok (.iaload, 1) := by decide +kernel
theorem dX2_carryOut_123 : decode cX2_carryOut 123 = .ok (.invokevirtual 115, 3) := by decide +kernel
theorem dX2_carryOut_126 : decode cX2_carryOut 126 = .ok (.pop, 1) := by decide +kernel
theorem dX2_carryOut_127 : decode cX2_carryOut 127 = .ok (.goto 12, 3) := by decide +kernel
theorem dX2_carryOut_130 : decode cX2_carryOut 130 = .ok (.aload_n 2, 1) := by decide +kernel
theorem dX2_carryOut_131 : decode cX2_carryOut 131 = .ok (.iload 4, 2) := by decide +kernel
theorem dX2_carryOut_133 : decode cX2_carryOut 133 = .ok (.iload 5, 2) := by decide +kernel
theorem dX2_carryOut_135 : decode cX2_carryOut 135 = .ok (.invokevirtual 119, 3) := by decide +kernel
theorem dX2_carryOut_138 : decode cX2_carryOut 138 = .ok (.pop, 1) := by decide +kernel
theorem dX2_carryOut_139 : decode cX2_carryOut 139 = .ok (.return_, 1) := by decide +kernel
theorem dX3_init_0 : decode cX3_init 0 = .ok (.aload_n 0, 1) := by decide +kernel
theorem dX3_init_1 : decode cX3_init 1 = .ok (.invokespecial 3, 3) := by decide +kernel
theorem dX3_init_4 : decode cX3_init 4 = .ok (.aload_n 0, 1) := by decide +kernel
theorem dX3_init_5 : decode cX3_init 5 = .ok (.bipush 24, 2) := by decide +kernel
theorem dX3_init_7 : decode cX3_init 7 = .ok (.newarray .int, 2) := by decide +kernel
theorem dX3_init_9 : decode cX3_init 9 = .ok (.putfield 9, 3) := by decide +kernel
theorem dX3_init_12 : decode cX3_init 12 = .ok (.aload_n 0, 1) := by decide +kernel
theorem dX3_init_13 : decode cX3_init 13 = .ok (.bipush 24, 2) := by decide +kernel
theorem dX3_init_15 : decode cX3_init 15 = .ok (.newarray .int, 2) := by decide +kernel
theorem dX3_init_17 : decode cX3_init 17 = .ok (.putfield 15, 3) := by decide +kernel
theorem dX3_init_20 : decode cX3_init 20 = .ok (.aload_n 0, 1) := by decide +kernel
theorem dX3_init_21 : decode cX3_init 21 = .ok (.bipush 24, 2) := by decide +kernel
theorem dX3_init_23 : decode cX3_init 23 = .ok (.newarray .int, 2) := by decide +kernel
theorem dX3_init_25 : decode cX3_init 25 = .ok (.putfield 18, 3) := by decide +kernel
theorem dX3_init_28 : decode cX3_init 28 = .ok (.aload_n 0, 1) := by decide +kernel
theorem dX3_init_29 : decode cX3_init 29 = .ok (.bipush 24, 2) := by decide +kernel
theorem dX3_init_31 : decode cX3_init 31 = .ok (.newarray .int, 2) := by decide +kernel
theorem dX3_init_33 : decode cX3_init 33 = .ok (.putfield 21, 3) := by decide +kernel
theorem dX3_init_36 : decode cX3_init 36 = .ok (.aload_n 0, 1) := by decide +kernel
theorem dX3_init_37 : decode cX3_init 37 = .ok (.bipush 24, 2) := by decide +kernel
theorem dX3_init_39 : decode cX3_init 39 = .ok (.newarray .boolean, 2) := by decide +kernel
theorem dX3_init_41 : decode cX3_init 41 = .ok (.putfield 24, 3) := by decide +kernel
theorem dX3_init_44 : decode cX3_init 44 = .ok (.aload_n 0, 1) := by decide +kernel
theorem dX3_init_45 : decode cX3_init 45 = .ok (.iconst 0, 1) := by decide +kernel
theorem dX3_init_46 : decode cX3_init 46 = .ok (.putfield 28, 3) := by decide +kernel
theorem dX3_init_49 : decode cX3_init 49 = .ok (.return_, 1) := by decide +kernel
theorem dX3_sortBlocks_0 : decode cX3_sortBlocks 0 = .ok (.aload_n 0, 1) := by decide +kernel
theorem dX3_sortBlocks_1 : decode cX3_sortBlocks 1 = .ok (.iconst 0, 1) := by decide +kernel
theorem dX3_sortBlocks_2 : decode cX3_sortBlocks 2 = .ok (.putfield 28, 3) := by decide +kernel
theorem dX3_sortBlocks_5 : decode cX3_sortBlocks 5 = .ok (.iconst 0, 1) := by decide +kernel
theorem dX3_sortBlocks_6 : decode cX3_sortBlocks 6 = .ok (.istore_n 3, 1) := by decide +kernel
theorem dX3_sortBlocks_7 : decode cX3_sortBlocks 7 = .ok (.iload_n 3, 1) := by decide +kernel
theorem dX3_sortBlocks_8 : decode cX3_sortBlocks 8 = .ok (.bipush 24, 2) := by decide +kernel
theorem dX3_sortBlocks_10 : decode cX3_sortBlocks 10 = .ok (.if_icmp .ge 68, 3) := by decide +kernel
theorem dX3_sortBlocks_13 : decode cX3_sortBlocks 13 = .ok (.aload_n 0, 1) := by decide +kernel
theorem dX3_sortBlocks_14 : decode cX3_sortBlocks 14 = .ok (.getfield 9, 3) := by decide +kernel
theorem dX3_sortBlocks_17 : decode cX3_sortBlocks 17 = .ok (.iload_n 3, 1) := by decide +kernel
theorem dX3_sortBlocks_18 : decode cX3_sortBlocks 18 = .ok (.aload_n 1, 1) := by decide +kernel
theorem dX3_sortBlocks_19 : decode cX3_sortBlocks 19 = .ok (.iload_n 2, 1) := by decide +kernel
theorem dX3_sortBlocks_20 : decode cX3_sortBlocks 20 = .ok (.iload_n 3, 1) := by decide +kernel
theorem dX3_sortBlocks_21 : decode cX3_sortBlocks 21 = .ok (.invokestatic 32, 3) := by decide +kernel
theorem dX3_sortBlocks_24 : decode cX3_sortBlocks 24 = .ok (.iastore, 1) := by decide +kernel
theorem dX3_sortBlocks_25 : decode cX3_sortBlocks 25 = .ok (.aload_n 0, 1) := by decide +kernel
theorem dX3_sortBlocks_26 : decode cX3_sortBlocks 26 = .ok (.aload_n 0, 1) := by decide +kernel
theorem dX3_sortBlocks_27 : decode cX3_sortBlocks 27 = .ok (.getfield 9, 3) := by decide +kernel
theorem dX3_sortBlocks_30 : decode cX3_sortBlocks 30 = .ok (.iload_n 3, 1) := by decide +kernel
theorem dX3_sortBlocks_31 : decode cX3_sortBlocks 31 = .ok (.iaload, 1) := by decide +kernel
theorem dX3_sortBlocks_32 : decode cX3_sortBlocks 32 = .ok (.invokevirtual 36, 3) := by decide +kernel
theorem dX3_sortBlocks_35 : decode cX3_sortBlocks 35 = .ok (.istore 4, 2) := by decide +kernel
theorem dX3_sortBlocks_37 : decode cX3_sortBlocks 37 = .ok (.iload 4, 2) := by decide +kernel
theorem dX3_sortBlocks_39 : decode cX3_sortBlocks 39 = .ok (.aload_n 0, 1) := by decide +kernel
theorem dX3_sortBlocks_40 : decode cX3_sortBlocks 40 = .ok (.getfield 28, 3) := by decide +kernel
theorem dX3_sortBlocks_43 : decode cX3_sortBlocks 43 = .ok (.if_icmp .ne 21, 3) := by decide +kernel
theorem dX3_sortBlocks_46 : decode cX3_sortBlocks 46 = .ok (.aload_n 0, 1) := by decide +kernel
theorem dX3_sortBlocks_47 : decode cX3_sortBlocks 47 = .ok (.getfield 18, 3) := by decide +kernel
theorem dX3_sortBlocks_50 : decode cX3_sortBlocks 50 = .ok (.iload 4, 2) := by decide +kernel
theorem dX3_sortBlocks_52 : decode cX3_sortBlocks 52 = .ok (.iload_n 3, 1) := by decide +kernel
theorem dX3_sortBlocks_53 : decode cX3_sortBlocks 53 = .ok (.iastore, 1) := by decide +kernel
theorem dX3_sortBlocks_54 : decode cX3_sortBlocks 54 = .ok (.aload_n 0, 1) := by decide +kernel
theorem dX3_sortBlocks_55 : decode cX3_sortBlocks 55 = .ok (.dup, 1) := by decide +kernel
theorem dX3_sortBlocks_56 : decode cX3_sortBlocks 56 = .ok (.getfield 28, 3) := by decide +kernel
theorem dX3_sortBlocks_59 : decode cX3_sortBlocks 59 = .ok (.iconst 1, 1) := by decide +kernel
theorem dX3_sortBlocks_60 : decode cX3_sortBlocks 60 = .ok (.iadd, 1) := by decide +kernel
theorem dX3_sortBlocks_61 : decode cX3_sortBlocks 61 = .ok (.putfield 28, 3) := by decide +kernel
theorem dX3_sortBlocks_64 : decode cX3_sortBlocks 64 = .ok (.aload_n 0, 1) := by decide +kernel
theorem dX3_sortBlocks_65 : decode cX3_sortBlocks 65 = .ok (.getfield 15, 3) := by decide +kernel
theorem dX3_sortBlocks_68 : decode cX3_sortBlocks 68 = .ok (.iload_n 3, 1) := by decide +kernel
theorem dX3_sortBlocks_69 : decode cX3_sortBlocks 69 = .ok (.iload 4, 2) := by decide +kernel
theorem dX3_sortBlocks_71 : decode cX3_sortBlocks 71 = .ok (.iastore, 1) := by decide +kernel
theorem dX3_sortBlocks_72 : decode cX3_sortBlocks 72 = .ok (.iinc 3 1, 3) := by decide +kernel
theorem dX3_sortBlocks_75 : decode cX3_sortBlocks 75 = .ok (.goto (-68), 3) := by decide +kernel
theorem dX3_sortBlocks_78 : decode cX3_sortBlocks 78 = .ok (.return_, 1) := by decide +kernel
theorem dX3_keyOf_0 : decode cX3_keyOf 0 = .ok (.iconst 0, 1) := by decide +kernel
theorem dX3_keyOf_1 : decode cX3_keyOf 1 = .ok (.istore_n 3, 1) := by decide +kernel
theorem dX3_keyOf_2 : decode cX3_keyOf 2 = .ok (.iconst 0, 1) := by decide +kernel
theorem dX3_keyOf_3 : decode cX3_keyOf 3 = .ok (.istore 4, 2) := by decide +kernel
theorem dX3_keyOf_5 : decode cX3_keyOf 5 = .ok (.iload 4, 2) := by decide +kernel
theorem dX3_keyOf_7 : decode cX3_keyOf 7 = .ok (.iconst 4, 1) := by decide +kernel
theorem dX3_keyOf_8 : decode cX3_keyOf 8 = .ok (.if_icmp .ge 32, 3) := by decide +kernel
theorem dX3_keyOf_11 : decode cX3_keyOf 11 = .ok (.iload_n 1, 1) := by decide +kernel
theorem dX3_keyOf_12 : decode cX3_keyOf 12 = .ok (.iload 4, 2) := by decide +kernel
theorem dX3_keyOf_14 : decode cX3_keyOf 14 = .ok (.ishr, 1) := by decide +kernel
theorem dX3_keyOf_15 : decode cX3_keyOf 15 = .ok (.iconst 1, 1) := by decide +kernel
theorem dX3_keyOf_16 : decode cX3_keyOf 16 = .ok (.iand, 1) := by decide +kernel
theorem dX3_keyOf_17 : decode cX3_keyOf 17 = .ok (.iconst 1, 1) := by decide +kernel
theorem dX3_keyOf_18 : decode cX3_keyOf 18 = .ok (.if_icmp .ne 16, 3) := by decide +kernel
theorem dX3_keyOf_21 : decode cX3_keyOf 21 = .ok (.iload_n 3, 1) := by decide +kernel
theorem dX3_keyOf_22 : decode cX3_keyOf 22 = .ok (.bipush 6, 2) := by decide +kernel
theorem dX3_keyOf_24 : decode cX3_keyOf 24 = .ok (.imul, 1) := by decide +kernel
theorem dX3_keyOf_25 : decode cX3_keyOf 25 = .ok (.aload_n 0, 1) := by decide +kernel
theorem dX3_keyOf_26 : decode cX3_keyOf 26 = .ok (.iload 4, 2) := by decide +kernel
theorem dX3_keyOf_28 : decode cX3_keyOf 28 = .ok (.iload_n 2, 1) := by decide +kernel
theorem dX3_keyOf_29 : decode cX3_keyOf 29 = .ok (.invokevirtual 40, 3) := by decide +kernel
theorem dX3_keyOf_32 : decode cX3_keyOf 32 = .ok (.iadd, 1) := by decide +kernel
theorem dX3_keyOf_33 : decode cX3_keyOf 33 = .ok (.istore_n 3, 1) := by decide +kernel
theorem dX3_keyOf_34 : decode cX3_keyOf 34 = .ok (.iinc 4 1, 3) := by decide +kernel
theorem dX3_keyOf_37 : decode cX3_keyOf 37 = .ok (.goto (-32), 3) := by decide +kernel
theorem dX3_keyOf_40 : decode cX3_keyOf 40 = .ok (.iload_n 3, 1) := by decide +kernel
theorem dX3_keyOf_41 : decode cX3_keyOf 41 = .ok (.ireturn, 1) := by decide +kernel
theorem dX3_styleWithKey_0 : decode cX3_styleWithKey 0 = .ok (.iconst 0, 1) := by decide +kernel
theorem dX3_styleWithKey_1 : decode cX3_styleWithKey 1 = .ok (.istore_n 2, 1) := by decide +kernel
theorem dX3_styleWithKey_2 : decode cX3_styleWithKey 2 = .ok (.iload_n 2, 1) := by decide +kernel
theorem dX3_styleWithKey_3 : decode cX3_styleWithKey 3 = .ok (.aload_n 0, 1) := by decide +kernel
theorem dX3_styleWithKey_4 : decode cX3_styleWithKey 4 = .ok (.getfield 28, 3) := by decide +kernel
theorem dX3_styleWithKey_7 : decode cX3_styleWithKey 7 = .ok (.if_icmp .ge 26, 3) := by decide +kernel
theorem dX3_styleWithKey_10 : decode cX3_styleWithKey 10 = .ok (.aload_n 0, 1) := by decide +kernel
theorem dX3_styleWithKey_11 : decode cX3_styleWithKey 11 = .ok (.getfield 9, 3) := by decide +kernel
theorem dX3_styleWithKey_14 : decode cX3_styleWithKey 14 = .ok (.aload_n 0, 1) := by decide +kernel
theorem dX3_styleWithKey_15 : decode cX3_styleWithKey 15 = .ok (.getfield 18, 3) := by decide +kernel
theorem dX3_styleWithKey_18 : decode cX3_styleWithKey 18 = .ok (.iload_n 2, 1) := by decide +kernel
theorem dX3_styleWithKey_19 : decode cX3_styleWithKey 19 = .ok (.iaload, 1) := by decide +kernel
theorem dX3_styleWithKey_20 : decode cX3_styleWithKey 20 = .ok (.iaload, 1) := by decide +kernel
theorem dX3_styleWithKey_21 : decode cX3_styleWithKey 21 = .ok (.iload_n 1, 1) := by decide +kernel
theorem dX3_styleWithKey_22 : decode cX3_styleWithKey 22 = .ok (.if_icmp .ne 5, 3) := by decide +kernel
theorem dX3_styleWithKey_25 : decode cX3_styleWithKey 25 = .ok (.iload_n 2, 1) := by decide +kernel
theorem dX3_styleWithKey_26 : decode cX3_styleWithKey 26 = .ok (.ireturn, 1) := by decide +kernel
theorem dX3_styleWithKey_27 : decode cX3_styleWithKey 27 = .ok (.iinc 2 1, 3) := by decide +kernel
theorem dX3_styleWithKey_30 : decode cX3_styleWithKey 30 = .ok (.goto (-28), 3) := by decide +kernel
theorem dX3_styleWithKey_33 : decode cX3_styleWithKey 33 = .ok (.aload_n 0, 1) := by decide +kernel
theorem dX3_styleWithKey_34 : decode cX3_styleWithKey 34 = .ok (.getfield 28, 3) := by decide +kernel
theorem dX3_styleWithKey_37 : decode cX3_styleWithKey 37 = .ok (.ireturn, 1) := by decide +kernel
theorem dX3_blocksOf_0 : decode cX3_blocksOf 0 = .ok (.iconst 0, 1) := by decide +kernel
theorem dX3_blocksOf_1 : decode cX3_blocksOf 1 = .ok (.istore_n 2, 1) := by decide +kernel
theorem dX3_blocksOf_2 : decode cX3_blocksOf 2 = .ok (.iconst 0, 1) := by decide +kernel
theorem dX3_blocksOf_3 : decode cX3_blocksOf 3 = .ok (.istore_n 3, 1) := by decide +kernel
theorem dX3_blocksOf_4 : decode cX3_blocksOf 4 = .ok (.iload_n 3, 1) := by decide +kernel
theorem dX3_blocksOf_5 : decode cX3_blocksOf 5 = .ok (.bipush 24, 2) := by decide +kernel
theorem dX3_blocksOf_7 : decode cX3_blocksOf 7 = .ok (.if_icmp .ge 22, 3) := by decide +kernel
theorem dX3_blocksOf_10 : decode cX3_blocksOf 10 = .ok (.aload_n 0, 1) := by decide +kernel
theorem dX3_blocksOf_11 : decode cX3_blocksOf 11 = .ok (.getfield 15, 3) := by decide +kernel
theorem dX3_blocksOf_14 : decode cX3_blocksOf 14 = .ok (.iload_n 3, 1) := by decide +kernel
theorem dX3_blocksOf_15 : decode cX3_blocksOf 15 = .ok (.iaload, 1) := by decide +kernel
theorem dX3_blocksOf_16 : decode cX3_blocksOf 16 = .ok (.iload_n 1, 1) := by decide +kernel
theorem dX3_blocksOf_17 : decode cX3_blocksOf 17 = .ok (.if_icmp .ne 6, 3) := by decide +kernel
theorem dX3_blocksOf_20 : decode cX3_blocksOf 20 = .ok (.iinc 2 1, 3) := by decide +kernel
theorem dX3_blocksOf_23 : decode cX3_blocksOf 23 = .ok (.iinc 3 1, 3) := by decide +kernel
theorem dX3_blocksOf_26 : decode cX3_blocksOf 26 = .ok (.goto (-22), 3) := by decide +kernel
theorem dX3_blocksOf_29 : decode cX3_blocksOf 29 = .ok (.iload_n 2, 1) := by decide +kernel
theorem dX3_blocksOf_30 : decode cX3_blocksOf 30 = .ok (.ireturn, 1) := by decide +kernel
theorem dX3_votersOf_0 : decode cX3_votersOf 0 = .ok (.iconst 0, 1) := by decide +kernel
theorem dX3_votersOf_1 : decode cX3_votersOf 1 = .ok (.istore_n 3, 1) := by decide +kernel
theorem dX3_votersOf_2 : decode cX3_votersOf 2 = .ok (.iconst 0, 1) := by decide +kernel
theorem dX3_votersOf_3 : decode cX3_votersOf 3 = .ok (.istore 4, 2) := by decide +kernel
theorem dX3_votersOf_5 : decode cX3_votersOf 5 = .ok (.iload 4, 2) := by decide +kernel
theorem dX3_votersOf_7 : decode cX3_votersOf 7 = .ok (.bipush 24, 2) := by decide +kernel
theorem dX3_votersOf_9 : decode cX3_votersOf 9 = .ok (.if_icmp .ge 30, 3) := by decide +kernel
theorem dX3_votersOf_12 : decode cX3_votersOf 12 = .ok (.aload_n 0, 1) := by decide +kernel
theorem dX3_votersOf_13 : decode cX3_votersOf 13 = .ok (.getfield 15, 3) := by decide +kernel
theorem dX3_votersOf_16 : decode cX3_votersOf 16 = .ok (.iload 4, 2) := by decide +kernel
theorem dX3_votersOf_18 : decode cX3_votersOf 18 = .ok (.iaload, 1) := by decide +kernel
theorem dX3_votersOf_19 : decode cX3_votersOf 19 = .ok (.iload_n 1, 1) := by decide +kernel
theorem dX3_votersOf_20 : decode cX3_votersOf 20 = .ok (.if_icmp .ne 13, 3) := by decide +kernel
theorem dX3_votersOf_23 : decode cX3_votersOf 23 = .ok (.iload_n 3, 1) := by decide +kernel
theorem dX3_votersOf_24 : decode cX3_votersOf 24 = .ok (.aload_n 2, 1) := by decide +kernel
theorem dX3_votersOf_25 : decode cX3_votersOf 25 = .ok (.getfield 46, 3) := by decide +kernel
theorem dX3_votersOf_28 : decode cX3_votersOf 28 = .ok (.iload 4, 2) := by decide +kernel
theorem dX3_votersOf_30 : decode cX3_votersOf 30 = .ok (.iaload, 1) := by decide +kernel
theorem dX3_votersOf_31 : decode cX3_votersOf 31 = .ok (.iadd, 1) := by decide +kernel
theorem dX3_votersOf_32 : decode cX3_votersOf 32 = .ok (.istore_n 3, 1) := by decide +kernel
theorem dX3_votersOf_33 : decode cX3_votersOf 33 = .ok (.iinc 4 1, 3) := by decide +kernel
theorem dX3_votersOf_36 : decode cX3_votersOf 36 = .ok (.goto (-31), 3) := by decide +kernel
theorem dX3_votersOf_39 : decode cX3_votersOf 39 = .ok (.iload_n 3, 1) := by decide +kernel
theorem dX3_votersOf_40 : decode cX3_votersOf 40 = .ok (.ireturn, 1) := by decide +kernel
theorem dX3_partsOf_0 : decode cX3_partsOf 0 = .ok (.iconst 0, 1) := by decide +kernel
theorem dX3_partsOf_1 : decode cX3_partsOf 1 = .ok (.istore_n 2, 1) := by decide +kernel
theorem dX3_partsOf_2 : decode cX3_partsOf 2 = .ok (.iload_n 2, 1) := by decide +kernel
theorem dX3_partsOf_3 : decode cX3_partsOf 3 = .ok (.bipush 24, 2) := by decide +kernel
theorem dX3_partsOf_5 : decode cX3_partsOf 5 = .ok (.if_icmp .ge 30, 3) := by decide +kernel
theorem dX3_partsOf_8 : decode cX3_partsOf 8 = .ok (.aload_n 0, 1) := by decide +kernel
theorem dX3_partsOf_9 : decode cX3_partsOf 9 = .ok (.getfield 24, 3) := by decide +kernel
theorem dX3_partsOf_12 : decode cX3_partsOf 12 = .ok (.iload_n 2, 1) := by decide +kernel
theorem dX3_partsOf_13 : decode cX3_partsOf 13 = .ok (.aload_n 0, 1) := by decide +kernel
theorem dX3_partsOf_14 : decode cX3_partsOf 14 = .ok (.getfield 15, 3) := by decide +kernel
theorem dX3_partsOf_17 : decode cX3_partsOf 17 = .ok (.iload_n 2, 1) := by decide +kernel
theorem dX3_partsOf_18 : decode cX3_partsOf 18 = .ok (.iaload, 1) := by decide +kernel
theorem dX3_partsOf_19 : decode cX3_partsOf 19 = .ok (.iload_n 1, 1) := by decide +kernel
theorem dX3_partsOf_20 : decode cX3_partsOf 20 = .ok (.if_icmp .eq 7, 3) := by decide +kernel
theorem dX3_partsOf_23 : decode cX3_partsOf 23 = .ok (.iconst 1, 1) := by decide +kernel
theorem dX3_partsOf_24 : decode cX3_partsOf 24 = .ok (.goto 4, 3) := by decide +kernel
theorem dX3_partsOf_27 : decode cX3_partsOf 27 = .ok (.iconst 0, 1) := by decide +kernel
theorem dX3_partsOf_28 : decode cX3_partsOf 28 = .ok (.bastore, 1) := by decide +kernel
theorem dX3_partsOf_29 : decode cX3_partsOf 29 = .ok (.iinc 2 1, 3) := by decide +kernel
theorem dX3_partsOf_32 : decode cX3_partsOf 32 = .ok (.goto (-30), 3) := by decide +kernel
theorem dX3_partsOf_35 : decode cX3_partsOf 35 = .ok (.iconst 0, 1) := by decide +kernel
theorem dX3_partsOf_36 : decode cX3_partsOf 36 = .ok (.istore_n 2, 1) := by decide +kernel
theorem dX3_partsOf_37 : decode cX3_partsOf 37 = .ok (.iconst 0, 1) := by decide +kernel
theorem dX3_partsOf_38 : decode cX3_partsOf 38 = .ok (.istore_n 3, 1) := by decide +kernel
theorem dX3_partsOf_39 : decode cX3_partsOf 39 = .ok (.iload_n 3, 1) := by decide +kernel
theorem dX3_partsOf_40 : decode cX3_partsOf 40 = .ok (.bipush 24, 2) := by decide +kernel
theorem dX3_partsOf_42 : decode cX3_partsOf 42 = .ok (.if_icmp .ge 26, 3) := by decide +kernel
theorem dX3_partsOf_45 : decode cX3_partsOf 45 = .ok (.aload_n 0, 1) := by decide +kernel
theorem dX3_partsOf_46 : decode cX3_partsOf 46 = .ok (.getfield 24, 3) := by decide +kernel
theorem dX3_partsOf_49 : decode cX3_partsOf 49 = .ok (.iload_n 3, 1) := by decide +kernel
theorem dX3_partsOf_50 : decode cX3_partsOf 50 = .ok (.baload, 1) := by decide +kernel
theorem dX3_partsOf_51 : decode cX3_partsOf 51 = .ok (.ifCond .ne 11, 3) := by decide +kernel
theorem dX3_partsOf_54 : decode cX3_partsOf 54 = .ok (.iinc 2 1, 3) := by decide +kernel
theorem dX3_partsOf_57 : decode cX3_partsOf 57 = .ok (.aload_n 0, 1) := by decide +kernel
theorem dX3_partsOf_58 : decode cX3_partsOf 58 = .ok (.iload_n 3, 1) := by decide +kernel
theorem dX3_partsOf_59 : decode cX3_partsOf 59 = .ok (.invokevirtual 49, 3) := by decide +kernel
theorem dX3_partsOf_62 : decode cX3_partsOf 62 = .ok (.iinc 3 1, 3) := by decide +kernel
theorem dX3_partsOf_65 : decode cX3_partsOf 65 = .ok (.goto (-26), 3) := by decide +kernel
theorem dX3_partsOf_68 : decode cX3_partsOf 68 = .ok (.iload_n 2, 1) := by decide +kernel
theorem dX3_partsOf_69 : decode cX3_partsOf 69 = .ok (.ireturn, 1) := by decide +kernel
theorem dX3_visitPart_0 : decode cX3_visitPart 0 = .ok (.iconst 1, 1) := by decide +kernel
theorem dX3_visitPart_1 : decode cX3_visitPart 1 = .ok (.istore_n 2, 1) := by decide +kernel
theorem dX3_visitPart_2 : decode cX3_visitPart 2 = .ok (.aload_n 0, 1) := by decide +kernel
theorem dX3_visitPart_3 : decode cX3_visitPart 3 = .ok (.getfield 21, 3) := by decide +kernel
theorem dX3_visitPart_6 : decode cX3_visitPart 6 = .ok (.iconst 0, 1) := by decide +kernel
theorem dX3_visitPart_7 : decode cX3_visitPart 7 = .ok (.iload_n 1, 1) := by decide +kernel
theorem dX3_visitPart_8 : decode cX3_visitPart 8 = .ok (.iastore, 1) := by decide +kernel
theorem dX3_visitPart_9 : decode cX3_visitPart 9 = .ok (.aload_n 0, 1) := by decide +kernel
theorem dX3_visitPart_10 : decode cX3_visitPart 10 = .ok (.getfield 24, 3) := by decide +kernel
theorem dX3_visitPart_13 : decode cX3_visitPart 13 = .ok (.iload_n 1, 1) := by decide +kernel
theorem dX3_visitPart_14 : decode cX3_visitPart 14 = .ok (.iconst 1, 1) := by decide +kernel
theorem dX3_visitPart_15 : decode cX3_visitPart 15 = .ok (.bastore, 1) := by decide +kernel
theorem dX3_visitPart_16 : decode cX3_visitPart 16 = .ok (.iconst 0, 1) := by decide +kernel
theorem dX3_visitPart_17 : decode cX3_visitPart 17 = .ok (.istore_n 3, 1) := by decide +kernel
theorem dX3_visitPart_18 : decode cX3_visitPart 18 = .ok (.iload_n 3, 1) := by decide +kernel
theorem dX3_visitPart_19 : decode cX3_visitPart 19 = .ok (.iload_n 2, 1) := by decide +kernel
theorem dX3_visitPart_20 : decode cX3_visitPart 20 = .ok (.if_icmp .ge 84, 3) := by decide +kernel
theorem dX3_visitPart_23 : decode cX3_visitPart 23 = .ok (.iload_n 3, 1) := by decide +kernel
theorem dX3_visitPart_24 : decode cX3_visitPart 24 = .ok (.bipush 24, 2) := by decide +kernel
theorem dX3_visitPart_26 : decode cX3_visitPart 26 = .ok (.if_icmp .ge 78, 3) := by decide +kernel
theorem dX3_visitPart_29 : decode cX3_visitPart 29 = .ok (.iconst 0, 1) := by decide +kernel
theorem dX3_visitPart_30 : decode cX3_visitPart 30 = .ok (.istore 4, 2) := by decide +kernel
theorem dX3_visitPart_32 : decode cX3_visitPart 32 = .ok (.iload 4, 2) := by decide +kernel
theorem dX3_visitPart_34 : decode cX3_visitPart 34 = .ok (.iconst 4, 1) := by decide +kernel
theorem dX3_visitPart_35 : decode cX3_visitPart 35 = .ok (.if_icmp .ge 63, 3) := by decide +kernel
theorem dX3_visitPart_38 : decode cX3_visitPart 38 = .ok (.aload_n 0, 1) := by decide +kernel
theorem dX3_visitPart_39 : decode cX3_visitPart 39 = .ok (.getfield 21, 3) := by decide +kernel
theorem dX3_visitPart_42 : decode cX3_visitPart 42 = .ok (.iload_n 3, 1) := by decide +kernel
theorem dX3_visitPart_43 : decode cX3_visitPart 43 = .ok (.iaload, 1) := by decide +kernel
theorem dX3_visitPart_44 : decode cX3_visitPart 44 = .ok (.iload 4, 2) := by decide +kernel
theorem dX3_visitPart_46 : decode cX3_visitPart 46 = .ok (.invokestatic 53, 3) := by decide +kernel
theorem dX3_visitPart_49 : decode cX3_visitPart 49 = .ok (.istore 5, 2) := by decide +kernel
theorem dX3_visitPart_51 : decode cX3_visitPart 51 = .ok (.iload 5, 2) := by decide +kernel
theorem dX3_visitPart_53 : decode cX3_visitPart 53 = .ok (.iconst (-1), 1) := by decide +kernel
theorem dX3_visitPart_54 : decode cX3_visitPart 54 = .ok (.if_icmp .eq 38, 3) := by decide +kernel
theorem dX3_visitPart_57 : decode cX3_visitPart 57 = .ok (.aload_n 0, 1) := by decide +kernel
theorem dX3_visitPart_58 : decode cX3_visitPart 58 = .ok (.getfield 24, 3) := by decide +kernel
theorem dX3_visitPart_61 : decode cX3_visitPart 61 = .ok (.iload 5, 2) := by decide +kernel
theorem dX3_visitPart_63 : decode cX3_visitPart 63 = .ok (.baload, 1) := by decide +kernel
theorem dX3_visitPart_64 : decode cX3_visitPart 64 = .ok (.ifCond .ne 28, 3) := by decide +kernel
theorem dX3_visitPart_67 : decode cX3_visitPart 67 = .ok (.iload_n 2, 1) := by decide +kernel
theorem dX3_visitPart_68 : decode cX3_visitPart 68 = .ok (.bipush 24, 2) := by decide +kernel
theorem dX3_visitPart_70 : decode cX3_visitPart 70 = .ok (.if_icmp .ge 22, 3) := by decide +kernel
theorem dX3_visitPart_73 : decode cX3_visitPart 73 = .ok (.aload_n 0, 1) := by decide +kernel
theorem dX3_visitPart_74 : decode cX3_visitPart 74 = .ok (.getfield 24, 3) := by decide +kernel
theorem dX3_visitPart_77 : decode cX3_visitPart 77 = .ok (.iload 5, 2) := by decide +kernel
theorem dX3_visitPart_79 : decode cX3_visitPart 79 = .ok (.iconst 1, 1) := by decide +kernel
theorem dX3_visitPart_80 : decode cX3_visitPart 80 = .ok (.bastore, 1) := by decide +kernel
theorem dX3_visitPart_81 : decode cX3_visitPart 81 = .ok (.aload_n 0, 1) := by decide +kernel
theorem dX3_visitPart_82 : decode cX3_visitPart 82 = .ok (.getfield 21, 3) := by decide +kernel
theorem dX3_visitPart_85 : decode cX3_visitPart 85 = .ok (.iload_n 2, 1) := by decide +kernel
theorem dX3_visitPart_86 : decode cX3_visitPart 86 = .ok (.iload 5, 2) := by decide +kernel
theorem dX3_visitPart_88 : decode cX3_visitPart 88 = .ok (.iastore, 1) := by decide +kernel
theorem dX3_visitPart_89 : decode cX3_visitPart 89 = .ok (.iinc 2 1, 3) := by decide +kernel
theorem dX3_visitPart_92 : decode cX3_visitPart 92 = .ok (.iinc 4 1, 3) := by decide +kernel
theorem dX3_visitPart_95 : decode cX3_visitPart 95 = .ok (.goto (-63), 3) := by decide +kernel
theorem dX3_visitPart_98 : decode cX3_visitPart 98 = .ok (.iinc 3 1, 3) := by decide +kernel
theorem dX3_visitPart_101 : decode cX3_visitPart 101 = .ok (.goto (-83), 3) := by decide +kernel
theorem dX3_visitPart_104 : decode cX3_visitPart 104 = .ok (.return_, 1) := by decide +kernel
theorem dX3_neighbour_0 : decode cX3_neighbour 0 = .ok (.iload_n 0, 1) := by decide +kernel
theorem dX3_neighbour_1 : decode cX3_neighbour 1 = .ok (.iconst 4, 1) := by decide +kernel
theorem dX3_neighbour_2 : decode cX3_neighbour 2 = .ok (.irem, 1) := by decide +kernel
theorem dX3_neighbour_3 : decode cX3_neighbour 3 = .ok (.istore_n 2, 1) := by decide +kernel
theorem dX3_neighbour_4 : decode cX3_neighbour 4 = .ok (.iload_n 1, 1) := by decide +kernel
theorem dX3_neighbour_5 : decode cX3_neighbour 5 = .ok (.tableswitch 66 0 2 #[27, 40, 54], 27) := by decide +kernel
theorem dX3_neighbour_32 : decode cX3_neighbour 32 = .ok (.iload_n 2, 1) := by decide +kernel
theorem dX3_neighbour_33 : decode cX3_neighbour 33 = .ok (.iconst 3, 1) := by decide +kernel
theorem dX3_neighbour_34 : decode cX3_neighbour 34 = .ok (.if_icmp .ge 9, 3) := by decide +kernel
theorem dX3_neighbour_37 : decode cX3_neighbour 37 = .ok (.iload_n 0, 1) := by decide +kernel
theorem dX3_neighbour_38 : decode cX3_neighbour 38 = .ok (.iconst 1, 1) := by decide +kernel
theorem dX3_neighbour_39 : decode cX3_neighbour 39 = .ok (.iadd, 1) := by decide +kernel
theorem dX3_neighbour_40 : decode cX3_neighbour 40 = .ok (.goto 4, 3) := by decide +kernel
theorem dX3_neighbour_43 : decode cX3_neighbour 43 = .ok (.iconst (-1), 1) := by decide +kernel
theorem dX3_neighbour_44 : decode cX3_neighbour 44 = .ok (.ireturn, 1) := by decide +kernel
theorem dX3_neighbour_45 : decode cX3_neighbour 45 = .ok (.iload_n 0, 1) := by decide +kernel
theorem dX3_neighbour_46 : decode cX3_neighbour 46 = .ok (.bipush 20, 2) := by decide +kernel
theorem dX3_neighbour_48 : decode cX3_neighbour 48 = .ok (.if_icmp .ge 9, 3) := by decide +kernel
theorem dX3_neighbour_51 : decode cX3_neighbour 51 = .ok (.iload_n 0, 1) := by decide +kernel
theorem dX3_neighbour_52 : decode cX3_neighbour 52 = .ok (.iconst 4, 1) := by decide +kernel
theorem dX3_neighbour_53 : decode cX3_neighbour 53 = .ok (.iadd, 1) := by decide +kernel
theorem dX3_neighbour_54 : decode cX3_neighbour 54 = .ok (.goto 4, 3) := by decide +kernel
theorem dX3_neighbour_57 : decode cX3_neighbour 57 = .ok (.iconst (-1), 1) := by decide +kernel
theorem dX3_neighbour_58 : decode cX3_neighbour 58 = .ok (.ireturn, 1) := by decide +kernel
theorem dX3_neighbour_59 : decode cX3_neighbour 59 = .ok (.iload_n 2, 1) := by decide +kernel
theorem dX3_neighbour_60 : decode cX3_neighbour 60 = .ok (.ifCond .le 9, 3) := by decide +kernel
theorem dX3_neighbour_63 : decode cX3_neighbour 63 = .ok (.iload_n 0, 1) := by decide +kernel
theorem dX3_neighbour_64 : decode cX3_neighbour 64 = .ok (.iconst 1, 1) := by decide +kernel
theorem dX3_neighbour_65 : decode cX3_neighbour 65 = .ok (.isub, 1) := by decide +kernel
theorem dX3_neighbour_66 : decode cX3_neighbour 66 = .ok (.goto 4, 3) := by decide +kernel
theorem dX3_neighbour_69 : decode cX3_neighbour 69 = .ok (.iconst (-1), 1) := by decide +kernel
theorem dX3_neighbour_70 : decode cX3_neighbour 70 = .ok (.ireturn, 1) := by decide +kernel
theorem dX3_neighbour_71 : decode cX3_neighbour 71 = .ok (.iload_n 0, 1) := by decide +kernel
theorem dX3_neighbour_72 : decode cX3_neighbour 72 = .ok (.iconst 4, 1) := by decide +kernel
theorem dX3_neighbour_73 : decode cX3_neighbour 73 = .ok (.if_icmp .lt 9, 3) := by decide +kernel
theorem dX3_neighbour_76 : decode cX3_neighbour 76 = .ok (.iload_n 0, 1) := by decide +kernel
theorem dX3_neighbour_77 : decode cX3_neighbour 77 = .ok (.iconst 4, 1) := by decide +kernel
theorem dX3_neighbour_78 : decode cX3_neighbour 78 = .ok (.isub, 1) := by decide +kernel
theorem dX3_neighbour_79 : decode cX3_neighbour 79 = .ok (.goto 4, 3) := by decide +kernel
theorem dX3_neighbour_82 : decode cX3_neighbour 82 = .ok (.iconst (-1), 1) := by decide +kernel
theorem dX3_neighbour_83 : decode cX3_neighbour 83 = .ok (.ireturn, 1) := by decide +kernel
theorem dX3_unlikePairs_0 : decode cX3_unlikePairs 0 = .ok (.iconst 0, 1) := by decide +kernel
theorem dX3_unlikePairs_1 : decode cX3_unlikePairs 1 = .ok (.istore_n 1, 1) := by decide +kernel
theorem dX3_unlikePairs_2 : decode cX3_unlikePairs 2 = .ok (.iconst 0, 1) := by decide +kernel
theorem dX3_unlikePairs_3 : decode cX3_unlikePairs 3 = .ok (.istore_n 2, 1) := by decide +kernel
theorem dX3_unlikePairs_4 : decode cX3_unlikePairs 4 = .ok (.iload_n 2, 1) := by decide +kernel
theorem dX3_unlikePairs_5 : decode cX3_unlikePairs 5 = .ok (.bipush 24, 2) := by decide +kernel
theorem dX3_unlikePairs_7 : decode cX3_unlikePairs 7 = .ok (.if_icmp .ge 54, 3) := by decide +kernel
theorem dX3_unlikePairs_10 : decode cX3_unlikePairs 10 = .ok (.iconst 0, 1) := by decide +kernel
theorem dX3_unlikePairs_11 : decode cX3_unlikePairs 11 = .ok (.istore_n 3, 1) := by decide +kernel
theorem dX3_unlikePairs_12 : decode cX3_unlikePairs 12 = .ok (.iload_n 3, 1) := by decide +kernel
theorem dX3_unlikePairs_13 : decode cX3_unlikePairs 13 = .ok (.iconst 2, 1) := by decide +kernel
theorem dX3_unlikePairs_14 : decode cX3_unlikePairs 14 = .ok (.if_icmp .ge 41, 3) := by decide +kernel
theorem dX3_unlikePairs_17 : decode cX3_unlikePairs 17 = .ok (.iload_n 2, 1) := by decide +kernel
theorem dX3_unlikePairs_18 : decode cX3_unlikePairs 18 = .ok (.iload_n 3, 1) := by decide +kernel
theorem dX3_unlikePairs_19 : decode cX3_unlikePairs 19 = .ok (.invokestatic 53, 3) := by decide +kernel
theorem dX3_unlikePairs_22 : decode cX3_unlikePairs 22 = .ok (.istore 4, 2) := by decide +kernel
theorem dX3_unlikePairs_24 : decode cX3_unlikePairs 24 = .ok (.iload 4, 2) := by decide +kernel
theorem dX3_unlikePairs_26 : decode cX3_unlikePairs 26 = .ok (.iconst (-1), 1) := by decide +kernel
theorem dX3_unlikePairs_27 : decode cX3_unlikePairs 27 = .ok (.if_icmp .eq 22, 3) := by decide +kernel
theorem dX3_unlikePairs_30 : decode cX3_unlikePairs 30 = .ok (.aload_n 0, 1) := by decide +kernel
theorem dX3_unlikePairs_31 : decode cX3_unlikePairs 31 = .ok (.getfield 15, 3) := by decide +kernel
theorem dX3_unlikePairs_34 : decode cX3_unlikePairs 34 = .ok (.iload_n 2, 1) := by decide +kernel
theorem dX3_unlikePairs_35 : decode cX3_unlikePairs 35 = .ok (.iaload, 1) := by decide +kernel
theorem dX3_unlikePairs_36 : decode cX3_unlikePairs 36 = .ok (.aload_n 0, 1) := by decide +kernel
theorem dX3_unlikePairs_37 : decode cX3_unlikePairs 37 = .ok (.getfield 15, 3) := by decide +kernel
theorem dX3_unlikePairs_40 : decode cX3_unlikePairs 40 = .ok (.iload 4, 2) := by decide +kernel
theorem dX3_unlikePairs_42 : decode cX3_unlikePairs 42 = .ok (.iaload, 1) := by decide +kernel
theorem dX3_unlikePairs_43 : decode cX3_unlikePairs 43 = .ok (.if_icmp .eq 6, 3) := by decide +kernel
theorem dX3_unlikePairs_46 : decode cX3_unlikePairs 46 = .ok (.iinc 1 1, 3) := by decide +kernel
theorem dX3_unlikePairs_49 : decode cX3_unlikePairs 49 = .ok (.iinc 3 1, 3) := by decide +kernel
theorem dX3_unlikePairs_52 : decode cX3_unlikePairs 52 = .ok (.goto (-40), 3) := by decide +kernel
theorem dX3_unlikePairs_55 : decode cX3_unlikePairs 55 = .ok (.iinc 2 1, 3) := by decide +kernel
theorem dX3_unlikePairs_58 : decode cX3_unlikePairs 58 = .ok (.goto (-54), 3) := by decide +kernel
theorem dX3_unlikePairs_61 : decode cX3_unlikePairs 61 = .ok (.iload_n 1, 1) := by decide +kernel
theorem dX3_unlikePairs_62 : decode cX3_unlikePairs 62 = .ok (.ireturn, 1) := by decide +kernel
theorem dX3_pairsOf_0 : decode cX3_pairsOf 0 = .ok (.iconst 0, 1) := by decide +kernel
theorem dX3_pairsOf_1 : decode cX3_pairsOf 1 = .ok (.istore_n 3, 1) := by decide +kernel
theorem dX3_pairsOf_2 : decode cX3_pairsOf 2 = .ok (.iconst 0, 1) := by decide +kernel
theorem dX3_pairsOf_3 : decode cX3_pairsOf 3 = .ok (.istore 4, 2) := by decide +kernel
theorem dX3_pairsOf_5 : decode cX3_pairsOf 5 = .ok (.iload 4, 2) := by decide +kernel
theorem dX3_pairsOf_7 : decode cX3_pairsOf 7 = .ok (.bipush 24, 2) := by decide +kernel
theorem dX3_pairsOf_9 : decode cX3_pairsOf 9 = .ok (.if_icmp .ge 64, 3) := by decide +kernel
theorem dX3_pairsOf_12 : decode cX3_pairsOf 12 = .ok (.iconst 0, 1) := by decide +kernel
theorem dX3_pairsOf_13 : decode cX3_pairsOf 13 = .ok (.istore 5, 2) := by decide +kernel
theorem dX3_pairsOf_15 : decode cX3_pairsOf 15 = .ok (.iload 5, 2) := by decide +kernel
theorem dX3_pairsOf_17 : decode cX3_pairsOf 17 = .ok (.iconst 2, 1) := by decide +kernel
theorem dX3_pairsOf_18 : decode cX3_pairsOf 18 = .ok (.if_icmp .ge 49, 3) := by decide +kernel
theorem dX3_pairsOf_21 : decode cX3_pairsOf 21 = .ok (.iload 4, 2) := by decide +kernel
theorem dX3_pairsOf_23 : decode cX3_pairsOf 23 = .ok (.iload 5, 2) := by decide +kernel
theorem dX3_pairsOf_25 : decode cX3_pairsOf 25 = .ok (.invokestatic 53, 3) := by decide +kernel
theorem dX3_pairsOf_28 : decode cX3_pairsOf 28 = .ok (.istore 6, 2) := by decide +kernel
theorem dX3_pairsOf_30 : decode cX3_pairsOf 30 = .ok (.iload 6, 2) := by decide +kernel
theorem dX3_pairsOf_32 : decode cX3_pairsOf 32 = .ok (.iconst (-1), 1) := by decide +kernel
theorem dX3_pairsOf_33 : decode cX3_pairsOf 33 = .ok (.if_icmp .eq 28, 3) := by decide +kernel
theorem dX3_pairsOf_36 : decode cX3_pairsOf 36 = .ok (.aload_n 0, 1) := by decide +kernel
theorem dX3_pairsOf_37 : decode cX3_pairsOf 37 = .ok (.getfield 15, 3) := by decide +kernel
theorem dX3_pairsOf_40 : decode cX3_pairsOf 40 = .ok (.iload 4, 2) := by decide +kernel
theorem dX3_pairsOf_42 : decode cX3_pairsOf 42 = .ok (.iaload, 1) := by decide +kernel
theorem dX3_pairsOf_43 : decode cX3_pairsOf 43 = .ok (.aload_n 0, 1) := by decide +kernel
theorem dX3_pairsOf_44 : decode cX3_pairsOf 44 = .ok (.getfield 15, 3) := by decide +kernel
theorem dX3_pairsOf_47 : decode cX3_pairsOf 47 = .ok (.iload 6, 2) := by decide +kernel
theorem dX3_pairsOf_49 : decode cX3_pairsOf 49 = .ok (.iaload, 1) := by decide +kernel
theorem dX3_pairsOf_50 : decode cX3_pairsOf 50 = .ok (.iload_n 1, 1) := by decide +kernel
theorem dX3_pairsOf_51 : decode cX3_pairsOf 51 = .ok (.iload_n 2, 1) := by decide +kernel
theorem dX3_pairsOf_52 : decode cX3_pairsOf 52 = .ok (.invokestatic 56, 3) := by decide +kernel
theorem dX3_pairsOf_55 : decode cX3_pairsOf 55 = .ok (.ifCond .eq 6, 3) := by decide +kernel
theorem dX3_pairsOf_58 : decode cX3_pairsOf 58 = .ok (.iinc 3 1, 3) := by decide +kernel
theorem dX3_pairsOf_61 : decode cX3_pairsOf 61 = .ok (.iinc 5 1, 3) := by decide +kernel
theorem dX3_pairsOf_64 : decode cX3_pairsOf 64 = .ok (.goto (-49), 3) := by decide +kernel
theorem dX3_pairsOf_67 : decode cX3_pairsOf 67 = .ok (.iinc 4 1, 3) := by decide +kernel
theorem dX3_pairsOf_70 : decode cX3_pairsOf 70 = .ok (.goto (-65), 3) := by decide +kernel
theorem dX3_pairsOf_73 : decode cX3_pairsOf 73 = .ok (.iload_n 3, 1) := by decide +kernel
theorem dX3_pairsOf_74 : decode cX3_pairsOf 74 = .ok (.ireturn, 1) := by decide +kernel
theorem dX3_arePair_0 : decode cX3_arePair 0 = .ok (.iload_n 0, 1) := by decide +kernel
theorem dX3_arePair_1 : decode cX3_arePair 1 = .ok (.iload_n 2, 1) := by decide +kernel
theorem dX3_arePair_2 : decode cX3_arePair 2 = .ok (.if_icmp .ne 8, 3) := by decide +kernel
theorem dX3_arePair_5 : decode cX3_arePair 5 = .ok (.iload_n 1, 1) := by decide +kernel
theorem dX3_arePair_6 : decode cX3_arePair 6 = .ok (.iload_n 3, 1) := by decide +kernel
theorem dX3_arePair_7 : decode cX3_arePair 7 = .ok (.if_icmp .eq 13, 3) := by decide +kernel
theorem dX3_arePair_10 : decode cX3_arePair 10 = .ok (.iload_n 0, 1) := by decide +kernel
theorem dX3_arePair_11 : decode cX3_arePair 11 = .ok (.iload_n 3, 1) := by decide +kernel
theorem dX3_arePair_12 : decode cX3_arePair 12 = .ok (.if_icmp .ne 12, 3) := by decide +kernel
theorem dX3_arePair_15 : decode cX3_arePair 15 = .ok (.iload_n 1, 1) := by decide +kernel
theorem dX3_arePair_16 : decode cX3_arePair 16 = .ok (.iload_n 2, 1) := by decide +kernel
theorem dX3_arePair_17 : decode cX3_arePair 17 = .ok (.if_icmp .ne 7, 3) := by decide +kernel
theorem dX3_arePair_20 : decode cX3_arePair 20 = .ok (.iconst 1, 1) := by decide +kernel
theorem dX3_arePair_21 : decode cX3_arePair 21 = .ok (.goto 4, 3) := by decide +kernel
theorem dX3_arePair_24 : decode cX3_arePair 24 = .ok (.iconst 0, 1) := by decide +kernel
theorem dX3_arePair_25 : decode cX3_arePair 25 = .ok (.ireturn, 1) := by decide +kernel
theorem dX3_fewestVoters_0 : decode cX3_fewestVoters 0 = .ok (.iconst 0, 1) := by decide +kernel
theorem dX3_fewestVoters_1 : decode cX3_fewestVoters 1 = .ok (.istore_n 2, 1) := by decide +kernel
theorem dX3_fewestVoters_2 : decode cX3_fewestVoters 2 = .ok (.aload_n 0, 1) := by decide +kernel
theorem dX3_fewestVoters_3 : decode cX3_fewestVoters 3 = .ok (.iconst 0, 1) := by decide +kernel
theorem dX3_fewestVoters_4 : decode cX3_fewestVoters 4 = .ok (.aload_n 1, 1) := by decide +kernel
theorem dX3_fewestVoters_5 : decode cX3_fewestVoters 5 = .ok (.invokevirtual 60, 3) := by decide +kernel
theorem dX3_fewestVoters_8 : decode cX3_fewestVoters 8 = .ok (.istore_n 3, 1) := by decide +kernel
theorem dX3_fewestVoters_9 : decode cX3_fewestVoters 9 = .ok (.iconst 1, 1) := by decide +kernel
theorem dX3_fewestVoters_10 : decode cX3_fewestVoters 10 = .ok (.istore 4, 2) := by decide +kernel
theorem dX3_fewestVoters_12 : decode cX3_fewestVoters 12 = .ok (.iload 4, 2) := by decide +kernel
theorem dX3_fewestVoters_14 : decode cX3_fewestVoters 14 = .ok (.aload_n 0, 1) := by decide +kernel
theorem dX3_fewestVoters_15 : decode cX3_fewestVoters 15 = .ok (.getfield 28, 3) := by decide +kernel
theorem dX3_fewestVoters_18 : decode cX3_fewestVoters 18 = .ok (.if_icmp .ge 30, 3) := by decide +kernel
theorem dX3_fewestVoters_21 : decode cX3_fewestVoters 21 = .ok (.aload_n 0, 1) := by decide +kernel
theorem dX3_fewestVoters_22 : decode cX3_fewestVoters 22 = .ok (.iload 4, 2) := by decide +kernel
theorem dX3_fewestVoters_24 : decode cX3_fewestVoters 24 = .ok (.aload_n 1, 1) := by decide +kernel
theorem dX3_fewestVoters_25 : decode cX3_fewestVoters 25 = .ok (.invokevirtual 60, 3) := by decide +kernel
theorem dX3_fewestVoters_28 : decode cX3_fewestVoters 28 = .ok (.istore 5, 2) := by decide +kernel
theorem dX3_fewestVoters_30 : decode cX3_fewestVoters 30 = .ok (.iload 5, 2) := by decide +kernel
theorem dX3_fewestVoters_32 : decode cX3_fewestVoters 32 = .ok (.iload_n 3, 1) := by decide +kernel
theorem dX3_fewestVoters_33 : decode cX3_fewestVoters 33 = .ok (.if_icmp .ge 9, 3) := by decide +kernel
theorem dX3_fewestVoters_36 : decode cX3_fewestVoters 36 = .ok (.iload 4, 2) := by decide +kernel
theorem dX3_fewestVoters_38 : decode cX3_fewestVoters 38 = .ok (.istore_n 2, 1) := by decide +kernel
theorem dX3_fewestVoters_39 : decode cX3_fewestVoters 39 = .ok (.iload 5, 2) := by decide +kernel
theorem dX3_fewestVoters_41 : decode cX3_fewestVoters 41 = .ok (.istore_n 3, 1) := by decide +kernel
theorem dX3_fewestVoters_42 : decode cX3_fewestVoters 42 = .ok (.iinc 4 1, 3) := by decide +kernel
theorem dX3_fewestVoters_45 : decode cX3_fewestVoters 45 = .ok (.goto (-33), 3) := by decide +kernel
theorem dX3_fewestVoters_48 : decode cX3_fewestVoters 48 = .ok (.iload_n 2, 1) := by decide +kernel
theorem dX3_fewestVoters_49 : decode cX3_fewestVoters 49 = .ok (.ireturn, 1) := by decide +kernel
theorem dX3_mostParts_0 : decode cX3_mostParts 0 = .ok (.iconst 0, 1) := by decide +kernel
theorem dX3_mostParts_1 : decode cX3_mostParts 1 = .ok (.istore_n 1, 1) := by decide +kernel
theorem dX3_mostParts_2 : decode cX3_mostParts 2 = .ok (.aload_n 0, 1) := by decide +kernel
theorem dX3_mostParts_3 : decode cX3_mostParts 3 = .ok (.iconst 0, 1) := by decide +kernel
theorem dX3_mostParts_4 : decode cX3_mostParts 4 = .ok (.invokevirtual 64, 3) := by decide +kernel
theorem dX3_mostParts_7 : decode cX3_mostParts 7 = .ok (.istore_n 2, 1) := by decide +kernel
theorem dX3_mostParts_8 : decode cX3_mostParts 8 = .ok (.iconst 1, 1) := by decide +kernel
theorem dX3_mostParts_9 : decode cX3_mostParts 9 = .ok (.istore_n 3, 1) := by decide +kernel
theorem dX3_mostParts_10 : decode cX3_mostParts 10 = .ok (.iload_n 3, 1) := by decide +kernel
theorem dX3_mostParts_11 : decode cX3_mostParts 11 = .ok (.aload_n 0, 1) := by decide +kernel
theorem dX3_mostParts_12 : decode cX3_mostParts 12 = .ok (.getfield 28, 3) := by decide +kernel
theorem dX3_mostParts_15 : decode cX3_mostParts 15 = .ok (.if_icmp .ge 27, 3) := by decide +kernel
theorem dX3_mostParts_18 : decode cX3_mostParts 18 = .ok (.aload_n 0, 1) := by decide +kernel
theorem dX3_mostParts_19 : decode cX3_mostParts 19 = .ok (.iload_n 3, 1) := by decide +kernel
theorem dX3_mostParts_20 : decode cX3_mostParts 20 = .ok (.invokevirtual 64, 3) := by decide +kernel
theorem dX3_mostParts_23 : decode cX3_mostParts 23 = .ok (.istore 4, 2) := by decide +kernel
theorem dX3_mostParts_25 : decode cX3_mostParts 25 = .ok (.iload 4, 2) := by decide +kernel
theorem dX3_mostParts_27 : decode cX3_mostParts 27 = .ok (.iload_n 2, 1) := by decide +kernel
theorem dX3_mostParts_28 : decode cX3_mostParts 28 = .ok (.if_icmp .le 8, 3) := by decide +kernel
theorem dX3_mostParts_31 : decode cX3_mostParts 31 = .ok (.iload_n 3, 1) := by decide +kernel
theorem dX3_mostParts_32 : decode cX3_mostParts 32 = .ok (.istore_n 1, 1) := by decide +kernel
theorem dX3_mostParts_33 : decode cX3_mostParts 33 = .ok (.iload 4, 2) := by decide +kernel
theorem dX3_mostParts_35 : decode cX3_mostParts 35 = .ok (.istore_n 2, 1) := by decide +kernel
theorem dX3_mostParts_36 : decode cX3_mostParts 36 = .ok (.iinc 3 1, 3) := by decide +kernel
theorem dX3_mostParts_39 : decode cX3_mostParts 39 = .ok (.goto (-29), 3) := by decide +kernel
theorem dX3_mostParts_42 : decode cX3_mostParts 42 = .ok (.iload_n 1, 1) := by decide +kernel
theorem dX3_mostParts_43 : decode cX3_mostParts 43 = .ok (.ireturn, 1) := by decide +kernel
theorem dX4_init_0 : decode cX4_init 0 = .ok (.aload_n 0, 1) := by decide +kernel
theorem dX4_init_1 : decode cX4_init 1 = .ok (.invokespecial 3, 3) := by decide +kernel
theorem dX4_init_4 : decode cX4_init 4 = .ok (.aload_n 0, 1) := by decide +kernel
theorem dX4_init_5 : decode cX4_init 5 = .ok (.bipush 24, 2) := by decide +kernel
theorem dX4_init_7 : decode cX4_init 7 = .ok (.newarray .int, 2) := by decide +kernel
theorem dX4_init_9 : decode cX4_init 9 = .ok (.putfield 9, 3) := by decide +kernel
theorem dX4_init_12 : decode cX4_init 12 = .ok (.aload_n 0, 1) := by decide +kernel
theorem dX4_init_13 : decode cX4_init 13 = .ok (.bipush 96, 2) := by decide +kernel
theorem dX4_init_15 : decode cX4_init 15 = .ok (.newarray .int, 2) := by decide +kernel
theorem dX4_init_17 : decode cX4_init 17 = .ok (.putfield 15, 3) := by decide +kernel
theorem dX4_init_20 : decode cX4_init 20 = .ok (.aload_n 0, 1) := by decide +kernel
theorem dX4_init_21 : decode cX4_init 21 = .ok (.bipush 24, 2) := by decide +kernel
theorem dX4_init_23 : decode cX4_init 23 = .ok (.newarray .int, 2) := by decide +kernel
theorem dX4_init_25 : decode cX4_init 25 = .ok (.putfield 18, 3) := by decide +kernel
theorem dX4_init_28 : decode cX4_init 28 = .ok (.aload_n 0, 1) := by decide +kernel
theorem dX4_init_29 : decode cX4_init 29 = .ok (.iconst 1, 1) := by decide +kernel
theorem dX4_init_30 : decode cX4_init 30 = .ok (.putfield 21, 3) := by decide +kernel
theorem dX4_init_33 : decode cX4_init 33 = .ok (.iconst 0, 1) := by decide +kernel
theorem dX4_init_34 : decode cX4_init 34 = .ok (.istore_n 1, 1) := by decide +kernel
theorem dX4_init_35 : decode cX4_init 35 = .ok (.iload_n 1, 1) := by decide +kernel
theorem dX4_init_36 : decode cX4_init 36 = .ok (.bipush 24, 2) := by decide +kernel
theorem dX4_init_38 : decode cX4_init 38 = .ok (.if_icmp .ge 16, 3) := by decide +kernel
theorem dX4_init_41 : decode cX4_init 41 = .ok (.aload_n 0, 1) := by decide +kernel
theorem dX4_init_42 : decode cX4_init 42 = .ok (.getfield 9, 3) := by decide +kernel
theorem dX4_init_45 : decode cX4_init 45 = .ok (.iload_n 1, 1) := by decide +kernel
theorem dX4_init_46 : decode cX4_init 46 = .ok (.iconst 1, 1) := by decide +kernel
theorem dX4_init_47 : decode cX4_init 47 = .ok (.iastore, 1) := by decide +kernel
theorem dX4_init_48 : decode cX4_init 48 = .ok (.iinc 1 1, 3) := by decide +kernel
theorem dX4_init_51 : decode cX4_init 51 = .ok (.goto (-16), 3) := by decide +kernel
theorem dX4_init_54 : decode cX4_init 54 = .ok (.iconst 0, 1) := by decide +kernel
theorem dX4_init_55 : decode cX4_init 55 = .ok (.istore_n 1, 1) := by decide +kernel
theorem dX4_init_56 : decode cX4_init 56 = .ok (.iload_n 1, 1) := by decide +kernel
theorem dX4_init_57 : decode cX4_init 57 = .ok (.bipush 24, 2) := by decide +kernel
theorem dX4_init_59 : decode cX4_init 59 = .ok (.if_icmp .ge 16, 3) := by decide +kernel
theorem dX4_init_62 : decode cX4_init 62 = .ok (.aload_n 0, 1) := by decide +kernel
theorem dX4_init_63 : decode cX4_init 63 = .ok (.getfield 18, 3) := by decide +kernel
theorem dX4_init_66 : decode cX4_init 66 = .ok (.iload_n 1, 1) := by decide +kernel
theorem dX4_init_67 : decode cX4_init 67 = .ok (.iconst 2, 1) := by decide +kernel
theorem dX4_init_68 : decode cX4_init 68 = .ok (.iastore, 1) := by decide +kernel
theorem dX4_init_69 : decode cX4_init 69 = .ok (.iinc 1 1, 3) := by decide +kernel
theorem dX4_init_72 : decode cX4_init 72 = .ok (.goto (-16), 3) := by decide +kernel
theorem dX4_init_75 : decode cX4_init 75 = .ok (.return_, 1) := by decide +kernel
theorem dX4_copyFrom_0 : decode cX4_copyFrom 0 = .ok (.aload_n 1, 1) := by decide +kernel
theorem dX4_copyFrom_1 : decode cX4_copyFrom 1 = .ok (.getfield 9, 3) := by decide +kernel
theorem dX4_copyFrom_4 : decode cX4_copyFrom 4 = .ok (.iconst 0, 1) := by decide +kernel
theorem dX4_copyFrom_5 : decode cX4_copyFrom 5 = .ok (.aload_n 0, 1) := by decide +kernel
theorem dX4_copyFrom_6 : decode cX4_copyFrom 6 = .ok (.getfield 9, 3) := by decide +kernel
theorem dX4_copyFrom_9 : decode cX4_copyFrom 9 = .ok (.iconst 0, 1) := by decide +kernel
theorem dX4_copyFrom_10 : decode cX4_copyFrom 10 = .ok (.bipush 24, 2) := by decide +kernel
theorem dX4_copyFrom_12 : decode cX4_copyFrom 12 = .ok (.invokestatic 25, 3) := by decide +kernel
theorem dX4_copyFrom_15 : decode cX4_copyFrom 15 = .ok (.aload_n 1, 1) := by decide +kernel
theorem dX4_copyFrom_16 : decode cX4_copyFrom 16 = .ok (.getfield 15, 3) := by decide +kernel
theorem dX4_copyFrom_19 : decode cX4_copyFrom 19 = .ok (.iconst 0, 1) := by decide +kernel
theorem dX4_copyFrom_20 : decode cX4_copyFrom 20 = .ok (.aload_n 0, 1) := by decide +kernel
theorem dX4_copyFrom_21 : decode cX4_copyFrom 21 = .ok (.getfield 15, 3) := by decide +kernel
theorem dX4_copyFrom_24 : decode cX4_copyFrom 24 = .ok (.iconst 0, 1) := by decide +kernel
theorem dX4_copyFrom_25 : decode cX4_copyFrom 25 = .ok (.bipush 96, 2) := by decide +kernel
theorem dX4_copyFrom_27 : decode cX4_copyFrom 27 = .ok (.invokestatic 25, 3) := by decide +kernel
theorem dX4_copyFrom_30 : decode cX4_copyFrom 30 = .ok (.aload_n 1, 1) := by decide +kernel
theorem dX4_copyFrom_31 : decode cX4_copyFrom 31 = .ok (.getfield 18, 3) := by decide +kernel
theorem dX4_copyFrom_34 : decode cX4_copyFrom 34 = .ok (.iconst 0, 1) := by decide +kernel
theorem dX4_copyFrom_35 : decode cX4_copyFrom 35 = .ok (.aload_n 0, 1) := by decide +kernel
theorem dX4_copyFrom_36 : decode cX4_copyFrom 36 = .ok (.getfield 18, 3) := by decide +kernel
theorem dX4_copyFrom_39 : decode cX4_copyFrom 39 = .ok (.iconst 0, 1) := by decide +kernel
theorem dX4_copyFrom_40 : decode cX4_copyFrom 40 = .ok (.bipush 24, 2) := by decide +kernel
theorem dX4_copyFrom_42 : decode cX4_copyFrom 42 = .ok (.invokestatic 25, 3) := by decide +kernel
theorem dX4_copyFrom_45 : decode cX4_copyFrom 45 = .ok (.aload_n 0, 1) := by decide +kernel
theorem dX4_copyFrom_46 : decode cX4_copyFrom 46 = .ok (.aload_n 1, 1) := by decide +kernel
theorem dX4_copyFrom_47 : decode cX4_copyFrom 47 = .ok (.getfield 21, 3) := by decide +kernel
theorem dX4_copyFrom_50 : decode cX4_copyFrom 50 = .ok (.putfield 21, 3) := by decide +kernel
theorem dX4_copyFrom_53 : decode cX4_copyFrom 53 = .ok (.return_, 1) := by decide +kernel
theorem dX4_isOn_0 : decode cX4_isOn 0 = .ok (.aload_n 0, 1) := by decide +kernel
theorem dX4_isOn_1 : decode cX4_isOn 1 = .ok (.getfield 21, 3) := by decide +kernel
theorem dX4_isOn_4 : decode cX4_isOn 4 = .ok (.iload_n 1, 1) := by decide +kernel
theorem dX4_isOn_5 : decode cX4_isOn 5 = .ok (.ishr, 1) := by decide +kernel
theorem dX4_isOn_6 : decode cX4_isOn 6 = .ok (.iconst 1, 1) := by decide +kernel
theorem dX4_isOn_7 : decode cX4_isOn 7 = .ok (.iand, 1) := by decide +kernel
theorem dX4_isOn_8 : decode cX4_isOn 8 = .ok (.iconst 1, 1) := by decide +kernel
theorem dX4_isOn_9 : decode cX4_isOn 9 = .ok (.if_icmp .ne 7, 3) := by decide +kernel
theorem dX4_isOn_12 : decode cX4_isOn 12 = .ok (.iconst 1, 1) := by decide +kernel
theorem dX4_isOn_13 : decode cX4_isOn 13 = .ok (.goto 4, 3) := by decide +kernel
theorem dX4_isOn_16 : decode cX4_isOn 16 = .ok (.iconst 0, 1) := by decide +kernel
theorem dX4_isOn_17 : decode cX4_isOn 17 = .ok (.ireturn, 1) := by decide +kernel
theorem dX4_districtOf_0 : decode cX4_districtOf 0 = .ok (.aload_n 0, 1) := by decide +kernel
theorem dX4_districtOf_1 : decode cX4_districtOf 1 = .ok (.getfield 15, 3) := by decide +kernel
theorem dX4_districtOf_4 : decode cX4_districtOf 4 = .ok (.iload_n 1, 1) := by decide +kernel
theorem dX4_districtOf_5 : decode cX4_districtOf 5 = .ok (.bipush 24, 2) := by decide +kernel
theorem dX4_districtOf_7 : decode cX4_districtOf 7 = .ok (.imul, 1) := by decide +kernel
theorem dX4_districtOf_8 : decode cX4_districtOf 8 = .ok (.iload_n 2, 1) := by decide +kernel
theorem dX4_districtOf_9 : decode cX4_districtOf 9 = .ok (.iadd, 1) := by decide +kernel
theorem dX4_districtOf_10 : decode cX4_districtOf 10 = .ok (.iaload, 1) := by decide +kernel
theorem dX4_districtOf_11 : decode cX4_districtOf 11 = .ok (.ireturn, 1) := by decide +kernel
theorem dX4_namesOf_0 : decode cX4_namesOf 0 = .ok (.aload_n 0, 1) := by decide +kernel
theorem dX4_namesOf_1 : decode cX4_namesOf 1 = .ok (.getfield 18, 3) := by decide +kernel
theorem dX4_namesOf_4 : decode cX4_namesOf 4 = .ok (.iload_n 1, 1) := by decide +kernel
theorem dX4_namesOf_5 : decode cX4_namesOf 5 = .ok (.bipush 6, 2) := by decide +kernel
theorem dX4_namesOf_7 : decode cX4_namesOf 7 = .ok (.imul, 1) := by decide +kernel
theorem dX4_namesOf_8 : decode cX4_namesOf 8 = .ok (.iload_n 2, 1) := by decide +kernel
theorem dX4_namesOf_9 : decode cX4_namesOf 9 = .ok (.iadd, 1) := by decide +kernel
theorem dX4_namesOf_10 : decode cX4_namesOf 10 = .ok (.iaload, 1) := by decide +kernel
theorem dX4_namesOf_11 : decode cX4_namesOf 11 = .ok (.ireturn, 1) := by decide +kernel
theorem dX4_heightAt_0 : decode cX4_heightAt 0 = .ok (.iconst 2, 1) := by decide +kernel
theorem dX4_heightAt_1 : decode cX4_heightAt 1 = .ok (.aload_n 0, 1) := by decide +kernel
theorem dX4_heightAt_2 : decode cX4_heightAt 2 = .ok (.iload_n 1, 1) := by decide +kernel
theorem dX4_heightAt_3 : decode cX4_heightAt 3 = .ok (.aload_n 0, 1) := by decide +kernel
theorem dX4_heightAt_4 : decode cX4_heightAt 4 = .ok (.iload_n 1, 1) := by decide +kernel
theorem dX4_heightAt_5 : decode cX4_heightAt 5 = .ok (.iload_n 2, 1) := by decide +kernel
theorem dX4_heightAt_6 : decode cX4_heightAt 6 = .ok (.invokevirtual 31, 3) := by decide +kernel
theorem dX4_heightAt_9 : decode cX4_heightAt 9 = .ok (.invokevirtual 35, 3) := by decide +kernel
theorem dX4_heightAt_12 : decode cX4_heightAt 12 = .ok (.iadd, 1) := by decide +kernel
theorem dX4_heightAt_13 : decode cX4_heightAt 13 = .ok (.ireturn, 1) := by decide +kernel
theorem dX4_switchLayer_0 : decode cX4_switchLayer 0 = .ok (.aload_n 0, 1) := by decide +kernel
theorem dX4_switchLayer_1 : decode cX4_switchLayer 1 = .ok (.getfield 21, 3) := by decide +kernel
theorem dX4_switchLayer_4 : decode cX4_switchLayer 4 = .ok (.iload_n 1, 1) := by decide +kernel
theorem dX4_switchLayer_5 : decode cX4_switchLayer 5 = .ok (.ishr, 1) := by decide +kernel
theorem dX4_switchLayer_6 : decode cX4_switchLayer 6 = .ok (.iconst 1, 1) := by decide +kernel
theorem dX4_switchLayer_7 : decode cX4_switchLayer 7 = .ok (.iand, 1) := by decide +kernel
theorem dX4_switchLayer_8 : decode cX4_switchLayer 8 = .ok (.istore_n 3, 1) := by decide +kernel
theorem dX4_switchLayer_9 : decode cX4_switchLayer 9 = .ok (.aload_n 0, 1) := by decide +kernel
theorem dX4_switchLayer_10 : decode cX4_switchLayer 10 = .ok (.iload_n 2, 1) := by decide +kernel
theorem dX4_switchLayer_11 : decode cX4_switchLayer 11 = .ok (.iconst 1, 1) := by decide +kernel
theorem dX4_switchLayer_12 : decode cX4_switchLayer 12 = .ok (.if_icmp .ne 14, 3) := by decide +kernel
theorem dX4_switchLayer_15 : decode cX4_switchLayer 15 = .ok (.aload_n 0, 1) := by decide +kernel
theorem dX4_switchLayer_16 : decode cX4_switchLayer 16 = .ok (.getfield 21, 3) := by decide +kernel
theorem dX4_switchLayer_19 : decode cX4_switchLayer 19 = .ok (.iconst 1, 1) := by decide +kernel
theorem dX4_switchLayer_20 : decode cX4_switchLayer 20 = .ok (.iload_n 1, 1) := by decide +kernel
theorem dX4_switchLayer_21 : decode cX4_switchLayer 21 = .ok (.ishl, 1) := by decide +kernel
theorem dX4_switchLayer_22 : decode cX4_switchLayer 22 = .ok (.ior, 1) := by decide +kernel
theorem dX4_switchLayer_23 : decode cX4_switchLayer 23 = .ok (.goto 13, 3) := by decide +kernel
theorem dX4_switchLayer_26 : decode cX4_switchLayer 26 = .ok (.aload_n 0, 1) := by decide +kernel
theorem dX4_switchLayer_27 : decode cX4_switchLayer 27 = .ok (.getfield 21, 3) := by decide +kernel
theorem dX4_switchLayer_30 : decode cX4_switchLayer 30 = .ok (.iconst 1, 1) := by decide +kernel
theorem dX4_switchLayer_31 : decode cX4_switchLayer 31 = .ok (.iload_n 1, 1) := by decide +kernel
theorem dX4_switchLayer_32 : decode cX4_switchLayer 32 = .ok (.ishl, 1) := by decide +kernel
theorem dX4_switchLayer_33 : decode cX4_switchLayer 33 = .ok (.iconst (-1), 1) := by decide +kernel
theorem dX4_switchLayer_34 : decode cX4_switchLayer 34 = .ok (.ixor, 1) := by decide +kernel
theorem dX4_switchLayer_35 : decode cX4_switchLayer 35 = .ok (.iand, 1) := by decide +kernel
theorem dX4_switchLayer_36 : decode cX4_switchLayer 36 = .ok (.putfield 21, 3) := by decide +kernel
theorem dX4_switchLayer_39 : decode cX4_switchLayer 39 = .ok (.iload_n 3, 1) := by decide +kernel
theorem dX4_switchLayer_40 : decode cX4_switchLayer 40 = .ok (.iload_n 2, 1) := by decide +kernel
theorem dX4_switchLayer_41 : decode cX4_switchLayer 41 = .ok (.if_icmp .ne 7, 3) := by decide +kernel
theorem dX4_switchLayer_44 : decode cX4_switchLayer 44 = .ok (.iconst 0, 1) := by decide +kernel
theorem dX4_switchLayer_45 : decode cX4_switchLayer 45 = .ok (.goto 4, 3) := by decide +kernel
theorem dX4_switchLayer_48 : decode cX4_switchLayer 48 = .ok (.iconst 1, 1) := by decide +kernel
theorem dX4_switchLayer_49 : decode cX4_switchLayer 49 = .ok (.ireturn, 1) := by decide +kernel
theorem dX4_setNames_0 : decode cX4_setNames 0 = .ok (.aload_n 0, 1) := by decide +kernel
theorem dX4_setNames_1 : decode cX4_setNames 1 = .ok (.getfield 18, 3) := by decide +kernel
theorem dX4_setNames_4 : decode cX4_setNames 4 = .ok (.iload_n 1, 1) := by decide +kernel
theorem dX4_setNames_5 : decode cX4_setNames 5 = .ok (.bipush 6, 2) := by decide +kernel
theorem dX4_setNames_7 : decode cX4_setNames 7 = .ok (.imul, 1) := by decide +kernel
theorem dX4_setNames_8 : decode cX4_setNames 8 = .ok (.iload_n 2, 1) := by decide +kernel
theorem dX4_setNames_9 : decode cX4_setNames 9 = .ok (.iadd, 1) := by decide +kernel
theorem dX4_setNames_10 : decode cX4_setNames 10 = .ok (.iaload, 1) := by decide +kernel
theorem dX4_setNames_11 : decode cX4_setNames 11 = .ok (.istore 4, 2) := by decide +kernel
theorem dX4_setNames_13 : decode cX4_setNames 13 = .ok (.aload_n 0, 1) := by decide +kernel
theorem dX4_setNames_14 : decode cX4_setNames 14 = .ok (.getfield 18, 3) := by decide +kernel
theorem dX4_setNames_17 : decode cX4_setNames 17 = .ok (.iload_n 1, 1) := by decide +kernel
theorem dX4_setNames_18 : decode cX4_setNames 18 = .ok (.bipush 6, 2) := by decide +kernel
theorem dX4_setNames_20 : decode cX4_setNames 20 = .ok (.imul, 1) := by decide +kernel
theorem dX4_setNames_21 : decode cX4_setNames 21 = .ok (.iload_n 2, 1) := by decide +kernel
theorem dX4_setNames_22 : decode cX4_setNames 22 = .ok (.iadd, 1) := by decide +kernel
theorem dX4_setNames_23 : decode cX4_setNames 23 = .ok (.iload_n 3, 1) := by decide +kernel
theorem dX4_setNames_24 : decode cX4_setNames 24 = .ok (.iastore, 1) := by decide +kernel
theorem dX4_setNames_25 : decode cX4_setNames 25 = .ok (.iload 4, 2) := by decide +kernel
theorem dX4_setNames_27 : decode cX4_setNames 27 = .ok (.ireturn, 1) := by decide +kernel
theorem dX4_setVoters_0 : decode cX4_setVoters 0 = .ok (.aload_n 0, 1) := by decide +kernel
theorem dX4_setVoters_1 : decode cX4_setVoters 1 = .ok (.getfield 9, 3) := by decide +kernel
theorem dX4_setVoters_4 : decode cX4_setVoters 4 = .ok (.iload_n 1, 1) := by decide +kernel
theorem dX4_setVoters_5 : decode cX4_setVoters 5 = .ok (.iaload, 1) := by decide +kernel
theorem dX4_setVoters_6 : decode cX4_setVoters 6 = .ok (.istore_n 3, 1) := by decide +kernel
theorem dX4_setVoters_7 : decode cX4_setVoters 7 = .ok (.aload_n 0, 1) := by decide +kernel
theorem dX4_setVoters_8 : decode cX4_setVoters 8 = .ok (.getfield 9, 3) := by decide +kernel
theorem dX4_setVoters_11 : decode cX4_setVoters 11 = .ok (.iload_n 1, 1) := by decide +kernel
theorem dX4_setVoters_12 : decode cX4_setVoters 12 = .ok (.iload_n 2, 1) := by decide +kernel
theorem dX4_setVoters_13 : decode cX4_setVoters 13 = .ok (.iastore, 1) := by decide +kernel
theorem dX4_setVoters_14 : decode cX4_setVoters 14 = .ok (.iload_n 3, 1) := by decide +kernel
theorem dX4_setVoters_15 : decode cX4_setVoters 15 = .ok (.ireturn, 1) := by decide +kernel
theorem dX4_setDistrict_0 : decode cX4_setDistrict 0 = .ok (.aload_n 0, 1) := by decide +kernel
theorem dX4_setDistrict_1 : decode cX4_setDistrict 1 = .ok (.getfield 15, 3) := by decide +kernel
theorem dX4_setDistrict_4 : decode cX4_setDistrict 4 = .ok (.iload_n 1, 1) := by decide +kernel
theorem dX4_setDistrict_5 : decode cX4_setDistrict 5 = .ok (.bipush 24, 2) := by decide +kernel
theorem dX4_setDistrict_7 : decode cX4_setDistrict 7 = .ok (.imul, 1) := by decide +kernel
theorem dX4_setDistrict_8 : decode cX4_setDistrict 8 = .ok (.iload_n 2, 1) := by decide +kernel
theorem dX4_setDistrict_9 : decode cX4_setDistrict 9 = .ok (.iadd, 1) := by decide +kernel
theorem dX4_setDistrict_10 : decode cX4_setDistrict 10 = .ok (.iaload, 1) := by decide +kernel
theorem dX4_setDistrict_11 : decode cX4_setDistrict 11 = .ok (.istore 4, 2) := by decide +kernel
theorem dX4_setDistrict_13 : decode cX4_setDistrict 13 = .ok (.aload_n 0, 1) := by decide +kernel
theorem dX4_setDistrict_14 : decode cX4_setDistrict 14 = .ok (.getfield 15, 3) := by decide +kernel
theorem dX4_setDistrict_17 : decode cX4_setDistrict 17 = .ok (.iload_n 1, 1) := by decide +kernel
theorem dX4_setDistrict_18 : decode cX4_setDistrict 18 = .ok (.bipush 24, 2) := by decide +kernel
theorem dX4_setDistrict_20 : decode cX4_setDistrict 20 = .ok (.imul, 1) := by decide +kernel
theorem dX4_setDistrict_21 : decode cX4_setDistrict 21 = .ok (.iload_n 2, 1) := by decide +kernel
theorem dX4_setDistrict_22 : decode cX4_setDistrict 22 = .ok (.iadd, 1) := by decide +kernel
theorem dX4_setDistrict_23 : decode cX4_setDistrict 23 = .ok (.iload_n 3, 1) := by decide +kernel
theorem dX4_setDistrict_24 : decode cX4_setDistrict 24 = .ok (.iastore, 1) := by decide +kernel
theorem dX4_setDistrict_25 : decode cX4_setDistrict 25 = .ok (.iload 4, 2) := by decide +kernel
theorem dX4_setDistrict_27 : decode cX4_setDistrict 27 = .ok (.iload_n 3, 1) := by decide +kernel
theorem dX4_setDistrict_28 : decode cX4_setDistrict 28 = .ok (.if_icmp .ne 7, 3) := by decide +kernel
theorem dX4_setDistrict_31 : decode cX4_setDistrict 31 = .ok (.iconst 0, 1) := by decide +kernel
theorem dX4_setDistrict_32 : decode cX4_setDistrict 32 = .ok (.goto 4, 3) := by decide +kernel
theorem dX4_setDistrict_35 : decode cX4_setDistrict 35 = .ok (.iconst 1, 1) := by decide +kernel
theorem dX4_setDistrict_36 : decode cX4_setDistrict 36 = .ok (.ireturn, 1) := by decide +kernel
theorem dX4_putRectangle_0 : decode cX4_putRectangle 0 = .ok (.iconst 0, 1) := by decide +kernel
theorem dX4_putRectangle_1 : decode cX4_putRectangle 1 = .ok (.istore 5, 2) := by decide +kernel
theorem dX4_putRectangle_3 : decode cX4_putRectangle 3 = .ok (.iload_n 3, 1) := by decide +kernel
theorem dX4_putRectangle_4 : decode cX4_putRectangle 4 = .ok (.iconst 4, 1) := by decide +kernel
theorem dX4_putRectangle_5 : decode cX4_putRectangle 5 = .ok (.idiv, 1) := by decide +kernel
theorem dX4_putRectangle_6 : decode cX4_putRectangle 6 = .ok (.istore 6, 2) := by decide +kernel
theorem dX4_putRectangle_8 : decode cX4_putRectangle 8 = .ok (.iload 6, 2) := by decide +kernel
theorem dX4_putRectangle_10 : decode cX4_putRectangle 10 = .ok (.iload 4, 2) := by decide +kernel
theorem dX4_putRectangle_12 : decode cX4_putRectangle 12 = .ok (.iconst 4, 1) := by decide +kernel
theorem dX4_putRectangle_13 : decode cX4_putRectangle 13 = .ok (.idiv, 1) := by decide +kernel
theorem dX4_putRectangle_14 : decode cX4_putRectangle 14 = .ok (.if_icmp .gt 47, 3) := by decide +kernel
theorem dX4_putRectangle_17 : decode cX4_putRectangle 17 = .ok (.iload_n 3, 1) := by decide +kernel
theorem dX4_putRectangle_18 : decode cX4_putRectangle 18 = .ok (.iconst 4, 1) := by decide +kernel
theorem dX4_putRectangle_19 : decode cX4_putRectangle 19 = .ok (.irem, 1) := by decide +kernel
theorem dX4_putRectangle_20 : decode cX4_putRectangle 20 = .ok (.istore 7, 2) := by decide +kernel
theorem dX4_putRectangle_22 : decode cX4_putRectangle 22 = .ok (.iload 7, 2) := by decide +kernel
theorem dX4_putRectangle_24 : decode cX4_putRectangle 24 = .ok (.iload 4, 2) := by decide +kernel
theorem dX4_putRectangle_26 : decode cX4_putRectangle 26 = .ok (.iconst 4, 1) := by decide +kernel
theorem dX4_putRectangle_27 : decode cX4_putRectangle 27 = .ok (.irem, 1) := by decide +kernel
theorem dX4_putRectangle_28 : decode cX4_putRectangle 28 = .ok (.if_icmp .gt 27, 3) := by decide +kernel
theorem dX4_putRectangle_31 : decode cX4_putRectangle 31 = .ok (.iload 5, 2) := by decide +kernel
theorem dX4_putRectangle_33 : decode cX4_putRectangle 33 = .ok (.aload_n 0, 1) := by decide +kernel
theorem dX4_putRectangle_34 : decode cX4_putRectangle 34 = .ok (.iload_n 1, 1) := by decide +kernel
theorem dX4_putRectangle_35 : decode cX4_putRectangle 35 = .ok (.iconst 4, 1) := by decide +kernel
theorem dX4_putRectangle_36 : decode cX4_putRectangle 36 = .ok (.iload 6, 2) := by decide +kernel
theorem dX4_putRectangle_38 : decode cX4_putRectangle 38 = .ok (.imul, 1) := by decide +kernel
theorem dX4_putRectangle_39 : decode cX4_putRectangle 39 = .ok (.iload 7, 2) := by decide +kernel
theorem dX4_putRectangle_41 : decode cX4_putRectangle 41 = .ok (.iadd, 1) := by decide +kernel
theorem dX4_putRectangle_42 : decode cX4_putRectangle 42 = .ok (.iload_n 2, 1) := by decide +kernel
theorem dX4_putRectangle_43 : decode cX4_putRectangle 43 = .ok (.invokevirtual 38, 3) := by decide +kernel
theorem dX4_putRectangle_46 : decode cX4_putRectangle 46 = .ok (.iadd, 1) := by decide +kernel
theorem dX4_putRectangle_47 : decode cX4_putRectangle 47 = .ok (.istore 5, 2) := by decide +kernel
theorem dX4_putRectangle_49 : decode cX4_putRectangle 49 = .ok (.iinc 7 1, 3) := by decide +kernel
theorem dX4_putRectangle_52 : decode cX4_putRectangle 52 = .ok (.goto (-30), 3) := by decide +kernel
theorem dX4_putRectangle_55 : decode cX4_putRectangle 55 = .ok (.iinc 6 1, 3) := by decide +kernel
theorem dX4_putRectangle_58 : decode cX4_putRectangle 58 = .ok (.goto (-50), 3) := by decide +kernel
theorem dX4_putRectangle_61 : decode cX4_putRectangle 61 = .ok (.iload 5, 2) := by decide +kernel
theorem dX4_putRectangle_63 : decode cX4_putRectangle 63 = .ok (.ireturn, 1) := by decide +kernel
theorem dX4_drawLayer_0 : decode cX4_drawLayer 0 = .ok (.iload_n 2, 1) := by decide +kernel
theorem dX4_drawLayer_1 : decode cX4_drawLayer 1 = .ok (.i2l, 1) := by decide +kernel
theorem dX4_drawLayer_2 : decode cX4_drawLayer 2 = .ok (.lstore 4, 2) := by decide +kernel
theorem dX4_drawLayer_4 : decode cX4_drawLayer 4 = .ok (.iconst 0, 1) := by decide +kernel
theorem dX4_drawLayer_5 : decode cX4_drawLayer 5 = .ok (.istore 6, 2) := by decide +kernel
theorem dX4_drawLayer_7 : decode cX4_drawLayer 7 = .ok (.iconst 0, 1) := by decide +kernel
theorem dX4_drawLayer_8 : decode cX4_drawLayer 8 = .ok (.istore 7, 2) := by decide +kernel
theorem dX4_drawLayer_10 : decode cX4_drawLayer 10 = .ok (.iload 7, 2) := by decide +kernel
theorem dX4_drawLayer_12 : decode cX4_drawLayer 12 = .ok (.bipush 24, 2) := by decide +kernel
theorem dX4_drawLayer_14 : decode cX4_drawLayer 14 = .ok (.if_icmp .ge 73, 3) := by decide +kernel
theorem dX4_drawLayer_17 : decode cX4_drawLayer 17 = .ok (.lload 4, 2) := by decide +kernel
theorem dX4_drawLayer_19 : decode cX4_drawLayer 19 = .ok (.ldc2_w 42, 3) := by decide +kernel
theorem dX4_drawLayer_22 : decode cX4_drawLayer 22 = .ok (.lmul, 1) := by decide +kernel
theorem dX4_drawLayer_23 : decode cX4_drawLayer 23 = .ok (.ldc2_w 44, 3) := by decide +kernel
theorem dX4_drawLayer_26 : decode cX4_drawLayer 26 = .ok (.ladd, 1) := by decide +kernel
theorem dX4_drawLayer_27 : decode cX4_drawLayer 27 = .ok (.ldc2_w 46, 3) := by decide +kernel
theorem dX4_drawLayer_30 : decode cX4_drawLayer 30 = .ok (.lrem, 1) := by decide +kernel
theorem dX4_drawLayer_31 : decode cX4_drawLayer 31 = .ok (.lstore 4, 2) := by decide +kernel
theorem dX4_drawLayer_33 : decode cX4_drawLayer 33 = .ok (.aload_n 0, 1) := by decide +kernel
theorem dX4_drawLayer_34 : decode cX4_drawLayer 34 = .ok (.iload_n 1, 1) := by decide +kernel
theorem dX4_drawLayer_35 : decode cX4_drawLayer 35 = .ok (.iload 7, 2) := by decide +kernel
theorem dX4_drawLayer_37 : decode cX4_drawLayer 37 = .ok (.lload 4, 2) := by decide +kernel
theorem dX4_drawLayer_39 : decode cX4_drawLayer 39 = .ok (.ldc2_w 48, 3) := by decide +kernel
theorem dX4_drawLayer_42 : decode cX4_drawLayer 42 = .ok (.ldiv, 1) := by decide +kernel
theorem dX4_drawLayer_43 : decode cX4_drawLayer 43 = .ok (.iload_n 3, 1) := by decide +kernel
theorem dX4_drawLayer_44 : decode cX4_drawLayer 44 = .ok (.i2l, 1) := by decide +kernel
theorem dX4_drawLayer_45 : decode cX4_drawLayer 45 = .ok (.lrem, 1) := by decide +kernel
theorem dX4_drawLayer_46 : decode cX4_drawLayer 46 = .ok (.l2i, 1) := by decide +kernel
theorem dX4_drawLayer_47 : decode cX4_drawLayer 47 = .ok (.invokevirtual 38, 3) := by decide +kernel
theorem dX4_drawLayer_50 : decode cX4_drawLayer 50 = .ok (.pop, 1) := by decide +kernel
theorem dX4_drawLayer_51 : decode cX4_drawLayer 51 = .ok (.aload_n 0, 1) := by decide +kernel
theorem dX4_drawLayer_52 : decode cX4_drawLayer 52 = .ok (.getfield 9, 3) := by decide +kernel
theorem dX4_drawLayer_55 : decode cX4_drawLayer 55 = .ok (.iload 7, 2) := by decide +kernel
theorem dX4_drawLayer_57 : decode cX4_drawLayer 57 = .ok (.lload 4, 2) := by decide +kernel
theorem dX4_drawLayer_59 : decode cX4_drawLayer 59 = .ok (.ldc2_w 50, 3) := by decide +kernel
theorem dX4_drawLayer_62 : decode cX4_drawLayer 62 = .ok (.ldiv, 1) := by decide +kernel
theorem dX4_drawLayer_63 : decode cX4_drawLayer 63 = .ok (.ldc2_w 52, 3) := by decide +kernel
theorem dX4_drawLayer_66 : decode cX4_drawLayer 66 = .ok (.lrem, 1) := by decide +kernel
theorem dX4_drawLayer_67 : decode cX4_drawLayer 67 = .ok (.l2i, 1) := by decide +kernel
theorem dX4_drawLayer_68 : decode cX4_drawLayer 68 = .ok (.iastore, 1) := by decide +kernel
theorem dX4_drawLayer_69 : decode cX4_drawLayer 69 = .ok (.iload 6, 2) := by decide +kernel
theorem dX4_drawLayer_71 : decode cX4_drawLayer 71 = .ok (.aload_n 0, 1) := by decide +kernel
theorem dX4_drawLayer_72 : decode cX4_drawLayer 72 = .ok (.getfield 9, 3) := by decide +kernel
theorem dX4_drawLayer_75 : decode cX4_drawLayer 75 = .ok (.iload 7, 2) := by decide +kernel
theorem dX4_drawLayer_77 : decode cX4_drawLayer 77 = .ok (.iaload, 1) := by decide +kernel
theorem dX4_drawLayer_78 : decode cX4_drawLayer 78 = .ok (.iadd, 1) := by decide +kernel
theorem dX4_drawLayer_79 : decode cX4_drawLayer 79 = .ok (.istore 6, 2) := by decide +kernel
theorem dX4_drawLayer_81 : decode cX4_drawLayer 81 = .ok (.iinc 7 1, 3) := by decide +kernel
theorem dX4_drawLayer_84 : decode cX4_drawLayer 84 = .ok (.goto (-74), 3) := by decide +kernel
theorem dX4_drawLayer_87 : decode cX4_drawLayer 87 = .ok (.iload 6, 2) := by decide +kernel
theorem dX4_drawLayer_89 : decode cX4_drawLayer 89 = .ok (.ireturn, 1) := by decide +kernel
theorem dX4_followMap_0 : decode cX4_followMap 0 = .ok (.iconst 0, 1) := by decide +kernel
theorem dX4_followMap_1 : decode cX4_followMap 1 = .ok (.istore 5, 2) := by decide +kernel
theorem dX4_followMap_3 : decode cX4_followMap 3 = .ok (.iconst 0, 1) := by decide +kernel
theorem dX4_followMap_4 : decode cX4_followMap 4 = .ok (.istore 6, 2) := by decide +kernel
theorem dX4_followMap_6 : decode cX4_followMap 6 = .ok (.iload 6, 2) := by decide +kernel
theorem dX4_followMap_8 : decode cX4_followMap 8 = .ok (.bipush 24, 2) := by decide +kernel
theorem dX4_followMap_10 : decode cX4_followMap 10 = .ok (.if_icmp .ge 31, 3) := by decide +kernel
theorem dX4_followMap_13 : decode cX4_followMap 13 = .ok (.iload 5, 2) := by decide +kernel
theorem dX4_followMap_15 : decode cX4_followMap 15 = .ok (.aload_n 0, 1) := by decide +kernel
theorem dX4_followMap_16 : decode cX4_followMap 16 = .ok (.iload_n 2, 1) := by decide +kernel
theorem dX4_followMap_17 : decode cX4_followMap 17 = .ok (.iload 6, 2) := by decide +kernel
theorem dX4_followMap_19 : decode cX4_followMap 19 = .ok (.aload_n 1, 1) := by decide +kernel
theorem dX4_followMap_20 : decode cX4_followMap 20 = .ok (.iload_n 2, 1) := by decide +kernel
theorem dX4_followMap_21 : decode cX4_followMap 21 = .ok (.iload_n 3, 1) := by decide +kernel
theorem dX4_followMap_22 : decode cX4_followMap 22 = .ok (.iload 4, 2) := by decide +kernel
theorem dX4_followMap_24 : decode cX4_followMap 24 = .ok (.iload 6, 2) := by decide +kernel
theorem dX4_followMap_26 : decode cX4_followMap 26 = .ok (.invokestatic 54, 3) := by decide +kernel
theorem dX4_followMap_29 : decode cX4_followMap 29 = .ok (.invokevirtual 38, 3) := by decide +kernel
theorem dX4_followMap_32 : decode cX4_followMap 32 = .ok (.iadd, 1) := by decide +kernel
theorem dX4_followMap_33 : decode cX4_followMap 33 = .ok (.istore 5, 2) := by decide +kernel
theorem dX4_followMap_35 : decode cX4_followMap 35 = .ok (.iinc 6 1, 3) := by decide +kernel
theorem dX4_followMap_38 : decode cX4_followMap 38 = .ok (.goto (-32), 3) := by decide +kernel
theorem dX4_followMap_41 : decode cX4_followMap 41 = .ok (.iload 5, 2) := by decide +kernel
theorem dX4_followMap_43 : decode cX4_followMap 43 = .ok (.ireturn, 1) := by decide +kernel
theorem dX4_followed_0 : decode cX4_followed 0 = .ok (.iload 4, 2) := by decide +kernel
theorem dX4_followed_2 : decode cX4_followed 2 = .ok (.iconst 4, 1) := by decide +kernel
theorem dX4_followed_3 : decode cX4_followed 3 = .ok (.irem, 1) := by decide +kernel
theorem dX4_followed_4 : decode cX4_followed 4 = .ok (.istore 5, 2) := by decide +kernel
theorem dX4_followed_6 : decode cX4_followed 6 = .ok (.iload_n 2, 1) := by decide +kernel
theorem dX4_followed_7 : decode cX4_followed 7 = .ok (.tableswitch 68 0 2 #[25, 33, 51], 25) := by decide +kernel
theorem dX4_followed_32 : decode cX4_followed 32 = .ok (.aload_n 0, 1) := by decide +kernel
theorem dX4_followed_33 : decode cX4_followed 33 = .ok (.iload_n 3, 1) := by decide +kernel
theorem dX4_followed_34 : decode cX4_followed 34 = .ok (.iload 4, 2) := by decide +kernel
theorem dX4_followed_36 : decode cX4_followed 36 = .ok (.invokevirtual 31, 3) := by decide +kernel
theorem dX4_followed_39 : decode cX4_followed 39 = .ok (.ireturn, 1) := by decide +kernel
theorem dX4_followed_40 : decode cX4_followed 40 = .ok (.aload_n 0, 1) := by decide +kernel
theorem dX4_followed_41 : decode cX4_followed 41 = .ok (.iload_n 1, 1) := by decide +kernel
theorem dX4_followed_42 : decode cX4_followed 42 = .ok (.iload 4, 2) := by decide +kernel
theorem dX4_followed_44 : decode cX4_followed 44 = .ok (.iload 5, 2) := by decide +kernel
theorem dX4_followed_46 : decode cX4_followed 46 = .ok (.isub, 1) := by decide +kernel
theorem dX4_followed_47 : decode cX4_followed 47 = .ok (.iconst 4, 1) := by decide +kernel
theorem dX4_followed_48 : decode cX4_followed 48 = .ok (.iadd, 1) := by decide +kernel
theorem dX4_followed_49 : decode cX4_followed 49 = .ok (.iconst 1, 1) := by decide +kernel
theorem dX4_followed_50 : decode cX4_followed 50 = .ok (.isub, 1) := by decide +kernel
theorem dX4_followed_51 : decode cX4_followed 51 = .ok (.iload 5, 2) := by decide +kernel
theorem dX4_followed_53 : decode cX4_followed 53 = .ok (.isub, 1) := by decide +kernel
theorem dX4_followed_54 : decode cX4_followed 54 = .ok (.invokevirtual 31, 3) := by decide +kernel
theorem dX4_followed_57 : decode cX4_followed 57 = .ok (.ireturn, 1) := by decide +kernel
theorem dX4_followed_58 : decode cX4_followed 58 = .ok (.aload_n 0, 1) := by decide +kernel
theorem dX4_followed_59 : decode cX4_followed 59 = .ok (.iload_n 1, 1) := by decide +kernel
theorem dX4_followed_60 : decode cX4_followed 60 = .ok (.bipush 20, 2) := by decide +kernel
theorem dX4_followed_62 : decode cX4_followed 62 = .ok (.iload 4, 2) := by decide +kernel
theorem dX4_followed_64 : decode cX4_followed 64 = .ok (.iload 5, 2) := by decide +kernel
theorem dX4_followed_66 : decode cX4_followed 66 = .ok (.isub, 1) := by decide +kernel
theorem dX4_followed_67 : decode cX4_followed 67 = .ok (.isub, 1) := by decide +kernel
theorem dX4_followed_68 : decode cX4_followed 68 = .ok (.iload 5, 2) := by decide +kernel
theorem dX4_followed_70 : decode cX4_followed 70 = .ok (.iadd, 1) := by decide +kernel
theorem dX4_followed_71 : decode cX4_followed 71 = .ok (.invokevirtual 31, 3) := by decide +kernel
theorem dX4_followed_74 : decode cX4_followed 74 = .ok (.ireturn, 1) := by decide +kernel
theorem dX4_followed_75 : decode cX4_followed 75 = .ok (.aload_n 0, 1) := by decide +kernel
theorem dX4_followed_76 : decode cX4_followed 76 = .ok (.iload_n 1, 1) := by decide +kernel
theorem dX4_followed_77 : decode cX4_followed 77 = .ok (.iload 4, 2) := by decide +kernel
theorem dX4_followed_79 : decode cX4_followed 79 = .ok (.invokevirtual 31, 3) := by decide +kernel
theorem dX4_followed_82 : decode cX4_followed 82 = .ok (.aload_n 0, 1) := by decide +kernel
theorem dX4_followed_83 : decode cX4_followed 83 = .ok (.iload_n 3, 1) := by decide +kernel
theorem dX4_followed_84 : decode cX4_followed 84 = .ok (.iload 4, 2) := by decide +kernel
theorem dX4_followed_86 : decode cX4_followed 86 = .ok (.invokevirtual 31, 3) := by decide +kernel
theorem dX4_followed_89 : decode cX4_followed 89 = .ok (.invokestatic 58, 3) := by decide +kernel
theorem dX4_followed_92 : decode cX4_followed 92 = .ok (.ireturn, 1) := by decide +kernel
theorem dX4_leaderIn_0 : decode cX4_leaderIn 0 = .ok (.aload_n 0, 1) := by decide +kernel
theorem dX4_leaderIn_1 : decode cX4_leaderIn 1 = .ok (.iload_n 1, 1) := by decide +kernel
theorem dX4_leaderIn_2 : decode cX4_leaderIn 2 = .ok (.iload_n 2, 1) := by decide +kernel
theorem dX4_leaderIn_3 : decode cX4_leaderIn 3 = .ok (.invokevirtual 31, 3) := by decide +kernel
theorem dX4_leaderIn_6 : decode cX4_leaderIn 6 = .ok (.istore_n 3, 1) := by decide +kernel
theorem dX4_leaderIn_7 : decode cX4_leaderIn 7 = .ok (.iconst 0, 1) := by decide +kernel
theorem dX4_leaderIn_8 : decode cX4_leaderIn 8 = .ok (.istore 4, 2) := by decide +kernel
theorem dX4_leaderIn_10 : decode cX4_leaderIn 10 = .ok (.iconst 0, 1) := by decide +kernel
theorem dX4_leaderIn_11 : decode cX4_leaderIn 11 = .ok (.istore 5, 2) := by decide +kernel
theorem dX4_leaderIn_13 : decode cX4_leaderIn 13 = .ok (.iload 5, 2) := by decide +kernel
theorem dX4_leaderIn_15 : decode cX4_leaderIn 15 = .ok (.iload_n 2, 1) := by decide +kernel
theorem dX4_leaderIn_16 : decode cX4_leaderIn 16 = .ok (.if_icmp .ge 30, 3) := by decide +kernel
theorem dX4_leaderIn_19 : decode cX4_leaderIn 19 = .ok (.aload_n 0, 1) := by decide +kernel
theorem dX4_leaderIn_20 : decode cX4_leaderIn 20 = .ok (.iload_n 1, 1) := by decide +kernel
theorem dX4_leaderIn_21 : decode cX4_leaderIn 21 = .ok (.iload 5, 2) := by decide +kernel
theorem dX4_leaderIn_23 : decode cX4_leaderIn 23 = .ok (.invokevirtual 31, 3) := by decide +kernel
theorem dX4_leaderIn_26 : decode cX4_leaderIn 26 = .ok (.iload_n 3, 1) := by decide +kernel
theorem dX4_leaderIn_27 : decode cX4_leaderIn 27 = .ok (.if_icmp .ne 13, 3) := by decide +kernel
theorem dX4_leaderIn_30 : decode cX4_leaderIn 30 = .ok (.aload_n 0, 1) := by decide +kernel
theorem dX4_leaderIn_31 : decode cX4_leaderIn 31 = .ok (.iload_n 1, 1) := by decide +kernel
theorem dX4_leaderIn_32 : decode cX4_leaderIn 32 = .ok (.iload_n 3, 1) := by decide +kernel
theorem dX4_leaderIn_33 : decode cX4_leaderIn 33 = .ok (.iload 4, 2) := by decide +kernel
theorem dX4_leaderIn_35 : decode cX4_leaderIn 35 = .ok (.invokevirtual 63, 3) := by decide +kernel
theorem dX4_leaderIn_38 : decode cX4_leaderIn 38 = .ok (.istore 4, 2) := by decide +kernel
theorem dX4_leaderIn_40 : decode cX4_leaderIn 40 = .ok (.iinc 5 1, 3) := by decide +kernel
theorem dX4_leaderIn_43 : decode cX4_leaderIn 43 = .ok (.goto (-30), 3) := by decide +kernel
theorem dX4_leaderIn_46 : decode cX4_leaderIn 46 = .ok (.iload 4, 2) := by decide +kernel
theorem dX4_leaderIn_48 : decode cX4_leaderIn 48 = .ok (.ireturn, 1) := by decide +kernel
theorem dX4_nextLeader_0 : decode cX4_nextLeader 0 = .ok (.iload_n 3, 1) := by decide +kernel
theorem dX4_nextLeader_1 : decode cX4_nextLeader 1 = .ok (.iconst 1, 1) := by decide +kernel
theorem dX4_nextLeader_2 : decode cX4_nextLeader 2 = .ok (.iadd, 1) := by decide +kernel
theorem dX4_nextLeader_3 : decode cX4_nextLeader 3 = .ok (.aload_n 0, 1) := by decide +kernel
theorem dX4_nextLeader_4 : decode cX4_nextLeader 4 = .ok (.iload_n 1, 1) := by decide +kernel
theorem dX4_nextLeader_5 : decode cX4_nextLeader 5 = .ok (.iload_n 2, 1) := by decide +kernel
theorem dX4_nextLeader_6 : decode cX4_nextLeader 6 = .ok (.invokevirtual 35, 3) := by decide +kernel
theorem dX4_nextLeader_9 : decode cX4_nextLeader 9 = .ok (.if_icmp .ge 9, 3) := by decide +kernel
theorem dX4_nextLeader_12 : decode cX4_nextLeader 12 = .ok (.iload_n 3, 1) := by decide +kernel
theorem dX4_nextLeader_13 : decode cX4_nextLeader 13 = .ok (.iconst 1, 1) := by decide +kernel
theorem dX4_nextLeader_14 : decode cX4_nextLeader 14 = .ok (.iadd, 1) := by decide +kernel
theorem dX4_nextLeader_15 : decode cX4_nextLeader 15 = .ok (.goto 4, 3) := by decide +kernel
theorem dX4_nextLeader_18 : decode cX4_nextLeader 18 = .ok (.iconst 0, 1) := by decide +kernel
theorem dX4_nextLeader_19 : decode cX4_nextLeader 19 = .ok (.ireturn, 1) := by decide +kernel
theorem dX4_ledBy_0 : decode cX4_ledBy 0 = .ok (.iconst 0, 1) := by decide +kernel
theorem dX4_ledBy_1 : decode cX4_ledBy 1 = .ok (.istore 5, 2) := by decide +kernel
theorem dX4_ledBy_3 : decode cX4_ledBy 3 = .ok (.iconst 0, 1) := by decide +kernel
theorem dX4_ledBy_4 : decode cX4_ledBy 4 = .ok (.istore 6, 2) := by decide +kernel
theorem dX4_ledBy_6 : decode cX4_ledBy 6 = .ok (.iconst 0, 1) := by decide +kernel
theorem dX4_ledBy_7 : decode cX4_ledBy 7 = .ok (.istore 7, 2) := by decide +kernel
theorem dX4_ledBy_9 : decode cX4_ledBy 9 = .ok (.iload 7, 2) := by decide +kernel
theorem dX4_ledBy_11 : decode cX4_ledBy 11 = .ok (.bipush 24, 2) := by decide +kernel
theorem dX4_ledBy_13 : decode cX4_ledBy 13 = .ok (.if_icmp .ge 57, 3) := by decide +kernel
theorem dX4_ledBy_16 : decode cX4_ledBy 16 = .ok (.aload_n 0, 1) := by decide +kernel
theorem dX4_ledBy_17 : decode cX4_ledBy 17 = .ok (.iload_n 1, 1) := by decide +kernel
theorem dX4_ledBy_18 : decode cX4_ledBy 18 = .ok (.iload 7, 2) := by decide +kernel
theorem dX4_ledBy_20 : decode cX4_ledBy 20 = .ok (.invokevirtual 31, 3) := by decide +kernel
theorem dX4_ledBy_23 : decode cX4_ledBy 23 = .ok (.iload_n 2, 1) := by decide +kernel
theorem dX4_ledBy_24 : decode cX4_ledBy 24 = .ok (.if_icmp .ne 40, 3) := by decide +kernel
theorem dX4_ledBy_27 : decode cX4_ledBy 27 = .ok (.iload 6, 2) := by decide +kernel
theorem dX4_ledBy_29 : decode cX4_ledBy 29 = .ok (.iload_n 3, 1) := by decide +kernel
theorem dX4_ledBy_30 : decode cX4_ledBy 30 = .ok (.if_icmp .ne 24, 3) := by decide +kernel
theorem dX4_ledBy_33 : decode cX4_ledBy 33 = .ok (.iload 5, 2) := by decide +kernel
theorem dX4_ledBy_35 : decode cX4_ledBy 35 = .ok (.iload 4, 2) := by decide +kernel
theorem dX4_ledBy_37 : decode cX4_ledBy 37 = .ok (.ifCond .eq 13, 3) := by decide +kernel
theorem dX4_ledBy_40 : decode cX4_ledBy 40 = .ok (.aload_n 0, 1) := by decide +kernel
theorem dX4_ledBy_41 : decode cX4_ledBy 41 = .ok (.getfield 9, 3) := by decide +kernel
theorem dX4_ledBy_44 : decode cX4_ledBy 44 = .ok (.iload 7, 2) := by decide +kernel
theorem dX4_ledBy_46 : decode cX4_ledBy 46 = .ok (.iaload, 1) := by decide +kernel
theorem dX4_ledBy_47 : decode cX4_ledBy 47 = .ok (.goto 4, 3) := by decide +kernel
theorem dX4_ledBy_50 : decode cX4_ledBy 50 = .ok (.iconst 1, 1) := by decide +kernel
theorem dX4_ledBy_51 : decode cX4_ledBy 51 = .ok (.iadd, 1) := by decide +kernel
theorem dX4_ledBy_52 : decode cX4_ledBy 52 = .ok (.istore 5, 2) := by decide +kernel
theorem dX4_ledBy_54 : decode cX4_ledBy 54 = .ok (.aload_n 0, 1) := by decide +kernel
theorem dX4_ledBy_55 : decode cX4_ledBy 55 = .ok (.iload_n 1, 1) := by decide +kernel
theorem dX4_ledBy_56 : decode cX4_ledBy 56 = .ok (.iload_n 2, 1) := by decide +kernel
theorem dX4_ledBy_57 : decode cX4_ledBy 57 = .ok (.iload 6, 2) := by decide +kernel
theorem dX4_ledBy_59 : decode cX4_ledBy 59 = .ok (.invokevirtual 63, 3) := by decide +kernel
theorem dX4_ledBy_62 : decode cX4_ledBy 62 = .ok (.istore 6, 2) := by decide +kernel
theorem dX4_ledBy_64 : decode cX4_ledBy 64 = .ok (.iinc 7 1, 3) := by decide +kernel
theorem dX4_ledBy_67 : decode cX4_ledBy 67 = .ok (.goto (-58), 3) := by decide +kernel
theorem dX4_ledBy_70 : decode cX4_ledBy 70 = .ok (.iload 5, 2) := by decide +kernel
theorem dX4_ledBy_72 : decode cX4_ledBy 72 = .ok (.ireturn, 1) := by decide +kernel
theorem dX5_init_0 : decode cX5_init 0 = .ok (.aload_n 0, 1) := by decide +kernel
theorem dX5_init_1 : decode cX5_init 1 = .ok (.invokespecial 1, 3) := by decide +kernel
theorem dX5_init_4 : decode cX5_init 4 = .ok (.aload_n 0, 1) := by decide +kernel
theorem dX5_init_5 : decode cX5_init 5 = .ok (.new 7, 3) := by decide +kernel
theorem dX5_init_8 : decode cX5_init 8 = .ok (.dup, 1) := by decide +kernel
theorem dX5_init_9 : decode cX5_init 9 = .ok (.invokespecial 9, 3) := by decide +kernel
theorem dX5_init_12 : decode cX5_init 12 = .ok (.putfield 10, 3) := by decide +kernel
theorem dX5_init_15 : decode cX5_init 15 = .ok (.aload_n 0, 1) := by decide +kernel
theorem dX5_init_16 : decode cX5_init 16 = .ok (.new 16, 3) := by decide +kernel
theorem dX5_init_19 : decode cX5_init 19 = .ok (.dup, 1) := by decide +kernel
theorem dX5_init_20 : decode cX5_init 20 = .ok (.invokespecial 18, 3) := by decide +kernel
theorem dX5_init_23 : decode cX5_init 23 = .ok (.putfield 19, 3) := by decide +kernel
theorem dX5_init_26 : decode cX5_init 26 = .ok (.aload_n 0, 1) := by decide +kernel
theorem dX5_init_27 : decode cX5_init 27 = .ok (.new 23, 3) := by decide +kernel
theorem dX5_init_30 : decode cX5_init 30 = .ok (.dup, 1) := by decide +kernel
theorem dX5_init_31 : decode cX5_init 31 = .ok (.invokespecial 25, 3) := by decide +kernel
theorem dX5_init_34 : decode cX5_init 34 = .ok (.putfield 26, 3) := by decide +kernel
theorem dX5_init_37 : decode cX5_init 37 = .ok (.aload_n 0, 1) := by decide +kernel
theorem dX5_init_38 : decode cX5_init 38 = .ok (.new 30, 3) := by decide +kernel
theorem dX5_init_41 : decode cX5_init 41 = .ok (.dup, 1) := by decide +kernel
theorem dX5_init_42 : decode cX5_init 42 = .ok (.invokespecial 32, 3) := by decide +kernel
theorem dX5_init_45 : decode cX5_init 45 = .ok (.putfield 33, 3) := by decide +kernel
theorem dX5_init_48 : decode cX5_init 48 = .ok (.aload_n 0, 1) := by decide +kernel
theorem dX5_init_49 : decode cX5_init 49 = .ok (.new 37, 3) := by decide +kernel
theorem dX5_init_52 : decode cX5_init 52 = .ok (.dup, 1) := by decide +kernel
theorem dX5_init_53 : decode cX5_init 53 = .ok (.invokespecial 39, 3) := by decide +kernel
theorem dX5_init_56 : decode cX5_init 56 = .ok (.putfield 40, 3) := by decide +kernel
theorem dX5_init_59 : decode cX5_init 59 = .ok (.aload_n 0, 1) := by decide +kernel
theorem dX5_init_60 : decode cX5_init 60 = .ok (.iconst 0, 1) := by decide +kernel
theorem dX5_init_61 : decode cX5_init 61 = .ok (.putfield 44, 3) := by decide +kernel
theorem dX5_init_64 : decode cX5_init 64 = .ok (.aload_n 0, 1) := by decide +kernel
theorem dX5_init_65 : decode cX5_init 65 = .ok (.iconst 0, 1) := by decide +kernel
theorem dX5_init_66 : decode cX5_init 66 = .ok (.putfield 48, 3) := by decide +kernel
theorem dX5_init_69 : decode cX5_init 69 = .ok (.aload_n 0, 1) := by decide +kernel
theorem dX5_init_70 : decode cX5_init 70 = .ok (.iconst 0, 1) := by decide +kernel
theorem dX5_init_71 : decode cX5_init 71 = .ok (.putfield 51, 3) := by decide +kernel
theorem dX5_init_74 : decode cX5_init 74 = .ok (.return_, 1) := by decide +kernel
theorem dX5_on_0 : decode cX5_on 0 = .ok (.iload_n 1, 1) := by decide +kernel
theorem dX5_on_1 : decode cX5_on 1 = .ok (.invokestatic 54, 3) := by decide +kernel
theorem dX5_on_4 : decode cX5_on 4 = .ok (.ifCond .eq 12, 3) := by decide +kernel
theorem dX5_on_7 : decode cX5_on 7 = .ok (.iload_n 2, 1) := by decide +kernel
theorem dX5_on_8 : decode cX5_on 8 = .ok (.iconst 0, 1) := by decide +kernel
theorem dX5_on_9 : decode cX5_on 9 = .ok (.iconst 1, 1) := by decide +kernel
theorem dX5_on_10 : decode cX5_on 10 = .ok (.invokestatic 58, 3) := by decide +kernel
theorem dX5_on_13 : decode cX5_on 13 = .ok (.ifCond .ne 8, 3) := by decide +kernel
theorem dX5_on_16 : decode cX5_on 16 = .ok (.aload_n 0, 1) := by decide +kernel
theorem dX5_on_17 : decode cX5_on 17 = .ok (.invokevirtual 62, 3) := by decide +kernel
theorem dX5_on_20 : decode cX5_on 20 = .ok (.ireturn, 1) := by decide +kernel
theorem dX5_on_21 : decode cX5_on 21 = .ok (.aload_n 0, 1) := by decide +kernel
theorem dX5_on_22 : decode cX5_on 22 = .ok (.getfield 19, 3) := by decide +kernel
theorem dX5_on_25 : decode cX5_on 25 = .ok (.aload_n 0, 1) := by decide +kernel
theorem dX5_on_26 : decode cX5_on 26 = .ok (.getfield 10, 3) := by decide +kernel
theorem dX5_on_29 : decode cX5_on 29 = .ok (.invokevirtual 66, 3) := by decide +kernel
theorem dX5_on_32 : decode cX5_on 32 = .ok (.pop, 1) := by decide +kernel
theorem dX5_on_33 : decode cX5_on 33 = .ok (.aload_n 0, 1) := by decide +kernel
theorem dX5_on_34 : decode cX5_on 34 = .ok (.getfield 10, 3) := by decide +kernel
theorem dX5_on_37 : decode cX5_on 37 = .ok (.iload_n 1, 1) := by decide +kernel
theorem dX5_on_38 : decode cX5_on 38 = .ok (.iload_n 2, 1) := by decide +kernel
theorem dX5_on_39 : decode cX5_on 39 = .ok (.invokevirtual 70, 3) := by decide +kernel
theorem dX5_on_42 : decode cX5_on 42 = .ok (.ireturn, 1) := by decide +kernel
theorem dX5_puts_0 : decode cX5_puts 0 = .ok (.iload_n 1, 1) := by decide +kernel
theorem dX5_puts_1 : decode cX5_puts 1 = .ok (.invokestatic 54, 3) := by decide +kernel
theorem dX5_puts_4 : decode cX5_puts 4 = .ok (.ifCond .eq 19, 3) := by decide +kernel
theorem dX5_puts_7 : decode cX5_puts 7 = .ok (.iload_n 2, 1) := by decide +kernel
theorem dX5_puts_8 : decode cX5_puts 8 = .ok (.invokestatic 74, 3) := by decide +kernel
theorem dX5_puts_11 : decode cX5_puts 11 = .ok (.ifCond .eq 12, 3) := by decide +kernel
theorem dX5_puts_14 : decode cX5_puts 14 = .ok (.iload_n 3, 1) := by decide +kernel
theorem dX5_puts_15 : decode cX5_puts 15 = .ok (.iload 4, 2) := by decide +kernel
theorem dX5_puts_17 : decode cX5_puts 17 = .ok (.invokestatic 77, 3) := by decide +kernel
theorem dX5_puts_20 : decode cX5_puts 20 = .ok (.ifCond .ne 8, 3) := by decide +kernel
theorem dX5_puts_23 : decode cX5_puts 23 = .ok (.aload_n 0, 1) := by decide +kernel
theorem dX5_puts_24 : decode cX5_puts 24 = .ok (.invokevirtual 62, 3) := by decide +kernel
theorem dX5_puts_27 : decode cX5_puts 27 = .ok (.ireturn, 1) := by decide +kernel
theorem dX5_puts_28 : decode cX5_puts 28 = .ok (.aload_n 0, 1) := by decide +kernel
theorem dX5_puts_29 : decode cX5_puts 29 = .ok (.getfield 19, 3) := by decide +kernel
theorem dX5_puts_32 : decode cX5_puts 32 = .ok (.aload_n 0, 1) := by decide +kernel
theorem dX5_puts_33 : decode cX5_puts 33 = .ok (.getfield 10, 3) := by decide +kernel
theorem dX5_puts_36 : decode cX5_puts 36 = .ok (.invokevirtual 66, 3) := by decide +kernel
theorem dX5_puts_39 : decode cX5_puts 39 = .ok (.pop, 1) := by decide +kernel
theorem dX5_puts_40 : decode cX5_puts 40 = .ok (.aload_n 0, 1) := by decide +kernel
theorem dX5_puts_41 : decode cX5_puts 41 = .ok (.getfield 10, 3) := by decide +kernel
theorem dX5_puts_44 : decode cX5_puts 44 = .ok (.iload_n 1, 1) := by decide +kernel
theorem dX5_puts_45 : decode cX5_puts 45 = .ok (.iload_n 2, 1) := by decide +kernel
theorem dX5_puts_46 : decode cX5_puts 46 = .ok (.iload_n 3, 1) := by decide +kernel
theorem dX5_puts_47 : decode cX5_puts 47 = .ok (.iload 4, 2) := by decide +kernel
theorem dX5_puts_49 : decode cX5_puts 49 = .ok (.invokevirtual 81, 3) := by decide +kernel
theorem dX5_puts_52 : decode cX5_puts 52 = .ok (.ireturn, 1) := by decide +kernel
theorem dX5_names_0 : decode cX5_names 0 = .ok (.iload_n 1, 1) := by decide +kernel
theorem dX5_names_1 : decode cX5_names 1 = .ok (.invokestatic 54, 3) := by decide +kernel
theorem dX5_names_4 : decode cX5_names 4 = .ok (.ifCond .eq 20, 3) := by decide +kernel
theorem dX5_names_7 : decode cX5_names 7 = .ok (.iload_n 2, 1) := by decide +kernel
theorem dX5_names_8 : decode cX5_names 8 = .ok (.invokestatic 74, 3) := by decide +kernel
theorem dX5_names_11 : decode cX5_names 11 = .ok (.ifCond .eq 13, 3) := by decide +kernel
theorem dX5_names_14 : decode cX5_names 14 = .ok (.iload_n 3, 1) := by decide +kernel
theorem dX5_names_15 : decode cX5_names 15 = .ok (.iconst 1, 1) := by decide +kernel
theorem dX5_names_16 : decode cX5_names 16 = .ok (.bipush 8, 2) := by decide +kernel
theorem dX5_names_18 : decode cX5_names 18 = .ok (.invokestatic 58, 3) := by decide +kernel
theorem dX5_names_21 : decode cX5_names 21 = .ok (.ifCond .ne 8, 3) := by decide +kernel
theorem dX5_names_24 : decode cX5_names 24 = .ok (.aload_n 0, 1) := by decide +kernel
theorem dX5_names_25 : decode cX5_names 25 = .ok (.invokevirtual 62, 3) := by decide +kernel
theorem dX5_names_28 : decode cX5_names 28 = .ok (.ireturn, 1) := by decide +kernel
theorem dX5_names_29 : decode cX5_names 29 = .ok (.aload_n 0, 1) := by decide +kernel
theorem dX5_names_30 : decode cX5_names 30 = .ok (.getfield 19, 3) := by decide +kernel
theorem dX5_names_33 : decode cX5_names 33 = .ok (.aload_n 0, 1) := by decide +kernel
theorem dX5_names_34 : decode cX5_names 34 = .ok (.getfield 10, 3) := by decide +kernel
theorem dX5_names_37 : decode cX5_names 37 = .ok (.invokevirtual 66, 3) := by decide +kernel
theorem dX5_names_40 : decode cX5_names 40 = .ok (.pop, 1) := by decide +kernel
theorem dX5_names_41 : decode cX5_names 41 = .ok (.aload_n 0, 1) := by decide +kernel
theorem dX5_names_42 : decode cX5_names 42 = .ok (.getfield 10, 3) := by decide +kernel
theorem dX5_names_45 : decode cX5_names 45 = .ok (.iload_n 1, 1) := by decide +kernel
theorem dX5_names_46 : decode cX5_names 46 = .ok (.iload_n 2, 1) := by decide +kernel
theorem dX5_names_47 : decode cX5_names 47 = .ok (.iload_n 3, 1) := by decide +kernel
theorem dX5_names_48 : decode cX5_names 48 = .ok (.invokevirtual 85, 3) := by decide +kernel
theorem dX5_names_51 : decode cX5_names 51 = .ok (.ireturn, 1) := by decide +kernel
theorem dX5_voters_0 : decode cX5_voters 0 = .ok (.iload_n 1, 1) := by decide +kernel
theorem dX5_voters_1 : decode cX5_voters 1 = .ok (.invokestatic 89, 3) := by decide +kernel
theorem dX5_voters_4 : decode cX5_voters 4 = .ok (.ifCond .eq 13, 3) := by decide +kernel
theorem dX5_voters_7 : decode cX5_voters 7 = .ok (.iload_n 2, 1) := by decide +kernel
theorem dX5_voters_8 : decode cX5_voters 8 = .ok (.iconst 0, 1) := by decide +kernel
theorem dX5_voters_9 : decode cX5_voters 9 = .ok (.bipush 99, 2) := by decide +kernel
theorem dX5_voters_11 : decode cX5_voters 11 = .ok (.invokestatic 58, 3) := by decide +kernel
theorem dX5_voters_14 : decode cX5_voters 14 = .ok (.ifCond .ne 8, 3) := by decide +kernel
theorem dX5_voters_17 : decode cX5_voters 17 = .ok (.aload_n 0, 1) := by decide +kernel
theorem dX5_voters_18 : decode cX5_voters 18 = .ok (.invokevirtual 62, 3) := by decide +kernel
theorem dX5_voters_21 : decode cX5_voters 21 = .ok (.ireturn, 1) := by decide +kernel
theorem dX5_voters_22 : decode cX5_voters 22 = .ok (.aload_n 0, 1) := by decide +kernel
theorem dX5_voters_23 : decode cX5_voters 23 = .ok (.getfield 19, 3) := by decide +kernel
theorem dX5_voters_26 : decode cX5_voters 26 = .ok (.aload_n 0, 1) := by decide +kernel
theorem dX5_voters_27 : decode cX5_voters 27 = .ok (.getfield 10, 3) := by decide +kernel
theorem dX5_voters_30 : decode cX5_voters 30 = .ok (.invokevirtual 66, 3) := by decide +kernel
theorem dX5_voters_33 : decode cX5_voters 33 = .ok (.pop, 1) := by decide +kernel
theorem dX5_voters_34 : decode cX5_voters 34 = .ok (.aload_n 0, 1) := by decide +kernel
theorem dX5_voters_35 : decode cX5_voters 35 = .ok (.getfield 10, 3) := by decide +kernel
theorem dX5_voters_38 : decode cX5_voters 38 = .ok (.iload_n 1, 1) := by decide +kernel
theorem dX5_voters_39 : decode cX5_voters 39 = .ok (.iload_n 2, 1) := by decide +kernel
theorem dX5_voters_40 : decode cX5_voters 40 = .ok (.invokevirtual 92, 3) := by decide +kernel
theorem dX5_voters_43 : decode cX5_voters 43 = .ok (.ireturn, 1) := by decide +kernel
theorem dX5_draw_0 : decode cX5_draw 0 = .ok (.iload_n 1, 1) := by decide +kernel
theorem dX5_draw_1 : decode cX5_draw 1 = .ok (.invokestatic 54, 3) := by decide +kernel
theorem dX5_draw_4 : decode cX5_draw 4 = .ok (.ifCond .eq 23, 3) := by decide +kernel
theorem dX5_draw_7 : decode cX5_draw 7 = .ok (.iload_n 2, 1) := by decide +kernel
theorem dX5_draw_8 : decode cX5_draw 8 = .ok (.iconst 0, 1) := by decide +kernel
theorem dX5_draw_9 : decode cX5_draw 9 = .ok (.ldc 95, 2) := by decide +kernel
theorem dX5_draw_11 : decode cX5_draw 11 = .ok (.invokestatic 58, 3) := by decide +kernel
theorem dX5_draw_14 : decode cX5_draw 14 = .ok (.ifCond .eq 13, 3) := by decide +kernel
theorem dX5_draw_17 : decode cX5_draw 17 = .ok (.iload_n 3, 1) := by decide +kernel
theorem dX5_draw_18 : decode cX5_draw 18 = .ok (.iconst 1, 1) := by decide +kernel
theorem dX5_draw_19 : decode cX5_draw 19 = .ok (.bipush 6, 2) := by decide +kernel
theorem dX5_draw_21 : decode cX5_draw 21 = .ok (.invokestatic 58, 3) := by decide +kernel
theorem dX5_draw_24 : decode cX5_draw 24 = .ok (.ifCond .ne 8, 3) := by decide +kernel
theorem dX5_draw_27 : decode cX5_draw 27 = .ok (.aload_n 0, 1) := by decide +kernel
theorem dX5_draw_28 : decode cX5_draw 28 = .ok (.invokevirtual 62, 3) := by decide +kernel
theorem dX5_draw_31 : decode cX5_draw 31 = .ok (.ireturn, 1) := by decide +kernel
theorem dX5_draw_32 : decode cX5_draw 32 = .ok (.aload_n 0, 1) := by decide +kernel
theorem dX5_draw_33 : decode cX5_draw 33 = .ok (.getfield 19, 3) := by decide +kernel
theorem dX5_draw_36 : decode cX5_draw 36 = .ok (.aload_n 0, 1) := by decide +kernel
theorem dX5_draw_37 : decode cX5_draw 37 = .ok (.getfield 10, 3) := by decide +kernel
theorem dX5_draw_40 : decode cX5_draw 40 = .ok (.invokevirtual 66, 3) := by decide +kernel
theorem dX5_draw_43 : decode cX5_draw 43 = .ok (.pop, 1) := by decide +kernel
theorem dX5_draw_44 : decode cX5_draw 44 = .ok (.aload_n 0, 1) := by decide +kernel
theorem dX5_draw_45 : decode cX5_draw 45 = .ok (.getfield 10, 3) := by decide +kernel
theorem dX5_draw_48 : decode cX5_draw 48 = .ok (.iload_n 1, 1) := by decide +kernel
theorem dX5_draw_49 : decode cX5_draw 49 = .ok (.iload_n 2, 1) := by decide +kernel
theorem dX5_draw_50 : decode cX5_draw 50 = .ok (.iload_n 3, 1) := by decide +kernel
theorem dX5_draw_51 : decode cX5_draw 51 = .ok (.invokevirtual 96, 3) := by decide +kernel
theorem dX5_draw_54 : decode cX5_draw 54 = .ok (.ireturn, 1) := by decide +kernel
theorem dX5_follows_0 : decode cX5_follows 0 = .ok (.iload_n 1, 1) := by decide +kernel
theorem dX5_follows_1 : decode cX5_follows 1 = .ok (.invokestatic 54, 3) := by decide +kernel
theorem dX5_follows_4 : decode cX5_follows 4 = .ok (.ifCond .eq 19, 3) := by decide +kernel
theorem dX5_follows_7 : decode cX5_follows 7 = .ok (.iload_n 2, 1) := by decide +kernel
theorem dX5_follows_8 : decode cX5_follows 8 = .ok (.iconst 0, 1) := by decide +kernel
theorem dX5_follows_9 : decode cX5_follows 9 = .ok (.iconst 3, 1) := by decide +kernel
theorem dX5_follows_10 : decode cX5_follows 10 = .ok (.invokestatic 58, 3) := by decide +kernel
theorem dX5_follows_13 : decode cX5_follows 13 = .ok (.ifCond .eq 10, 3) := by decide +kernel
theorem dX5_follows_16 : decode cX5_follows 16 = .ok (.iload_n 3, 1) := by decide +kernel
theorem dX5_follows_17 : decode cX5_follows 17 = .ok (.invokestatic 54, 3) := by decide +kernel
theorem dX5_follows_20 : decode cX5_follows 20 = .ok (.ifCond .ne 8, 3) := by decide +kernel
theorem dX5_follows_23 : decode cX5_follows 23 = .ok (.aload_n 0, 1) := by decide +kernel
theorem dX5_follows_24 : decode cX5_follows 24 = .ok (.invokevirtual 62, 3) := by decide +kernel
theorem dX5_follows_27 : decode cX5_follows 27 = .ok (.ireturn, 1) := by decide +kernel
theorem dX5_follows_28 : decode cX5_follows 28 = .ok (.aload_n 0, 1) := by decide +kernel
theorem dX5_follows_29 : decode cX5_follows 29 = .ok (.getfield 10, 3) := by decide +kernel
theorem dX5_follows_32 : decode cX5_follows 32 = .ok (.aload_n 0, 1) := by decide +kernel
theorem dX5_follows_33 : decode cX5_follows 33 = .ok (.getfield 19, 3) := by decide +kernel
theorem dX5_follows_36 : decode cX5_follows 36 = .ok (.aload_n 0, 1) := by decide +kernel
theorem dX5_follows_37 : decode cX5_follows 37 = .ok (.getfield 10, 3) := by decide +kernel
theorem dX5_follows_40 : decode cX5_follows 40 = .ok (.invokevirtual 66, 3) := by decide +kernel
theorem dX5_follows_43 : decode cX5_follows 43 = .ok (.iload_n 1, 1) := by decide +kernel
theorem dX5_follows_44 : decode cX5_follows 44 = .ok (.iload_n 2, 1) := by decide +kernel
theorem dX5_follows_45 : decode cX5_follows 45 = .ok (.iload_n 3, 1) := by decide +kernel
theorem dX5_follows_46 : decode cX5_follows 46 = .ok (.invokevirtual 99, 3) := by decide +kernel
theorem dX5_follows_49 : decode cX5_follows 49 = .ok (.ireturn, 1) := by decide +kernel
theorem dX5_undo_0 : decode cX5_undo 0 = .ok (.aload_n 0, 1) := by decide +kernel
theorem dX5_undo_1 : decode cX5_undo 1 = .ok (.getfield 19, 3) := by decide +kernel
theorem dX5_undo_4 : decode cX5_undo 4 = .ok (.getfield 103, 3) := by decide +kernel
theorem dX5_undo_7 : decode cX5_undo 7 = .ok (.ifCond .ne 8, 3) := by decide +kernel
theorem dX5_undo_10 : decode cX5_undo 10 = .ok (.aload_n 0, 1) := by decide +kernel
theorem dX5_undo_11 : decode cX5_undo 11 = .ok (.invokevirtual 106, 3) := by decide +kernel
theorem dX5_undo_14 : decode cX5_undo 14 = .ok (.ireturn, 1) := by decide +kernel
theorem dX5_undo_15 : decode cX5_undo 15 = .ok (.aload_n 0, 1) := by decide +kernel
theorem dX5_undo_16 : decode cX5_undo 16 = .ok (.getfield 19, 3) := by decide +kernel
theorem dX5_undo_19 : decode cX5_undo 19 = .ok (.aload_n 0, 1) := by decide +kernel
theorem dX5_undo_20 : decode cX5_undo 20 = .ok (.getfield 10, 3) := by decide +kernel
theorem dX5_undo_23 : decode cX5_undo 23 = .ok (.invokevirtual 109, 3) := by decide +kernel
theorem dX5_undo_26 : decode cX5_undo 26 = .ok (.ireturn, 1) := by decide +kernel
theorem dX5_of_0 : decode cX5_of 0 = .ok (.iload_n 1, 1) := by decide +kernel
theorem dX5_of_1 : decode cX5_of 1 = .ok (.invokestatic 89, 3) := by decide +kernel
theorem dX5_of_4 : decode cX5_of 4 = .ok (.ifCond .eq 12, 3) := by decide +kernel
theorem dX5_of_7 : decode cX5_of 7 = .ok (.iload_n 2, 1) := by decide +kernel
theorem dX5_of_8 : decode cX5_of 8 = .ok (.iconst 0, 1) := by decide +kernel
theorem dX5_of_9 : decode cX5_of 9 = .ok (.iconst 5, 1) := by decide +kernel
theorem dX5_of_10 : decode cX5_of 10 = .ok (.invokestatic 58, 3) := by decide +kernel
theorem dX5_of_13 : decode cX5_of 13 = .ok (.ifCond .ne 8, 3) := by decide +kernel
theorem dX5_of_16 : decode cX5_of 16 = .ok (.aload_n 0, 1) := by decide +kernel
theorem dX5_of_17 : decode cX5_of 17 = .ok (.invokevirtual 62, 3) := by decide +kernel
theorem dX5_of_20 : decode cX5_of 20 = .ok (.ireturn, 1) := by decide +kernel
theorem dX5_of_21 : decode cX5_of 21 = .ok (.iload_n 2, 1) := by decide +kernel
theorem dX5_of_22 : decode cX5_of 22 = .ok (.ifCond .ne 13, 3) := by decide +kernel
theorem dX5_of_25 : decode cX5_of 25 = .ok (.aload_n 0, 1) := by decide +kernel
theorem dX5_of_26 : decode cX5_of 26 = .ok (.getfield 10, 3) := by decide +kernel
theorem dX5_of_29 : decode cX5_of 29 = .ok (.getfield 113, 3) := by decide +kernel
theorem dX5_of_32 : decode cX5_of 32 = .ok (.iload_n 1, 1) := by decide +kernel
theorem dX5_of_33 : decode cX5_of 33 = .ok (.iaload, 1) := by decide +kernel
theorem dX5_of_34 : decode cX5_of 34 = .ok (.ireturn, 1) := by decide +kernel
theorem dX5_of_35 : decode cX5_of 35 = .ok (.iload_n 2, 1) := by decide +kernel
theorem dX5_of_36 : decode cX5_of 36 = .ok (.iconst 1, 1) := by decide +kernel
theorem dX5_of_37 : decode cX5_of 37 = .ok (.if_icmp .ne 17, 3) := by decide +kernel
theorem dX5_of_40 : decode cX5_of 40 = .ok (.aload_n 0, 1) := by decide +kernel
theorem dX5_of_41 : decode cX5_of 41 = .ok (.invokevirtual 117, 3) := by decide +kernel
theorem dX5_of_44 : decode cX5_of 44 = .ok (.aload_n 0, 1) := by decide +kernel
theorem dX5_of_45 : decode cX5_of 45 = .ok (.getfield 26, 3) := by decide +kernel
theorem dX5_of_48 : decode cX5_of 48 = .ok (.getfield 120, 3) := by decide +kernel
theorem dX5_of_51 : decode cX5_of 51 = .ok (.iload_n 1, 1) := by decide +kernel
theorem dX5_of_52 : decode cX5_of 52 = .ok (.iaload, 1) := by decide +kernel
theorem dX5_of_53 : decode cX5_of 53 = .ok (.ireturn, 1) := by decide +kernel
theorem dX5_of_54 : decode cX5_of 54 = .ok (.aload_n 0, 1) := by decide +kernel
theorem dX5_of_55 : decode cX5_of 55 = .ok (.getfield 10, 3) := by decide +kernel
theorem dX5_of_58 : decode cX5_of 58 = .ok (.iload_n 2, 1) := by decide +kernel
theorem dX5_of_59 : decode cX5_of 59 = .ok (.iconst 2, 1) := by decide +kernel
theorem dX5_of_60 : decode cX5_of 60 = .ok (.isub, 1) := by decide +kernel
theorem dX5_of_61 : decode cX5_of 61 = .ok (.iload_n 1, 1) := by decide +kernel
theorem dX5_of_62 : decode cX5_of 62 = .ok (.invokevirtual 123, 3) := by decide +kernel
theorem dX5_of_65 : decode cX5_of 65 = .ok (.ireturn, 1) := by decide +kernel
theorem dX5_type_0 : decode cX5_type 0 = .ok (.iload_n 1, 1) := by decide +kernel
theorem dX5_type_1 : decode cX5_type 1 = .ok (.iconst 0, 1) := by decide +kernel
theorem dX5_type_2 : decode cX5_type 2 = .ok (.bipush 127, 2) := by decide +kernel
theorem dX5_type_4 : decode cX5_type 4 = .ok (.invokestatic 58, 3) := by decide +kernel
theorem dX5_type_7 : decode cX5_type 7 = .ok (.ifCond .ne 8, 3) := by decide +kernel
theorem dX5_type_10 : decode cX5_type 10 = .ok (.aload_n 0, 1) := by decide +kernel
theorem dX5_type_11 : decode cX5_type 11 = .ok (.invokevirtual 62, 3) := by decide +kernel
theorem dX5_type_14 : decode cX5_type 14 = .ok (.ireturn, 1) := by decide +kernel
theorem dX5_type_15 : decode cX5_type 15 = .ok (.aload_n 0, 1) := by decide +kernel
theorem dX5_type_16 : decode cX5_type 16 = .ok (.getfield 40, 3) := by decide +kernel
theorem dX5_type_19 : decode cX5_type 19 = .ok (.invokevirtual 126, 3) := by decide +kernel
theorem dX5_type_22 : decode cX5_type 22 = .ok (.ifCond .eq 8, 3) := by decide +kernel
theorem dX5_type_25 : decode cX5_type 25 = .ok (.aload_n 0, 1) := by decide +kernel
theorem dX5_type_26 : decode cX5_type 26 = .ok (.invokevirtual 130, 3) := by decide +kernel
theorem dX5_type_29 : decode cX5_type 29 = .ok (.ireturn, 1) := by decide +kernel
theorem dX5_type_30 : decode cX5_type 30 = .ok (.aload_n 0, 1) := by decide +kernel
theorem dX5_type_31 : decode cX5_type 31 = .ok (.getfield 40, 3) := by decide +kernel
theorem dX5_type_34 : decode cX5_type 34 = .ok (.iload_n 1, 1) := by decide +kernel
theorem dX5_type_35 : decode cX5_type 35 = .ok (.invokevirtual 133, 3) := by decide +kernel
theorem dX5_type_38 : decode cX5_type 38 = .ok (.ireturn, 1) := by decide +kernel
theorem dX5_clear_0 : decode cX5_clear 0 = .ok (.aload_n 0, 1) := by decide +kernel
theorem dX5_clear_1 : decode cX5_clear 1 = .ok (.getfield 40, 3) := by decide +kernel
theorem dX5_clear_4 : decode cX5_clear 4 = .ok (.invokevirtual 137, 3) := by decide +kernel
theorem dX5_clear_7 : decode cX5_clear 7 = .ok (.ireturn, 1) := by decide +kernel
theorem dX5_does_0 : decode cX5_does 0 = .ok (.aload_n 0, 1) := by decide +kernel
theorem dX5_does_1 : decode cX5_does 1 = .ok (.getfield 40, 3) := by decide +kernel
theorem dX5_does_4 : decode cX5_does 4 = .ok (.invokevirtual 140, 3) := by decide +kernel
theorem dX5_does_7 : decode cX5_does 7 = .ok (.istore_n 1, 1) := by decide +kernel
theorem dX5_does_8 : decode cX5_does 8 = .ok (.iload_n 1, 1) := by decide +kernel
theorem dX5_does_9 : decode cX5_does 9 = .ok (.iconst (-1), 1) := by decide +kernel
theorem dX5_does_10 : decode cX5_does 10 = .ok (.if_icmp .eq 8, 3) := by decide +kernel
theorem dX5_does_13 : decode cX5_does 13 = .ok (.bipush (-10), 2) := by decide +kernel
theorem dX5_does_15 : decode cX5_does 15 = .ok (.iload_n 1, 1) := by decide +kernel
theorem dX5_does_16 : decode cX5_does 16 = .ok (.isub, 1) := by decide +kernel
theorem dX5_does_17 : decode cX5_does 17 = .ok (.ireturn, 1) := by decide +kernel
theorem dX5_does_18 : decode cX5_does 18 = .ok (.aload_n 0, 1) := by decide +kernel
theorem dX5_does_19 : decode cX5_does 19 = .ok (.getfield 19, 3) := by decide +kernel
theorem dX5_does_22 : decode cX5_does 22 = .ok (.aload_n 0, 1) := by decide +kernel
theorem dX5_does_23 : decode cX5_does 23 = .ok (.getfield 10, 3) := by decide +kernel
theorem dX5_does_26 : decode cX5_does 26 = .ok (.invokevirtual 66, 3) := by decide +kernel
theorem dX5_does_29 : decode cX5_does 29 = .ok (.pop, 1) := by decide +kernel
theorem dX5_does_30 : decode cX5_does 30 = .ok (.iconst 0, 1) := by decide +kernel
theorem dX5_does_31 : decode cX5_does 31 = .ok (.istore_n 2, 1) := by decide +kernel
theorem dX5_does_32 : decode cX5_does 32 = .ok (.iload_n 2, 1) := by decide +kernel
theorem dX5_does_33 : decode cX5_does 33 = .ok (.aload_n 0, 1) := by decide +kernel
theorem dX5_does_34 : decode cX5_does 34 = .ok (.getfield 40, 3) := by decide +kernel
theorem dX5_does_37 : decode cX5_does 37 = .ok (.getfield 143, 3) := by decide +kernel
theorem dX5_does_40 : decode cX5_does 40 = .ok (.if_icmp .ge 21, 3) := by decide +kernel
theorem dX5_does_43 : decode cX5_does 43 = .ok (.aload_n 0, 1) := by decide +kernel
theorem dX5_does_44 : decode cX5_does 44 = .ok (.getfield 40, 3) := by decide +kernel
theorem dX5_does_47 : decode cX5_does 47 = .ok (.iload_n 2, 1) := by decide +kernel
theorem dX5_does_48 : decode cX5_does 48 = .ok (.aload_n 0, 1) := by decide +kernel
theorem dX5_does_49 : decode cX5_does 49 = .ok (.getfield 10, 3) := by decide +kernel
theorem dX5_does_52 : decode cX5_does 52 = .ok (.invokevirtual 144, 3) := by decide +kernel
theorem dX5_does_55 : decode cX5_does 55 = .ok (.iinc 2 1, 3) := by decide +kernel
theorem dX5_does_58 : decode cX5_does 58 = .ok (.goto (-26), 3) := by decide +kernel
theorem dX5_does_61 : decode cX5_does 61 = .ok (.aload_n 0, 1) := by decide +kernel
theorem dX5_does_62 : decode cX5_does 62 = .ok (.getfield 40, 3) := by decide +kernel
theorem dX5_does_65 : decode cX5_does 65 = .ok (.getfield 143, 3) := by decide +kernel
theorem dX5_does_68 : decode cX5_does 68 = .ok (.ireturn, 1) := by decide +kernel
theorem dX5_styles_0 : decode cX5_styles 0 = .ok (.aload_n 0, 1) := by decide +kernel
theorem dX5_styles_1 : decode cX5_styles 1 = .ok (.invokevirtual 117, 3) := by decide +kernel
theorem dX5_styles_4 : decode cX5_styles 4 = .ok (.aload_n 0, 1) := by decide +kernel
theorem dX5_styles_5 : decode cX5_styles 5 = .ok (.getfield 26, 3) := by decide +kernel
theorem dX5_styles_8 : decode cX5_styles 8 = .ok (.getfield 148, 3) := by decide +kernel
theorem dX5_styles_11 : decode cX5_styles 11 = .ok (.ireturn, 1) := by decide +kernel
theorem dX5_style_0 : decode cX5_style 0 = .ok (.aload_n 0, 1) := by decide +kernel
theorem dX5_style_1 : decode cX5_style 1 = .ok (.iload_n 1, 1) := by decide +kernel
theorem dX5_style_2 : decode cX5_style 2 = .ok (.invokevirtual 149, 3) := by decide +kernel
theorem dX5_style_5 : decode cX5_style 5 = .ok (.ifCond .ne 8, 3) := by decide +kernel
theorem dX5_style_8 : decode cX5_style 8 = .ok (.aload_n 0, 1) := by decide +kernel
theorem dX5_style_9 : decode cX5_style 9 = .ok (.invokevirtual 62, 3) := by decide +kernel
theorem dX5_style_12 : decode cX5_style 12 = .ok (.ireturn, 1) := by decide +kernel
theorem dX5_style_13 : decode cX5_style 13 = .ok (.iload_n 2, 1) := by decide +kernel
theorem dX5_style_14 : decode cX5_style 14 = .ok (.tableswitch 86 0 4 #[34, 43, 56, 65, 76], 34) := by decide +kernel
theorem dX5_style_48 : decode cX5_style 48 = .ok (.aload_n 0, 1) := by decide +kernel
theorem dX5_style_49 : decode cX5_style 49 = .ok (.getfield 26, 3) := by decide +kernel
theorem dX5_style_52 : decode cX5_style 52 = .ok (.iload_n 1, 1) := by decide +kernel
theorem dX5_style_53 : decode cX5_style 53 = .ok (.invokevirtual 152, 3) := by decide +kernel
theorem dX5_style_56 : decode cX5_style 56 = .ok (.ireturn, 1) := by decide +kernel
theorem dX5_style_57 : decode cX5_style 57 = .ok (.aload_n 0, 1) := by decide +kernel
theorem dX5_style_58 : decode cX5_style 58 = .ok (.getfield 26, 3) := by decide +kernel
theorem dX5_style_61 : decode cX5_style 61 = .ok (.iload_n 1, 1) := by decide +kernel
theorem dX5_style_62 : decode cX5_style 62 = .ok (.aload_n 0, 1) := by decide +kernel
theorem dX5_style_63 : decode cX5_style 63 = .ok (.getfield 10, 3) := by decide +kernel
theorem dX5_style_66 : decode cX5_style 66 = .ok (.invokevirtual 155, 3) := by decide +kernel
theorem dX5_style_69 : decode cX5_style 69 = .ok (.ireturn, 1) := by decide +kernel
theorem dX5_style_70 : decode cX5_style 70 = .ok (.aload_n 0, 1) := by decide +kernel
theorem dX5_style_71 : decode cX5_style 71 = .ok (.getfield 26, 3) := by decide +kernel
theorem dX5_style_74 : decode cX5_style 74 = .ok (.iload_n 1, 1) := by decide +kernel
theorem dX5_style_75 : decode cX5_style 75 = .ok (.invokevirtual 159, 3) := by decide +kernel
theorem dX5_style_78 : decode cX5_style 78 = .ok (.ireturn, 1) := by decide +kernel
theorem dX5_style_79 : decode cX5_style 79 = .ok (.aload_n 0, 1) := by decide +kernel
theorem dX5_style_80 : decode cX5_style 80 = .ok (.getfield 10, 3) := by decide +kernel
theorem dX5_style_83 : decode cX5_style 83 = .ok (.getfield 162, 3) := by decide +kernel
theorem dX5_style_86 : decode cX5_style 86 = .ok (.invokestatic 165, 3) := by decide +kernel
theorem dX5_style_89 : decode cX5_style 89 = .ok (.ireturn, 1) := by decide +kernel
theorem dX5_style_90 : decode cX5_style 90 = .ok (.aload_n 0, 1) := by decide +kernel
theorem dX5_style_91 : decode cX5_style 91 = .ok (.getfield 26, 3) := by decide +kernel
theorem dX5_style_94 : decode cX5_style 94 = .ok (.getfield 170, 3) := by decide +kernel
theorem dX5_style_97 : decode cX5_style 97 = .ok (.iload_n 1, 1) := by decide +kernel
theorem dX5_style_98 : decode cX5_style 98 = .ok (.iaload, 1) := by decide +kernel
theorem dX5_style_99 : decode cX5_style 99 = .ok (.ireturn, 1) := by decide +kernel
theorem dX5_style_100 : decode cX5_style 100 = .ok (.aload_n 0, 1) := by decide +kernel
theorem dX5_style_101 : decode cX5_style 101 = .ok (.invokevirtual 62, 3) := by decide +kernel
theorem dX5_style_104 : decode cX5_style 104 = .ok (.ireturn, 1) := by decide +kernel
theorem dX5_without_0 : decode cX5_without 0 = .ok (.iload_n 1, 1) := by decide +kernel
theorem dX5_without_1 : decode cX5_without 1 = .ok (.invokestatic 54, 3) := by decide +kernel
theorem dX5_without_4 : decode cX5_without 4 = .ok (.ifCond .ne 8, 3) := by decide +kernel
theorem dX5_without_7 : decode cX5_without 7 = .ok (.aload_n 0, 1) := by decide +kernel
theorem dX5_without_8 : decode cX5_without 8 = .ok (.invokevirtual 62, 3) := by decide +kernel
theorem dX5_without_11 : decode cX5_without 11 = .ok (.ireturn, 1) := by decide +kernel
theorem dX5_without_12 : decode cX5_without 12 = .ok (.aload_n 0, 1) := by decide +kernel
theorem dX5_without_13 : decode cX5_without 13 = .ok (.getfield 26, 3) := by decide +kernel
theorem dX5_without_16 : decode cX5_without 16 = .ok (.aload_n 0, 1) := by decide +kernel
theorem dX5_without_17 : decode cX5_without 17 = .ok (.getfield 10, 3) := by decide +kernel
theorem dX5_without_20 : decode cX5_without 20 = .ok (.aload_n 0, 1) := by decide +kernel
theorem dX5_without_21 : decode cX5_without 21 = .ok (.getfield 10, 3) := by decide +kernel
theorem dX5_without_24 : decode cX5_without 24 = .ok (.getfield 162, 3) := by decide +kernel
theorem dX5_without_27 : decode cX5_without 27 = .ok (.iconst 1, 1) := by decide +kernel
theorem dX5_without_28 : decode cX5_without 28 = .ok (.iload_n 1, 1) := by decide +kernel
theorem dX5_without_29 : decode cX5_without 29 = .ok (.ishl, 1) := by decide +kernel
theorem dX5_without_30 : decode cX5_without 30 = .ok (.ixor, 1) := by decide +kernel
theorem dX5_without_31 : decode cX5_without 31 = .ok (.invokevirtual 173, 3) := by decide +kernel
theorem dX5_without_34 : decode cX5_without 34 = .ok (.aload_n 0, 1) := by decide +kernel
theorem dX5_without_35 : decode cX5_without 35 = .ok (.getfield 26, 3) := by decide +kernel
theorem dX5_without_38 : decode cX5_without 38 = .ok (.getfield 148, 3) := by decide +kernel
theorem dX5_without_41 : decode cX5_without 41 = .ok (.ireturn, 1) := by decide +kernel
theorem dX5_border_0 : decode cX5_border 0 = .ok (.aload_n 0, 1) := by decide +kernel
theorem dX5_border_1 : decode cX5_border 1 = .ok (.invokevirtual 117, 3) := by decide +kernel
theorem dX5_border_4 : decode cX5_border 4 = .ok (.aload_n 0, 1) := by decide +kernel
theorem dX5_border_5 : decode cX5_border 5 = .ok (.getfield 26, 3) := by decide +kernel
theorem dX5_border_8 : decode cX5_border 8 = .ok (.invokevirtual 177, 3) := by decide +kernel
theorem dX5_border_11 : decode cX5_border 11 = .ok (.ireturn, 1) := by decide +kernel
theorem dX5_beside_0 : decode cX5_beside 0 = .ok (.aload_n 0, 1) := by decide +kernel
theorem dX5_beside_1 : decode cX5_beside 1 = .ok (.iload_n 1, 1) := by decide +kernel
theorem dX5_beside_2 : decode cX5_beside 2 = .ok (.invokevirtual 149, 3) := by decide +kernel
theorem dX5_beside_5 : decode cX5_beside 5 = .ok (.ifCond .eq 16, 3) := by decide +kernel
theorem dX5_beside_8 : decode cX5_beside 8 = .ok (.aload_n 0, 1) := by decide +kernel
theorem dX5_beside_9 : decode cX5_beside 9 = .ok (.iload_n 2, 1) := by decide +kernel
theorem dX5_beside_10 : decode cX5_beside 10 = .ok (.invokevirtual 149, 3) := by decide +kernel
theorem dX5_beside_13 : decode cX5_beside 13 = .ok (.ifCond .eq 8, 3) := by decide +kernel
theorem dX5_beside_16 : decode cX5_beside 16 = .ok (.iload_n 1, 1) := by decide +kernel
theorem dX5_beside_17 : decode cX5_beside 17 = .ok (.iload_n 2, 1) := by decide +kernel
theorem dX5_beside_18 : decode cX5_beside 18 = .ok (.if_icmp .ne 8, 3) := by decide +kernel
theorem dX5_beside_21 : decode cX5_beside 21 = .ok (.aload_n 0, 1) := by decide +kernel
theorem dX5_beside_22 : decode cX5_beside 22 = .ok (.invokevirtual 62, 3) := by decide +kernel
theorem dX5_beside_25 : decode cX5_beside 25 = .ok (.ireturn, 1) := by decide +kernel
theorem dX5_beside_26 : decode cX5_beside 26 = .ok (.aload_n 0, 1) := by decide +kernel
theorem dX5_beside_27 : decode cX5_beside 27 = .ok (.getfield 26, 3) := by decide +kernel
theorem dX5_beside_30 : decode cX5_beside 30 = .ok (.iload_n 1, 1) := by decide +kernel
theorem dX5_beside_31 : decode cX5_beside 31 = .ok (.iload_n 2, 1) := by decide +kernel
theorem dX5_beside_32 : decode cX5_beside 32 = .ok (.invokevirtual 180, 3) := by decide +kernel
theorem dX5_beside_35 : decode cX5_beside 35 = .ok (.ireturn, 1) := by decide +kernel
theorem dX5_unlike_0 : decode cX5_unlike 0 = .ok (.aload_n 0, 1) := by decide +kernel
theorem dX5_unlike_1 : decode cX5_unlike 1 = .ok (.iload_n 1, 1) := by decide +kernel
theorem dX5_unlike_2 : decode cX5_unlike 2 = .ok (.invokevirtual 149, 3) := by decide +kernel
theorem dX5_unlike_5 : decode cX5_unlike 5 = .ok (.ifCond .eq 11, 3) := by decide +kernel
theorem dX5_unlike_8 : decode cX5_unlike 8 = .ok (.aload_n 0, 1) := by decide +kernel
theorem dX5_unlike_9 : decode cX5_unlike 9 = .ok (.iload_n 2, 1) := by decide +kernel
theorem dX5_unlike_10 : decode cX5_unlike 10 = .ok (.invokevirtual 149, 3) := by decide +kernel
theorem dX5_unlike_13 : decode cX5_unlike 13 = .ok (.ifCond .ne 8, 3) := by decide +kernel
theorem dX5_unlike_16 : decode cX5_unlike 16 = .ok (.aload_n 0, 1) := by decide +kernel
theorem dX5_unlike_17 : decode cX5_unlike 17 = .ok (.invokevirtual 62, 3) := by decide +kernel
theorem dX5_unlike_20 : decode cX5_unlike 20 = .ok (.ireturn, 1) := by decide +kernel
theorem dX5_unlike_21 : decode cX5_unlike 21 = .ok (.aload_n 0, 1) := by decide +kernel
theorem dX5_unlike_22 : decode cX5_unlike 22 = .ok (.getfield 26, 3) := by decide +kernel
theorem dX5_unlike_25 : decode cX5_unlike 25 = .ok (.getfield 170, 3) := by decide +kernel
theorem dX5_unlike_28 : decode cX5_unlike 28 = .ok (.iload_n 1, 1) := by decide +kernel
theorem dX5_unlike_29 : decode cX5_unlike 29 = .ok (.iaload, 1) := by decide +kernel
theorem dX5_unlike_30 : decode cX5_unlike 30 = .ok (.istore_n 3, 1) := by decide +kernel
theorem dX5_unlike_31 : decode cX5_unlike 31 = .ok (.aload_n 0, 1) := by decide +kernel
theorem dX5_unlike_32 : decode cX5_unlike 32 = .ok (.getfield 26, 3) := by decide +kernel
theorem dX5_unlike_35 : decode cX5_unlike 35 = .ok (.getfield 170, 3) := by decide +kernel
theorem dX5_unlike_38 : decode cX5_unlike 38 = .ok (.iload_n 2, 1) := by decide +kernel
theorem dX5_unlike_39 : decode cX5_unlike 39 = .ok (.iaload, 1) := by decide +kernel
theorem dX5_unlike_40 : decode cX5_unlike 40 = .ok (.istore 4, 2) := by decide +kernel
theorem dX5_unlike_42 : decode cX5_unlike 42 = .ok (.iconst 0, 1) := by decide +kernel
theorem dX5_unlike_43 : decode cX5_unlike 43 = .ok (.istore 5, 2) := by decide +kernel
theorem dX5_unlike_45 : decode cX5_unlike 45 = .ok (.iconst 0, 1) := by decide +kernel
theorem dX5_unlike_46 : decode cX5_unlike 46 = .ok (.istore 6, 2) := by decide +kernel
theorem dX5_unlike_48 : decode cX5_unlike 48 = .ok (.iload 6, 2) := by decide +kernel
theorem dX5_unlike_50 : decode cX5_unlike 50 = .ok (.iconst 4, 1) := by decide +kernel
theorem dX5_unlike_51 : decode cX5_unlike 51 = .ok (.if_icmp .ge 48, 3) := by decide +kernel
theorem dX5_unlike_54 : decode cX5_unlike 54 = .ok (.aload_n 0, 1) := by decide +kernel
theorem dX5_unlike_55 : decode cX5_unlike 55 = .ok (.getfield 10, 3) := by decide +kernel
theorem dX5_unlike_58 : decode cX5_unlike 58 = .ok (.iload 6, 2) := by decide +kernel
theorem dX5_unlike_60 : decode cX5_unlike 60 = .ok (.invokevirtual 183, 3) := by decide +kernel
theorem dX5_unlike_63 : decode cX5_unlike 63 = .ok (.ifCond .eq 30, 3) := by decide +kernel
theorem dX5_unlike_66 : decode cX5_unlike 66 = .ok (.aload_n 0, 1) := by decide +kernel
theorem dX5_unlike_67 : decode cX5_unlike 67 = .ok (.getfield 10, 3) := by decide +kernel
theorem dX5_unlike_70 : decode cX5_unlike 70 = .ok (.iload 6, 2) := by decide +kernel
theorem dX5_unlike_72 : decode cX5_unlike 72 = .ok (.iload_n 3, 1) := by decide +kernel
theorem dX5_unlike_73 : decode cX5_unlike 73 = .ok (.invokevirtual 123, 3) := by decide +kernel
theorem dX5_unlike_76 : decode cX5_unlike 76 = .ok (.aload_n 0, 1) := by decide +kernel
theorem dX5_unlike_77 : decode cX5_unlike 77 = .ok (.getfield 10, 3) := by decide +kernel
theorem dX5_unlike_80 : decode cX5_unlike 80 = .ok (.iload 6, 2) := by decide +kernel
theorem dX5_unlike_82 : decode cX5_unlike 82 = .ok (.iload 4, 2) := by decide +kernel
theorem dX5_unlike_84 : decode cX5_unlike 84 = .ok (.invokevirtual 123, 3) := by decide +kernel
theorem dX5_unlike_87 : decode cX5_unlike 87 = .ok (.if_icmp .eq 6, 3) := by decide +kernel
theorem dX5_unlike_90 : decode cX5_unlike 90 = .ok (.iinc 5 1, 3) := by decide +kernel
theorem dX5_unlike_93 : decode cX5_unlike 93 = .ok (.iinc 6 1, 3) := by decide +kernel
theorem dX5_unlike_96 : decode cX5_unlike 96 = .ok (.goto (-48), 3) := by decide +kernel
theorem dX5_unlike_99 : decode cX5_unlike 99 = .ok (.iload 5, 2) := by decide +kernel
theorem dX5_unlike_101 : decode cX5_unlike 101 = .ok (.ireturn, 1) := by decide +kernel
theorem dX5_odd_0 : decode cX5_odd 0 = .ok (.iload_n 1, 1) := by decide +kernel
theorem dX5_odd_1 : decode cX5_odd 1 = .ok (.iconst 0, 1) := by decide +kernel
theorem dX5_odd_2 : decode cX5_odd 2 = .ok (.iconst 1, 1) := by decide +kernel
theorem dX5_odd_3 : decode cX5_odd 3 = .ok (.invokestatic 58, 3) := by decide +kernel
theorem dX5_odd_6 : decode cX5_odd 6 = .ok (.ifCond .ne 8, 3) := by decide +kernel
theorem dX5_odd_9 : decode cX5_odd 9 = .ok (.aload_n 0, 1) := by decide +kernel
theorem dX5_odd_10 : decode cX5_odd 10 = .ok (.invokevirtual 62, 3) := by decide +kernel
theorem dX5_odd_13 : decode cX5_odd 13 = .ok (.ireturn, 1) := by decide +kernel
theorem dX5_odd_14 : decode cX5_odd 14 = .ok (.aload_n 0, 1) := by decide +kernel
theorem dX5_odd_15 : decode cX5_odd 15 = .ok (.invokevirtual 117, 3) := by decide +kernel
theorem dX5_odd_18 : decode cX5_odd 18 = .ok (.iload_n 1, 1) := by decide +kernel
theorem dX5_odd_19 : decode cX5_odd 19 = .ok (.ifCond .ne 17, 3) := by decide +kernel
theorem dX5_odd_22 : decode cX5_odd 22 = .ok (.aload_n 0, 1) := by decide +kernel
theorem dX5_odd_23 : decode cX5_odd 23 = .ok (.getfield 26, 3) := by decide +kernel
theorem dX5_odd_26 : decode cX5_odd 26 = .ok (.aload_n 0, 1) := by decide +kernel
theorem dX5_odd_27 : decode cX5_odd 27 = .ok (.getfield 10, 3) := by decide +kernel
theorem dX5_odd_30 : decode cX5_odd 30 = .ok (.invokevirtual 186, 3) := by decide +kernel
theorem dX5_odd_33 : decode cX5_odd 33 = .ok (.goto 10, 3) := by decide +kernel
theorem dX5_odd_36 : decode cX5_odd 36 = .ok (.aload_n 0, 1) := by decide +kernel
theorem dX5_odd_37 : decode cX5_odd 37 = .ok (.getfield 26, 3) := by decide +kernel
theorem dX5_odd_40 : decode cX5_odd 40 = .ok (.invokevirtual 189, 3) := by decide +kernel
theorem dX5_odd_43 : decode cX5_odd 43 = .ok (.ireturn, 1) := by decide +kernel
theorem dX5_paper_0 : decode cX5_paper 0 = .ok (.iload_n 1, 1) := by decide +kernel
theorem dX5_paper_1 : decode cX5_paper 1 = .ok (.tableswitch 103 0 2 #[27, 52, 78], 27) := by decide +kernel
theorem dX5_paper_28 : decode cX5_paper 28 = .ok (.iload_n 2, 1) := by decide +kernel
theorem dX5_paper_29 : decode cX5_paper 29 = .ok (.iconst 1, 1) := by decide +kernel
theorem dX5_paper_30 : decode cX5_paper 30 = .ok (.iconst 3, 1) := by decide +kernel
theorem dX5_paper_31 : decode cX5_paper 31 = .ok (.invokestatic 58, 3) := by decide +kernel
theorem dX5_paper_34 : decode cX5_paper 34 = .ok (.ifCond .eq 14, 3) := by decide +kernel
theorem dX5_paper_37 : decode cX5_paper 37 = .ok (.aload_n 0, 1) := by decide +kernel
theorem dX5_paper_38 : decode cX5_paper 38 = .ok (.getfield 33, 3) := by decide +kernel
theorem dX5_paper_41 : decode cX5_paper 41 = .ok (.iload_n 2, 1) := by decide +kernel
theorem dX5_paper_42 : decode cX5_paper 42 = .ok (.invokevirtual 192, 3) := by decide +kernel
theorem dX5_paper_45 : decode cX5_paper 45 = .ok (.goto 7, 3) := by decide +kernel
theorem dX5_paper_48 : decode cX5_paper 48 = .ok (.aload_n 0, 1) := by decide +kernel
theorem dX5_paper_49 : decode cX5_paper 49 = .ok (.invokevirtual 62, 3) := by decide +kernel
theorem dX5_paper_52 : decode cX5_paper 52 = .ok (.ireturn, 1) := by decide +kernel
theorem dX5_paper_53 : decode cX5_paper 53 = .ok (.iload_n 2, 1) := by decide +kernel
theorem dX5_paper_54 : decode cX5_paper 54 = .ok (.iconst 4, 1) := by decide +kernel
theorem dX5_paper_55 : decode cX5_paper 55 = .ok (.bipush 30, 2) := by decide +kernel
theorem dX5_paper_57 : decode cX5_paper 57 = .ok (.invokestatic 58, 3) := by decide +kernel
theorem dX5_paper_60 : decode cX5_paper 60 = .ok (.ifCond .eq 14, 3) := by decide +kernel
theorem dX5_paper_63 : decode cX5_paper 63 = .ok (.aload_n 0, 1) := by decide +kernel
theorem dX5_paper_64 : decode cX5_paper 64 = .ok (.getfield 33, 3) := by decide +kernel
theorem dX5_paper_67 : decode cX5_paper 67 = .ok (.iload_n 2, 1) := by decide +kernel
theorem dX5_paper_68 : decode cX5_paper 68 = .ok (.invokevirtual 195, 3) := by decide +kernel
theorem dX5_paper_71 : decode cX5_paper 71 = .ok (.goto 7, 3) := by decide +kernel
theorem dX5_paper_74 : decode cX5_paper 74 = .ok (.aload_n 0, 1) := by decide +kernel
theorem dX5_paper_75 : decode cX5_paper 75 = .ok (.invokevirtual 62, 3) := by decide +kernel
theorem dX5_paper_78 : decode cX5_paper 78 = .ok (.ireturn, 1) := by decide +kernel
theorem dX5_paper_79 : decode cX5_paper 79 = .ok (.iload_n 2, 1) := by decide +kernel
theorem dX5_paper_80 : decode cX5_paper 80 = .ok (.iconst 0, 1) := by decide +kernel
theorem dX5_paper_81 : decode cX5_paper 81 = .ok (.iconst 3, 1) := by decide +kernel
theorem dX5_paper_82 : decode cX5_paper 82 = .ok (.invokestatic 58, 3) := by decide +kernel
theorem dX5_paper_85 : decode cX5_paper 85 = .ok (.ifCond .eq 14, 3) := by decide +kernel
theorem dX5_paper_88 : decode cX5_paper 88 = .ok (.aload_n 0, 1) := by decide +kernel
theorem dX5_paper_89 : decode cX5_paper 89 = .ok (.getfield 33, 3) := by decide +kernel
theorem dX5_paper_92 : decode cX5_paper 92 = .ok (.iload_n 2, 1) := by decide +kernel
theorem dX5_paper_93 : decode cX5_paper 93 = .ok (.invokevirtual 198, 3) := by decide +kernel
theorem dX5_paper_96 : decode cX5_paper 96 = .ok (.goto 7, 3) := by decide +kernel
theorem dX5_paper_99 : decode cX5_paper 99 = .ok (.aload_n 0, 1) := by decide +kernel
theorem dX5_paper_100 : decode cX5_paper 100 = .ok (.invokevirtual 62, 3) := by decide +kernel
theorem dX5_paper_103 : decode cX5_paper 103 = .ok (.ireturn, 1) := by decide +kernel
theorem dX5_paper_104 : decode cX5_paper 104 = .ok (.aload_n 0, 1) := by decide +kernel
theorem dX5_paper_105 : decode cX5_paper 105 = .ok (.invokevirtual 62, 3) := by decide +kernel
theorem dX5_paper_108 : decode cX5_paper 108 = .ok (.ireturn, 1) := by decide +kernel
theorem dX5_faces_0 : decode cX5_faces 0 = .ok (.aload_n 0, 1) := by decide +kernel
theorem dX5_faces_1 : decode cX5_faces 1 = .ok (.iload_n 1, 1) := by decide +kernel
theorem dX5_faces_2 : decode cX5_faces 2 = .ok (.invokevirtual 149, 3) := by decide +kernel
theorem dX5_faces_5 : decode cX5_faces 5 = .ok (.ifCond .ne 8, 3) := by decide +kernel
theorem dX5_faces_8 : decode cX5_faces 8 = .ok (.aload_n 0, 1) := by decide +kernel
theorem dX5_faces_9 : decode cX5_faces 9 = .ok (.invokevirtual 62, 3) := by decide +kernel
theorem dX5_faces_12 : decode cX5_faces 12 = .ok (.ireturn, 1) := by decide +kernel
theorem dX5_faces_13 : decode cX5_faces 13 = .ok (.aload_n 0, 1) := by decide +kernel
theorem dX5_faces_14 : decode cX5_faces 14 = .ok (.iload_n 1, 1) := by decide +kernel
theorem dX5_faces_15 : decode cX5_faces 15 = .ok (.aload_n 0, 1) := by decide +kernel
theorem dX5_faces_16 : decode cX5_faces 16 = .ok (.getfield 33, 3) := by decide +kernel
theorem dX5_faces_19 : decode cX5_faces 19 = .ok (.getfield 201, 3) := by decide +kernel
theorem dX5_faces_22 : decode cX5_faces 22 = .ok (.invokevirtual 204, 3) := by decide +kernel
theorem dX5_faces_25 : decode cX5_faces 25 = .ok (.ireturn, 1) := by decide +kernel
theorem dX5_contest_0 : decode cX5_contest 0 = .ok (.aload_n 0, 1) := by decide +kernel
theorem dX5_contest_1 : decode cX5_contest 1 = .ok (.iload_n 1, 1) := by decide +kernel
theorem dX5_contest_2 : decode cX5_contest 2 = .ok (.invokevirtual 149, 3) := by decide +kernel
theorem dX5_contest_5 : decode cX5_contest 5 = .ok (.ifCond .eq 16, 3) := by decide +kernel
theorem dX5_contest_8 : decode cX5_contest 8 = .ok (.iload_n 2, 1) := by decide +kernel
theorem dX5_contest_9 : decode cX5_contest 9 = .ok (.ifCond .lt 12, 3) := by decide +kernel
theorem dX5_contest_12 : decode cX5_contest 12 = .ok (.iload_n 3, 1) := by decide +kernel
theorem dX5_contest_13 : decode cX5_contest 13 = .ok (.iconst 0, 1) := by decide +kernel
theorem dX5_contest_14 : decode cX5_contest 14 = .ok (.iconst 3, 1) := by decide +kernel
theorem dX5_contest_15 : decode cX5_contest 15 = .ok (.invokestatic 58, 3) := by decide +kernel
theorem dX5_contest_18 : decode cX5_contest 18 = .ok (.ifCond .ne 8, 3) := by decide +kernel
theorem dX5_contest_21 : decode cX5_contest 21 = .ok (.aload_n 0, 1) := by decide +kernel
theorem dX5_contest_22 : decode cX5_contest 22 = .ok (.invokevirtual 62, 3) := by decide +kernel
theorem dX5_contest_25 : decode cX5_contest 25 = .ok (.ireturn, 1) := by decide +kernel
theorem dX5_contest_26 : decode cX5_contest 26 = .ok (.aload_n 0, 1) := by decide +kernel
theorem dX5_contest_27 : decode cX5_contest 27 = .ok (.getfield 26, 3) := by decide +kernel
theorem dX5_contest_30 : decode cX5_contest 30 = .ok (.getfield 170, 3) := by decide +kernel
theorem dX5_contest_33 : decode cX5_contest 33 = .ok (.iload_n 1, 1) := by decide +kernel
theorem dX5_contest_34 : decode cX5_contest 34 = .ok (.iaload, 1) := by decide +kernel
theorem dX5_contest_35 : decode cX5_contest 35 = .ok (.istore 4, 2) := by decide +kernel
theorem dX5_contest_37 : decode cX5_contest 37 = .ok (.aload_n 0, 1) := by decide +kernel
theorem dX5_contest_38 : decode cX5_contest 38 = .ok (.getfield 33, 3) := by decide +kernel
theorem dX5_contest_41 : decode cX5_contest 41 = .ok (.aload_n 0, 1) := by decide +kernel
theorem dX5_contest_42 : decode cX5_contest 42 = .ok (.getfield 10, 3) := by decide +kernel
theorem dX5_contest_45 : decode cX5_contest 45 = .ok (.iload 4, 2) := by decide +kernel
theorem dX5_contest_47 : decode cX5_contest 47 = .ok (.aload_n 0, 1) := by decide +kernel
theorem dX5_contest_48 : decode cX5_contest 48 = .ok (.getfield 33, 3) := by decide +kernel
theorem dX5_contest_51 : decode cX5_contest 51 = .ok (.getfield 201, 3) := by decide +kernel
theorem dX5_contest_54 : decode cX5_contest 54 = .ok (.invokevirtual 207, 3) := by decide +kernel
theorem dX5_contest_57 : decode cX5_contest 57 = .ok (.iload_n 2, 1) := by decide +kernel
theorem dX5_contest_58 : decode cX5_contest 58 = .ok (.aload_n 0, 1) := by decide +kernel
theorem dX5_contest_59 : decode cX5_contest 59 = .ok (.getfield 33, 3) := by decide +kernel
theorem dX5_contest_62 : decode cX5_contest 62 = .ok (.getfield 211, 3) := by decide +kernel
theorem dX5_contest_65 : decode cX5_contest 65 = .ok (.if_icmp .lt 5, 3) := by decide +kernel
theorem dX5_contest_68 : decode cX5_contest 68 = .ok (.iconst (-1), 1) := by decide +kernel
theorem dX5_contest_69 : decode cX5_contest 69 = .ok (.ireturn, 1) := by decide +kernel
theorem dX5_contest_70 : decode cX5_contest 70 = .ok (.iload_n 3, 1) := by decide +kernel
theorem dX5_contest_71 : decode cX5_contest 71 = .ok (.tableswitch 73 0 2 #[25, 35, 54], 25) := by decide +kernel
theorem dX5_contest_96 : decode cX5_contest 96 = .ok (.aload_n 0, 1) := by decide +kernel
theorem dX5_contest_97 : decode cX5_contest 97 = .ok (.getfield 33, 3) := by decide +kernel
theorem dX5_contest_100 : decode cX5_contest 100 = .ok (.getfield 214, 3) := by decide +kernel
theorem dX5_contest_103 : decode cX5_contest 103 = .ok (.iload_n 2, 1) := by decide +kernel
theorem dX5_contest_104 : decode cX5_contest 104 = .ok (.iaload, 1) := by decide +kernel
theorem dX5_contest_105 : decode cX5_contest 105 = .ok (.ireturn, 1) := by decide +kernel
theorem dX5_contest_106 : decode cX5_contest 106 = .ok (.aload_n 0, 1) := by decide +kernel
theorem dX5_contest_107 : decode cX5_contest 107 = .ok (.getfield 10, 3) := by decide +kernel
theorem dX5_contest_110 : decode cX5_contest 110 = .ok (.aload_n 0, 1) := by decide +kernel
theorem dX5_contest_111 : decode cX5_contest 111 = .ok (.getfield 33, 3) := by decide +kernel
theorem dX5_contest_114 : decode cX5_contest 114 = .ok (.getfield 214, 3) := by decide +kernel
theorem dX5_contest_117 : decode cX5_contest 117 = .ok (.iload_n 2, 1) := by decide +kernel
theorem dX5_contest_118 : decode cX5_contest 118 = .ok (.iaload, 1) := by decide +kernel
theorem dX5_contest_119 : decode cX5_contest 119 = .ok (.iload 4, 2) := by decide +kernel
theorem dX5_contest_121 : decode cX5_contest 121 = .ok (.invokevirtual 123, 3) := by decide +kernel
theorem dX5_contest_124 : decode cX5_contest 124 = .ok (.ireturn, 1) := by decide +kernel
theorem dX5_contest_125 : decode cX5_contest 125 = .ok (.aload_n 0, 1) := by decide +kernel
theorem dX5_contest_126 : decode cX5_contest 126 = .ok (.getfield 10, 3) := by decide +kernel
theorem dX5_contest_129 : decode cX5_contest 129 = .ok (.aload_n 0, 1) := by decide +kernel
theorem dX5_contest_130 : decode cX5_contest 130 = .ok (.getfield 33, 3) := by decide +kernel
theorem dX5_contest_133 : decode cX5_contest 133 = .ok (.getfield 214, 3) := by decide +kernel
theorem dX5_contest_136 : decode cX5_contest 136 = .ok (.iload_n 2, 1) := by decide +kernel
theorem dX5_contest_137 : decode cX5_contest 137 = .ok (.iaload, 1) := by decide +kernel
theorem dX5_contest_138 : decode cX5_contest 138 = .ok (.iload 4, 2) := by decide +kernel
theorem dX5_contest_140 : decode cX5_contest 140 = .ok (.invokevirtual 217, 3) := by decide +kernel
theorem dX5_contest_143 : decode cX5_contest 143 = .ok (.ireturn, 1) := by decide +kernel
theorem dX5_contest_144 : decode cX5_contest 144 = .ok (.aload_n 0, 1) := by decide +kernel
theorem dX5_contest_145 : decode cX5_contest 145 = .ok (.getfield 33, 3) := by decide +kernel
theorem dX5_contest_148 : decode cX5_contest 148 = .ok (.getfield 220, 3) := by decide +kernel
theorem dX5_contest_151 : decode cX5_contest 151 = .ok (.ifCond .eq 7, 3) := by decide +kernel
theorem dX5_contest_154 : decode cX5_contest 154 = .ok (.iconst (-1), 1) := by decide +kernel
theorem dX5_contest_155 : decode cX5_contest 155 = .ok (.goto 12, 3) := by decide +kernel
theorem dX5_contest_158 : decode cX5_contest 158 = .ok (.aload_n 0, 1) := by decide +kernel
theorem dX5_contest_159 : decode cX5_contest 159 = .ok (.getfield 33, 3) := by decide +kernel
theorem dX5_contest_162 : decode cX5_contest 162 = .ok (.getfield 224, 3) := by decide +kernel
theorem dX5_contest_165 : decode cX5_contest 165 = .ok (.iload_n 2, 1) := by decide +kernel
theorem dX5_contest_166 : decode cX5_contest 166 = .ok (.iaload, 1) := by decide +kernel
theorem dX5_contest_167 : decode cX5_contest 167 = .ok (.ireturn, 1) := by decide +kernel
theorem dX5_room_0 : decode cX5_room 0 = .ok (.aload_n 0, 1) := by decide +kernel
theorem dX5_room_1 : decode cX5_room 1 = .ok (.iload_n 1, 1) := by decide +kernel
theorem dX5_room_2 : decode cX5_room 2 = .ok (.invokevirtual 149, 3) := by decide +kernel
theorem dX5_room_5 : decode cX5_room 5 = .ok (.ifCond .eq 12, 3) := by decide +kernel
theorem dX5_room_8 : decode cX5_room 8 = .ok (.iload_n 2, 1) := by decide +kernel
theorem dX5_room_9 : decode cX5_room 9 = .ok (.iconst 0, 1) := by decide +kernel
theorem dX5_room_10 : decode cX5_room 10 = .ok (.iconst 1, 1) := by decide +kernel
theorem dX5_room_11 : decode cX5_room 11 = .ok (.invokestatic 58, 3) := by decide +kernel
theorem dX5_room_14 : decode cX5_room 14 = .ok (.ifCond .ne 8, 3) := by decide +kernel
theorem dX5_room_17 : decode cX5_room 17 = .ok (.aload_n 0, 1) := by decide +kernel
theorem dX5_room_18 : decode cX5_room 18 = .ok (.invokevirtual 62, 3) := by decide +kernel
theorem dX5_room_21 : decode cX5_room 21 = .ok (.ireturn, 1) := by decide +kernel
theorem dX5_room_22 : decode cX5_room 22 = .ok (.iload_n 2, 1) := by decide +kernel
theorem dX5_room_23 : decode cX5_room 23 = .ok (.iconst 1, 1) := by decide +kernel
theorem dX5_room_24 : decode cX5_room 24 = .ok (.if_icmp .ne 15, 3) := by decide +kernel
theorem dX5_room_27 : decode cX5_room 27 = .ok (.aload_n 0, 1) := by decide +kernel
theorem dX5_room_28 : decode cX5_room 28 = .ok (.aload_n 0, 1) := by decide +kernel
theorem dX5_room_29 : decode cX5_room 29 = .ok (.getfield 33, 3) := by decide +kernel
theorem dX5_room_32 : decode cX5_room 32 = .ok (.getfield 201, 3) := by decide +kernel
theorem dX5_room_35 : decode cX5_room 35 = .ok (.invokevirtual 227, 3) := by decide +kernel
theorem dX5_room_38 : decode cX5_room 38 = .ok (.ireturn, 1) := by decide +kernel
theorem dX5_room_39 : decode cX5_room 39 = .ok (.aload_n 0, 1) := by decide +kernel
theorem dX5_room_40 : decode cX5_room 40 = .ok (.getfield 33, 3) := by decide +kernel
theorem dX5_room_43 : decode cX5_room 43 = .ok (.aload_n 0, 1) := by decide +kernel
theorem dX5_room_44 : decode cX5_room 44 = .ok (.getfield 10, 3) := by decide +kernel
theorem dX5_room_47 : decode cX5_room 47 = .ok (.aload_n 0, 1) := by decide +kernel
theorem dX5_room_48 : decode cX5_room 48 = .ok (.getfield 26, 3) := by decide +kernel
theorem dX5_room_51 : decode cX5_room 51 = .ok (.getfield 170, 3) := by decide +kernel
theorem dX5_room_54 : decode cX5_room 54 = .ok (.iload_n 1, 1) := by decide +kernel
theorem dX5_room_55 : decode cX5_room 55 = .ok (.iaload, 1) := by decide +kernel
theorem dX5_room_56 : decode cX5_room 56 = .ok (.aload_n 0, 1) := by decide +kernel
theorem dX5_room_57 : decode cX5_room 57 = .ok (.getfield 33, 3) := by decide +kernel
theorem dX5_room_60 : decode cX5_room 60 = .ok (.getfield 201, 3) := by decide +kernel
theorem dX5_room_63 : decode cX5_room 63 = .ok (.invokevirtual 207, 3) := by decide +kernel
theorem dX5_room_66 : decode cX5_room 66 = .ok (.aload_n 0, 1) := by decide +kernel
theorem dX5_room_67 : decode cX5_room 67 = .ok (.getfield 33, 3) := by decide +kernel
theorem dX5_room_70 : decode cX5_room 70 = .ok (.getfield 220, 3) := by decide +kernel
theorem dX5_room_73 : decode cX5_room 73 = .ok (.ifCond .eq 7, 3) := by decide +kernel
theorem dX5_room_76 : decode cX5_room 76 = .ok (.iconst (-1), 1) := by decide +kernel
theorem dX5_room_77 : decode cX5_room 77 = .ok (.goto 10, 3) := by decide +kernel
theorem dX5_room_80 : decode cX5_room 80 = .ok (.aload_n 0, 1) := by decide +kernel
theorem dX5_room_81 : decode cX5_room 81 = .ok (.getfield 33, 3) := by decide +kernel
theorem dX5_room_84 : decode cX5_room 84 = .ok (.invokevirtual 230, 3) := by decide +kernel
theorem dX5_room_87 : decode cX5_room 87 = .ok (.ireturn, 1) := by decide +kernel
theorem dX5_rule_0 : decode cX5_rule 0 = .ok (.iload_n 1, 1) := by decide +kernel
theorem dX5_rule_1 : decode cX5_rule 1 = .ok (.iconst 0, 1) := by decide +kernel
theorem dX5_rule_2 : decode cX5_rule 2 = .ok (.iconst 1, 1) := by decide +kernel
theorem dX5_rule_3 : decode cX5_rule 3 = .ok (.invokestatic 58, 3) := by decide +kernel
theorem dX5_rule_6 : decode cX5_rule 6 = .ok (.ifCond .ne 8, 3) := by decide +kernel
theorem dX5_rule_9 : decode cX5_rule 9 = .ok (.aload_n 0, 1) := by decide +kernel
theorem dX5_rule_10 : decode cX5_rule 10 = .ok (.invokevirtual 62, 3) := by decide +kernel
theorem dX5_rule_13 : decode cX5_rule 13 = .ok (.ireturn, 1) := by decide +kernel
theorem dX5_rule_14 : decode cX5_rule 14 = .ok (.aload_n 0, 1) := by decide +kernel
theorem dX5_rule_15 : decode cX5_rule 15 = .ok (.invokevirtual 117, 3) := by decide +kernel
theorem dX5_rule_18 : decode cX5_rule 18 = .ok (.aload_n 0, 1) := by decide +kernel
theorem dX5_rule_19 : decode cX5_rule 19 = .ok (.invokevirtual 233, 3) := by decide +kernel
theorem dX5_rule_22 : decode cX5_rule 22 = .ok (.ifCond .eq 8, 3) := by decide +kernel
theorem dX5_rule_25 : decode cX5_rule 25 = .ok (.aload_n 0, 1) := by decide +kernel
theorem dX5_rule_26 : decode cX5_rule 26 = .ok (.invokevirtual 106, 3) := by decide +kernel
theorem dX5_rule_29 : decode cX5_rule 29 = .ok (.ireturn, 1) := by decide +kernel
theorem dX5_rule_30 : decode cX5_rule 30 = .ok (.iconst 0, 1) := by decide +kernel
theorem dX5_rule_31 : decode cX5_rule 31 = .ok (.istore_n 2, 1) := by decide +kernel
theorem dX5_rule_32 : decode cX5_rule 32 = .ok (.aload_n 0, 1) := by decide +kernel
theorem dX5_rule_33 : decode cX5_rule 33 = .ok (.iconst 0, 1) := by decide +kernel
theorem dX5_rule_34 : decode cX5_rule 34 = .ok (.invokevirtual 227, 3) := by decide +kernel
theorem dX5_rule_37 : decode cX5_rule 37 = .ok (.istore_n 3, 1) := by decide +kernel
theorem dX5_rule_38 : decode cX5_rule 38 = .ok (.iconst 1, 1) := by decide +kernel
theorem dX5_rule_39 : decode cX5_rule 39 = .ok (.istore 4, 2) := by decide +kernel
theorem dX5_rule_41 : decode cX5_rule 41 = .ok (.iload 4, 2) := by decide +kernel
theorem dX5_rule_43 : decode cX5_rule 43 = .ok (.iconst 4, 1) := by decide +kernel
theorem dX5_rule_44 : decode cX5_rule 44 = .ok (.if_icmp .ge 29, 3) := by decide +kernel
theorem dX5_rule_47 : decode cX5_rule 47 = .ok (.aload_n 0, 1) := by decide +kernel
theorem dX5_rule_48 : decode cX5_rule 48 = .ok (.iload 4, 2) := by decide +kernel
theorem dX5_rule_50 : decode cX5_rule 50 = .ok (.invokevirtual 227, 3) := by decide +kernel
theorem dX5_rule_53 : decode cX5_rule 53 = .ok (.istore 5, 2) := by decide +kernel
theorem dX5_rule_55 : decode cX5_rule 55 = .ok (.iload 5, 2) := by decide +kernel
theorem dX5_rule_57 : decode cX5_rule 57 = .ok (.iload_n 3, 1) := by decide +kernel
theorem dX5_rule_58 : decode cX5_rule 58 = .ok (.if_icmp .ge 9, 3) := by decide +kernel
theorem dX5_rule_61 : decode cX5_rule 61 = .ok (.iload 4, 2) := by decide +kernel
theorem dX5_rule_63 : decode cX5_rule 63 = .ok (.istore_n 2, 1) := by decide +kernel
theorem dX5_rule_64 : decode cX5_rule 64 = .ok (.iload 5, 2) := by decide +kernel
theorem dX5_rule_66 : decode cX5_rule 66 = .ok (.istore_n 3, 1) := by decide +kernel
theorem dX5_rule_67 : decode cX5_rule 67 = .ok (.iinc 4 1, 3) := by decide +kernel
theorem dX5_rule_70 : decode cX5_rule 70 = .ok (.goto (-29), 3) := by decide +kernel
theorem dX5_rule_73 : decode cX5_rule 73 = .ok (.iload_n 1, 1) := by decide +kernel
theorem dX5_rule_74 : decode cX5_rule 74 = .ok (.ifCond .ne 7, 3) := by decide +kernel
theorem dX5_rule_77 : decode cX5_rule 77 = .ok (.iload_n 2, 1) := by decide +kernel
theorem dX5_rule_78 : decode cX5_rule 78 = .ok (.goto 4, 3) := by decide +kernel
theorem dX5_rule_81 : decode cX5_rule 81 = .ok (.iload_n 3, 1) := by decide +kernel
theorem dX5_rule_82 : decode cX5_rule 82 = .ok (.ireturn, 1) := by decide +kernel
theorem dX5_leads_0 : decode cX5_leads 0 = .ok (.iload_n 1, 1) := by decide +kernel
theorem dX5_leads_1 : decode cX5_leads 1 = .ok (.invokestatic 89, 3) := by decide +kernel
theorem dX5_leads_4 : decode cX5_leads 4 = .ok (.ifCond .eq 10, 3) := by decide +kernel
theorem dX5_leads_7 : decode cX5_leads 7 = .ok (.iload_n 2, 1) := by decide +kernel
theorem dX5_leads_8 : decode cX5_leads 8 = .ok (.invokestatic 54, 3) := by decide +kernel
theorem dX5_leads_11 : decode cX5_leads 11 = .ok (.ifCond .ne 8, 3) := by decide +kernel
theorem dX5_leads_14 : decode cX5_leads 14 = .ok (.aload_n 0, 1) := by decide +kernel
theorem dX5_leads_15 : decode cX5_leads 15 = .ok (.invokevirtual 62, 3) := by decide +kernel
theorem dX5_leads_18 : decode cX5_leads 18 = .ok (.ireturn, 1) := by decide +kernel
theorem dX5_leads_19 : decode cX5_leads 19 = .ok (.aload_n 0, 1) := by decide +kernel
theorem dX5_leads_20 : decode cX5_leads 20 = .ok (.getfield 10, 3) := by decide +kernel
theorem dX5_leads_23 : decode cX5_leads 23 = .ok (.iload_n 2, 1) := by decide +kernel
theorem dX5_leads_24 : decode cX5_leads 24 = .ok (.invokevirtual 183, 3) := by decide +kernel
theorem dX5_leads_27 : decode cX5_leads 27 = .ok (.ifCond .eq 15, 3) := by decide +kernel
theorem dX5_leads_30 : decode cX5_leads 30 = .ok (.aload_n 0, 1) := by decide +kernel
theorem dX5_leads_31 : decode cX5_leads 31 = .ok (.getfield 10, 3) := by decide +kernel
theorem dX5_leads_34 : decode cX5_leads 34 = .ok (.iload_n 2, 1) := by decide +kernel
theorem dX5_leads_35 : decode cX5_leads 35 = .ok (.iload_n 1, 1) := by decide +kernel
theorem dX5_leads_36 : decode cX5_leads 36 = .ok (.invokevirtual 236, 3) := by decide +kernel
theorem dX5_leads_39 : decode cX5_leads 39 = .ok (.goto 4, 3) := by decide +kernel
theorem dX5_leads_42 : decode cX5_leads 42 = .ok (.iconst (-1), 1) := by decide +kernel
theorem dX5_leads_43 : decode cX5_leads 43 = .ok (.ireturn, 1) := by decide +kernel
theorem dX5_lead_0 : decode cX5_lead 0 = .ok (.iload_n 1, 1) := by decide +kernel
theorem dX5_lead_1 : decode cX5_lead 1 = .ok (.invokestatic 54, 3) := by decide +kernel
theorem dX5_lead_4 : decode cX5_lead 4 = .ok (.ifCond .eq 17, 3) := by decide +kernel
theorem dX5_lead_7 : decode cX5_lead 7 = .ok (.iload_n 2, 1) := by decide +kernel
theorem dX5_lead_8 : decode cX5_lead 8 = .ok (.invokestatic 74, 3) := by decide +kernel
theorem dX5_lead_11 : decode cX5_lead 11 = .ok (.ifCond .eq 10, 3) := by decide +kernel
theorem dX5_lead_14 : decode cX5_lead 14 = .ok (.iload_n 3, 1) := by decide +kernel
theorem dX5_lead_15 : decode cX5_lead 15 = .ok (.invokestatic 239, 3) := by decide +kernel
theorem dX5_lead_18 : decode cX5_lead 18 = .ok (.ifCond .ne 8, 3) := by decide +kernel
theorem dX5_lead_21 : decode cX5_lead 21 = .ok (.aload_n 0, 1) := by decide +kernel
theorem dX5_lead_22 : decode cX5_lead 22 = .ok (.invokevirtual 62, 3) := by decide +kernel
theorem dX5_lead_25 : decode cX5_lead 25 = .ok (.ireturn, 1) := by decide +kernel
theorem dX5_lead_26 : decode cX5_lead 26 = .ok (.iload_n 3, 1) := by decide +kernel
theorem dX5_lead_27 : decode cX5_lead 27 = .ok (.aload_n 0, 1) := by decide +kernel
theorem dX5_lead_28 : decode cX5_lead 28 = .ok (.getfield 10, 3) := by decide +kernel
theorem dX5_lead_31 : decode cX5_lead 31 = .ok (.iload_n 1, 1) := by decide +kernel
theorem dX5_lead_32 : decode cX5_lead 32 = .ok (.iload_n 2, 1) := by decide +kernel
theorem dX5_lead_33 : decode cX5_lead 33 = .ok (.invokevirtual 242, 3) := by decide +kernel
theorem dX5_lead_36 : decode cX5_lead 36 = .ok (.if_icmp .ge 17, 3) := by decide +kernel
theorem dX5_lead_39 : decode cX5_lead 39 = .ok (.aload_n 0, 1) := by decide +kernel
theorem dX5_lead_40 : decode cX5_lead 40 = .ok (.getfield 10, 3) := by decide +kernel
theorem dX5_lead_43 : decode cX5_lead 43 = .ok (.iload_n 1, 1) := by decide +kernel
theorem dX5_lead_44 : decode cX5_lead 44 = .ok (.iload_n 2, 1) := by decide +kernel
theorem dX5_lead_45 : decode cX5_lead 45 = .ok (.iload_n 3, 1) := by decide +kernel
theorem dX5_lead_46 : decode cX5_lead 46 = .ok (.iconst 1, 1) := by decide +kernel
theorem dX5_lead_47 : decode cX5_lead 47 = .ok (.invokevirtual 245, 3) := by decide +kernel
theorem dX5_lead_50 : decode cX5_lead 50 = .ok (.goto 4, 3) := by decide +kernel
theorem dX5_lead_53 : decode cX5_lead 53 = .ok (.iconst (-1), 1) := by decide +kernel
theorem dX5_lead_54 : decode cX5_lead 54 = .ok (.ireturn, 1) := by decide +kernel
theorem dX5_fair_0 : decode cX5_fair 0 = .ok (.iload_n 1, 1) := by decide +kernel
theorem dX5_fair_1 : decode cX5_fair 1 = .ok (.invokestatic 54, 3) := by decide +kernel
theorem dX5_fair_4 : decode cX5_fair 4 = .ok (.ifCond .eq 19, 3) := by decide +kernel
theorem dX5_fair_7 : decode cX5_fair 7 = .ok (.iload_n 2, 1) := by decide +kernel
theorem dX5_fair_8 : decode cX5_fair 8 = .ok (.invokestatic 74, 3) := by decide +kernel
theorem dX5_fair_11 : decode cX5_fair 11 = .ok (.ifCond .eq 12, 3) := by decide +kernel
theorem dX5_fair_14 : decode cX5_fair 14 = .ok (.iload_n 3, 1) := by decide +kernel
theorem dX5_fair_15 : decode cX5_fair 15 = .ok (.iconst 0, 1) := by decide +kernel
theorem dX5_fair_16 : decode cX5_fair 16 = .ok (.iconst 1, 1) := by decide +kernel
theorem dX5_fair_17 : decode cX5_fair 17 = .ok (.invokestatic 58, 3) := by decide +kernel
theorem dX5_fair_20 : decode cX5_fair 20 = .ok (.ifCond .ne 8, 3) := by decide +kernel
theorem dX5_fair_23 : decode cX5_fair 23 = .ok (.aload_n 0, 1) := by decide +kernel
theorem dX5_fair_24 : decode cX5_fair 24 = .ok (.invokevirtual 62, 3) := by decide +kernel
theorem dX5_fair_27 : decode cX5_fair 27 = .ok (.ireturn, 1) := by decide +kernel
theorem dX5_fair_28 : decode cX5_fair 28 = .ok (.aload_n 0, 1) := by decide +kernel
theorem dX5_fair_29 : decode cX5_fair 29 = .ok (.getfield 10, 3) := by decide +kernel
theorem dX5_fair_32 : decode cX5_fair 32 = .ok (.iload_n 1, 1) := by decide +kernel
theorem dX5_fair_33 : decode cX5_fair 33 = .ok (.iload_n 2, 1) := by decide +kernel
theorem dX5_fair_34 : decode cX5_fair 34 = .ok (.iconst 0, 1) := by decide +kernel
theorem dX5_fair_35 : decode cX5_fair 35 = .ok (.iload_n 3, 1) := by decide +kernel
theorem dX5_fair_36 : decode cX5_fair 36 = .ok (.iconst 1, 1) := by decide +kernel
theorem dX5_fair_37 : decode cX5_fair 37 = .ok (.if_icmp .ne 7, 3) := by decide +kernel
theorem dX5_fair_40 : decode cX5_fair 40 = .ok (.iconst 1, 1) := by decide +kernel
theorem dX5_fair_41 : decode cX5_fair 41 = .ok (.goto 4, 3) := by decide +kernel
theorem dX5_fair_44 : decode cX5_fair 44 = .ok (.iconst 0, 1) := by decide +kernel
theorem dX5_fair_45 : decode cX5_fair 45 = .ok (.invokevirtual 245, 3) := by decide +kernel
theorem dX5_fair_48 : decode cX5_fair 48 = .ok (.istore 4, 2) := by decide +kernel
theorem dX5_fair_50 : decode cX5_fair 50 = .ok (.iload 4, 2) := by decide +kernel
theorem dX5_fair_52 : decode cX5_fair 52 = .ok (.istore 5, 2) := by decide +kernel
theorem dX5_fair_54 : decode cX5_fair 54 = .ok (.iconst 1, 1) := by decide +kernel
theorem dX5_fair_55 : decode cX5_fair 55 = .ok (.istore 6, 2) := by decide +kernel
theorem dX5_fair_57 : decode cX5_fair 57 = .ok (.iload 6, 2) := by decide +kernel
theorem dX5_fair_59 : decode cX5_fair 59 = .ok (.aload_n 0, 1) := by decide +kernel
theorem dX5_fair_60 : decode cX5_fair 60 = .ok (.getfield 10, 3) := by decide +kernel
theorem dX5_fair_63 : decode cX5_fair 63 = .ok (.iload_n 1, 1) := by decide +kernel
theorem dX5_fair_64 : decode cX5_fair 64 = .ok (.iload_n 2, 1) := by decide +kernel
theorem dX5_fair_65 : decode cX5_fair 65 = .ok (.invokevirtual 242, 3) := by decide +kernel
theorem dX5_fair_68 : decode cX5_fair 68 = .ok (.if_icmp .ge 50, 3) := by decide +kernel
theorem dX5_fair_71 : decode cX5_fair 71 = .ok (.aload_n 0, 1) := by decide +kernel
theorem dX5_fair_72 : decode cX5_fair 72 = .ok (.getfield 10, 3) := by decide +kernel
theorem dX5_fair_75 : decode cX5_fair 75 = .ok (.iload_n 1, 1) := by decide +kernel
theorem dX5_fair_76 : decode cX5_fair 76 = .ok (.iload_n 2, 1) := by decide +kernel
theorem dX5_fair_77 : decode cX5_fair 77 = .ok (.iload 6, 2) := by decide +kernel
theorem dX5_fair_79 : decode cX5_fair 79 = .ok (.iload_n 3, 1) := by decide +kernel
theorem dX5_fair_80 : decode cX5_fair 80 = .ok (.iconst 1, 1) := by decide +kernel
theorem dX5_fair_81 : decode cX5_fair 81 = .ok (.if_icmp .ne 7, 3) := by decide +kernel
theorem dX5_fair_84 : decode cX5_fair 84 = .ok (.iconst 1, 1) := by decide +kernel
theorem dX5_fair_85 : decode cX5_fair 85 = .ok (.goto 4, 3) := by decide +kernel
theorem dX5_fair_88 : decode cX5_fair 88 = .ok (.iconst 0, 1) := by decide +kernel
theorem dX5_fair_89 : decode cX5_fair 89 = .ok (.invokevirtual 245, 3) := by decide +kernel
theorem dX5_fair_92 : decode cX5_fair 92 = .ok (.istore 7, 2) := by decide +kernel
theorem dX5_fair_94 : decode cX5_fair 94 = .ok (.iload 4, 2) := by decide +kernel
theorem dX5_fair_96 : decode cX5_fair 96 = .ok (.iload 7, 2) := by decide +kernel
theorem dX5_fair_98 : decode cX5_fair 98 = .ok (.invokestatic 249, 3) := by decide +kernel
theorem dX5_fair_101 : decode cX5_fair 101 = .ok (.istore 4, 2) := by decide +kernel
theorem dX5_fair_103 : decode cX5_fair 103 = .ok (.iload 5, 2) := by decide +kernel
theorem dX5_fair_105 : decode cX5_fair 105 = .ok (.iload 7, 2) := by decide +kernel
theorem dX5_fair_107 : decode cX5_fair 107 = .ok (.invokestatic 254, 3) := by decide +kernel
theorem dX5_fair_110 : decode cX5_fair 110 = .ok (.istore 5, 2) := by decide +kernel
theorem dX5_fair_112 : decode cX5_fair 112 = .ok (.iinc 6 1, 3) := by decide +kernel
theorem dX5_fair_115 : decode cX5_fair 115 = .ok (.goto (-58), 3) := by decide +kernel
theorem dX5_fair_118 : decode cX5_fair 118 = .ok (.iload 4, 2) := by decide +kernel
theorem dX5_fair_120 : decode cX5_fair 120 = .ok (.iload 5, 2) := by decide +kernel
theorem dX5_fair_122 : decode cX5_fair 122 = .ok (.isub, 1) := by decide +kernel
theorem dX5_fair_123 : decode cX5_fair 123 = .ok (.ireturn, 1) := by decide +kernel
theorem dX5_place_0 : decode cX5_place 0 = .ok (.iload_n 1, 1) := by decide +kernel
theorem dX5_place_1 : decode cX5_place 1 = .ok (.invokestatic 89, 3) := by decide +kernel
theorem dX5_place_4 : decode cX5_place 4 = .ok (.ifCond .eq 17, 3) := by decide +kernel
theorem dX5_place_7 : decode cX5_place 7 = .ok (.iload_n 2, 1) := by decide +kernel
theorem dX5_place_8 : decode cX5_place 8 = .ok (.invokestatic 54, 3) := by decide +kernel
theorem dX5_place_11 : decode cX5_place 11 = .ok (.ifCond .eq 10, 3) := by decide +kernel
theorem dX5_place_14 : decode cX5_place 14 = .ok (.iload_n 3, 1) := by decide +kernel
theorem dX5_place_15 : decode cX5_place 15 = .ok (.invokestatic 239, 3) := by decide +kernel
theorem dX5_place_18 : decode cX5_place 18 = .ok (.ifCond .ne 8, 3) := by decide +kernel
theorem dX5_place_21 : decode cX5_place 21 = .ok (.aload_n 0, 1) := by decide +kernel
theorem dX5_place_22 : decode cX5_place 22 = .ok (.invokevirtual 62, 3) := by decide +kernel
theorem dX5_place_25 : decode cX5_place 25 = .ok (.ireturn, 1) := by decide +kernel
theorem dX5_place_26 : decode cX5_place 26 = .ok (.aload_n 0, 1) := by decide +kernel
theorem dX5_place_27 : decode cX5_place 27 = .ok (.getfield 10, 3) := by decide +kernel
theorem dX5_place_30 : decode cX5_place 30 = .ok (.iload_n 2, 1) := by decide +kernel
theorem dX5_place_31 : decode cX5_place 31 = .ok (.aload_n 0, 1) := by decide +kernel
theorem dX5_place_32 : decode cX5_place 32 = .ok (.getfield 10, 3) := by decide +kernel
theorem dX5_place_35 : decode cX5_place 35 = .ok (.iload_n 2, 1) := by decide +kernel
theorem dX5_place_36 : decode cX5_place 36 = .ok (.iload_n 1, 1) := by decide +kernel
theorem dX5_place_37 : decode cX5_place 37 = .ok (.invokevirtual 123, 3) := by decide +kernel
theorem dX5_place_40 : decode cX5_place 40 = .ok (.invokevirtual 242, 3) := by decide +kernel
theorem dX5_place_43 : decode cX5_place 43 = .ok (.istore 4, 2) := by decide +kernel
theorem dX5_place_45 : decode cX5_place 45 = .ok (.aload_n 0, 1) := by decide +kernel
theorem dX5_place_46 : decode cX5_place 46 = .ok (.getfield 10, 3) := by decide +kernel
theorem dX5_place_49 : decode cX5_place 49 = .ok (.iload_n 2, 1) := by decide +kernel
theorem dX5_place_50 : decode cX5_place 50 = .ok (.invokevirtual 183, 3) := by decide +kernel
theorem dX5_place_53 : decode cX5_place 53 = .ok (.ifCond .eq 9, 3) := by decide +kernel
theorem dX5_place_56 : decode cX5_place 56 = .ok (.iload_n 3, 1) := by decide +kernel
theorem dX5_place_57 : decode cX5_place 57 = .ok (.iload 4, 2) := by decide +kernel
theorem dX5_place_59 : decode cX5_place 59 = .ok (.if_icmp .lt 5, 3) := by decide +kernel
theorem dX5_place_62 : decode cX5_place 62 = .ok (.iconst (-1), 1) := by decide +kernel
theorem dX5_place_63 : decode cX5_place 63 = .ok (.ireturn, 1) := by decide +kernel
theorem dX5_place_64 : decode cX5_place 64 = .ok (.iload_n 3, 1) := by decide +kernel
theorem dX5_place_65 : decode cX5_place 65 = .ok (.aload_n 0, 1) := by decide +kernel
theorem dX5_place_66 : decode cX5_place 66 = .ok (.getfield 10, 3) := by decide +kernel
theorem dX5_place_69 : decode cX5_place 69 = .ok (.iload_n 2, 1) := by decide +kernel
theorem dX5_place_70 : decode cX5_place 70 = .ok (.iload_n 1, 1) := by decide +kernel
theorem dX5_place_71 : decode cX5_place 71 = .ok (.invokevirtual 236, 3) := by decide +kernel
theorem dX5_place_74 : decode cX5_place 74 = .ok (.isub, 1) := by decide +kernel
theorem dX5_place_75 : decode cX5_place 75 = .ok (.istore 5, 2) := by decide +kernel
theorem dX5_place_77 : decode cX5_place 77 = .ok (.iload 5, 2) := by decide +kernel
theorem dX5_place_79 : decode cX5_place 79 = .ok (.ifCond .ge 11, 3) := by decide +kernel
theorem dX5_place_82 : decode cX5_place 82 = .ok (.iload 5, 2) := by decide +kernel
theorem dX5_place_84 : decode cX5_place 84 = .ok (.iload 4, 2) := by decide +kernel
theorem dX5_place_86 : decode cX5_place 86 = .ok (.iadd, 1) := by decide +kernel
theorem dX5_place_87 : decode cX5_place 87 = .ok (.goto 5, 3) := by decide +kernel
theorem dX5_place_90 : decode cX5_place 90 = .ok (.iload 5, 2) := by decide +kernel
theorem dX5_place_92 : decode cX5_place 92 = .ok (.ireturn, 1) := by decide +kernel
theorem dX5_told_0 : decode cX5_told 0 = .ok (.iload_n 1, 1) := by decide +kernel
theorem dX5_told_1 : decode cX5_told 1 = .ok (.iconst 0, 1) := by decide +kernel
theorem dX5_told_2 : decode cX5_told 2 = .ok (.bipush 8, 2) := by decide +kernel
theorem dX5_told_4 : decode cX5_told 4 = .ok (.invokestatic 58, 3) := by decide +kernel
theorem dX5_told_7 : decode cX5_told 7 = .ok (.ifCond .eq 11, 3) := by decide +kernel
theorem dX5_told_10 : decode cX5_told 10 = .ok (.aload_n 0, 1) := by decide +kernel
theorem dX5_told_11 : decode cX5_told 11 = .ok (.iload_n 1, 1) := by decide +kernel
theorem dX5_told_12 : decode cX5_told 12 = .ok (.invokevirtual 257, 3) := by decide +kernel
theorem dX5_told_15 : decode cX5_told 15 = .ok (.goto 7, 3) := by decide +kernel
theorem dX5_told_18 : decode cX5_told 18 = .ok (.aload_n 0, 1) := by decide +kernel
theorem dX5_told_19 : decode cX5_told 19 = .ok (.invokevirtual 62, 3) := by decide +kernel
theorem dX5_told_22 : decode cX5_told 22 = .ok (.ireturn, 1) := by decide +kernel
theorem dX5_digest_0 : decode cX5_digest 0 = .ok (.ldc2_w 260, 3) := by decide +kernel
theorem dX5_digest_3 : decode cX5_digest 3 = .ok (.lstore_n 1, 1) := by decide +kernel
theorem dX5_digest_4 : decode cX5_digest 4 = .ok (.iconst 0, 1) := by decide +kernel
theorem dX5_digest_5 : decode cX5_digest 5 = .ok (.istore_n 3, 1) := by decide +kernel
theorem dX5_digest_6 : decode cX5_digest 6 = .ok (.iload_n 3, 1) := by decide +kernel
theorem dX5_digest_7 : decode cX5_digest 7 = .ok (.bipush 9, 2) := by decide +kernel
theorem dX5_digest_9 : decode cX5_digest 9 = .ok (.if_icmp .ge 22, 3) := by decide +kernel
theorem dX5_digest_12 : decode cX5_digest 12 = .ok (.ldc2_w 262, 3) := by decide +kernel
theorem dX5_digest_15 : decode cX5_digest 15 = .ok (.lload_n 1, 1) := by decide +kernel
theorem dX5_digest_16 : decode cX5_digest 16 = .ok (.lmul, 1) := by decide +kernel
theorem dX5_digest_17 : decode cX5_digest 17 = .ok (.aload_n 0, 1) := by decide +kernel
theorem dX5_digest_18 : decode cX5_digest 18 = .ok (.iload_n 3, 1) := by decide +kernel
theorem dX5_digest_19 : decode cX5_digest 19 = .ok (.invokevirtual 257, 3) := by decide +kernel
theorem dX5_digest_22 : decode cX5_digest 22 = .ok (.i2l, 1) := by decide +kernel
theorem dX5_digest_23 : decode cX5_digest 23 = .ok (.ladd, 1) := by decide +kernel
theorem dX5_digest_24 : decode cX5_digest 24 = .ok (.lstore_n 1, 1) := by decide +kernel
theorem dX5_digest_25 : decode cX5_digest 25 = .ok (.iinc 3 1, 3) := by decide +kernel
theorem dX5_digest_28 : decode cX5_digest 28 = .ok (.goto (-22), 3) := by decide +kernel
theorem dX5_digest_31 : decode cX5_digest 31 = .ok (.iconst 0, 1) := by decide +kernel
theorem dX5_digest_32 : decode cX5_digest 32 = .ok (.istore_n 3, 1) := by decide +kernel
theorem dX5_digest_33 : decode cX5_digest 33 = .ok (.iload_n 3, 1) := by decide +kernel
theorem dX5_digest_34 : decode cX5_digest 34 = .ok (.bipush 24, 2) := by decide +kernel
theorem dX5_digest_36 : decode cX5_digest 36 = .ok (.if_icmp .ge 59, 3) := by decide +kernel
theorem dX5_digest_39 : decode cX5_digest 39 = .ok (.ldc2_w 262, 3) := by decide +kernel
theorem dX5_digest_42 : decode cX5_digest 42 = .ok (.lload_n 1, 1) := by decide +kernel
theorem dX5_digest_43 : decode cX5_digest 43 = .ok (.lmul, 1) := by decide +kernel
theorem dX5_digest_44 : decode cX5_digest 44 = .ok (.aload_n 0, 1) := by decide +kernel
theorem dX5_digest_45 : decode cX5_digest 45 = .ok (.getfield 10, 3) := by decide +kernel
theorem dX5_digest_48 : decode cX5_digest 48 = .ok (.getfield 113, 3) := by decide +kernel
theorem dX5_digest_51 : decode cX5_digest 51 = .ok (.iload_n 3, 1) := by decide +kernel
theorem dX5_digest_52 : decode cX5_digest 52 = .ok (.iaload, 1) := by decide +kernel
theorem dX5_digest_53 : decode cX5_digest 53 = .ok (.i2l, 1) := by decide +kernel
theorem dX5_digest_54 : decode cX5_digest 54 = .ok (.ladd, 1) := by decide +kernel
theorem dX5_digest_55 : decode cX5_digest 55 = .ok (.lstore_n 1, 1) := by decide +kernel
theorem dX5_digest_56 : decode cX5_digest 56 = .ok (.iconst 0, 1) := by decide +kernel
theorem dX5_digest_57 : decode cX5_digest 57 = .ok (.istore 4, 2) := by decide +kernel
theorem dX5_digest_59 : decode cX5_digest 59 = .ok (.iload 4, 2) := by decide +kernel
theorem dX5_digest_61 : decode cX5_digest 61 = .ok (.iconst 4, 1) := by decide +kernel
theorem dX5_digest_62 : decode cX5_digest 62 = .ok (.if_icmp .ge 27, 3) := by decide +kernel
theorem dX5_digest_65 : decode cX5_digest 65 = .ok (.ldc2_w 262, 3) := by decide +kernel
theorem dX5_digest_68 : decode cX5_digest 68 = .ok (.lload_n 1, 1) := by decide +kernel
theorem dX5_digest_69 : decode cX5_digest 69 = .ok (.lmul, 1) := by decide +kernel
theorem dX5_digest_70 : decode cX5_digest 70 = .ok (.aload_n 0, 1) := by decide +kernel
theorem dX5_digest_71 : decode cX5_digest 71 = .ok (.getfield 10, 3) := by decide +kernel
theorem dX5_digest_74 : decode cX5_digest 74 = .ok (.iload 4, 2) := by decide +kernel
theorem dX5_digest_76 : decode cX5_digest 76 = .ok (.iload_n 3, 1) := by decide +kernel
theorem dX5_digest_77 : decode cX5_digest 77 = .ok (.invokevirtual 123, 3) := by decide +kernel
theorem dX5_digest_80 : decode cX5_digest 80 = .ok (.i2l, 1) := by decide +kernel
theorem dX5_digest_81 : decode cX5_digest 81 = .ok (.ladd, 1) := by decide +kernel
theorem dX5_digest_82 : decode cX5_digest 82 = .ok (.lstore_n 1, 1) := by decide +kernel
theorem dX5_digest_83 : decode cX5_digest 83 = .ok (.iinc 4 1, 3) := by decide +kernel
theorem dX5_digest_86 : decode cX5_digest 86 = .ok (.goto (-27), 3) := by decide +kernel
theorem dX5_digest_89 : decode cX5_digest 89 = .ok (.iinc 3 1, 3) := by decide +kernel
theorem dX5_digest_92 : decode cX5_digest 92 = .ok (.goto (-59), 3) := by decide +kernel
theorem dX5_digest_95 : decode cX5_digest 95 = .ok (.iconst 0, 1) := by decide +kernel
theorem dX5_digest_96 : decode cX5_digest 96 = .ok (.istore_n 3, 1) := by decide +kernel
theorem dX5_digest_97 : decode cX5_digest 97 = .ok (.iload_n 3, 1) := by decide +kernel
theorem dX5_digest_98 : decode cX5_digest 98 = .ok (.iconst 4, 1) := by decide +kernel
theorem dX5_digest_99 : decode cX5_digest 99 = .ok (.if_icmp .ge 43, 3) := by decide +kernel
theorem dX5_digest_102 : decode cX5_digest 102 = .ok (.iconst 0, 1) := by decide +kernel
theorem dX5_digest_103 : decode cX5_digest 103 = .ok (.istore 4, 2) := by decide +kernel
theorem dX5_digest_105 : decode cX5_digest 105 = .ok (.iload 4, 2) := by decide +kernel
theorem dX5_digest_107 : decode cX5_digest 107 = .ok (.bipush 6, 2) := by decide +kernel
theorem dX5_digest_109 : decode cX5_digest 109 = .ok (.if_icmp .ge 27, 3) := by decide +kernel
theorem dX5_digest_112 : decode cX5_digest 112 = .ok (.ldc2_w 262, 3) := by decide +kernel
theorem dX5_digest_115 : decode cX5_digest 115 = .ok (.lload_n 1, 1) := by decide +kernel
theorem dX5_digest_116 : decode cX5_digest 116 = .ok (.lmul, 1) := by decide +kernel
theorem dX5_digest_117 : decode cX5_digest 117 = .ok (.aload_n 0, 1) := by decide +kernel
theorem dX5_digest_118 : decode cX5_digest 118 = .ok (.getfield 10, 3) := by decide +kernel
theorem dX5_digest_121 : decode cX5_digest 121 = .ok (.iload_n 3, 1) := by decide +kernel
theorem dX5_digest_122 : decode cX5_digest 122 = .ok (.iload 4, 2) := by decide +kernel
theorem dX5_digest_124 : decode cX5_digest 124 = .ok (.invokevirtual 242, 3) := by decide +kernel
theorem dX5_digest_127 : decode cX5_digest 127 = .ok (.i2l, 1) := by decide +kernel
theorem dX5_digest_128 : decode cX5_digest 128 = .ok (.ladd, 1) := by decide +kernel
theorem dX5_digest_129 : decode cX5_digest 129 = .ok (.lstore_n 1, 1) := by decide +kernel
theorem dX5_digest_130 : decode cX5_digest 130 = .ok (.iinc 4 1, 3) := by decide +kernel
theorem dX5_digest_133 : decode cX5_digest 133 = .ok (.goto (-28), 3) := by decide +kernel
theorem dX5_digest_136 : decode cX5_digest 136 = .ok (.iinc 3 1, 3) := by decide +kernel
theorem dX5_digest_139 : decode cX5_digest 139 = .ok (.goto (-42), 3) := by decide +kernel
theorem dX5_digest_142 : decode cX5_digest 142 = .ok (.aload_n 0, 1) := by decide +kernel
theorem dX5_digest_143 : decode cX5_digest 143 = .ok (.invokevirtual 117, 3) := by decide +kernel
theorem dX5_digest_146 : decode cX5_digest 146 = .ok (.ldc2_w 262, 3) := by decide +kernel
theorem dX5_digest_149 : decode cX5_digest 149 = .ok (.lload_n 1, 1) := by decide +kernel
theorem dX5_digest_150 : decode cX5_digest 150 = .ok (.lmul, 1) := by decide +kernel
theorem dX5_digest_151 : decode cX5_digest 151 = .ok (.aload_n 0, 1) := by decide +kernel
theorem dX5_digest_152 : decode cX5_digest 152 = .ok (.getfield 26, 3) := by decide +kernel
theorem dX5_digest_155 : decode cX5_digest 155 = .ok (.getfield 148, 3) := by decide +kernel
theorem dX5_digest_158 : decode cX5_digest 158 = .ok (.i2l, 1) := by decide +kernel
theorem dX5_digest_159 : decode cX5_digest 159 = .ok (.ladd, 1) := by decide +kernel
theorem dX5_digest_160 : decode cX5_digest 160 = .ok (.lstore_n 1, 1) := by decide +kernel
theorem dX5_digest_161 : decode cX5_digest 161 = .ok (.ldc2_w 262, 3) := by decide +kernel
theorem dX5_digest_164 : decode cX5_digest 164 = .ok (.lload_n 1, 1) := by decide +kernel
theorem dX5_digest_165 : decode cX5_digest 165 = .ok (.lmul, 1) := by decide +kernel
theorem dX5_digest_166 : decode cX5_digest 166 = .ok (.aload_n 0, 1) := by decide +kernel
theorem dX5_digest_167 : decode cX5_digest 167 = .ok (.getfield 26, 3) := by decide +kernel
theorem dX5_digest_170 : decode cX5_digest 170 = .ok (.invokevirtual 177, 3) := by decide +kernel
theorem dX5_digest_173 : decode cX5_digest 173 = .ok (.i2l, 1) := by decide +kernel
theorem dX5_digest_174 : decode cX5_digest 174 = .ok (.ladd, 1) := by decide +kernel
theorem dX5_digest_175 : decode cX5_digest 175 = .ok (.lstore_n 1, 1) := by decide +kernel
theorem dX5_digest_176 : decode cX5_digest 176 = .ok (.iconst 0, 1) := by decide +kernel
theorem dX5_digest_177 : decode cX5_digest 177 = .ok (.istore_n 3, 1) := by decide +kernel
theorem dX5_digest_178 : decode cX5_digest 178 = .ok (.iload_n 3, 1) := by decide +kernel
theorem dX5_digest_179 : decode cX5_digest 179 = .ok (.aload_n 0, 1) := by decide +kernel
theorem dX5_digest_180 : decode cX5_digest 180 = .ok (.getfield 26, 3) := by decide +kernel
theorem dX5_digest_183 : decode cX5_digest 183 = .ok (.getfield 148, 3) := by decide +kernel
theorem dX5_digest_186 : decode cX5_digest 186 = .ok (.if_icmp .ge 29, 3) := by decide +kernel
theorem dX5_digest_189 : decode cX5_digest 189 = .ok (.ldc2_w 262, 3) := by decide +kernel
theorem dX5_digest_192 : decode cX5_digest 192 = .ok (.lload_n 1, 1) := by decide +kernel
theorem dX5_digest_193 : decode cX5_digest 193 = .ok (.lmul, 1) := by decide +kernel
theorem dX5_digest_194 : decode cX5_digest 194 = .ok (.aload_n 0, 1) := by decide +kernel
theorem dX5_digest_195 : decode cX5_digest 195 = .ok (.iload_n 3, 1) := by decide +kernel
theorem dX5_digest_196 : decode cX5_digest 196 = .ok (.aload_n 0, 1) := by decide +kernel
theorem dX5_digest_197 : decode cX5_digest 197 = .ok (.getfield 33, 3) := by decide +kernel
theorem dX5_digest_200 : decode cX5_digest 200 = .ok (.getfield 201, 3) := by decide +kernel
theorem dX5_digest_203 : decode cX5_digest 203 = .ok (.invokevirtual 204, 3) := by decide +kernel
theorem dX5_digest_206 : decode cX5_digest 206 = .ok (.i2l, 1) := by decide +kernel
theorem dX5_digest_207 : decode cX5_digest 207 = .ok (.ladd, 1) := by decide +kernel
theorem dX5_digest_208 : decode cX5_digest 208 = .ok (.lstore_n 1, 1) := by decide +kernel
theorem dX5_digest_209 : decode cX5_digest 209 = .ok (.iinc 3 1, 3) := by decide +kernel
theorem dX5_digest_212 : decode cX5_digest 212 = .ok (.goto (-34), 3) := by decide +kernel
theorem dX5_digest_215 : decode cX5_digest 215 = .ok (.lload_n 1, 1) := by decide +kernel
theorem dX5_digest_216 : decode cX5_digest 216 = .ok (.lreturn, 1) := by decide +kernel
theorem dX5_counter_0 : decode cX5_counter 0 = .ok (.iload_n 1, 1) := by decide +kernel
theorem dX5_counter_1 : decode cX5_counter 1 = .ok (.tableswitch 102 0 7 #[47, 52, 57, 62, 70, 78, 86, 94], 47) := by decide +kernel
theorem dX5_counter_48 : decode cX5_counter 48 = .ok (.aload_n 0, 1) := by decide +kernel
theorem dX5_counter_49 : decode cX5_counter 49 = .ok (.getfield 44, 3) := by decide +kernel
theorem dX5_counter_52 : decode cX5_counter 52 = .ok (.ireturn, 1) := by decide +kernel
theorem dX5_counter_53 : decode cX5_counter 53 = .ok (.aload_n 0, 1) := by decide +kernel
theorem dX5_counter_54 : decode cX5_counter 54 = .ok (.getfield 48, 3) := by decide +kernel
theorem dX5_counter_57 : decode cX5_counter 57 = .ok (.ireturn, 1) := by decide +kernel
theorem dX5_counter_58 : decode cX5_counter 58 = .ok (.aload_n 0, 1) := by decide +kernel
theorem dX5_counter_59 : decode cX5_counter 59 = .ok (.getfield 51, 3) := by decide +kernel
theorem dX5_counter_62 : decode cX5_counter 62 = .ok (.ireturn, 1) := by decide +kernel
theorem dX5_counter_63 : decode cX5_counter 63 = .ok (.aload_n 0, 1) := by decide +kernel
theorem dX5_counter_64 : decode cX5_counter 64 = .ok (.getfield 40, 3) := by decide +kernel
theorem dX5_counter_67 : decode cX5_counter 67 = .ok (.getfield 264, 3) := by decide +kernel
theorem dX5_counter_70 : decode cX5_counter 70 = .ok (.ireturn, 1) := by decide +kernel
theorem dX5_counter_71 : decode cX5_counter 71 = .ok (.aload_n 0, 1) := by decide +kernel
theorem dX5_counter_72 : decode cX5_counter 72 = .ok (.getfield 33, 3) := by decide +kernel
theorem dX5_counter_75 : decode cX5_counter 75 = .ok (.getfield 267, 3) := by decide +kernel
theorem dX5_counter_78 : decode cX5_counter 78 = .ok (.ireturn, 1) := by decide +kernel
theorem dX5_counter_79 : decode cX5_counter 79 = .ok (.aload_n 0, 1) := by decide +kernel
theorem dX5_counter_80 : decode cX5_counter 80 = .ok (.getfield 33, 3) := by decide +kernel
theorem dX5_counter_83 : decode cX5_counter 83 = .ok (.getfield 270, 3) := by decide +kernel
theorem dX5_counter_86 : decode cX5_counter 86 = .ok (.ireturn, 1) := by decide +kernel
theorem dX5_counter_87 : decode cX5_counter 87 = .ok (.aload_n 0, 1) := by decide +kernel
theorem dX5_counter_88 : decode cX5_counter 88 = .ok (.getfield 33, 3) := by decide +kernel
theorem dX5_counter_91 : decode cX5_counter 91 = .ok (.getfield 201, 3) := by decide +kernel
theorem dX5_counter_94 : decode cX5_counter 94 = .ok (.ireturn, 1) := by decide +kernel
theorem dX5_counter_95 : decode cX5_counter 95 = .ok (.aload_n 0, 1) := by decide +kernel
theorem dX5_counter_96 : decode cX5_counter 96 = .ok (.getfield 10, 3) := by decide +kernel
theorem dX5_counter_99 : decode cX5_counter 99 = .ok (.getfield 162, 3) := by decide +kernel
theorem dX5_counter_102 : decode cX5_counter 102 = .ok (.ireturn, 1) := by decide +kernel
theorem dX5_counter_103 : decode cX5_counter 103 = .ok (.aload_n 0, 1) := by decide +kernel
theorem dX5_counter_104 : decode cX5_counter 104 = .ok (.getfield 19, 3) := by decide +kernel
theorem dX5_counter_107 : decode cX5_counter 107 = .ok (.getfield 103, 3) := by decide +kernel
theorem dX5_counter_110 : decode cX5_counter 110 = .ok (.ireturn, 1) := by decide +kernel
theorem dX5_refuseBad_0 : decode cX5_refuseBad 0 = .ok (.aload_n 0, 1) := by decide +kernel
theorem dX5_refuseBad_1 : decode cX5_refuseBad 1 = .ok (.dup, 1) := by decide +kernel
theorem dX5_refuseBad_2 : decode cX5_refuseBad 2 = .ok (.getfield 44, 3) := by decide +kernel
theorem dX5_refuseBad_5 : decode cX5_refuseBad 5 = .ok (.iconst 1, 1) := by decide +kernel
theorem dX5_refuseBad_6 : decode cX5_refuseBad 6 = .ok (.iadd, 1) := by decide +kernel
theorem dX5_refuseBad_7 : decode cX5_refuseBad 7 = .ok (.putfield 44, 3) := by decide +kernel
theorem dX5_refuseBad_10 : decode cX5_refuseBad 10 = .ok (.bipush (-2), 2) := by decide +kernel
theorem dX5_refuseBad_12 : decode cX5_refuseBad 12 = .ok (.ireturn, 1) := by decide +kernel
theorem dX5_refuseNo_0 : decode cX5_refuseNo 0 = .ok (.aload_n 0, 1) := by decide +kernel
theorem dX5_refuseNo_1 : decode cX5_refuseNo 1 = .ok (.dup, 1) := by decide +kernel
theorem dX5_refuseNo_2 : decode cX5_refuseNo 2 = .ok (.getfield 48, 3) := by decide +kernel
theorem dX5_refuseNo_5 : decode cX5_refuseNo 5 = .ok (.iconst 1, 1) := by decide +kernel
theorem dX5_refuseNo_6 : decode cX5_refuseNo 6 = .ok (.iadd, 1) := by decide +kernel
theorem dX5_refuseNo_7 : decode cX5_refuseNo 7 = .ok (.putfield 48, 3) := by decide +kernel
theorem dX5_refuseNo_10 : decode cX5_refuseNo 10 = .ok (.bipush (-3), 2) := by decide +kernel
theorem dX5_refuseNo_12 : decode cX5_refuseNo 12 = .ok (.ireturn, 1) := by decide +kernel
theorem dX5_refuseFull_0 : decode cX5_refuseFull 0 = .ok (.aload_n 0, 1) := by decide +kernel
theorem dX5_refuseFull_1 : decode cX5_refuseFull 1 = .ok (.dup, 1) := by decide +kernel
theorem dX5_refuseFull_2 : decode cX5_refuseFull 2 = .ok (.getfield 51, 3) := by decide +kernel
theorem dX5_refuseFull_5 : decode cX5_refuseFull 5 = .ok (.iconst 1, 1) := by decide +kernel
theorem dX5_refuseFull_6 : decode cX5_refuseFull 6 = .ok (.iadd, 1) := by decide +kernel
theorem dX5_refuseFull_7 : decode cX5_refuseFull 7 = .ok (.putfield 51, 3) := by decide +kernel
theorem dX5_refuseFull_10 : decode cX5_refuseFull 10 = .ok (.bipush (-4), 2) := by decide +kernel
theorem dX5_refuseFull_12 : decode cX5_refuseFull 12 = .ok (.ireturn, 1) := by decide +kernel
theorem dX5_within_0 : decode cX5_within 0 = .ok (.iload_n 0, 1) := by decide +kernel
theorem dX5_within_1 : decode cX5_within 1 = .ok (.iload_n 1, 1) := by decide +kernel
theorem dX5_within_2 : decode cX5_within 2 = .ok (.if_icmp .lt 12, 3) := by decide +kernel
theorem dX5_within_5 : decode cX5_within 5 = .ok (.iload_n 0, 1) := by decide +kernel
theorem dX5_within_6 : decode cX5_within 6 = .ok (.iload_n 2, 1) := by decide +kernel
theorem dX5_within_7 : decode cX5_within 7 = .ok (.if_icmp .gt 7, 3) := by decide +kernel
theorem dX5_within_10 : decode cX5_within 10 = .ok (.iconst 1, 1) := by decide +kernel
theorem dX5_within_11 : decode cX5_within 11 = .ok (.goto 4, 3) := by decide +kernel
theorem dX5_within_14 : decode cX5_within 14 = .ok (.iconst 0, 1) := by decide +kernel
theorem dX5_within_15 : decode cX5_within 15 = .ok (.ireturn, 1) := by decide +kernel
theorem dX5_isLayer_0 : decode cX5_isLayer 0 = .ok (.iload_n 0, 1) := by decide +kernel
theorem dX5_isLayer_1 : decode cX5_isLayer 1 = .ok (.iconst 0, 1) := by decide +kernel
theorem dX5_isLayer_2 : decode cX5_isLayer 2 = .ok (.iconst 3, 1) := by decide +kernel
theorem dX5_isLayer_3 : decode cX5_isLayer 3 = .ok (.invokestatic 58, 3) := by decide +kernel
theorem dX5_isLayer_6 : decode cX5_isLayer 6 = .ok (.ireturn, 1) := by decide +kernel
theorem dX5_isDistrict_0 : decode cX5_isDistrict 0 = .ok (.iload_n 0, 1) := by decide +kernel
theorem dX5_isDistrict_1 : decode cX5_isDistrict 1 = .ok (.iconst 0, 1) := by decide +kernel
theorem dX5_isDistrict_2 : decode cX5_isDistrict 2 = .ok (.iconst 5, 1) := by decide +kernel
theorem dX5_isDistrict_3 : decode cX5_isDistrict 3 = .ok (.invokestatic 58, 3) := by decide +kernel
theorem dX5_isDistrict_6 : decode cX5_isDistrict 6 = .ok (.ireturn, 1) := by decide +kernel
theorem dX5_isBlock_0 : decode cX5_isBlock 0 = .ok (.iload_n 0, 1) := by decide +kernel
theorem dX5_isBlock_1 : decode cX5_isBlock 1 = .ok (.iconst 0, 1) := by decide +kernel
theorem dX5_isBlock_2 : decode cX5_isBlock 2 = .ok (.bipush 23, 2) := by decide +kernel
theorem dX5_isBlock_4 : decode cX5_isBlock 4 = .ok (.invokestatic 58, 3) := by decide +kernel
theorem dX5_isBlock_7 : decode cX5_isBlock 7 = .ok (.ireturn, 1) := by decide +kernel
theorem dX5_isName_0 : decode cX5_isName 0 = .ok (.iload_n 0, 1) := by decide +kernel
theorem dX5_isName_1 : decode cX5_isName 1 = .ok (.iconst 0, 1) := by decide +kernel
theorem dX5_isName_2 : decode cX5_isName 2 = .ok (.bipush 7, 2) := by decide +kernel
theorem dX5_isName_4 : decode cX5_isName 4 = .ok (.invokestatic 58, 3) := by decide +kernel
theorem dX5_isName_7 : decode cX5_isName 7 = .ok (.ireturn, 1) := by decide +kernel
theorem dX5_isRectangle_0 : decode cX5_isRectangle 0 = .ok (.iload_n 0, 1) := by decide +kernel
theorem dX5_isRectangle_1 : decode cX5_isRectangle 1 = .ok (.invokestatic 89, 3) := by decide +kernel
theorem dX5_isRectangle_4 : decode cX5_isRectangle 4 = .ok (.ifCond .eq 32, 3) := by decide +kernel
theorem dX5_isRectangle_7 : decode cX5_isRectangle 7 = .ok (.iload_n 1, 1) := by decide +kernel
theorem dX5_isRectangle_8 : decode cX5_isRectangle 8 = .ok (.invokestatic 89, 3) := by decide +kernel
theorem dX5_isRectangle_11 : decode cX5_isRectangle 11 = .ok (.ifCond .eq 25, 3) := by decide +kernel
theorem dX5_isRectangle_14 : decode cX5_isRectangle 14 = .ok (.iload_n 0, 1) := by decide +kernel
theorem dX5_isRectangle_15 : decode cX5_isRectangle 15 = .ok (.iconst 4, 1) := by decide +kernel
theorem dX5_isRectangle_16 : decode cX5_isRectangle 16 = .ok (.idiv, 1) := by decide +kernel
theorem dX5_isRectangle_17 : decode cX5_isRectangle 17 = .ok (.iload_n 1, 1) := by decide +kernel
theorem dX5_isRectangle_18 : decode cX5_isRectangle 18 = .ok (.iconst 4, 1) := by decide +kernel
theorem dX5_isRectangle_19 : decode cX5_isRectangle 19 = .ok (.idiv, 1) := by decide +kernel
theorem dX5_isRectangle_20 : decode cX5_isRectangle 20 = .ok (.if_icmp .gt 16, 3) := by decide +kernel
theorem dX5_isRectangle_23 : decode cX5_isRectangle 23 = .ok (.iload_n 0, 1) := by decide +kernel
theorem dX5_isRectangle_24 : decode cX5_isRectangle 24 = .ok (.iconst 4, 1) := by decide +kernel
theorem dX5_isRectangle_25 : decode cX5_isRectangle 25 = .ok (.irem, 1) := by decide +kernel
theorem dX5_isRectangle_26 : decode cX5_isRectangle 26 = .ok (.iload_n 1, 1) := by decide +kernel
theorem dX5_isRectangle_27 : decode cX5_isRectangle 27 = .ok (.iconst 4, 1) := by decide +kernel
theorem dX5_isRectangle_28 : decode cX5_isRectangle 28 = .ok (.irem, 1) := by decide +kernel
theorem dX5_isRectangle_29 : decode cX5_isRectangle 29 = .ok (.if_icmp .gt 7, 3) := by decide +kernel
theorem dX5_isRectangle_32 : decode cX5_isRectangle 32 = .ok (.iconst 1, 1) := by decide +kernel
theorem dX5_isRectangle_33 : decode cX5_isRectangle 33 = .ok (.goto 4, 3) := by decide +kernel
theorem dX5_isRectangle_36 : decode cX5_isRectangle 36 = .ok (.iconst 0, 1) := by decide +kernel
theorem dX5_isRectangle_37 : decode cX5_isRectangle 37 = .ok (.ireturn, 1) := by decide +kernel
theorem dX5_isStyle_0 : decode cX5_isStyle 0 = .ok (.aload_n 0, 1) := by decide +kernel
theorem dX5_isStyle_1 : decode cX5_isStyle 1 = .ok (.invokevirtual 117, 3) := by decide +kernel
theorem dX5_isStyle_4 : decode cX5_isStyle 4 = .ok (.iload_n 1, 1) := by decide +kernel
theorem dX5_isStyle_5 : decode cX5_isStyle 5 = .ok (.iconst 0, 1) := by decide +kernel
theorem dX5_isStyle_6 : decode cX5_isStyle 6 = .ok (.aload_n 0, 1) := by decide +kernel
theorem dX5_isStyle_7 : decode cX5_isStyle 7 = .ok (.getfield 26, 3) := by decide +kernel
theorem dX5_isStyle_10 : decode cX5_isStyle 10 = .ok (.getfield 148, 3) := by decide +kernel
theorem dX5_isStyle_13 : decode cX5_isStyle 13 = .ok (.iconst 1, 1) := by decide +kernel
theorem dX5_isStyle_14 : decode cX5_isStyle 14 = .ok (.isub, 1) := by decide +kernel
theorem dX5_isStyle_15 : decode cX5_isStyle 15 = .ok (.invokestatic 58, 3) := by decide +kernel
theorem dX5_isStyle_18 : decode cX5_isStyle 18 = .ok (.ireturn, 1) := by decide +kernel
theorem dX5_sortStyles_0 : decode cX5_sortStyles 0 = .ok (.aload_n 0, 1) := by decide +kernel
theorem dX5_sortStyles_1 : decode cX5_sortStyles 1 = .ok (.getfield 26, 3) := by decide +kernel
theorem dX5_sortStyles_4 : decode cX5_sortStyles 4 = .ok (.aload_n 0, 1) := by decide +kernel
theorem dX5_sortStyles_5 : decode cX5_sortStyles 5 = .ok (.getfield 10, 3) := by decide +kernel
theorem dX5_sortStyles_8 : decode cX5_sortStyles 8 = .ok (.aload_n 0, 1) := by decide +kernel
theorem dX5_sortStyles_9 : decode cX5_sortStyles 9 = .ok (.getfield 10, 3) := by decide +kernel
theorem dX5_sortStyles_12 : decode cX5_sortStyles 12 = .ok (.getfield 162, 3) := by decide +kernel
theorem dX5_sortStyles_15 : decode cX5_sortStyles 15 = .ok (.invokevirtual 173, 3) := by decide +kernel
theorem dX5_sortStyles_18 : decode cX5_sortStyles 18 = .ok (.return_, 1) := by decide +kernel
theorem dX5_sheetsOf_0 : decode cX5_sheetsOf 0 = .ok (.aload_n 0, 1) := by decide +kernel
theorem dX5_sheetsOf_1 : decode cX5_sheetsOf 1 = .ok (.getfield 33, 3) := by decide +kernel
theorem dX5_sheetsOf_4 : decode cX5_sheetsOf 4 = .ok (.aload_n 0, 1) := by decide +kernel
theorem dX5_sheetsOf_5 : decode cX5_sheetsOf 5 = .ok (.getfield 10, 3) := by decide +kernel
theorem dX5_sheetsOf_8 : decode cX5_sheetsOf 8 = .ok (.aload_n 0, 1) := by decide +kernel
theorem dX5_sheetsOf_9 : decode cX5_sheetsOf 9 = .ok (.getfield 26, 3) := by decide +kernel
theorem dX5_sheetsOf_12 : decode cX5_sheetsOf 12 = .ok (.getfield 170, 3) := by decide +kernel
theorem dX5_sheetsOf_15 : decode cX5_sheetsOf 15 = .ok (.iload_n 1, 1) := by decide +kernel
theorem dX5_sheetsOf_16 : decode cX5_sheetsOf 16 = .ok (.iaload, 1) := by decide +kernel
theorem dX5_sheetsOf_17 : decode cX5_sheetsOf 17 = .ok (.iload_n 2, 1) := by decide +kernel
theorem dX5_sheetsOf_18 : decode cX5_sheetsOf 18 = .ok (.invokevirtual 207, 3) := by decide +kernel
theorem dX5_sheetsOf_21 : decode cX5_sheetsOf 21 = .ok (.aload_n 0, 1) := by decide +kernel
theorem dX5_sheetsOf_22 : decode cX5_sheetsOf 22 = .ok (.getfield 33, 3) := by decide +kernel
theorem dX5_sheetsOf_25 : decode cX5_sheetsOf 25 = .ok (.getfield 220, 3) := by decide +kernel
theorem dX5_sheetsOf_28 : decode cX5_sheetsOf 28 = .ok (.ifCond .eq 7, 3) := by decide +kernel
theorem dX5_sheetsOf_31 : decode cX5_sheetsOf 31 = .ok (.iconst 0, 1) := by decide +kernel
theorem dX5_sheetsOf_32 : decode cX5_sheetsOf 32 = .ok (.goto 10, 3) := by decide +kernel
theorem dX5_sheetsOf_35 : decode cX5_sheetsOf 35 = .ok (.aload_n 0, 1) := by decide +kernel
theorem dX5_sheetsOf_36 : decode cX5_sheetsOf 36 = .ok (.getfield 33, 3) := by decide +kernel
theorem dX5_sheetsOf_39 : decode cX5_sheetsOf 39 = .ok (.getfield 273, 3) := by decide +kernel
theorem dX5_sheetsOf_42 : decode cX5_sheetsOf 42 = .ok (.ireturn, 1) := by decide +kernel
theorem dX5_sheetsOfAll_0 : decode cX5_sheetsOfAll 0 = .ok (.iconst 0, 1) := by decide +kernel
theorem dX5_sheetsOfAll_1 : decode cX5_sheetsOfAll 1 = .ok (.istore_n 2, 1) := by decide +kernel
theorem dX5_sheetsOfAll_2 : decode cX5_sheetsOfAll 2 = .ok (.iconst 0, 1) := by decide +kernel
theorem dX5_sheetsOfAll_3 : decode cX5_sheetsOfAll 3 = .ok (.istore_n 3, 1) := by decide +kernel
theorem dX5_sheetsOfAll_4 : decode cX5_sheetsOfAll 4 = .ok (.iload_n 3, 1) := by decide +kernel
theorem dX5_sheetsOfAll_5 : decode cX5_sheetsOfAll 5 = .ok (.aload_n 0, 1) := by decide +kernel
theorem dX5_sheetsOfAll_6 : decode cX5_sheetsOfAll 6 = .ok (.getfield 26, 3) := by decide +kernel
theorem dX5_sheetsOfAll_9 : decode cX5_sheetsOfAll 9 = .ok (.getfield 148, 3) := by decide +kernel
theorem dX5_sheetsOfAll_12 : decode cX5_sheetsOfAll 12 = .ok (.if_icmp .ge 31, 3) := by decide +kernel
theorem dX5_sheetsOfAll_15 : decode cX5_sheetsOfAll 15 = .ok (.iload_n 2, 1) := by decide +kernel
theorem dX5_sheetsOfAll_16 : decode cX5_sheetsOfAll 16 = .ok (.aload_n 0, 1) := by decide +kernel
theorem dX5_sheetsOfAll_17 : decode cX5_sheetsOfAll 17 = .ok (.getfield 26, 3) := by decide +kernel
theorem dX5_sheetsOfAll_20 : decode cX5_sheetsOfAll 20 = .ok (.iload_n 3, 1) := by decide +kernel
theorem dX5_sheetsOfAll_21 : decode cX5_sheetsOfAll 21 = .ok (.aload_n 0, 1) := by decide +kernel
theorem dX5_sheetsOfAll_22 : decode cX5_sheetsOfAll 22 = .ok (.getfield 10, 3) := by decide +kernel
theorem dX5_sheetsOfAll_25 : decode cX5_sheetsOfAll 25 = .ok (.invokevirtual 155, 3) := by decide +kernel
theorem dX5_sheetsOfAll_28 : decode cX5_sheetsOfAll 28 = .ok (.aload_n 0, 1) := by decide +kernel
theorem dX5_sheetsOfAll_29 : decode cX5_sheetsOfAll 29 = .ok (.iload_n 3, 1) := by decide +kernel
theorem dX5_sheetsOfAll_30 : decode cX5_sheetsOfAll 30 = .ok (.iload_n 1, 1) := by decide +kernel
theorem dX5_sheetsOfAll_31 : decode cX5_sheetsOfAll 31 = .ok (.invokevirtual 204, 3) := by decide +kernel
theorem dX5_sheetsOfAll_34 : decode cX5_sheetsOfAll 34 = .ok (.imul, 1) := by decide +kernel
theorem dX5_sheetsOfAll_35 : decode cX5_sheetsOfAll 35 = .ok (.iadd, 1) := by decide +kernel
theorem dX5_sheetsOfAll_36 : decode cX5_sheetsOfAll 36 = .ok (.istore_n 2, 1) := by decide +kernel
theorem dX5_sheetsOfAll_37 : decode cX5_sheetsOfAll 37 = .ok (.iinc 3 1, 3) := by decide +kernel
theorem dX5_sheetsOfAll_40 : decode cX5_sheetsOfAll 40 = .ok (.goto (-36), 3) := by decide +kernel
theorem dX5_sheetsOfAll_43 : decode cX5_sheetsOfAll 43 = .ok (.iload_n 2, 1) := by decide +kernel
theorem dX5_sheetsOfAll_44 : decode cX5_sheetsOfAll 44 = .ok (.ireturn, 1) := by decide +kernel
theorem dX5_hasBareStyle_0 : decode cX5_hasBareStyle 0 = .ok (.iconst 0, 1) := by decide +kernel
theorem dX5_hasBareStyle_1 : decode cX5_hasBareStyle 1 = .ok (.istore_n 1, 1) := by decide +kernel
theorem dX5_hasBareStyle_2 : decode cX5_hasBareStyle 2 = .ok (.iload_n 1, 1) := by decide +kernel
theorem dX5_hasBareStyle_3 : decode cX5_hasBareStyle 3 = .ok (.aload_n 0, 1) := by decide +kernel
theorem dX5_hasBareStyle_4 : decode cX5_hasBareStyle 4 = .ok (.getfield 26, 3) := by decide +kernel
theorem dX5_hasBareStyle_7 : decode cX5_hasBareStyle 7 = .ok (.getfield 148, 3) := by decide +kernel
theorem dX5_hasBareStyle_10 : decode cX5_hasBareStyle 10 = .ok (.if_icmp .ge 20, 3) := by decide +kernel
theorem dX5_hasBareStyle_13 : decode cX5_hasBareStyle 13 = .ok (.aload_n 0, 1) := by decide +kernel
theorem dX5_hasBareStyle_14 : decode cX5_hasBareStyle 14 = .ok (.iload_n 1, 1) := by decide +kernel
theorem dX5_hasBareStyle_15 : decode cX5_hasBareStyle 15 = .ok (.iconst 0, 1) := by decide +kernel
theorem dX5_hasBareStyle_16 : decode cX5_hasBareStyle 16 = .ok (.invokevirtual 204, 3) := by decide +kernel
theorem dX5_hasBareStyle_19 : decode cX5_hasBareStyle 19 = .ok (.ifCond .ne 5, 3) := by decide +kernel
theorem dX5_hasBareStyle_22 : decode cX5_hasBareStyle 22 = .ok (.iconst 1, 1) := by decide +kernel
theorem dX5_hasBareStyle_23 : decode cX5_hasBareStyle 23 = .ok (.ireturn, 1) := by decide +kernel
theorem dX5_hasBareStyle_24 : decode cX5_hasBareStyle 24 = .ok (.iinc 1 1, 3) := by decide +kernel
theorem dX5_hasBareStyle_27 : decode cX5_hasBareStyle 27 = .ok (.goto (-25), 3) := by decide +kernel
theorem dX5_hasBareStyle_30 : decode cX5_hasBareStyle 30 = .ok (.iconst 0, 1) := by decide +kernel
theorem dX5_hasBareStyle_31 : decode cX5_hasBareStyle 31 = .ok (.ireturn, 1) := by decide +kernel
theorem dJ6_bitCount_0f7a4_0 : decode cJ6_bitCount_0f7a4 0 = .ok (.iload_n 0, 1) := by decide +kernel
theorem dJ6_bitCount_0f7a4_1 : decode cJ6_bitCount_0f7a4 1 = .ok (.iload_n 0, 1) := by decide +kernel
theorem dJ6_bitCount_0f7a4_2 : decode cJ6_bitCount_0f7a4 2 = .ok (.iconst 1, 1) := by decide +kernel
theorem dJ6_bitCount_0f7a4_3 : decode cJ6_bitCount_0f7a4 3 = .ok (.iushr, 1) := by decide +kernel
theorem dJ6_bitCount_0f7a4_4 : decode cJ6_bitCount_0f7a4 4 = .ok (.ldc_w 265, 3) := by decide +kernel
theorem dJ6_bitCount_0f7a4_7 : decode cJ6_bitCount_0f7a4 7 = .ok (.iand, 1) := by decide +kernel
theorem dJ6_bitCount_0f7a4_8 : decode cJ6_bitCount_0f7a4 8 = .ok (.isub, 1) := by decide +kernel
theorem dJ6_bitCount_0f7a4_9 : decode cJ6_bitCount_0f7a4 9 = .ok (.istore_n 0, 1) := by decide +kernel
theorem dJ6_bitCount_0f7a4_10 : decode cJ6_bitCount_0f7a4 10 = .ok (.iload_n 0, 1) := by decide +kernel
theorem dJ6_bitCount_0f7a4_11 : decode cJ6_bitCount_0f7a4 11 = .ok (.ldc_w 266, 3) := by decide +kernel
theorem dJ6_bitCount_0f7a4_14 : decode cJ6_bitCount_0f7a4 14 = .ok (.iand, 1) := by decide +kernel
theorem dJ6_bitCount_0f7a4_15 : decode cJ6_bitCount_0f7a4 15 = .ok (.iload_n 0, 1) := by decide +kernel
theorem dJ6_bitCount_0f7a4_16 : decode cJ6_bitCount_0f7a4 16 = .ok (.iconst 2, 1) := by decide +kernel
theorem dJ6_bitCount_0f7a4_17 : decode cJ6_bitCount_0f7a4 17 = .ok (.iushr, 1) := by decide +kernel
theorem dJ6_bitCount_0f7a4_18 : decode cJ6_bitCount_0f7a4 18 = .ok (.ldc_w 266, 3) := by decide +kernel
theorem dJ6_bitCount_0f7a4_21 : decode cJ6_bitCount_0f7a4 21 = .ok (.iand, 1) := by decide +kernel
theorem dJ6_bitCount_0f7a4_22 : decode cJ6_bitCount_0f7a4 22 = .ok (.iadd, 1) := by decide +kernel
theorem dJ6_bitCount_0f7a4_23 : decode cJ6_bitCount_0f7a4 23 = .ok (.istore_n 0, 1) := by decide +kernel
theorem dJ6_bitCount_0f7a4_24 : decode cJ6_bitCount_0f7a4 24 = .ok (.iload_n 0, 1) := by decide +kernel
theorem dJ6_bitCount_0f7a4_25 : decode cJ6_bitCount_0f7a4 25 = .ok (.iload_n 0, 1) := by decide +kernel
theorem dJ6_bitCount_0f7a4_26 : decode cJ6_bitCount_0f7a4 26 = .ok (.iconst 4, 1) := by decide +kernel
theorem dJ6_bitCount_0f7a4_27 : decode cJ6_bitCount_0f7a4 27 = .ok (.iushr, 1) := by decide +kernel
theorem dJ6_bitCount_0f7a4_28 : decode cJ6_bitCount_0f7a4 28 = .ok (.iadd, 1) := by decide +kernel
theorem dJ6_bitCount_0f7a4_29 : decode cJ6_bitCount_0f7a4 29 = .ok (.ldc_w 267, 3) := by decide +kernel
theorem dJ6_bitCount_0f7a4_32 : decode cJ6_bitCount_0f7a4 32 = .ok (.iand, 1) := by decide +kernel
theorem dJ6_bitCount_0f7a4_33 : decode cJ6_bitCount_0f7a4 33 = .ok (.istore_n 0, 1) := by decide +kernel
theorem dJ6_bitCount_0f7a4_34 : decode cJ6_bitCount_0f7a4 34 = .ok (.iload_n 0, 1) := by decide +kernel
theorem dJ6_bitCount_0f7a4_35 : decode cJ6_bitCount_0f7a4 35 = .ok (.iload_n 0, 1) := by decide +kernel
theorem dJ6_bitCount_0f7a4_36 : decode cJ6_bitCount_0f7a4 36 = .ok (.bipush 8, 2) := by decide +kernel
theorem dJ6_bitCount_0f7a4_38 : decode cJ6_bitCount_0f7a4 38 = .ok (.iushr, 1) := by decide +kernel
theorem dJ6_bitCount_0f7a4_39 : decode cJ6_bitCount_0f7a4 39 = .ok (.iadd, 1) := by decide +kernel
theorem dJ6_bitCount_0f7a4_40 : decode cJ6_bitCount_0f7a4 40 = .ok (.istore_n 0, 1) := by decide +kernel
theorem dJ6_bitCount_0f7a4_41 : decode cJ6_bitCount_0f7a4 41 = .ok (.iload_n 0, 1) := by decide +kernel
theorem dJ6_bitCount_0f7a4_42 : decode cJ6_bitCount_0f7a4 42 = .ok (.iload_n 0, 1) := by decide +kernel
theorem dJ6_bitCount_0f7a4_43 : decode cJ6_bitCount_0f7a4 43 = .ok (.bipush 16, 2) := by decide +kernel
theorem dJ6_bitCount_0f7a4_45 : decode cJ6_bitCount_0f7a4 45 = .ok (.iushr, 1) := by decide +kernel
theorem dJ6_bitCount_0f7a4_46 : decode cJ6_bitCount_0f7a4 46 = .ok (.iadd, 1) := by decide +kernel
theorem dJ6_bitCount_0f7a4_47 : decode cJ6_bitCount_0f7a4 47 = .ok (.istore_n 0, 1) := by decide +kernel
theorem dJ6_bitCount_0f7a4_48 : decode cJ6_bitCount_0f7a4 48 = .ok (.iload_n 0, 1) := by decide +kernel
theorem dJ6_bitCount_0f7a4_49 : decode cJ6_bitCount_0f7a4 49 = .ok (.bipush 63, 2) := by decide +kernel
theorem dJ6_bitCount_0f7a4_51 : decode cJ6_bitCount_0f7a4 51 = .ok (.iand, 1) := by decide +kernel
theorem dJ6_bitCount_0f7a4_52 : decode cJ6_bitCount_0f7a4 52 = .ok (.ireturn, 1) := by decide +kernel
theorem dJ9_max_7cf53_0 : decode cJ9_max_7cf53 0 = .ok (.iload_n 0, 1) := by decide +kernel
theorem dJ9_max_7cf53_1 : decode cJ9_max_7cf53 1 = .ok (.iload_n 1, 1) := by decide +kernel
theorem dJ9_max_7cf53_2 : decode cJ9_max_7cf53 2 = .ok (.if_icmp .lt 7, 3) := by decide +kernel
theorem dJ9_max_7cf53_5 : decode cJ9_max_7cf53 5 = .ok (.iload_n 0, 1) := by decide +kernel
theorem dJ9_max_7cf53_6 : decode cJ9_max_7cf53 6 = .ok (.goto 4, 3) := by decide +kernel
theorem dJ9_max_7cf53_9 : decode cJ9_max_7cf53 9 = .ok (.iload_n 1, 1) := by decide +kernel
theorem dJ9_max_7cf53_10 : decode cJ9_max_7cf53 10 = .ok (.ireturn, 1) := by decide +kernel
theorem dJ9_min_7cf53_0 : decode cJ9_min_7cf53 0 = .ok (.iload_n 0, 1) := by decide +kernel
theorem dJ9_min_7cf53_1 : decode cJ9_min_7cf53 1 = .ok (.iload_n 1, 1) := by decide +kernel
theorem dJ9_min_7cf53_2 : decode cJ9_min_7cf53 2 = .ok (.if_icmp .gt 7, 3) := by decide +kernel
theorem dJ9_min_7cf53_5 : decode cJ9_min_7cf53 5 = .ok (.iload_n 0, 1) := by decide +kernel
theorem dJ9_min_7cf53_6 : decode cJ9_min_7cf53 6 = .ok (.goto 4, 3) := by decide +kernel
theorem dJ9_min_7cf53_9 : decode cJ9_min_7cf53 9 = .ok (.iload_n 1, 1) := by decide +kernel
theorem dJ9_min_7cf53_10 : decode cJ9_min_7cf53 10 = .ok (.ireturn, 1) := by decide +kernel
theorem dJ0_length_8abf5_0 : decode cJ0_length_8abf5 0 = .ok (.aload_n 0, 1) := by decide +kernel
theorem dJ0_length_8abf5_1 : decode cJ0_length_8abf5 1 = .ok (.getfield 9, 3) := by decide +kernel
theorem dJ0_length_8abf5_4 : decode cJ0_length_8abf5 4 = .ok (.arraylength, 1) := by decide +kernel
theorem dJ0_length_8abf5_5 : decode cJ0_length_8abf5 5 = .ok (.aload_n 0, 1) := by decide +kernel
theorem dJ0_length_8abf5_6 : decode cJ0_length_8abf5 6 = .ok (.invokevirtual 335, 3) := by decide +kernel
theorem dJ0_length_8abf5_9 : decode cJ0_length_8abf5 9 = .ok (.ishr, 1) := by decide +kernel
theorem dJ0_length_8abf5_10 : decode cJ0_length_8abf5 10 = .ok (.ireturn, 1) := by decide +kernel
theorem dJ0_charAt_5068e_0 : decode cJ0_charAt_5068e 0 = .ok (.aload_n 0, 1) := by decide +kernel
theorem dJ0_charAt_5068e_1 : decode cJ0_charAt_5068e 1 = .ok (.invokevirtual 492, 3) := by decide +kernel
theorem dJ0_charAt_5068e_4 : decode cJ0_charAt_5068e 4 = .ok (.ifCond .eq 12, 3) := by decide +kernel
theorem dJ0_charAt_5068e_7 : decode cJ0_charAt_5068e 7 = .ok (.aload_n 0, 1) := by decide +kernel
theorem dJ0_charAt_5068e_8 : decode cJ0_charAt_5068e 8 = .ok (.getfield 9, 3) := by decide +kernel
theorem dJ0_charAt_5068e_11 : decode cJ0_charAt_5068e 11 = .ok (.iload_n 1, 1) := by decide +kernel
theorem dJ0_charAt_5068e_12 : decode cJ0_charAt_5068e 12 = .ok (.invokestatic 495, 3) := by decide +kernel
theorem dJ0_charAt_5068e_15 : decode cJ0_charAt_5068e 15 = .ok (.ireturn, 1) := by decide +kernel
theorem dJ0_charAt_5068e_16 : decode cJ0_charAt_5068e 16 = .ok (.aload_n 0, 1) := by decide +kernel
theorem dJ0_charAt_5068e_17 : decode cJ0_charAt_5068e 17 = .ok (.getfield 9, 3) := by decide +kernel
theorem dJ0_charAt_5068e_20 : decode cJ0_charAt_5068e 20 = .ok (.iload_n 1, 1) := by decide +kernel
theorem dJ0_charAt_5068e_21 : decode cJ0_charAt_5068e 21 = .ok (.invokestatic 498, 3) := by decide +kernel
theorem dJ0_charAt_5068e_24 : decode cJ0_charAt_5068e 24 = .ok (.ireturn, 1) := by decide +kernel
theorem dJ0_coder_7d493_0 : decode cJ0_coder_7d493 0 = .ok (.getstatic 38, 3) := by decide +kernel
theorem dJ0_coder_7d493_3 : decode cJ0_coder_7d493 3 = .ok (.ifCond .eq 10, 3) := by decide +kernel
theorem dJ0_coder_7d493_6 : decode cJ0_coder_7d493 6 = .ok (.aload_n 0, 1) := by decide +kernel
theorem dJ0_coder_7d493_7 : decode cJ0_coder_7d493 7 = .ok (.getfield 15, 3) := by decide +kernel
theorem dJ0_coder_7d493_10 : decode cJ0_coder_7d493 10 = .ok (.goto 4, 3) := by decide +kernel
theorem dJ0_coder_7d493_13 : decode cJ0_coder_7d493 13 = .ok (.iconst 1, 1) := by decide +kernel
theorem dJ0_coder_7d493_14 : decode cJ0_coder_7d493 14 = .ok (.ireturn, 1) := by decide +kernel
theorem dJ0_isLatin1_aae02_0 : decode cJ0_isLatin1_aae02 0 = .ok (.getstatic 38, 3) := by decide +kernel
theorem dJ0_isLatin1_aae02_3 : decode cJ0_isLatin1_aae02 3 = .ok (.ifCond .eq 14, 3) := by decide +kernel
theorem dJ0_isLatin1_aae02_6 : decode cJ0_isLatin1_aae02 6 = .ok (.aload_n 0, 1) := by decide +kernel
theorem dJ0_isLatin1_aae02_7 : decode cJ0_isLatin1_aae02 7 = .ok (.getfield 15, 3) := by decide +kernel
theorem dJ0_isLatin1_aae02_10 : decode cJ0_isLatin1_aae02 10 = .ok (.ifCond .ne 7, 3) := by decide +kernel
theorem dJ0_isLatin1_aae02_13 : decode cJ0_isLatin1_aae02 13 = .ok (.iconst 1, 1) := by decide +kernel
theorem dJ0_isLatin1_aae02_14 : decode cJ0_isLatin1_aae02 14 = .ok (.goto 4, 3) := by decide +kernel
theorem dJ0_isLatin1_aae02_17 : decode cJ0_isLatin1_aae02 17 = .ok (.iconst 0, 1) := by decide +kernel
theorem dJ0_isLatin1_aae02_18 : decode cJ0_isLatin1_aae02 18 = .ok (.ireturn, 1) := by decide +kernel
theorem dJ0_checkIndex_df160_0 : decode cJ0_checkIndex_df160 0 = .ok (.iload_n 0, 1) := by decide +kernel
theorem dJ0_checkIndex_df160_1 : decode cJ0_checkIndex_df160 1 = .ok (.iload_n 1, 1) := by decide +kernel
theorem dJ0_checkIndex_df160_2 : decode cJ0_checkIndex_df160 2 = .ok (.getstatic 1053, 3) := by decide +kernel
theorem dJ0_checkIndex_df160_5 : decode cJ0_checkIndex_df160 5 = .ok (.invokestatic 1059, 3) := by decide +kernel
theorem dJ0_checkIndex_df160_8 : decode cJ0_checkIndex_df160 8 = .ok (.pop, 1) := by decide +kernel
theorem dJ0_checkIndex_df160_9 : decode cJ0_checkIndex_df160 9 = .ok (.return_, 1) := by decide +kernel
theorem dJ1_charAt_3b067_0 : decode cJ1_charAt_3b067 0 = .ok (.iload_n 1, 1) := by decide +kernel
theorem dJ1_charAt_3b067_1 : decode cJ1_charAt_3b067 1 = .ok (.aload_n 0, 1) := by decide +kernel
theorem dJ1_charAt_3b067_2 : decode cJ1_charAt_3b067 2 = .ok (.arraylength, 1) := by decide +kernel
theorem dJ1_charAt_3b067_3 : decode cJ1_charAt_3b067 3 = .ok (.invokestatic 9, 3) := by decide +kernel
theorem dJ1_charAt_3b067_6 : decode cJ1_charAt_3b067 6 = .ok (.aload_n 0, 1) := by decide +kernel
theorem dJ1_charAt_3b067_7 : decode cJ1_charAt_3b067 7 = .ok (.iload_n 1, 1) := by decide +kernel
theorem dJ1_charAt_3b067_8 : decode cJ1_charAt_3b067 8 = .ok (.baload, 1) := by decide +kernel
theorem dJ1_charAt_3b067_9 : decode cJ1_charAt_3b067 9 = .ok (.sipush 255, 3) := by decide +kernel
theorem dJ1_charAt_3b067_12 : decode cJ1_charAt_3b067 12 = .ok (.iand, 1) := by decide +kernel
theorem dJ1_charAt_3b067_13 : decode cJ1_charAt_3b067 13 = .ok (.i2c, 1) := by decide +kernel
theorem dJ1_charAt_3b067_14 : decode cJ1_charAt_3b067 14 = .ok (.ireturn, 1) := by decide +kernel
theorem dJ2_getChar_3b067_0 : decode cJ2_getChar_3b067 0 = .ok (.getstatic 44, 3) := by decide +kernel
theorem dJ2_getChar_3b067_3 : decode cJ2_getChar_3b067 3 = .ok (.ifCond .ne 25, 3) := by decide +kernel
theorem dJ2_getChar_3b067_6 : decode cJ2_getChar_3b067 6 = .ok (.iload_n 1, 1) := by decide +kernel
theorem dJ2_getChar_3b067_7 : decode cJ2_getChar_3b067 7 = .ok (.ifCond .lt 11, 3) := by decide +kernel
theorem dJ2_getChar_3b067_10 : decode cJ2_getChar_3b067 10 = .ok (.iload_n 1, 1) := by decide +kernel
theorem dJ2_getChar_3b067_11 : decode cJ2_getChar_3b067 11 = .ok (.aload_n 0, 1) := by decide +kernel
theorem dJ2_getChar_3b067_12 : decode cJ2_getChar_3b067 12 = .ok (.invokestatic 48, 3) := by decide +kernel
theorem dJ2_getChar_3b067_15 : decode cJ2_getChar_3b067 15 = .ok (.if_icmp .lt 13, 3) := by decide +kernel
theorem dJ2_getChar_3b067_18 : decode cJ2_getChar_3b067 18 = .ok (.new 52, 3) := by decide +kernel
theorem dJ2_getChar_3b067_21 : decode cJ2_getChar_3b067 21 = .ok (.dup, 1) := by decide +kernel
theorem dJ2_getChar_3b067_22 : decode cJ2_getChar_3b067 22 = .ok (.ldc 54, 2) := by decide +kernel
theorem dJ2_getChar_3b067_24 : decode cJ2_getChar_3b067 24 = .ok (.invokespecial 56, 3) := by decide +kernel
theorem dJ2_getChar_3b067_27 : decode cJ2_getChar_3b067 27 = .ok (.athrow, 1) := by decide +kernel
theorem dJ2_getChar_3b067_28 : decode cJ2_getChar_3b067 28 = .ok (.iload_n 1, 1) := by decide +kernel
theorem dJ2_getChar_3b067_29 : decode cJ2_getChar_3b067 29 = .ok (.iconst 1, 1) := by decide +kernel
theorem dJ2_getChar_3b067_30 : decode cJ2_getChar_3b067 30 = .ok (.ishl, 1) := by decide +kernel
theorem dJ2_getChar_3b067_31 : decode cJ2_getChar_3b067 31 = .ok (.istore_n 1, 1) := by decide +kernel
theorem dJ2_getChar_3b067_32 : decode cJ2_getChar_3b067 32 = .ok (.aload_n 0, 1) := by decide +kernel
theorem dJ2_getChar_3b067_33 : decode cJ2_getChar_3b067 33 = .ok (.iload_n 1, 1) := by decide +kernel
theorem dJ2_getChar_3b067_34 : decode cJ2_getChar_3b067 34 = .ok (.iinc 1 1, 3) := by decide +kernel
theorem dJ2_getChar_3b067_37 : decode cJ2_getChar_3b067 37 = .ok (.baload, 1) := by decide +kernel
theorem dJ2_getChar_3b067_38 : decode cJ2_getChar_3b067 38 = .ok (.sipush 255, 3) := by decide +kernel
theorem dJ2_getChar_3b067_41 : decode cJ2_getChar_3b067 41 = .ok (.iand, 1) := by decide +kernel
theorem dJ2_getChar_3b067_42 : decode cJ2_getChar_3b067 42 = .ok (.getstatic 59, 3) := by decide +kernel
theorem dJ2_getChar_3b067_45 : decode cJ2_getChar_3b067 45 = .ok (.ishl, 1) := by decide +kernel
theorem dJ2_getChar_3b067_46 : decode cJ2_getChar_3b067 46 = .ok (.aload_n 0, 1) := by decide +kernel
theorem dJ2_getChar_3b067_47 : decode cJ2_getChar_3b067 47 = .ok (.iload_n 1, 1) := by decide +kernel
theorem dJ2_getChar_3b067_48 : decode cJ2_getChar_3b067 48 = .ok (.baload, 1) := by decide +kernel
theorem dJ2_getChar_3b067_49 : decode cJ2_getChar_3b067 49 = .ok (.sipush 255, 3) := by decide +kernel
theorem dJ2_getChar_3b067_52 : decode cJ2_getChar_3b067 52 = .ok (.iand, 1) := by decide +kernel
theorem dJ2_getChar_3b067_53 : decode cJ2_getChar_3b067 53 = .ok (.getstatic 63, 3) := by decide +kernel
theorem dJ2_getChar_3b067_56 : decode cJ2_getChar_3b067 56 = .ok (.ishl, 1) := by decide +kernel
theorem dJ2_getChar_3b067_57 : decode cJ2_getChar_3b067 57 = .ok (.ior, 1) := by decide +kernel
theorem dJ2_getChar_3b067_58 : decode cJ2_getChar_3b067 58 = .ok (.i2c, 1) := by decide +kernel
theorem dJ2_getChar_3b067_59 : decode cJ2_getChar_3b067 59 = .ok (.ireturn, 1) := by decide +kernel
theorem dJ2_length_9d52b_0 : decode cJ2_length_9d52b 0 = .ok (.aload_n 0, 1) := by decide +kernel
theorem dJ2_length_9d52b_1 : decode cJ2_length_9d52b 1 = .ok (.arraylength, 1) := by decide +kernel
theorem dJ2_length_9d52b_2 : decode cJ2_length_9d52b 2 = .ok (.iconst 1, 1) := by decide +kernel
theorem dJ2_length_9d52b_3 : decode cJ2_length_9d52b 3 = .ok (.ishr, 1) := by decide +kernel
theorem dJ2_length_9d52b_4 : decode cJ2_length_9d52b 4 = .ok (.ireturn, 1) := by decide +kernel
theorem dJ2_charAt_3b067_0 : decode cJ2_charAt_3b067 0 = .ok (.iload_n 1, 1) := by decide +kernel
theorem dJ2_charAt_3b067_1 : decode cJ2_charAt_3b067 1 = .ok (.aload_n 0, 1) := by decide +kernel
theorem dJ2_charAt_3b067_2 : decode cJ2_charAt_3b067 2 = .ok (.invokestatic 67, 3) := by decide +kernel
theorem dJ2_charAt_3b067_5 : decode cJ2_charAt_3b067 5 = .ok (.aload_n 0, 1) := by decide +kernel
theorem dJ2_charAt_3b067_6 : decode cJ2_charAt_3b067 6 = .ok (.iload_n 1, 1) := by decide +kernel
theorem dJ2_charAt_3b067_7 : decode cJ2_charAt_3b067 7 = .ok (.invokestatic 71, 3) := by decide +kernel
theorem dJ2_charAt_3b067_10 : decode cJ2_charAt_3b067 10 = .ok (.ireturn, 1) := by decide +kernel
theorem dJ2_checkIndex_2214a_0 : decode cJ2_checkIndex_2214a 0 = .ok (.iload_n 0, 1) := by decide +kernel
theorem dJ2_checkIndex_2214a_1 : decode cJ2_checkIndex_2214a 1 = .ok (.aload_n 1, 1) := by decide +kernel
theorem dJ2_checkIndex_2214a_2 : decode cJ2_checkIndex_2214a 2 = .ok (.invokestatic 48, 3) := by decide +kernel
theorem dJ2_checkIndex_2214a_5 : decode cJ2_checkIndex_2214a 5 = .ok (.invokestatic 414, 3) := by decide +kernel
theorem dJ2_checkIndex_2214a_8 : decode cJ2_checkIndex_2214a 8 = .ok (.return_, 1) := by decide +kernel
theorem dJ3_checkIndex_8e157_0 : decode cJ3_checkIndex_8e157 0 = .ok (.iload_n 0, 1) := by decide +kernel
theorem dJ3_checkIndex_8e157_1 : decode cJ3_checkIndex_8e157 1 = .ok (.ifCond .lt 8, 3) := by decide +kernel
theorem dJ3_checkIndex_8e157_4 : decode cJ3_checkIndex_8e157 4 = .ok (.iload_n 0, 1) := by decide +kernel
theorem dJ3_checkIndex_8e157_5 : decode cJ3_checkIndex_8e157 5 = .ok (.iload_n 1, 1) := by decide +kernel
theorem dJ3_checkIndex_8e157_6 : decode cJ3_checkIndex_8e157 6 = .ok (.if_icmp .lt 10, 3) := by decide +kernel
theorem dJ3_checkIndex_8e157_9 : decode cJ3_checkIndex_8e157 9 = .ok (.aload_n 2, 1) := by decide +kernel
theorem dJ3_checkIndex_8e157_10 : decode cJ3_checkIndex_8e157 10 = .ok (.iload_n 0, 1) := by decide +kernel
theorem dJ3_checkIndex_8e157_11 : decode cJ3_checkIndex_8e157 11 = .ok (.iload_n 1, 1) := by decide +kernel
theorem dJ3_checkIndex_8e157_12 : decode cJ3_checkIndex_8e157 12 = .ok (.invokestatic 95, 3) := by decide +kernel
theorem dJ3_checkIndex_8e157_15 : decode cJ3_checkIndex_8e157 15 = .ok (.athrow, 1) := by decide +kernel
theorem dJ3_checkIndex_8e157_16 : decode cJ3_checkIndex_8e157 16 = .ok (.iload_n 0, 1) := by decide +kernel
theorem dJ3_checkIndex_8e157_17 : decode cJ3_checkIndex_8e157 17 = .ok (.ireturn, 1) := by decide +kernel
