theorem dX3_init_0 : decode cX3_init 0 = .ok (.aload_n 0, 1) := by decide +kernel
theorem dX3_init_1 : decode cX3_init 1 = .ok (.invokespecial 3, 3) := by decide +kernel
theorem dX3_init_4 : decode cX3_init 4 = .ok (.aload_n 0, 1) := by decide +kernel
theorem dX3_init_5 : decode cX3_init 5 = .ok (.new 9, 3) := by decide +kernel
theorem dX3_init_8 : decode cX3_init 8 = .ok (.dup, 1) := by decide +kernel
theorem dX3_init_9 : decode cX3_init 9 = .ok (.invokespecial 11, 3) := by decide +kernel
theorem dX3_init_12 : decode cX3_init 12 = .ok (.putfield 12, 3) := by decide +kernel
theorem dX3_init_15 : decode cX3_init 15 = .ok (.aload_n 0, 1) := by decide +kernel
theorem dX3_init_16 : decode cX3_init 16 = .ok (.new 16, 3) := by decide +kernel
theorem dX3_init_19 : decode cX3_init 19 = .ok (.dup, 1) := by decide +kernel
theorem dX3_init_20 : decode cX3_init 20 = .ok (.aload_n 0, 1) := by decide +kernel
theorem dX3_init_21 : decode cX3_init 21 = .ok (.getfield 12, 3) := by decide +kernel
theorem dX3_init_24 : decode cX3_init 24 = .ok (.invokespecial 18, 3) := by decide +kernel
theorem dX3_init_27 : decode cX3_init 27 = .ok (.putfield 21, 3) := by decide +kernel
theorem dX3_init_30 : decode cX3_init 30 = .ok (.aload_n 0, 1) := by decide +kernel
theorem dX3_init_31 : decode cX3_init 31 = .ok (.new 25, 3) := by decide +kernel
theorem dX3_init_34 : decode cX3_init 34 = .ok (.dup, 1) := by decide +kernel
theorem dX3_init_35 : decode cX3_init 35 = .ok (.invokespecial 27, 3) := by decide +kernel
theorem dX3_init_38 : decode cX3_init 38 = .ok (.putfield 28, 3) := by decide +kernel
theorem dX3_init_41 : decode cX3_init 41 = .ok (.aload_n 0, 1) := by decide +kernel
theorem dX3_init_42 : decode cX3_init 42 = .ok (.new 25, 3) := by decide +kernel
theorem dX3_init_45 : decode cX3_init 45 = .ok (.dup, 1) := by decide +kernel
theorem dX3_init_46 : decode cX3_init 46 = .ok (.invokespecial 27, 3) := by decide +kernel
theorem dX3_init_49 : decode cX3_init 49 = .ok (.putfield 32, 3) := by decide +kernel
theorem dX3_init_52 : decode cX3_init 52 = .ok (.return_, 1) := by decide +kernel
theorem dX3_add_0 : decode cX3_add 0 = .ok (.iload_n 1, 1) := by decide +kernel
theorem dX3_add_1 : decode cX3_add 1 = .ok (.invokestatic 35, 3) := by decide +kernel
theorem dX3_add_4 : decode cX3_add 4 = .ok (.ifCond .eq 13, 3) := by decide +kernel
theorem dX3_add_7 : decode cX3_add 7 = .ok (.iload_n 2, 1) := by decide +kernel
theorem dX3_add_8 : decode cX3_add 8 = .ok (.iload_n 3, 1) := by decide +kernel
theorem dX3_add_9 : decode cX3_add 9 = .ok (.iload 4, 2) := by decide +kernel
theorem dX3_add_11 : decode cX3_add 11 = .ok (.invokestatic 39, 3) := by decide +kernel
theorem dX3_add_14 : decode cX3_add 14 = .ok (.ifCond .ne 5, 3) := by decide +kernel
theorem dX3_add_17 : decode cX3_add 17 = .ok (.iconst 0, 1) := by decide +kernel
theorem dX3_add_18 : decode cX3_add 18 = .ok (.ireturn, 1) := by decide +kernel
theorem dX3_add_19 : decode cX3_add 19 = .ok (.aload_n 0, 1) := by decide +kernel
theorem dX3_add_20 : decode cX3_add 20 = .ok (.getfield 12, 3) := by decide +kernel
theorem dX3_add_23 : decode cX3_add 23 = .ok (.iload_n 1, 1) := by decide +kernel
theorem dX3_add_24 : decode cX3_add 24 = .ok (.iload_n 2, 1) := by decide +kernel
theorem dX3_add_25 : decode cX3_add 25 = .ok (.iload_n 3, 1) := by decide +kernel
theorem dX3_add_26 : decode cX3_add 26 = .ok (.iload 4, 2) := by decide +kernel
theorem dX3_add_28 : decode cX3_add 28 = .ok (.invokevirtual 43, 3) := by decide +kernel
theorem dX3_add_31 : decode cX3_add 31 = .ok (.ireturn, 1) := by decide +kernel
theorem dX3_clear_0 : decode cX3_clear 0 = .ok (.iload_n 1, 1) := by decide +kernel
theorem dX3_clear_1 : decode cX3_clear 1 = .ok (.invokestatic 35, 3) := by decide +kernel
theorem dX3_clear_4 : decode cX3_clear 4 = .ok (.ifCond .eq 14, 3) := by decide +kernel
theorem dX3_clear_7 : decode cX3_clear 7 = .ok (.aload_n 0, 1) := by decide +kernel
theorem dX3_clear_8 : decode cX3_clear 8 = .ok (.getfield 12, 3) := by decide +kernel
theorem dX3_clear_11 : decode cX3_clear 11 = .ok (.iload_n 1, 1) := by decide +kernel
theorem dX3_clear_12 : decode cX3_clear 12 = .ok (.invokevirtual 47, 3) := by decide +kernel
theorem dX3_clear_15 : decode cX3_clear 15 = .ok (.goto 4, 3) := by decide +kernel
theorem dX3_clear_18 : decode cX3_clear 18 = .ok (.iconst (-1), 1) := by decide +kernel
theorem dX3_clear_19 : decode cX3_clear 19 = .ok (.ireturn, 1) := by decide +kernel
theorem dX3_explore_0 : decode cX3_explore 0 = .ok (.iload_n 1, 1) := by decide +kernel
theorem dX3_explore_1 : decode cX3_explore 1 = .ok (.ifCond .lt 8, 3) := by decide +kernel
theorem dX3_explore_4 : decode cX3_explore 4 = .ok (.iload_n 1, 1) := by decide +kernel
theorem dX3_explore_5 : decode cX3_explore 5 = .ok (.iconst 3, 1) := by decide +kernel
theorem dX3_explore_6 : decode cX3_explore 6 = .ok (.if_icmp .lt 13, 3) := by decide +kernel
theorem dX3_explore_9 : decode cX3_explore 9 = .ok (.new 51, 3) := by decide +kernel
theorem dX3_explore_12 : decode cX3_explore 12 = .ok (.dup, 1) := by decide +kernel
theorem dX3_explore_13 : decode cX3_explore 13 = .ok (.ldc 53, 2) := by decide +kernel
theorem dX3_explore_15 : decode cX3_explore 15 = .ok (.invokespecial 55, 3) := by decide +kernel
theorem dX3_explore_18 : decode cX3_explore 18 = .ok (.athrow, 1) := by decide +kernel
theorem dX3_explore_19 : decode cX3_explore 19 = .ok (.aload_n 0, 1) := by decide +kernel
theorem dX3_explore_20 : decode cX3_explore 20 = .ok (.getfield 21, 3) := by decide +kernel
theorem dX3_explore_23 : decode cX3_explore 23 = .ok (.iload_n 1, 1) := by decide +kernel
theorem dX3_explore_24 : decode cX3_explore 24 = .ok (.putfield 58, 3) := by decide +kernel
theorem dX3_explore_27 : decode cX3_explore 27 = .ok (.aload_n 0, 1) := by decide +kernel
theorem dX3_explore_28 : decode cX3_explore 28 = .ok (.getfield 32, 3) := by decide +kernel
theorem dX3_explore_31 : decode cX3_explore 31 = .ok (.aload_n 0, 1) := by decide +kernel
theorem dX3_explore_32 : decode cX3_explore 32 = .ok (.getfield 21, 3) := by decide +kernel
theorem dX3_explore_35 : decode cX3_explore 35 = .ok (.invokevirtual 62, 3) := by decide +kernel
theorem dX3_explore_38 : decode cX3_explore 38 = .ok (.ifCond .ne 13, 3) := by decide +kernel
theorem dX3_explore_41 : decode cX3_explore 41 = .ok (.new 66, 3) := by decide +kernel
theorem dX3_explore_44 : decode cX3_explore 44 = .ok (.dup, 1) := by decide +kernel
theorem dX3_explore_45 : decode cX3_explore 45 = .ok (.ldc 68, 2) := by decide +kernel
theorem dX3_explore_47 : decode cX3_explore 47 = .ok (.invokespecial 70, 3) := by decide +kernel
theorem dX3_explore_50 : decode cX3_explore 50 = .ok (.athrow, 1) := by decide +kernel
theorem dX3_explore_51 : decode cX3_explore 51 = .ok (.aload_n 0, 1) := by decide +kernel
theorem dX3_explore_52 : decode cX3_explore 52 = .ok (.getfield 28, 3) := by decide +kernel
theorem dX3_explore_55 : decode cX3_explore 55 = .ok (.astore_n 2, 1) := by decide +kernel
theorem dX3_explore_56 : decode cX3_explore 56 = .ok (.aload_n 0, 1) := by decide +kernel
theorem dX3_explore_57 : decode cX3_explore 57 = .ok (.aload_n 0, 1) := by decide +kernel
theorem dX3_explore_58 : decode cX3_explore 58 = .ok (.getfield 32, 3) := by decide +kernel
theorem dX3_explore_61 : decode cX3_explore 61 = .ok (.putfield 28, 3) := by decide +kernel
theorem dX3_explore_64 : decode cX3_explore 64 = .ok (.aload_n 0, 1) := by decide +kernel
theorem dX3_explore_65 : decode cX3_explore 65 = .ok (.aload_n 2, 1) := by decide +kernel
theorem dX3_explore_66 : decode cX3_explore 66 = .ok (.putfield 32, 3) := by decide +kernel
theorem dX3_explore_69 : decode cX3_explore 69 = .ok (.aload_n 0, 1) := by decide +kernel
theorem dX3_explore_70 : decode cX3_explore 70 = .ok (.getfield 28, 3) := by decide +kernel
theorem dX3_explore_73 : decode cX3_explore 73 = .ok (.getfield 71, 3) := by decide +kernel
theorem dX3_explore_76 : decode cX3_explore 76 = .ok (.ireturn, 1) := by decide +kernel
theorem dX3_count_0 : decode cX3_count 0 = .ok (.iload_n 1, 1) := by decide +kernel
theorem dX3_count_1 : decode cX3_count 1 = .ok (.tableswitch 84 0 4 #[35, 43, 51, 59, 67], 35) := by decide +kernel
theorem dX3_count_36 : decode cX3_count 36 = .ok (.aload_n 0, 1) := by decide +kernel
theorem dX3_count_37 : decode cX3_count 37 = .ok (.getfield 12, 3) := by decide +kernel
theorem dX3_count_40 : decode cX3_count 40 = .ok (.getfield 74, 3) := by decide +kernel
theorem dX3_count_43 : decode cX3_count 43 = .ok (.ireturn, 1) := by decide +kernel
theorem dX3_count_44 : decode cX3_count 44 = .ok (.aload_n 0, 1) := by decide +kernel
theorem dX3_count_45 : decode cX3_count 45 = .ok (.getfield 28, 3) := by decide +kernel
theorem dX3_count_48 : decode cX3_count 48 = .ok (.getfield 77, 3) := by decide +kernel
theorem dX3_count_51 : decode cX3_count 51 = .ok (.ireturn, 1) := by decide +kernel
theorem dX3_count_52 : decode cX3_count 52 = .ok (.aload_n 0, 1) := by decide +kernel
theorem dX3_count_53 : decode cX3_count 53 = .ok (.getfield 28, 3) := by decide +kernel
theorem dX3_count_56 : decode cX3_count 56 = .ok (.getfield 71, 3) := by decide +kernel
theorem dX3_count_59 : decode cX3_count 59 = .ok (.ireturn, 1) := by decide +kernel
theorem dX3_count_60 : decode cX3_count 60 = .ok (.aload_n 0, 1) := by decide +kernel
theorem dX3_count_61 : decode cX3_count 61 = .ok (.getfield 28, 3) := by decide +kernel
theorem dX3_count_64 : decode cX3_count 64 = .ok (.getfield 80, 3) := by decide +kernel
theorem dX3_count_67 : decode cX3_count 67 = .ok (.ireturn, 1) := by decide +kernel
theorem dX3_count_68 : decode cX3_count 68 = .ok (.aload_n 0, 1) := by decide +kernel
theorem dX3_count_69 : decode cX3_count 69 = .ok (.getfield 28, 3) := by decide +kernel
theorem dX3_count_72 : decode cX3_count 72 = .ok (.aload_n 0, 1) := by decide +kernel
theorem dX3_count_73 : decode cX3_count 73 = .ok (.getfield 28, 3) := by decide +kernel
theorem dX3_count_76 : decode cX3_count 76 = .ok (.getfield 77, 3) := by decide +kernel
theorem dX3_count_79 : decode cX3_count 79 = .ok (.iconst 1, 1) := by decide +kernel
theorem dX3_count_80 : decode cX3_count 80 = .ok (.isub, 1) := by decide +kernel
theorem dX3_count_81 : decode cX3_count 81 = .ok (.invokevirtual 83, 3) := by decide +kernel
theorem dX3_count_84 : decode cX3_count 84 = .ok (.ireturn, 1) := by decide +kernel
theorem dX3_count_85 : decode cX3_count 85 = .ok (.iconst (-1), 1) := by decide +kernel
theorem dX3_count_86 : decode cX3_count 86 = .ok (.ireturn, 1) := by decide +kernel
theorem dX3_outcome_0 : decode cX3_outcome 0 = .ok (.aload_n 0, 1) := by decide +kernel
theorem dX3_outcome_1 : decode cX3_outcome 1 = .ok (.getfield 28, 3) := by decide +kernel
theorem dX3_outcome_4 : decode cX3_outcome 4 = .ok (.iload_n 1, 1) := by decide +kernel
theorem dX3_outcome_5 : decode cX3_outcome 5 = .ok (.invokevirtual 86, 3) := by decide +kernel
theorem dX3_outcome_8 : decode cX3_outcome 8 = .ok (.istore_n 3, 1) := by decide +kernel
theorem dX3_outcome_9 : decode cX3_outcome 9 = .ok (.iload_n 3, 1) := by decide +kernel
theorem dX3_outcome_10 : decode cX3_outcome 10 = .ok (.ifCond .lt 13, 3) := by decide +kernel
theorem dX3_outcome_13 : decode cX3_outcome 13 = .ok (.iload_n 2, 1) := by decide +kernel
theorem dX3_outcome_14 : decode cX3_outcome 14 = .ok (.ifCond .lt 9, 3) := by decide +kernel
theorem dX3_outcome_17 : decode cX3_outcome 17 = .ok (.iload_n 2, 1) := by decide +kernel
theorem dX3_outcome_18 : decode cX3_outcome 18 = .ok (.bipush 20, 2) := by decide +kernel
theorem dX3_outcome_20 : decode cX3_outcome 20 = .ok (.if_icmp .le 13, 3) := by decide +kernel
theorem dX3_outcome_23 : decode cX3_outcome 23 = .ok (.new 89, 3) := by decide +kernel
theorem dX3_outcome_26 : decode cX3_outcome 26 = .ok (.dup, 1) := by decide +kernel
theorem dX3_outcome_27 : decode cX3_outcome 27 = .ok (.ldc 91, 2) := by decide +kernel
theorem dX3_outcome_29 : decode cX3_outcome 29 = .ok (.invokespecial 93, 3) := by decide +kernel
theorem dX3_outcome_32 : decode cX3_outcome 32 = .ok (.athrow, 1) := by decide +kernel
theorem dX3_outcome_33 : decode cX3_outcome 33 = .ok (.iload_n 2, 1) := by decide +kernel
theorem dX3_outcome_34 : decode cX3_outcome 34 = .ok (.bipush 20, 2) := by decide +kernel
theorem dX3_outcome_36 : decode cX3_outcome 36 = .ok (.if_icmp .ne 14, 3) := by decide +kernel
theorem dX3_outcome_39 : decode cX3_outcome 39 = .ok (.aload_n 0, 1) := by decide +kernel
theorem dX3_outcome_40 : decode cX3_outcome 40 = .ok (.getfield 28, 3) := by decide +kernel
theorem dX3_outcome_43 : decode cX3_outcome 43 = .ok (.iload_n 3, 1) := by decide +kernel
theorem dX3_outcome_44 : decode cX3_outcome 44 = .ok (.invokevirtual 83, 3) := by decide +kernel
theorem dX3_outcome_47 : decode cX3_outcome 47 = .ok (.goto 16, 3) := by decide +kernel
theorem dX3_outcome_50 : decode cX3_outcome 50 = .ok (.aload_n 0, 1) := by decide +kernel
theorem dX3_outcome_51 : decode cX3_outcome 51 = .ok (.getfield 28, 3) := by decide +kernel
theorem dX3_outcome_54 : decode cX3_outcome 54 = .ok (.getfield 94, 3) := by decide +kernel
theorem dX3_outcome_57 : decode cX3_outcome 57 = .ok (.iload_n 3, 1) := by decide +kernel
theorem dX3_outcome_58 : decode cX3_outcome 58 = .ok (.laload, 1) := by decide +kernel
theorem dX3_outcome_59 : decode cX3_outcome 59 = .ok (.iload_n 2, 1) := by decide +kernel
theorem dX3_outcome_60 : decode cX3_outcome 60 = .ok (.invokestatic 98, 3) := by decide +kernel
theorem dX3_outcome_63 : decode cX3_outcome 63 = .ok (.ireturn, 1) := by decide +kernel
theorem dX3_move_0 : decode cX3_move 0 = .ok (.aload_n 0, 1) := by decide +kernel
theorem dX3_move_1 : decode cX3_move 1 = .ok (.getfield 28, 3) := by decide +kernel
theorem dX3_move_4 : decode cX3_move 4 = .ok (.iload_n 1, 1) := by decide +kernel
theorem dX3_move_5 : decode cX3_move 5 = .ok (.invokevirtual 86, 3) := by decide +kernel
theorem dX3_move_8 : decode cX3_move 8 = .ok (.istore_n 3, 1) := by decide +kernel
theorem dX3_move_9 : decode cX3_move 9 = .ok (.aload_n 0, 1) := by decide +kernel
theorem dX3_move_10 : decode cX3_move 10 = .ok (.getfield 28, 3) := by decide +kernel
theorem dX3_move_13 : decode cX3_move 13 = .ok (.iload_n 3, 1) := by decide +kernel
theorem dX3_move_14 : decode cX3_move 14 = .ok (.invokevirtual 83, 3) := by decide +kernel
theorem dX3_move_17 : decode cX3_move 17 = .ok (.istore 4, 2) := by decide +kernel
theorem dX3_move_19 : decode cX3_move 19 = .ok (.iload_n 2, 1) := by decide +kernel
theorem dX3_move_20 : decode cX3_move 20 = .ok (.ifCond .lt 9, 3) := by decide +kernel
theorem dX3_move_23 : decode cX3_move 23 = .ok (.iload_n 2, 1) := by decide +kernel
theorem dX3_move_24 : decode cX3_move 24 = .ok (.iload 4, 2) := by decide +kernel
theorem dX3_move_26 : decode cX3_move 26 = .ok (.if_icmp .lt 13, 3) := by decide +kernel
theorem dX3_move_29 : decode cX3_move 29 = .ok (.new 89, 3) := by decide +kernel
theorem dX3_move_32 : decode cX3_move 32 = .ok (.dup, 1) := by decide +kernel
theorem dX3_move_33 : decode cX3_move 33 = .ok (.ldc 102, 2) := by decide +kernel
theorem dX3_move_35 : decode cX3_move 35 = .ok (.invokespecial 93, 3) := by decide +kernel
theorem dX3_move_38 : decode cX3_move 38 = .ok (.athrow, 1) := by decide +kernel
theorem dX3_move_39 : decode cX3_move 39 = .ok (.aload_n 0, 1) := by decide +kernel
theorem dX3_move_40 : decode cX3_move 40 = .ok (.getfield 28, 3) := by decide +kernel
theorem dX3_move_43 : decode cX3_move 43 = .ok (.iload_n 3, 1) := by decide +kernel
theorem dX3_move_44 : decode cX3_move 44 = .ok (.iload 4, 2) := by decide +kernel
theorem dX3_move_46 : decode cX3_move 46 = .ok (.iconst 1, 1) := by decide +kernel
theorem dX3_move_47 : decode cX3_move 47 = .ok (.isub, 1) := by decide +kernel
theorem dX3_move_48 : decode cX3_move 48 = .ok (.iload_n 2, 1) := by decide +kernel
theorem dX3_move_49 : decode cX3_move 49 = .ok (.isub, 1) := by decide +kernel
theorem dX3_move_50 : decode cX3_move 50 = .ok (.invokevirtual 104, 3) := by decide +kernel
theorem dX3_move_53 : decode cX3_move 53 = .ok (.ireturn, 1) := by decide +kernel
theorem dX3_may_0 : decode cX3_may 0 = .ok (.iload_n 1, 1) := by decide +kernel
theorem dX3_may_1 : decode cX3_may 1 = .ok (.ifCond .lt 9, 3) := by decide +kernel
theorem dX3_may_4 : decode cX3_may 4 = .ok (.iload_n 1, 1) := by decide +kernel
theorem dX3_may_5 : decode cX3_may 5 = .ok (.bipush 20, 2) := by decide +kernel
theorem dX3_may_7 : decode cX3_may 7 = .ok (.if_icmp .lt 5, 3) := by decide +kernel
theorem dX3_may_10 : decode cX3_may 10 = .ok (.iconst (-1), 1) := by decide +kernel
theorem dX3_may_11 : decode cX3_may 11 = .ok (.ireturn, 1) := by decide +kernel
theorem dX3_may_12 : decode cX3_may 12 = .ok (.iconst 0, 1) := by decide +kernel
theorem dX3_may_13 : decode cX3_may 13 = .ok (.istore_n 3, 1) := by decide +kernel
theorem dX3_may_14 : decode cX3_may 14 = .ok (.iconst 0, 1) := by decide +kernel
theorem dX3_may_15 : decode cX3_may 15 = .ok (.istore 4, 2) := by decide +kernel
theorem dX3_may_17 : decode cX3_may 17 = .ok (.iload 4, 2) := by decide +kernel
theorem dX3_may_19 : decode cX3_may 19 = .ok (.aload_n 0, 1) := by decide +kernel
theorem dX3_may_20 : decode cX3_may 20 = .ok (.getfield 28, 3) := by decide +kernel
theorem dX3_may_23 : decode cX3_may 23 = .ok (.getfield 71, 3) := by decide +kernel
theorem dX3_may_26 : decode cX3_may 26 = .ok (.if_icmp .ge 38, 3) := by decide +kernel
theorem dX3_may_29 : decode cX3_may 29 = .ok (.aload_n 0, 1) := by decide +kernel
theorem dX3_may_30 : decode cX3_may 30 = .ok (.getfield 28, 3) := by decide +kernel
theorem dX3_may_33 : decode cX3_may 33 = .ok (.getfield 94, 3) := by decide +kernel
theorem dX3_may_36 : decode cX3_may 36 = .ok (.aload_n 0, 1) := by decide +kernel
theorem dX3_may_37 : decode cX3_may 37 = .ok (.getfield 28, 3) := by decide +kernel
theorem dX3_may_40 : decode cX3_may 40 = .ok (.getfield 108, 3) := by decide +kernel
theorem dX3_may_43 : decode cX3_may 43 = .ok (.iload 4, 2) := by decide +kernel
theorem dX3_may_45 : decode cX3_may 45 = .ok (.iaload, 1) := by decide +kernel
theorem dX3_may_46 : decode cX3_may 46 = .ok (.laload, 1) := by decide +kernel
theorem dX3_may_47 : decode cX3_may 47 = .ok (.iload_n 1, 1) := by decide +kernel
theorem dX3_may_48 : decode cX3_may 48 = .ok (.invokestatic 98, 3) := by decide +kernel
theorem dX3_may_51 : decode cX3_may 51 = .ok (.iload_n 2, 1) := by decide +kernel
theorem dX3_may_52 : decode cX3_may 52 = .ok (.if_icmp .ne 6, 3) := by decide +kernel
theorem dX3_may_55 : decode cX3_may 55 = .ok (.iinc 3 1, 3) := by decide +kernel
theorem dX3_may_58 : decode cX3_may 58 = .ok (.iinc 4 1, 3) := by decide +kernel
theorem dX3_may_61 : decode cX3_may 61 = .ok (.goto (-44), 3) := by decide +kernel
theorem dX3_may_64 : decode cX3_may 64 = .ok (.iload_n 3, 1) := by decide +kernel
theorem dX3_may_65 : decode cX3_may 65 = .ok (.ireturn, 1) := by decide +kernel
theorem dX3_isThread_0 : decode cX3_isThread 0 = .ok (.iload_n 0, 1) := by decide +kernel
theorem dX3_isThread_1 : decode cX3_isThread 1 = .ok (.ifCond .lt 12, 3) := by decide +kernel
theorem dX3_isThread_4 : decode cX3_isThread 4 = .ok (.iload_n 0, 1) := by decide +kernel
theorem dX3_isThread_5 : decode cX3_isThread 5 = .ok (.iconst 4, 1) := by decide +kernel
theorem dX3_isThread_6 : decode cX3_isThread 6 = .ok (.if_icmp .ge 7, 3) := by decide +kernel
theorem dX3_isThread_9 : decode cX3_isThread 9 = .ok (.iconst 1, 1) := by decide +kernel
theorem dX3_isThread_10 : decode cX3_isThread 10 = .ok (.goto 4, 3) := by decide +kernel
theorem dX3_isThread_13 : decode cX3_isThread 13 = .ok (.iconst 0, 1) := by decide +kernel
theorem dX3_isThread_14 : decode cX3_isThread 14 = .ok (.ireturn, 1) := by decide +kernel
theorem dX3_isInstruction_0 : decode cX3_isInstruction 0 = .ok (.iload_n 0, 1) := by decide +kernel
theorem dX3_isInstruction_1 : decode cX3_isInstruction 1 = .ok (.ifCond .lt 9, 3) := by decide +kernel
theorem dX3_isInstruction_4 : decode cX3_isInstruction 4 = .ok (.iload_n 0, 1) := by decide +kernel
theorem dX3_isInstruction_5 : decode cX3_isInstruction 5 = .ok (.bipush 6, 2) := by decide +kernel
theorem dX3_isInstruction_7 : decode cX3_isInstruction 7 = .ok (.if_icmp .le 5, 3) := by decide +kernel
theorem dX3_isInstruction_10 : decode cX3_isInstruction 10 = .ok (.iconst 0, 1) := by decide +kernel
theorem dX3_isInstruction_11 : decode cX3_isInstruction 11 = .ok (.ireturn, 1) := by decide +kernel
theorem dX3_isInstruction_12 : decode cX3_isInstruction 12 = .ok (.iload_n 0, 1) := by decide +kernel
theorem dX3_isInstruction_13 : decode cX3_isInstruction 13 = .ok (.iconst 3, 1) := by decide +kernel
theorem dX3_isInstruction_14 : decode cX3_isInstruction 14 = .ok (.if_icmp .ne 17, 3) := by decide +kernel
theorem dX3_isInstruction_17 : decode cX3_isInstruction 17 = .ok (.iload_n 1, 1) := by decide +kernel
theorem dX3_isInstruction_18 : decode cX3_isInstruction 18 = .ok (.ifCond .ne 11, 3) := by decide +kernel
theorem dX3_isInstruction_21 : decode cX3_isInstruction 21 = .ok (.iload_n 2, 1) := by decide +kernel
theorem dX3_isInstruction_22 : decode cX3_isInstruction 22 = .ok (.ifCond .ne 7, 3) := by decide +kernel
theorem dX3_isInstruction_25 : decode cX3_isInstruction 25 = .ok (.iconst 1, 1) := by decide +kernel
theorem dX3_isInstruction_26 : decode cX3_isInstruction 26 = .ok (.goto 4, 3) := by decide +kernel
theorem dX3_isInstruction_29 : decode cX3_isInstruction 29 = .ok (.iconst 0, 1) := by decide +kernel
theorem dX3_isInstruction_30 : decode cX3_isInstruction 30 = .ok (.ireturn, 1) := by decide +kernel
theorem dX3_isInstruction_31 : decode cX3_isInstruction 31 = .ok (.iload_n 0, 1) := by decide +kernel
theorem dX3_isInstruction_32 : decode cX3_isInstruction 32 = .ok (.bipush 6, 2) := by decide +kernel
theorem dX3_isInstruction_34 : decode cX3_isInstruction 34 = .ok (.if_icmp .ne 7, 3) := by decide +kernel
theorem dX3_isInstruction_37 : decode cX3_isInstruction 37 = .ok (.iconst 1, 1) := by decide +kernel
theorem dX3_isInstruction_38 : decode cX3_isInstruction 38 = .ok (.goto 4, 3) := by decide +kernel
theorem dX3_isInstruction_41 : decode cX3_isInstruction 41 = .ok (.iconst 0, 1) := by decide +kernel
theorem dX3_isInstruction_42 : decode cX3_isInstruction 42 = .ok (.istore_n 3, 1) := by decide +kernel
theorem dX3_isInstruction_43 : decode cX3_isInstruction 43 = .ok (.iload_n 1, 1) := by decide +kernel
theorem dX3_isInstruction_44 : decode cX3_isInstruction 44 = .ok (.iload_n 3, 1) := by decide +kernel
theorem dX3_isInstruction_45 : decode cX3_isInstruction 45 = .ok (.if_icmp .lt 21, 3) := by decide +kernel
theorem dX3_isInstruction_48 : decode cX3_isInstruction 48 = .ok (.iload_n 1, 1) := by decide +kernel
theorem dX3_isInstruction_49 : decode cX3_isInstruction 49 = .ok (.iconst 3, 1) := by decide +kernel
theorem dX3_isInstruction_50 : decode cX3_isInstruction 50 = .ok (.if_icmp .gt 16, 3) := by decide +kernel
theorem dX3_isInstruction_53 : decode cX3_isInstruction 53 = .ok (.iload_n 2, 1) := by decide +kernel
theorem dX3_isInstruction_54 : decode cX3_isInstruction 54 = .ok (.ifCond .lt 12, 3) := by decide +kernel
theorem dX3_isInstruction_57 : decode cX3_isInstruction 57 = .ok (.iload_n 2, 1) := by decide +kernel
theorem dX3_isInstruction_58 : decode cX3_isInstruction 58 = .ok (.iconst 3, 1) := by decide +kernel
theorem dX3_isInstruction_59 : decode cX3_isInstruction 59 = .ok (.if_icmp .gt 7, 3) := by decide +kernel
theorem dX3_isInstruction_62 : decode cX3_isInstruction 62 = .ok (.iconst 1, 1) := by decide +kernel
theorem dX3_isInstruction_63 : decode cX3_isInstruction 63 = .ok (.goto 4, 3) := by decide +kernel
theorem dX3_isInstruction_66 : decode cX3_isInstruction 66 = .ok (.iconst 0, 1) := by decide +kernel
theorem dX3_isInstruction_67 : decode cX3_isInstruction 67 = .ok (.ireturn, 1) := by decide +kernel
theorem dX3_item_0 : decode cX3_item 0 = .ok (.lload_n 0, 1) := by decide +kernel
theorem dX3_item_1 : decode cX3_item 1 = .ok (.bipush 38, 2) := by decide +kernel
theorem dX3_item_3 : decode cX3_item 3 = .ok (.iconst 2, 1) := by decide +kernel
theorem dX3_item_4 : decode cX3_item 4 = .ok (.iload_n 2, 1) := by decide +kernel
theorem dX3_item_5 : decode cX3_item 5 = .ok (.imul, 1) := by decide +kernel
theorem dX3_item_6 : decode cX3_item 6 = .ok (.isub, 1) := by decide +kernel
theorem dX3_item_7 : decode cX3_item 7 = .ok (.lushr, 1) := by decide +kernel
theorem dX3_item_8 : decode cX3_item 8 = .ok (.l2i, 1) := by decide +kernel
theorem dX3_item_9 : decode cX3_item 9 = .ok (.iconst 3, 1) := by decide +kernel
theorem dX3_item_10 : decode cX3_item 10 = .ok (.iand, 1) := by decide +kernel
theorem dX3_item_11 : decode cX3_item 11 = .ok (.ireturn, 1) := by decide +kernel
theorem dX3_withItem_0 : decode cX3_withItem 0 = .ok (.bipush 38, 2) := by decide +kernel
theorem dX3_withItem_2 : decode cX3_withItem 2 = .ok (.iconst 2, 1) := by decide +kernel
theorem dX3_withItem_3 : decode cX3_withItem 3 = .ok (.iload_n 2, 1) := by decide +kernel
theorem dX3_withItem_4 : decode cX3_withItem 4 = .ok (.imul, 1) := by decide +kernel
theorem dX3_withItem_5 : decode cX3_withItem 5 = .ok (.isub, 1) := by decide +kernel
theorem dX3_withItem_6 : decode cX3_withItem 6 = .ok (.istore 4, 2) := by decide +kernel
theorem dX3_withItem_8 : decode cX3_withItem 8 = .ok (.lload_n 0, 1) := by decide +kernel
theorem dX3_withItem_9 : decode cX3_withItem 9 = .ok (.ldc2_w 112, 3) := by decide +kernel
theorem dX3_withItem_12 : decode cX3_withItem 12 = .ok (.iload 4, 2) := by decide +kernel
theorem dX3_withItem_14 : decode cX3_withItem 14 = .ok (.lshl, 1) := by decide +kernel
theorem dX3_withItem_15 : decode cX3_withItem 15 = .ok (.ldc2_w 114, 3) := by decide +kernel
theorem dX3_withItem_18 : decode cX3_withItem 18 = .ok (.lxor, 1) := by decide +kernel
theorem dX3_withItem_19 : decode cX3_withItem 19 = .ok (.land, 1) := by decide +kernel
theorem dX3_withItem_20 : decode cX3_withItem 20 = .ok (.iload_n 3, 1) := by decide +kernel
theorem dX3_withItem_21 : decode cX3_withItem 21 = .ok (.iconst 3, 1) := by decide +kernel
theorem dX3_withItem_22 : decode cX3_withItem 22 = .ok (.iand, 1) := by decide +kernel
theorem dX3_withItem_23 : decode cX3_withItem 23 = .ok (.i2l, 1) := by decide +kernel
theorem dX3_withItem_24 : decode cX3_withItem 24 = .ok (.iload 4, 2) := by decide +kernel
theorem dX3_withItem_26 : decode cX3_withItem 26 = .ok (.lshl, 1) := by decide +kernel
theorem dX3_withItem_27 : decode cX3_withItem 27 = .ok (.lor, 1) := by decide +kernel
theorem dX3_withItem_28 : decode cX3_withItem 28 = .ok (.lreturn, 1) := by decide +kernel
