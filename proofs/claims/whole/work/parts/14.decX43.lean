theorem dX4_sort_73 : decode cX4_sort 73 = .ok (.iinc 2 1, 3) := by decide +kernel
theorem dX4_sort_76 : decode cX4_sort 76 = .ok (.goto (-51), 3) := by decide +kernel
theorem dX4_sort_79 : decode cX4_sort 79 = .ok (.iload_n 1, 1) := by decide +kernel
theorem dX4_sort_80 : decode cX4_sort 80 = .ok (.iconst 3, 1) := by decide +kernel
theorem dX4_sort_81 : decode cX4_sort 81 = .ok (.idiv, 1) := by decide +kernel
theorem dX4_sort_82 : decode cX4_sort 82 = .ok (.istore_n 1, 1) := by decide +kernel
theorem dX4_sort_83 : decode cX4_sort 83 = .ok (.goto (-64), 3) := by decide +kernel
theorem dX4_sort_86 : decode cX4_sort 86 = .ok (.return_, 1) := by decide +kernel
theorem dX4_turn_0 : decode cX4_turn 0 = .ok (.aload_n 0, 1) := by decide +kernel
theorem dX4_turn_1 : decode cX4_turn 1 = .ok (.getfield 62, 3) := by decide +kernel
theorem dX4_turn_4 : decode cX4_turn 4 = .ok (.iload_n 1, 1) := by decide +kernel
theorem dX4_turn_5 : decode cX4_turn 5 = .ok (.laload, 1) := by decide +kernel
theorem dX4_turn_6 : decode cX4_turn 6 = .ok (.lstore_n 3, 1) := by decide +kernel
theorem dX4_turn_7 : decode cX4_turn 7 = .ok (.aload_n 0, 1) := by decide +kernel
theorem dX4_turn_8 : decode cX4_turn 8 = .ok (.getfield 62, 3) := by decide +kernel
theorem dX4_turn_11 : decode cX4_turn 11 = .ok (.iload_n 1, 1) := by decide +kernel
theorem dX4_turn_12 : decode cX4_turn 12 = .ok (.aload_n 0, 1) := by decide +kernel
theorem dX4_turn_13 : decode cX4_turn 13 = .ok (.getfield 62, 3) := by decide +kernel
theorem dX4_turn_16 : decode cX4_turn 16 = .ok (.iload_n 2, 1) := by decide +kernel
theorem dX4_turn_17 : decode cX4_turn 17 = .ok (.laload, 1) := by decide +kernel
theorem dX4_turn_18 : decode cX4_turn 18 = .ok (.lastore, 1) := by decide +kernel
theorem dX4_turn_19 : decode cX4_turn 19 = .ok (.aload_n 0, 1) := by decide +kernel
theorem dX4_turn_20 : decode cX4_turn 20 = .ok (.getfield 62, 3) := by decide +kernel
theorem dX4_turn_23 : decode cX4_turn 23 = .ok (.iload_n 2, 1) := by decide +kernel
theorem dX4_turn_24 : decode cX4_turn 24 = .ok (.lload_n 3, 1) := by decide +kernel
theorem dX4_turn_25 : decode cX4_turn 25 = .ok (.lastore, 1) := by decide +kernel
theorem dX4_turn_26 : decode cX4_turn 26 = .ok (.aload_n 0, 1) := by decide +kernel
theorem dX4_turn_27 : decode cX4_turn 27 = .ok (.getfield 68, 3) := by decide +kernel
theorem dX4_turn_30 : decode cX4_turn 30 = .ok (.iload_n 1, 1) := by decide +kernel
theorem dX4_turn_31 : decode cX4_turn 31 = .ok (.laload, 1) := by decide +kernel
theorem dX4_turn_32 : decode cX4_turn 32 = .ok (.lstore_n 3, 1) := by decide +kernel
theorem dX4_turn_33 : decode cX4_turn 33 = .ok (.aload_n 0, 1) := by decide +kernel
theorem dX4_turn_34 : decode cX4_turn 34 = .ok (.getfield 68, 3) := by decide +kernel
theorem dX4_turn_37 : decode cX4_turn 37 = .ok (.iload_n 1, 1) := by decide +kernel
theorem dX4_turn_38 : decode cX4_turn 38 = .ok (.aload_n 0, 1) := by decide +kernel
theorem dX4_turn_39 : decode cX4_turn 39 = .ok (.getfield 68, 3) := by decide +kernel
theorem dX4_turn_42 : decode cX4_turn 42 = .ok (.iload_n 2, 1) := by decide +kernel
theorem dX4_turn_43 : decode cX4_turn 43 = .ok (.laload, 1) := by decide +kernel
theorem dX4_turn_44 : decode cX4_turn 44 = .ok (.lastore, 1) := by decide +kernel
theorem dX4_turn_45 : decode cX4_turn 45 = .ok (.aload_n 0, 1) := by decide +kernel
theorem dX4_turn_46 : decode cX4_turn 46 = .ok (.getfield 68, 3) := by decide +kernel
theorem dX4_turn_49 : decode cX4_turn 49 = .ok (.iload_n 2, 1) := by decide +kernel
theorem dX4_turn_50 : decode cX4_turn 50 = .ok (.lload_n 3, 1) := by decide +kernel
theorem dX4_turn_51 : decode cX4_turn 51 = .ok (.lastore, 1) := by decide +kernel
theorem dX4_turn_52 : decode cX4_turn 52 = .ok (.aload_n 0, 1) := by decide +kernel
theorem dX4_turn_53 : decode cX4_turn 53 = .ok (.getfield 71, 3) := by decide +kernel
theorem dX4_turn_56 : decode cX4_turn 56 = .ok (.iload_n 1, 1) := by decide +kernel
theorem dX4_turn_57 : decode cX4_turn 57 = .ok (.laload, 1) := by decide +kernel
theorem dX4_turn_58 : decode cX4_turn 58 = .ok (.lstore_n 3, 1) := by decide +kernel
theorem dX4_turn_59 : decode cX4_turn 59 = .ok (.aload_n 0, 1) := by decide +kernel
theorem dX4_turn_60 : decode cX4_turn 60 = .ok (.getfield 71, 3) := by decide +kernel
theorem dX4_turn_63 : decode cX4_turn 63 = .ok (.iload_n 1, 1) := by decide +kernel
theorem dX4_turn_64 : decode cX4_turn 64 = .ok (.aload_n 0, 1) := by decide +kernel
theorem dX4_turn_65 : decode cX4_turn 65 = .ok (.getfield 71, 3) := by decide +kernel
theorem dX4_turn_68 : decode cX4_turn 68 = .ok (.iload_n 2, 1) := by decide +kernel
theorem dX4_turn_69 : decode cX4_turn 69 = .ok (.laload, 1) := by decide +kernel
theorem dX4_turn_70 : decode cX4_turn 70 = .ok (.lastore, 1) := by decide +kernel
theorem dX4_turn_71 : decode cX4_turn 71 = .ok (.aload_n 0, 1) := by decide +kernel
theorem dX4_turn_72 : decode cX4_turn 72 = .ok (.getfield 71, 3) := by decide +kernel
theorem dX4_turn_75 : decode cX4_turn 75 = .ok (.iload_n 2, 1) := by decide +kernel
theorem dX4_turn_76 : decode cX4_turn 76 = .ok (.lload_n 3, 1) := by decide +kernel
theorem dX4_turn_77 : decode cX4_turn 77 = .ok (.lastore, 1) := by decide +kernel
theorem dX4_turn_78 : decode cX4_turn 78 = .ok (.aload_n 0, 1) := by decide +kernel
theorem dX4_turn_79 : decode cX4_turn 79 = .ok (.getfield 65, 3) := by decide +kernel
theorem dX4_turn_82 : decode cX4_turn 82 = .ok (.iload_n 1, 1) := by decide +kernel
theorem dX4_turn_83 : decode cX4_turn 83 = .ok (.iaload, 1) := by decide +kernel
theorem dX4_turn_84 : decode cX4_turn 84 = .ok (.istore 5, 2) := by decide +kernel
theorem dX4_turn_86 : decode cX4_turn 86 = .ok (.aload_n 0, 1) := by decide +kernel
theorem dX4_turn_87 : decode cX4_turn 87 = .ok (.getfield 65, 3) := by decide +kernel
theorem dX4_turn_90 : decode cX4_turn 90 = .ok (.iload_n 1, 1) := by decide +kernel
theorem dX4_turn_91 : decode cX4_turn 91 = .ok (.aload_n 0, 1) := by decide +kernel
theorem dX4_turn_92 : decode cX4_turn 92 = .ok (.getfield 65, 3) := by decide +kernel
theorem dX4_turn_95 : decode cX4_turn 95 = .ok (.iload_n 2, 1) := by decide +kernel
theorem dX4_turn_96 : decode cX4_turn 96 = .ok (.iaload, 1) := by decide +kernel
theorem dX4_turn_97 : decode cX4_turn 97 = .ok (.iastore, 1) := by decide +kernel
theorem dX4_turn_98 : decode cX4_turn 98 = .ok (.aload_n 0, 1) := by decide +kernel
theorem dX4_turn_99 : decode cX4_turn 99 = .ok (.getfield 65, 3) := by decide +kernel
theorem dX4_turn_102 : decode cX4_turn 102 = .ok (.iload_n 2, 1) := by decide +kernel
theorem dX4_turn_103 : decode cX4_turn 103 = .ok (.iload 5, 2) := by decide +kernel
theorem dX4_turn_105 : decode cX4_turn 105 = .ok (.iastore, 1) := by decide +kernel
theorem dX4_turn_106 : decode cX4_turn 106 = .ok (.return_, 1) := by decide +kernel
theorem dX4_count_0 : decode cX4_count 0 = .ok (.aload_n 0, 1) := by decide +kernel
theorem dX4_count_1 : decode cX4_count 1 = .ok (.iconst 0, 1) := by decide +kernel
theorem dX4_count_2 : decode cX4_count 2 = .ok (.putfield 74, 3) := by decide +kernel
theorem dX4_count_5 : decode cX4_count 5 = .ok (.iload_n 1, 1) := by decide +kernel
theorem dX4_count_6 : decode cX4_count 6 = .ok (.tableswitch 59 0 4 #[34, 39, 44, 49, 54], 34) := by decide +kernel
theorem dX4_count_40 : decode cX4_count 40 = .ok (.aload_n 0, 1) := by decide +kernel
theorem dX4_count_41 : decode cX4_count 41 = .ok (.invokevirtual 82, 3) := by decide +kernel
theorem dX4_count_44 : decode cX4_count 44 = .ok (.ireturn, 1) := by decide +kernel
theorem dX4_count_45 : decode cX4_count 45 = .ok (.aload_n 0, 1) := by decide +kernel
theorem dX4_count_46 : decode cX4_count 46 = .ok (.getfield 141, 3) := by decide +kernel
theorem dX4_count_49 : decode cX4_count 49 = .ok (.ireturn, 1) := by decide +kernel
theorem dX4_count_50 : decode cX4_count 50 = .ok (.aload_n 0, 1) := by decide +kernel
theorem dX4_count_51 : decode cX4_count 51 = .ok (.getfield 150, 3) := by decide +kernel
theorem dX4_count_54 : decode cX4_count 54 = .ok (.ireturn, 1) := by decide +kernel
theorem dX4_count_55 : decode cX4_count 55 = .ok (.aload_n 0, 1) := by decide +kernel
theorem dX4_count_56 : decode cX4_count 56 = .ok (.getfield 144, 3) := by decide +kernel
theorem dX4_count_59 : decode cX4_count 59 = .ok (.ireturn, 1) := by decide +kernel
theorem dX4_count_60 : decode cX4_count 60 = .ok (.aload_n 0, 1) := by decide +kernel
theorem dX4_count_61 : decode cX4_count 61 = .ok (.getfield 147, 3) := by decide +kernel
theorem dX4_count_64 : decode cX4_count 64 = .ok (.ireturn, 1) := by decide +kernel
theorem dX4_count_65 : decode cX4_count 65 = .ok (.iconst (-1), 1) := by decide +kernel
theorem dX4_count_66 : decode cX4_count 66 = .ok (.ireturn, 1) := by decide +kernel
theorem dX4_part_0 : decode cX4_part 0 = .ok (.aload_n 0, 1) := by decide +kernel
theorem dX4_part_1 : decode cX4_part 1 = .ok (.getfield 62, 3) := by decide +kernel
theorem dX4_part_4 : decode cX4_part 4 = .ok (.iload_n 1, 1) := by decide +kernel
theorem dX4_part_5 : decode cX4_part 5 = .ok (.laload, 1) := by decide +kernel
theorem dX4_part_6 : decode cX4_part 6 = .ok (.iconst 2, 1) := by decide +kernel
theorem dX4_part_7 : decode cX4_part 7 = .ok (.bipush 19, 2) := by decide +kernel
theorem dX4_part_9 : decode cX4_part 9 = .ok (.iload_n 2, 1) := by decide +kernel
theorem dX4_part_10 : decode cX4_part 10 = .ok (.isub, 1) := by decide +kernel
theorem dX4_part_11 : decode cX4_part 11 = .ok (.imul, 1) := by decide +kernel
theorem dX4_part_12 : decode cX4_part 12 = .ok (.lshr, 1) := by decide +kernel
theorem dX4_part_13 : decode cX4_part 13 = .ok (.ldc2_w 86, 3) := by decide +kernel
theorem dX4_part_16 : decode cX4_part 16 = .ok (.land, 1) := by decide +kernel
theorem dX4_part_17 : decode cX4_part 17 = .ok (.l2i, 1) := by decide +kernel
theorem dX4_part_18 : decode cX4_part 18 = .ok (.ireturn, 1) := by decide +kernel
theorem dX4_outcome_0 : decode cX4_outcome 0 = .ok (.aload_n 0, 1) := by decide +kernel
theorem dX4_outcome_1 : decode cX4_outcome 1 = .ok (.iload_n 1, 1) := by decide +kernel
theorem dX4_outcome_2 : decode cX4_outcome 2 = .ok (.ifCond .lt 21, 3) := by decide +kernel
theorem dX4_outcome_5 : decode cX4_outcome 5 = .ok (.iload_n 1, 1) := by decide +kernel
theorem dX4_outcome_6 : decode cX4_outcome 6 = .ok (.aload_n 0, 1) := by decide +kernel
theorem dX4_outcome_7 : decode cX4_outcome 7 = .ok (.getfield 150, 3) := by decide +kernel
theorem dX4_outcome_10 : decode cX4_outcome 10 = .ok (.if_icmp .ge 13, 3) := by decide +kernel
theorem dX4_outcome_13 : decode cX4_outcome 13 = .ok (.iload_n 2, 1) := by decide +kernel
theorem dX4_outcome_14 : decode cX4_outcome 14 = .ok (.ifCond .lt 9, 3) := by decide +kernel
theorem dX4_outcome_17 : decode cX4_outcome 17 = .ok (.iload_n 2, 1) := by decide +kernel
theorem dX4_outcome_18 : decode cX4_outcome 18 = .ok (.bipush 20, 2) := by decide +kernel
theorem dX4_outcome_20 : decode cX4_outcome 20 = .ok (.if_icmp .le 7, 3) := by decide +kernel
theorem dX4_outcome_23 : decode cX4_outcome 23 = .ok (.iconst 1, 1) := by decide +kernel
theorem dX4_outcome_24 : decode cX4_outcome 24 = .ok (.goto 4, 3) := by decide +kernel
theorem dX4_outcome_27 : decode cX4_outcome 27 = .ok (.iconst 0, 1) := by decide +kernel
theorem dX4_outcome_28 : decode cX4_outcome 28 = .ok (.putfield 74, 3) := by decide +kernel
theorem dX4_outcome_31 : decode cX4_outcome 31 = .ok (.aload_n 0, 1) := by decide +kernel
theorem dX4_outcome_32 : decode cX4_outcome 32 = .ok (.getfield 74, 3) := by decide +kernel
theorem dX4_outcome_35 : decode cX4_outcome 35 = .ok (.ifCond .le 5, 3) := by decide +kernel
theorem dX4_outcome_38 : decode cX4_outcome 38 = .ok (.iconst 0, 1) := by decide +kernel
theorem dX4_outcome_39 : decode cX4_outcome 39 = .ok (.ireturn, 1) := by decide +kernel
theorem dX4_outcome_40 : decode cX4_outcome 40 = .ok (.iload_n 2, 1) := by decide +kernel
theorem dX4_outcome_41 : decode cX4_outcome 41 = .ok (.bipush 20, 2) := by decide +kernel
theorem dX4_outcome_43 : decode cX4_outcome 43 = .ok (.if_icmp .ne 12, 3) := by decide +kernel
theorem dX4_outcome_46 : decode cX4_outcome 46 = .ok (.aload_n 0, 1) := by decide +kernel
theorem dX4_outcome_47 : decode cX4_outcome 47 = .ok (.getfield 65, 3) := by decide +kernel
theorem dX4_outcome_50 : decode cX4_outcome 50 = .ok (.iload_n 1, 1) := by decide +kernel
theorem dX4_outcome_51 : decode cX4_outcome 51 = .ok (.iaload, 1) := by decide +kernel
theorem dX4_outcome_52 : decode cX4_outcome 52 = .ok (.goto 9, 3) := by decide +kernel
theorem dX4_outcome_55 : decode cX4_outcome 55 = .ok (.aload_n 0, 1) := by decide +kernel
theorem dX4_outcome_56 : decode cX4_outcome 56 = .ok (.iload_n 1, 1) := by decide +kernel
theorem dX4_outcome_57 : decode cX4_outcome 57 = .ok (.iload_n 2, 1) := by decide +kernel
theorem dX4_outcome_58 : decode cX4_outcome 58 = .ok (.invokevirtual 169, 3) := by decide +kernel
theorem dX4_outcome_61 : decode cX4_outcome 61 = .ok (.ireturn, 1) := by decide +kernel
theorem dX4_move_0 : decode cX4_move 0 = .ok (.aload_n 0, 1) := by decide +kernel
theorem dX4_move_1 : decode cX4_move 1 = .ok (.iload_n 1, 1) := by decide +kernel
theorem dX4_move_2 : decode cX4_move 2 = .ok (.ifCond .lt 41, 3) := by decide +kernel
theorem dX4_move_5 : decode cX4_move 5 = .ok (.iload_n 1, 1) := by decide +kernel
theorem dX4_move_6 : decode cX4_move 6 = .ok (.aload_n 0, 1) := by decide +kernel
theorem dX4_move_7 : decode cX4_move 7 = .ok (.getfield 150, 3) := by decide +kernel
theorem dX4_move_10 : decode cX4_move 10 = .ok (.if_icmp .ge 33, 3) := by decide +kernel
theorem dX4_move_13 : decode cX4_move 13 = .ok (.iload_n 2, 1) := by decide +kernel
theorem dX4_move_14 : decode cX4_move 14 = .ok (.ifCond .lt 29, 3) := by decide +kernel
theorem dX4_move_17 : decode cX4_move 17 = .ok (.iload_n 2, 1) := by decide +kernel
theorem dX4_move_18 : decode cX4_move 18 = .ok (.aload_n 0, 1) := by decide +kernel
theorem dX4_move_19 : decode cX4_move 19 = .ok (.getfield 65, 3) := by decide +kernel
theorem dX4_move_22 : decode cX4_move 22 = .ok (.iload_n 1, 1) := by decide +kernel
theorem dX4_move_23 : decode cX4_move 23 = .ok (.ifCond .lt 11, 3) := by decide +kernel
theorem dX4_move_26 : decode cX4_move 26 = .ok (.iload_n 1, 1) := by decide +kernel
theorem dX4_move_27 : decode cX4_move 27 = .ok (.aload_n 0, 1) := by decide +kernel
theorem dX4_move_28 : decode cX4_move 28 = .ok (.getfield 150, 3) := by decide +kernel
theorem dX4_move_31 : decode cX4_move 31 = .ok (.if_icmp .lt 7, 3) := by decide +kernel
theorem dX4_move_34 : decode cX4_move 34 = .ok (.iconst 0, 1) := by decide +kernel
theorem dX4_move_35 : decode cX4_move 35 = .ok (.goto 4, 3) := by decide +kernel
theorem dX4_move_38 : decode cX4_move 38 = .ok (.iload_n 1, 1) := by decide +kernel
theorem dX4_move_39 : decode cX4_move 39 = .ok (.iaload, 1) := by decide +kernel
theorem dX4_move_40 : decode cX4_move 40 = .ok (.if_icmp .lt 7, 3) := by decide +kernel
theorem dX4_move_43 : decode cX4_move 43 = .ok (.iconst 1, 1) := by decide +kernel
theorem dX4_move_44 : decode cX4_move 44 = .ok (.goto 4, 3) := by decide +kernel
theorem dX4_move_47 : decode cX4_move 47 = .ok (.iconst 0, 1) := by decide +kernel
theorem dX4_move_48 : decode cX4_move 48 = .ok (.putfield 74, 3) := by decide +kernel
theorem dX4_move_51 : decode cX4_move 51 = .ok (.aload_n 0, 1) := by decide +kernel
theorem dX4_move_52 : decode cX4_move 52 = .ok (.getfield 74, 3) := by decide +kernel
theorem dX4_move_55 : decode cX4_move 55 = .ok (.ifCond .le 5, 3) := by decide +kernel
theorem dX4_move_58 : decode cX4_move 58 = .ok (.iconst 0, 1) := by decide +kernel
theorem dX4_move_59 : decode cX4_move 59 = .ok (.ireturn, 1) := by decide +kernel
theorem dX4_move_60 : decode cX4_move 60 = .ok (.iload_n 2, 1) := by decide +kernel
theorem dX4_move_61 : decode cX4_move 61 = .ok (.bipush 12, 2) := by decide +kernel
theorem dX4_move_63 : decode cX4_move 63 = .ok (.if_icmp .ge 16, 3) := by decide +kernel
theorem dX4_move_66 : decode cX4_move 66 = .ok (.aload_n 0, 1) := by decide +kernel
theorem dX4_move_67 : decode cX4_move 67 = .ok (.getfield 68, 3) := by decide +kernel
theorem dX4_move_70 : decode cX4_move 70 = .ok (.iload_n 1, 1) := by decide +kernel
theorem dX4_move_71 : decode cX4_move 71 = .ok (.laload, 1) := by decide +kernel
theorem dX4_move_72 : decode cX4_move 72 = .ok (.iconst 5, 1) := by decide +kernel
theorem dX4_move_73 : decode cX4_move 73 = .ok (.iload_n 2, 1) := by decide +kernel
theorem dX4_move_74 : decode cX4_move 74 = .ok (.imul, 1) := by decide +kernel
theorem dX4_move_75 : decode cX4_move 75 = .ok (.lshr, 1) := by decide +kernel
theorem dX4_move_76 : decode cX4_move 76 = .ok (.goto 16, 3) := by decide +kernel
theorem dX4_move_79 : decode cX4_move 79 = .ok (.aload_n 0, 1) := by decide +kernel
theorem dX4_move_80 : decode cX4_move 80 = .ok (.getfield 71, 3) := by decide +kernel
theorem dX4_move_83 : decode cX4_move 83 = .ok (.iload_n 1, 1) := by decide +kernel
theorem dX4_move_84 : decode cX4_move 84 = .ok (.laload, 1) := by decide +kernel
theorem dX4_move_85 : decode cX4_move 85 = .ok (.iconst 5, 1) := by decide +kernel
theorem dX4_move_86 : decode cX4_move 86 = .ok (.iload_n 2, 1) := by decide +kernel
theorem dX4_move_87 : decode cX4_move 87 = .ok (.bipush 12, 2) := by decide +kernel
theorem dX4_move_89 : decode cX4_move 89 = .ok (.isub, 1) := by decide +kernel
theorem dX4_move_90 : decode cX4_move 90 = .ok (.imul, 1) := by decide +kernel
theorem dX4_move_91 : decode cX4_move 91 = .ok (.lshr, 1) := by decide +kernel
theorem dX4_move_92 : decode cX4_move 92 = .ok (.ldc2_w 172, 3) := by decide +kernel
theorem dX4_move_95 : decode cX4_move 95 = .ok (.land, 1) := by decide +kernel
theorem dX4_move_96 : decode cX4_move 96 = .ok (.l2i, 1) := by decide +kernel
theorem dX4_move_97 : decode cX4_move 97 = .ok (.ireturn, 1) := by decide +kernel
theorem dX4_may_0 : decode cX4_may 0 = .ok (.aload_n 0, 1) := by decide +kernel
theorem dX4_may_1 : decode cX4_may 1 = .ok (.iconst 0, 1) := by decide +kernel
theorem dX4_may_2 : decode cX4_may 2 = .ok (.putfield 74, 3) := by decide +kernel
theorem dX4_may_5 : decode cX4_may 5 = .ok (.iload_n 1, 1) := by decide +kernel
theorem dX4_may_6 : decode cX4_may 6 = .ok (.ifCond .lt 9, 3) := by decide +kernel
theorem dX4_may_9 : decode cX4_may 9 = .ok (.iload_n 1, 1) := by decide +kernel
theorem dX4_may_10 : decode cX4_may 10 = .ok (.bipush 19, 2) := by decide +kernel
theorem dX4_may_12 : decode cX4_may 12 = .ok (.if_icmp .le 5, 3) := by decide +kernel
theorem dX4_may_15 : decode cX4_may 15 = .ok (.iconst (-1), 1) := by decide +kernel
theorem dX4_may_16 : decode cX4_may 16 = .ok (.ireturn, 1) := by decide +kernel
theorem dX4_may_17 : decode cX4_may 17 = .ok (.iconst 0, 1) := by decide +kernel
theorem dX4_may_18 : decode cX4_may 18 = .ok (.istore_n 3, 1) := by decide +kernel
theorem dX4_may_19 : decode cX4_may 19 = .ok (.iconst 0, 1) := by decide +kernel
theorem dX4_may_20 : decode cX4_may 20 = .ok (.istore 4, 2) := by decide +kernel
theorem dX4_may_22 : decode cX4_may 22 = .ok (.iload 4, 2) := by decide +kernel
theorem dX4_may_24 : decode cX4_may 24 = .ok (.aload_n 0, 1) := by decide +kernel
theorem dX4_may_25 : decode cX4_may 25 = .ok (.getfield 150, 3) := by decide +kernel
theorem dX4_may_28 : decode cX4_may 28 = .ok (.if_icmp .ge 28, 3) := by decide +kernel
theorem dX4_may_31 : decode cX4_may 31 = .ok (.iload_n 3, 1) := by decide +kernel
theorem dX4_may_32 : decode cX4_may 32 = .ok (.aload_n 0, 1) := by decide +kernel
theorem dX4_may_33 : decode cX4_may 33 = .ok (.iload 4, 2) := by decide +kernel
theorem dX4_may_35 : decode cX4_may 35 = .ok (.iload_n 1, 1) := by decide +kernel
theorem dX4_may_36 : decode cX4_may 36 = .ok (.invokevirtual 169, 3) := by decide +kernel
theorem dX4_may_39 : decode cX4_may 39 = .ok (.iload_n 2, 1) := by decide +kernel
theorem dX4_may_40 : decode cX4_may 40 = .ok (.if_icmp .ne 7, 3) := by decide +kernel
theorem dX4_may_43 : decode cX4_may 43 = .ok (.iconst 1, 1) := by decide +kernel
theorem dX4_may_44 : decode cX4_may 44 = .ok (.goto 4, 3) := by decide +kernel
theorem dX4_may_47 : decode cX4_may 47 = .ok (.iconst 0, 1) := by decide +kernel
theorem dX4_may_48 : decode cX4_may 48 = .ok (.iadd, 1) := by decide +kernel
theorem dX4_may_49 : decode cX4_may 49 = .ok (.istore_n 3, 1) := by decide +kernel
theorem dX4_may_50 : decode cX4_may 50 = .ok (.iinc 4 1, 3) := by decide +kernel
theorem dX4_may_53 : decode cX4_may 53 = .ok (.goto (-31), 3) := by decide +kernel
theorem dX4_may_56 : decode cX4_may 56 = .ok (.iload_n 3, 1) := by decide +kernel
theorem dX4_may_57 : decode cX4_may 57 = .ok (.ireturn, 1) := by decide +kernel
