theorem dX2_init_0 : decode cX2_init 0 = .ok (.aload_n 0, 1) := by decide +kernel
theorem dX2_init_1 : decode cX2_init 1 = .ok (.invokespecial 3, 3) := by decide +kernel
theorem dX2_init_4 : decode cX2_init 4 = .ok (.aload_n 0, 1) := by decide +kernel
theorem dX2_init_5 : decode cX2_init 5 = .ok (.iconst 0, 1) := by decide +kernel
theorem dX2_init_6 : decode cX2_init 6 = .ok (.newarray .long, 2) := by decide +kernel
theorem dX2_init_8 : decode cX2_init 8 = .ok (.putfield 9, 3) := by decide +kernel
theorem dX2_init_11 : decode cX2_init 11 = .ok (.aload_n 0, 1) := by decide +kernel
theorem dX2_init_12 : decode cX2_init 12 = .ok (.iconst 0, 1) := by decide +kernel
theorem dX2_init_13 : decode cX2_init 13 = .ok (.newarray .long, 2) := by decide +kernel
theorem dX2_init_15 : decode cX2_init 15 = .ok (.putfield 15, 3) := by decide +kernel
theorem dX2_init_18 : decode cX2_init 18 = .ok (.aload_n 0, 1) := by decide +kernel
theorem dX2_init_19 : decode cX2_init 19 = .ok (.iconst 0, 1) := by decide +kernel
theorem dX2_init_20 : decode cX2_init 20 = .ok (.newarray .int, 2) := by decide +kernel
theorem dX2_init_22 : decode cX2_init 22 = .ok (.putfield 18, 3) := by decide +kernel
theorem dX2_init_25 : decode cX2_init 25 = .ok (.aload_n 0, 1) := by decide +kernel
theorem dX2_init_26 : decode cX2_init 26 = .ok (.iconst 0, 1) := by decide +kernel
theorem dX2_init_27 : decode cX2_init 27 = .ok (.newarray .int, 2) := by decide +kernel
theorem dX2_init_29 : decode cX2_init 29 = .ok (.putfield 22, 3) := by decide +kernel
theorem dX2_init_32 : decode cX2_init 32 = .ok (.aload_n 0, 1) := by decide +kernel
theorem dX2_init_33 : decode cX2_init 33 = .ok (.iconst 0, 1) := by decide +kernel
theorem dX2_init_34 : decode cX2_init 34 = .ok (.newarray .int, 2) := by decide +kernel
theorem dX2_init_36 : decode cX2_init 36 = .ok (.putfield 25, 3) := by decide +kernel
theorem dX2_init_39 : decode cX2_init 39 = .ok (.aload_n 0, 1) := by decide +kernel
theorem dX2_init_40 : decode cX2_init 40 = .ok (.iconst 0, 1) := by decide +kernel
theorem dX2_init_41 : decode cX2_init 41 = .ok (.putfield 28, 3) := by decide +kernel
theorem dX2_init_44 : decode cX2_init 44 = .ok (.aload_n 0, 1) := by decide +kernel
theorem dX2_init_45 : decode cX2_init 45 = .ok (.iconst 0, 1) := by decide +kernel
theorem dX2_init_46 : decode cX2_init 46 = .ok (.putfield 32, 3) := by decide +kernel
theorem dX2_init_49 : decode cX2_init 49 = .ok (.aload_n 0, 1) := by decide +kernel
theorem dX2_init_50 : decode cX2_init 50 = .ok (.iconst 0, 1) := by decide +kernel
theorem dX2_init_51 : decode cX2_init 51 = .ok (.putfield 35, 3) := by decide +kernel
theorem dX2_init_54 : decode cX2_init 54 = .ok (.aload_n 0, 1) := by decide +kernel
theorem dX2_init_55 : decode cX2_init 55 = .ok (.iconst 0, 1) := by decide +kernel
theorem dX2_init_56 : decode cX2_init 56 = .ok (.putfield 38, 3) := by decide +kernel
theorem dX2_init_59 : decode cX2_init 59 = .ok (.aload_n 0, 1) := by decide +kernel
theorem dX2_init_60 : decode cX2_init 60 = .ok (.iconst 0, 1) := by decide +kernel
theorem dX2_init_61 : decode cX2_init 61 = .ok (.putfield 41, 3) := by decide +kernel
theorem dX2_init_64 : decode cX2_init 64 = .ok (.return_, 1) := by decide +kernel
theorem dX2_search_0 : decode cX2_search 0 = .ok (.aload_n 0, 1) := by decide +kernel
theorem dX2_search_1 : decode cX2_search 1 = .ok (.iconst 0, 1) := by decide +kernel
theorem dX2_search_2 : decode cX2_search 2 = .ok (.putfield 35, 3) := by decide +kernel
theorem dX2_search_5 : decode cX2_search 5 = .ok (.aload_n 0, 1) := by decide +kernel
theorem dX2_search_6 : decode cX2_search 6 = .ok (.iconst 0, 1) := by decide +kernel
theorem dX2_search_7 : decode cX2_search 7 = .ok (.putfield 38, 3) := by decide +kernel
theorem dX2_search_10 : decode cX2_search 10 = .ok (.aload_n 0, 1) := by decide +kernel
theorem dX2_search_11 : decode cX2_search 11 = .ok (.iconst 0, 1) := by decide +kernel
theorem dX2_search_12 : decode cX2_search 12 = .ok (.putfield 41, 3) := by decide +kernel
theorem dX2_search_15 : decode cX2_search 15 = .ok (.aload_n 0, 1) := by decide +kernel
theorem dX2_search_16 : decode cX2_search 16 = .ok (.bipush 80, 2) := by decide +kernel
theorem dX2_search_18 : decode cX2_search 18 = .ok (.sipush 128, 3) := by decide +kernel
theorem dX2_search_21 : decode cX2_search 21 = .ok (.invokevirtual 44, 3) := by decide +kernel
theorem dX2_search_24 : decode cX2_search 24 = .ok (.aload_n 0, 1) := by decide +kernel
theorem dX2_search_25 : decode cX2_search 25 = .ok (.lconst 0, 1) := by decide +kernel
theorem dX2_search_26 : decode cX2_search 26 = .ok (.lconst 0, 1) := by decide +kernel
theorem dX2_search_27 : decode cX2_search 27 = .ok (.iconst 0, 1) := by decide +kernel
theorem dX2_search_28 : decode cX2_search 28 = .ok (.invokevirtual 48, 3) := by decide +kernel
theorem dX2_search_31 : decode cX2_search 31 = .ok (.pop, 1) := by decide +kernel
theorem dX2_search_32 : decode cX2_search 32 = .ok (.iconst 0, 1) := by decide +kernel
theorem dX2_search_33 : decode cX2_search 33 = .ok (.istore_n 2, 1) := by decide +kernel
theorem dX2_search_34 : decode cX2_search 34 = .ok (.iload_n 2, 1) := by decide +kernel
theorem dX2_search_35 : decode cX2_search 35 = .ok (.sipush 20000, 3) := by decide +kernel
theorem dX2_search_38 : decode cX2_search 38 = .ok (.if_icmp .ge 31, 3) := by decide +kernel
theorem dX2_search_41 : decode cX2_search 41 = .ok (.iload_n 2, 1) := by decide +kernel
theorem dX2_search_42 : decode cX2_search 42 = .ok (.aload_n 0, 1) := by decide +kernel
theorem dX2_search_43 : decode cX2_search 43 = .ok (.getfield 35, 3) := by decide +kernel
theorem dX2_search_46 : decode cX2_search 46 = .ok (.if_icmp .lt 6, 3) := by decide +kernel
theorem dX2_search_49 : decode cX2_search 49 = .ok (.goto 20, 3) := by decide +kernel
theorem dX2_search_52 : decode cX2_search 52 = .ok (.aload_n 0, 1) := by decide +kernel
theorem dX2_search_53 : decode cX2_search 53 = .ok (.iload_n 2, 1) := by decide +kernel
theorem dX2_search_54 : decode cX2_search 54 = .ok (.aload_n 1, 1) := by decide +kernel
theorem dX2_search_55 : decode cX2_search 55 = .ok (.invokevirtual 52, 3) := by decide +kernel
theorem dX2_search_58 : decode cX2_search 58 = .ok (.ifCond .ne 5, 3) := by decide +kernel
theorem dX2_search_61 : decode cX2_search 61 = .ok (.iconst 0, 1) := by decide +kernel
theorem dX2_search_62 : decode cX2_search 62 = .ok (.ireturn, 1) := by decide +kernel
theorem dX2_search_63 : decode cX2_search 63 = .ok (.iinc 2 1, 3) := by decide +kernel
theorem dX2_search_66 : decode cX2_search 66 = .ok (.goto (-32), 3) := by decide +kernel
theorem dX2_search_69 : decode cX2_search 69 = .ok (.aload_n 0, 1) := by decide +kernel
theorem dX2_search_70 : decode cX2_search 70 = .ok (.invokevirtual 56, 3) := by decide +kernel
theorem dX2_search_73 : decode cX2_search 73 = .ok (.iconst 1, 1) := by decide +kernel
theorem dX2_search_74 : decode cX2_search 74 = .ok (.ireturn, 1) := by decide +kernel
theorem dX2_expand_0 : decode cX2_expand 0 = .ok (.iconst 0, 1) := by decide +kernel
theorem dX2_expand_1 : decode cX2_expand 1 = .ok (.istore_n 3, 1) := by decide +kernel
theorem dX2_expand_2 : decode cX2_expand 2 = .ok (.iconst 0, 1) := by decide +kernel
theorem dX2_expand_3 : decode cX2_expand 3 = .ok (.istore 4, 2) := by decide +kernel
theorem dX2_expand_5 : decode cX2_expand 5 = .ok (.iload 4, 2) := by decide +kernel
theorem dX2_expand_7 : decode cX2_expand 7 = .ok (.bipush 20, 2) := by decide +kernel
theorem dX2_expand_9 : decode cX2_expand 9 = .ok (.if_icmp .ge 57, 3) := by decide +kernel
theorem dX2_expand_12 : decode cX2_expand 12 = .ok (.aload_n 2, 1) := by decide +kernel
theorem dX2_expand_13 : decode cX2_expand 13 = .ok (.aload_n 0, 1) := by decide +kernel
theorem dX2_expand_14 : decode cX2_expand 14 = .ok (.getfield 9, 3) := by decide +kernel
theorem dX2_expand_17 : decode cX2_expand 17 = .ok (.iload_n 1, 1) := by decide +kernel
theorem dX2_expand_18 : decode cX2_expand 18 = .ok (.laload, 1) := by decide +kernel
theorem dX2_expand_19 : decode cX2_expand 19 = .ok (.aload_n 0, 1) := by decide +kernel
theorem dX2_expand_20 : decode cX2_expand 20 = .ok (.getfield 15, 3) := by decide +kernel
theorem dX2_expand_23 : decode cX2_expand 23 = .ok (.iload_n 1, 1) := by decide +kernel
theorem dX2_expand_24 : decode cX2_expand 24 = .ok (.laload, 1) := by decide +kernel
theorem dX2_expand_25 : decode cX2_expand 25 = .ok (.iload 4, 2) := by decide +kernel
theorem dX2_expand_27 : decode cX2_expand 27 = .ok (.invokevirtual 59, 3) := by decide +kernel
theorem dX2_expand_30 : decode cX2_expand 30 = .ok (.ifCond .eq 30, 3) := by decide +kernel
theorem dX2_expand_33 : decode cX2_expand 33 = .ok (.iinc 3 1, 3) := by decide +kernel
theorem dX2_expand_36 : decode cX2_expand 36 = .ok (.aload_n 0, 1) := by decide +kernel
theorem dX2_expand_37 : decode cX2_expand 37 = .ok (.aload_n 2, 1) := by decide +kernel
theorem dX2_expand_38 : decode cX2_expand 38 = .ok (.getfield 64, 3) := by decide +kernel
theorem dX2_expand_41 : decode cX2_expand 41 = .ok (.aload_n 2, 1) := by decide +kernel
theorem dX2_expand_42 : decode cX2_expand 42 = .ok (.getfield 67, 3) := by decide +kernel
theorem dX2_expand_45 : decode cX2_expand 45 = .ok (.iload_n 1, 1) := by decide +kernel
theorem dX2_expand_46 : decode cX2_expand 46 = .ok (.bipush 20, 2) := by decide +kernel
theorem dX2_expand_48 : decode cX2_expand 48 = .ok (.imul, 1) := by decide +kernel
theorem dX2_expand_49 : decode cX2_expand 49 = .ok (.iload 4, 2) := by decide +kernel
theorem dX2_expand_51 : decode cX2_expand 51 = .ok (.iadd, 1) := by decide +kernel
theorem dX2_expand_52 : decode cX2_expand 52 = .ok (.invokevirtual 48, 3) := by decide +kernel
theorem dX2_expand_55 : decode cX2_expand 55 = .ok (.ifCond .ne 5, 3) := by decide +kernel
theorem dX2_expand_58 : decode cX2_expand 58 = .ok (.iconst 0, 1) := by decide +kernel
theorem dX2_expand_59 : decode cX2_expand 59 = .ok (.ireturn, 1) := by decide +kernel
theorem dX2_expand_60 : decode cX2_expand 60 = .ok (.iinc 4 1, 3) := by decide +kernel
theorem dX2_expand_63 : decode cX2_expand 63 = .ok (.goto (-58), 3) := by decide +kernel
theorem dX2_expand_66 : decode cX2_expand 66 = .ok (.iload_n 3, 1) := by decide +kernel
theorem dX2_expand_67 : decode cX2_expand 67 = .ok (.iconst 1, 1) := by decide +kernel
theorem dX2_expand_68 : decode cX2_expand 68 = .ok (.if_icmp .le 13, 3) := by decide +kernel
theorem dX2_expand_71 : decode cX2_expand 71 = .ok (.aload_n 0, 1) := by decide +kernel
theorem dX2_expand_72 : decode cX2_expand 72 = .ok (.dup, 1) := by decide +kernel
theorem dX2_expand_73 : decode cX2_expand 73 = .ok (.getfield 41, 3) := by decide +kernel
theorem dX2_expand_76 : decode cX2_expand 76 = .ok (.iconst 1, 1) := by decide +kernel
theorem dX2_expand_77 : decode cX2_expand 77 = .ok (.iadd, 1) := by decide +kernel
theorem dX2_expand_78 : decode cX2_expand 78 = .ok (.putfield 41, 3) := by decide +kernel
theorem dX2_expand_81 : decode cX2_expand 81 = .ok (.iload_n 3, 1) := by decide +kernel
theorem dX2_expand_82 : decode cX2_expand 82 = .ok (.ifCond .ne 23, 3) := by decide +kernel
theorem dX2_expand_85 : decode cX2_expand 85 = .ok (.aload_n 0, 1) := by decide +kernel
theorem dX2_expand_86 : decode cX2_expand 86 = .ok (.getfield 22, 3) := by decide +kernel
theorem dX2_expand_89 : decode cX2_expand 89 = .ok (.aload_n 0, 1) := by decide +kernel
theorem dX2_expand_90 : decode cX2_expand 90 = .ok (.getfield 38, 3) := by decide +kernel
theorem dX2_expand_93 : decode cX2_expand 93 = .ok (.iload_n 1, 1) := by decide +kernel
theorem dX2_expand_94 : decode cX2_expand 94 = .ok (.iastore, 1) := by decide +kernel
theorem dX2_expand_95 : decode cX2_expand 95 = .ok (.aload_n 0, 1) := by decide +kernel
theorem dX2_expand_96 : decode cX2_expand 96 = .ok (.dup, 1) := by decide +kernel
theorem dX2_expand_97 : decode cX2_expand 97 = .ok (.getfield 38, 3) := by decide +kernel
theorem dX2_expand_100 : decode cX2_expand 100 = .ok (.iconst 1, 1) := by decide +kernel
theorem dX2_expand_101 : decode cX2_expand 101 = .ok (.iadd, 1) := by decide +kernel
theorem dX2_expand_102 : decode cX2_expand 102 = .ok (.putfield 38, 3) := by decide +kernel
theorem dX2_expand_105 : decode cX2_expand 105 = .ok (.iconst 1, 1) := by decide +kernel
theorem dX2_expand_106 : decode cX2_expand 106 = .ok (.ireturn, 1) := by decide +kernel
theorem dX2_meet_0 : decode cX2_meet 0 = .ok (.aload_n 0, 1) := by decide +kernel
theorem dX2_meet_1 : decode cX2_meet 1 = .ok (.lload_n 1, 1) := by decide +kernel
theorem dX2_meet_2 : decode cX2_meet 2 = .ok (.lload_n 3, 1) := by decide +kernel
theorem dX2_meet_3 : decode cX2_meet 3 = .ok (.invokevirtual 69, 3) := by decide +kernel
theorem dX2_meet_6 : decode cX2_meet 6 = .ok (.istore 6, 2) := by decide +kernel
theorem dX2_meet_8 : decode cX2_meet 8 = .ok (.aload_n 0, 1) := by decide +kernel
theorem dX2_meet_9 : decode cX2_meet 9 = .ok (.getfield 25, 3) := by decide +kernel
theorem dX2_meet_12 : decode cX2_meet 12 = .ok (.iload 6, 2) := by decide +kernel
theorem dX2_meet_14 : decode cX2_meet 14 = .ok (.iaload, 1) := by decide +kernel
theorem dX2_meet_15 : decode cX2_meet 15 = .ok (.ifCond .eq 5, 3) := by decide +kernel
theorem dX2_meet_18 : decode cX2_meet 18 = .ok (.iconst 1, 1) := by decide +kernel
theorem dX2_meet_19 : decode cX2_meet 19 = .ok (.ireturn, 1) := by decide +kernel
theorem dX2_meet_20 : decode cX2_meet 20 = .ok (.aload_n 0, 1) := by decide +kernel
theorem dX2_meet_21 : decode cX2_meet 21 = .ok (.getfield 35, 3) := by decide +kernel
theorem dX2_meet_24 : decode cX2_meet 24 = .ok (.sipush 20000, 3) := by decide +kernel
theorem dX2_meet_27 : decode cX2_meet 27 = .ok (.if_icmp .lt 5, 3) := by decide +kernel
theorem dX2_meet_30 : decode cX2_meet 30 = .ok (.iconst 0, 1) := by decide +kernel
theorem dX2_meet_31 : decode cX2_meet 31 = .ok (.ireturn, 1) := by decide +kernel
theorem dX2_meet_32 : decode cX2_meet 32 = .ok (.aload_n 0, 1) := by decide +kernel
theorem dX2_meet_33 : decode cX2_meet 33 = .ok (.getfield 35, 3) := by decide +kernel
theorem dX2_meet_36 : decode cX2_meet 36 = .ok (.aload_n 0, 1) := by decide +kernel
theorem dX2_meet_37 : decode cX2_meet 37 = .ok (.getfield 28, 3) := by decide +kernel
theorem dX2_meet_40 : decode cX2_meet 40 = .ok (.if_icmp .lt 27, 3) := by decide +kernel
theorem dX2_meet_43 : decode cX2_meet 43 = .ok (.aload_n 0, 1) := by decide +kernel
theorem dX2_meet_44 : decode cX2_meet 44 = .ok (.aload_n 0, 1) := by decide +kernel
theorem dX2_meet_45 : decode cX2_meet 45 = .ok (.getfield 28, 3) := by decide +kernel
theorem dX2_meet_48 : decode cX2_meet 48 = .ok (.iconst 4, 1) := by decide +kernel
theorem dX2_meet_49 : decode cX2_meet 49 = .ok (.imul, 1) := by decide +kernel
theorem dX2_meet_50 : decode cX2_meet 50 = .ok (.aload_n 0, 1) := by decide +kernel
theorem dX2_meet_51 : decode cX2_meet 51 = .ok (.getfield 32, 3) := by decide +kernel
theorem dX2_meet_54 : decode cX2_meet 54 = .ok (.iconst 4, 1) := by decide +kernel
theorem dX2_meet_55 : decode cX2_meet 55 = .ok (.imul, 1) := by decide +kernel
theorem dX2_meet_56 : decode cX2_meet 56 = .ok (.invokevirtual 44, 3) := by decide +kernel
theorem dX2_meet_59 : decode cX2_meet 59 = .ok (.aload_n 0, 1) := by decide +kernel
theorem dX2_meet_60 : decode cX2_meet 60 = .ok (.lload_n 1, 1) := by decide +kernel
theorem dX2_meet_61 : decode cX2_meet 61 = .ok (.lload_n 3, 1) := by decide +kernel
theorem dX2_meet_62 : decode cX2_meet 62 = .ok (.invokevirtual 69, 3) := by decide +kernel
theorem dX2_meet_65 : decode cX2_meet 65 = .ok (.istore 6, 2) := by decide +kernel
theorem dX2_meet_67 : decode cX2_meet 67 = .ok (.aload_n 0, 1) := by decide +kernel
theorem dX2_meet_68 : decode cX2_meet 68 = .ok (.getfield 9, 3) := by decide +kernel
theorem dX2_meet_71 : decode cX2_meet 71 = .ok (.aload_n 0, 1) := by decide +kernel
theorem dX2_meet_72 : decode cX2_meet 72 = .ok (.getfield 35, 3) := by decide +kernel
theorem dX2_meet_75 : decode cX2_meet 75 = .ok (.lload_n 1, 1) := by decide +kernel
theorem dX2_meet_76 : decode cX2_meet 76 = .ok (.lastore, 1) := by decide +kernel
theorem dX2_meet_77 : decode cX2_meet 77 = .ok (.aload_n 0, 1) := by decide +kernel
theorem dX2_meet_78 : decode cX2_meet 78 = .ok (.getfield 15, 3) := by decide +kernel
theorem dX2_meet_81 : decode cX2_meet 81 = .ok (.aload_n 0, 1) := by decide +kernel
theorem dX2_meet_82 : decode cX2_meet 82 = .ok (.getfield 35, 3) := by decide +kernel
theorem dX2_meet_85 : decode cX2_meet 85 = .ok (.lload_n 3, 1) := by decide +kernel
theorem dX2_meet_86 : decode cX2_meet 86 = .ok (.lastore, 1) := by decide +kernel
theorem dX2_meet_87 : decode cX2_meet 87 = .ok (.aload_n 0, 1) := by decide +kernel
theorem dX2_meet_88 : decode cX2_meet 88 = .ok (.getfield 18, 3) := by decide +kernel
theorem dX2_meet_91 : decode cX2_meet 91 = .ok (.aload_n 0, 1) := by decide +kernel
theorem dX2_meet_92 : decode cX2_meet 92 = .ok (.getfield 35, 3) := by decide +kernel
theorem dX2_meet_95 : decode cX2_meet 95 = .ok (.iload 5, 2) := by decide +kernel
theorem dX2_meet_97 : decode cX2_meet 97 = .ok (.iastore, 1) := by decide +kernel
theorem dX2_meet_98 : decode cX2_meet 98 = .ok (.aload_n 0, 1) := by decide +kernel
theorem dX2_meet_99 : decode cX2_meet 99 = .ok (.dup, 1) := by decide +kernel
theorem dX2_meet_100 : decode cX2_meet 100 = .ok (.getfield 35, 3) := by decide +kernel
theorem dX2_meet_103 : decode cX2_meet 103 = .ok (.iconst 1, 1) := by decide +kernel
theorem dX2_meet_104 : decode cX2_meet 104 = .ok (.iadd, 1) := by decide +kernel
theorem dX2_meet_105 : decode cX2_meet 105 = .ok (.putfield 35, 3) := by decide +kernel
theorem dX2_meet_108 : decode cX2_meet 108 = .ok (.aload_n 0, 1) := by decide +kernel
theorem dX2_meet_109 : decode cX2_meet 109 = .ok (.getfield 25, 3) := by decide +kernel
theorem dX2_meet_112 : decode cX2_meet 112 = .ok (.iload 6, 2) := by decide +kernel
theorem dX2_meet_114 : decode cX2_meet 114 = .ok (.aload_n 0, 1) := by decide +kernel
theorem dX2_meet_115 : decode cX2_meet 115 = .ok (.getfield 35, 3) := by decide +kernel
theorem dX2_meet_118 : decode cX2_meet 118 = .ok (.iastore, 1) := by decide +kernel
theorem dX2_meet_119 : decode cX2_meet 119 = .ok (.iconst 1, 1) := by decide +kernel
theorem dX2_meet_120 : decode cX2_meet 120 = .ok (.ireturn, 1) := by decide +kernel
theorem dX2_slotOf_0 : decode cX2_slotOf 0 = .ok (.lload_n 1, 1) := by decide +kernel
theorem dX2_slotOf_1 : decode cX2_slotOf 1 = .ok (.ldc2_w 73, 3) := by decide +kernel
theorem dX2_slotOf_4 : decode cX2_slotOf 4 = .ok (.lmul, 1) := by decide +kernel
theorem dX2_slotOf_5 : decode cX2_slotOf 5 = .ok (.lload_n 3, 1) := by decide +kernel
theorem dX2_slotOf_6 : decode cX2_slotOf 6 = .ok (.ldc2_w 75, 3) := by decide +kernel
theorem dX2_slotOf_9 : decode cX2_slotOf 9 = .ok (.lmul, 1) := by decide +kernel
theorem dX2_slotOf_10 : decode cX2_slotOf 10 = .ok (.ladd, 1) := by decide +kernel
theorem dX2_slotOf_11 : decode cX2_slotOf 11 = .ok (.lstore 5, 2) := by decide +kernel
theorem dX2_slotOf_13 : decode cX2_slotOf 13 = .ok (.lload 5, 2) := by decide +kernel
theorem dX2_slotOf_15 : decode cX2_slotOf 15 = .ok (.lload 5, 2) := by decide +kernel
theorem dX2_slotOf_17 : decode cX2_slotOf 17 = .ok (.bipush 29, 2) := by decide +kernel
theorem dX2_slotOf_19 : decode cX2_slotOf 19 = .ok (.lushr, 1) := by decide +kernel
theorem dX2_slotOf_20 : decode cX2_slotOf 20 = .ok (.lxor, 1) := by decide +kernel
theorem dX2_slotOf_21 : decode cX2_slotOf 21 = .ok (.ldc2_w 73, 3) := by decide +kernel
theorem dX2_slotOf_24 : decode cX2_slotOf 24 = .ok (.lmul, 1) := by decide +kernel
theorem dX2_slotOf_25 : decode cX2_slotOf 25 = .ok (.lstore 5, 2) := by decide +kernel
theorem dX2_slotOf_27 : decode cX2_slotOf 27 = .ok (.lload 5, 2) := by decide +kernel
theorem dX2_slotOf_29 : decode cX2_slotOf 29 = .ok (.bipush 40, 2) := by decide +kernel
theorem dX2_slotOf_31 : decode cX2_slotOf 31 = .ok (.lushr, 1) := by decide +kernel
theorem dX2_slotOf_32 : decode cX2_slotOf 32 = .ok (.l2i, 1) := by decide +kernel
theorem dX2_slotOf_33 : decode cX2_slotOf 33 = .ok (.aload_n 0, 1) := by decide +kernel
theorem dX2_slotOf_34 : decode cX2_slotOf 34 = .ok (.getfield 32, 3) := by decide +kernel
theorem dX2_slotOf_37 : decode cX2_slotOf 37 = .ok (.iconst 1, 1) := by decide +kernel
theorem dX2_slotOf_38 : decode cX2_slotOf 38 = .ok (.isub, 1) := by decide +kernel
theorem dX2_slotOf_39 : decode cX2_slotOf 39 = .ok (.iand, 1) := by decide +kernel
theorem dX2_slotOf_40 : decode cX2_slotOf 40 = .ok (.istore 7, 2) := by decide +kernel
theorem dX2_slotOf_42 : decode cX2_slotOf 42 = .ok (.iconst 0, 1) := by decide +kernel
theorem dX2_slotOf_43 : decode cX2_slotOf 43 = .ok (.istore 8, 2) := by decide +kernel
theorem dX2_slotOf_45 : decode cX2_slotOf 45 = .ok (.iload 8, 2) := by decide +kernel
theorem dX2_slotOf_47 : decode cX2_slotOf 47 = .ok (.aload_n 0, 1) := by decide +kernel
theorem dX2_slotOf_48 : decode cX2_slotOf 48 = .ok (.getfield 32, 3) := by decide +kernel
theorem dX2_slotOf_51 : decode cX2_slotOf 51 = .ok (.if_icmp .ge 65, 3) := by decide +kernel
theorem dX2_slotOf_54 : decode cX2_slotOf 54 = .ok (.aload_n 0, 1) := by decide +kernel
theorem dX2_slotOf_55 : decode cX2_slotOf 55 = .ok (.getfield 25, 3) := by decide +kernel
theorem dX2_slotOf_58 : decode cX2_slotOf 58 = .ok (.iload 7, 2) := by decide +kernel
theorem dX2_slotOf_60 : decode cX2_slotOf 60 = .ok (.iaload, 1) := by decide +kernel
theorem dX2_slotOf_61 : decode cX2_slotOf 61 = .ok (.iconst 1, 1) := by decide +kernel
theorem dX2_slotOf_62 : decode cX2_slotOf 62 = .ok (.isub, 1) := by decide +kernel
theorem dX2_slotOf_63 : decode cX2_slotOf 63 = .ok (.istore 9, 2) := by decide +kernel
theorem dX2_slotOf_65 : decode cX2_slotOf 65 = .ok (.iload 9, 2) := by decide +kernel
theorem dX2_slotOf_67 : decode cX2_slotOf 67 = .ok (.ifCond .lt 49, 3) := by decide +kernel
theorem dX2_slotOf_70 : decode cX2_slotOf 70 = .ok (.aload_n 0, 1) := by decide +kernel
theorem dX2_slotOf_71 : decode cX2_slotOf 71 = .ok (.getfield 9, 3) := by decide +kernel
theorem dX2_slotOf_74 : decode cX2_slotOf 74 = .ok (.iload 9, 2) := by decide +kernel
theorem dX2_slotOf_76 : decode cX2_slotOf 76 = .ok (.laload, 1) := by decide +kernel
theorem dX2_slotOf_77 : decode cX2_slotOf 77 = .ok (.lload_n 1, 1) := by decide +kernel
theorem dX2_slotOf_78 : decode cX2_slotOf 78 = .ok (.lcmp, 1) := by decide +kernel
theorem dX2_slotOf_79 : decode cX2_slotOf 79 = .ok (.ifCond .ne 18, 3) := by decide +kernel
theorem dX2_slotOf_82 : decode cX2_slotOf 82 = .ok (.aload_n 0, 1) := by decide +kernel
theorem dX2_slotOf_83 : decode cX2_slotOf 83 = .ok (.getfield 15, 3) := by decide +kernel
theorem dX2_slotOf_86 : decode cX2_slotOf 86 = .ok (.iload 9, 2) := by decide +kernel
theorem dX2_slotOf_88 : decode cX2_slotOf 88 = .ok (.laload, 1) := by decide +kernel
theorem dX2_slotOf_89 : decode cX2_slotOf 89 = .ok (.lload_n 3, 1) := by decide +kernel
theorem dX2_slotOf_90 : decode cX2_slotOf 90 = .ok (.lcmp, 1) := by decide +kernel
theorem dX2_slotOf_91 : decode cX2_slotOf 91 = .ok (.ifCond .ne 6, 3) := by decide +kernel
theorem dX2_slotOf_94 : decode cX2_slotOf 94 = .ok (.goto 22, 3) := by decide +kernel
theorem dX2_slotOf_97 : decode cX2_slotOf 97 = .ok (.iload 7, 2) := by decide +kernel
theorem dX2_slotOf_99 : decode cX2_slotOf 99 = .ok (.iconst 1, 1) := by decide +kernel
theorem dX2_slotOf_100 : decode cX2_slotOf 100 = .ok (.iadd, 1) := by decide +kernel
theorem dX2_slotOf_101 : decode cX2_slotOf 101 = .ok (.aload_n 0, 1) := by decide +kernel
theorem dX2_slotOf_102 : decode cX2_slotOf 102 = .ok (.getfield 32, 3) := by decide +kernel
theorem dX2_slotOf_105 : decode cX2_slotOf 105 = .ok (.iconst 1, 1) := by decide +kernel
theorem dX2_slotOf_106 : decode cX2_slotOf 106 = .ok (.isub, 1) := by decide +kernel
theorem dX2_slotOf_107 : decode cX2_slotOf 107 = .ok (.iand, 1) := by decide +kernel
theorem dX2_slotOf_108 : decode cX2_slotOf 108 = .ok (.istore 7, 2) := by decide +kernel
theorem dX2_slotOf_110 : decode cX2_slotOf 110 = .ok (.iinc 8 1, 3) := by decide +kernel
theorem dX2_slotOf_113 : decode cX2_slotOf 113 = .ok (.goto (-68), 3) := by decide +kernel
theorem dX2_slotOf_116 : decode cX2_slotOf 116 = .ok (.iload 7, 2) := by decide +kernel
theorem dX2_slotOf_118 : decode cX2_slotOf 118 = .ok (.ireturn, 1) := by decide +kernel
theorem dX2_setRoom_0 : decode cX2_setRoom 0 = .ok (.aload_n 0, 1) := by decide +kernel
theorem dX2_setRoom_1 : decode cX2_setRoom 1 = .ok (.iload_n 1, 1) := by decide +kernel
theorem dX2_setRoom_2 : decode cX2_setRoom 2 = .ok (.putfield 28, 3) := by decide +kernel
theorem dX2_setRoom_5 : decode cX2_setRoom 5 = .ok (.aload_n 0, 1) := by decide +kernel
theorem dX2_setRoom_6 : decode cX2_setRoom 6 = .ok (.iload_n 2, 1) := by decide +kernel
theorem dX2_setRoom_7 : decode cX2_setRoom 7 = .ok (.putfield 32, 3) := by decide +kernel
theorem dX2_setRoom_10 : decode cX2_setRoom 10 = .ok (.aload_n 0, 1) := by decide +kernel
theorem dX2_setRoom_11 : decode cX2_setRoom 11 = .ok (.getfield 9, 3) := by decide +kernel
theorem dX2_setRoom_14 : decode cX2_setRoom 14 = .ok (.arraylength, 1) := by decide +kernel
theorem dX2_setRoom_15 : decode cX2_setRoom 15 = .ok (.aload_n 0, 1) := by decide +kernel
theorem dX2_setRoom_16 : decode cX2_setRoom 16 = .ok (.getfield 28, 3) := by decide +kernel
theorem dX2_setRoom_19 : decode cX2_setRoom 19 = .ok (.if_icmp .ge 73, 3) := by decide +kernel
theorem dX2_setRoom_22 : decode cX2_setRoom 22 = .ok (.aload_n 0, 1) := by decide +kernel
theorem dX2_setRoom_23 : decode cX2_setRoom 23 = .ok (.aload_n 0, 1) := by decide +kernel
theorem dX2_setRoom_24 : decode cX2_setRoom 24 = .ok (.getfield 9, 3) := by decide +kernel
theorem dX2_setRoom_27 : decode cX2_setRoom 27 = .ok (.aload_n 0, 1) := by decide +kernel
theorem dX2_setRoom_28 : decode cX2_setRoom 28 = .ok (.getfield 28, 3) := by decide +kernel
theorem dX2_setRoom_31 : decode cX2_setRoom 31 = .ok (.invokestatic 77, 3) := by decide +kernel
theorem dX2_setRoom_34 : decode cX2_setRoom 34 = .ok (.putfield 9, 3) := by decide +kernel
theorem dX2_setRoom_37 : decode cX2_setRoom 37 = .ok (.aload_n 0, 1) := by decide +kernel
theorem dX2_setRoom_38 : decode cX2_setRoom 38 = .ok (.aload_n 0, 1) := by decide +kernel
theorem dX2_setRoom_39 : decode cX2_setRoom 39 = .ok (.getfield 15, 3) := by decide +kernel
theorem dX2_setRoom_42 : decode cX2_setRoom 42 = .ok (.aload_n 0, 1) := by decide +kernel
theorem dX2_setRoom_43 : decode cX2_setRoom 43 = .ok (.getfield 28, 3) := by decide +kernel
theorem dX2_setRoom_46 : decode cX2_setRoom 46 = .ok (.invokestatic 77, 3) := by decide +kernel
theorem dX2_setRoom_49 : decode cX2_setRoom 49 = .ok (.putfield 15, 3) := by decide +kernel
theorem dX2_setRoom_52 : decode cX2_setRoom 52 = .ok (.aload_n 0, 1) := by decide +kernel
theorem dX2_setRoom_53 : decode cX2_setRoom 53 = .ok (.aload_n 0, 1) := by decide +kernel
theorem dX2_setRoom_54 : decode cX2_setRoom 54 = .ok (.getfield 18, 3) := by decide +kernel
theorem dX2_setRoom_57 : decode cX2_setRoom 57 = .ok (.aload_n 0, 1) := by decide +kernel
theorem dX2_setRoom_58 : decode cX2_setRoom 58 = .ok (.getfield 28, 3) := by decide +kernel
theorem dX2_setRoom_61 : decode cX2_setRoom 61 = .ok (.invokestatic 83, 3) := by decide +kernel
theorem dX2_setRoom_64 : decode cX2_setRoom 64 = .ok (.putfield 18, 3) := by decide +kernel
theorem dX2_setRoom_67 : decode cX2_setRoom 67 = .ok (.aload_n 0, 1) := by decide +kernel
theorem dX2_setRoom_68 : decode cX2_setRoom 68 = .ok (.aload_n 0, 1) := by decide +kernel
theorem dX2_setRoom_69 : decode cX2_setRoom 69 = .ok (.getfield 22, 3) := by decide +kernel
theorem dX2_setRoom_72 : decode cX2_setRoom 72 = .ok (.aload_n 0, 1) := by decide +kernel
theorem dX2_setRoom_73 : decode cX2_setRoom 73 = .ok (.getfield 28, 3) := by decide +kernel
theorem dX2_setRoom_76 : decode cX2_setRoom 76 = .ok (.invokestatic 83, 3) := by decide +kernel
theorem dX2_setRoom_79 : decode cX2_setRoom 79 = .ok (.putfield 22, 3) := by decide +kernel
theorem dX2_setRoom_82 : decode cX2_setRoom 82 = .ok (.aload_n 0, 1) := by decide +kernel
theorem dX2_setRoom_83 : decode cX2_setRoom 83 = .ok (.aload_n 0, 1) := by decide +kernel
theorem dX2_setRoom_84 : decode cX2_setRoom 84 = .ok (.getfield 32, 3) := by decide +kernel
theorem dX2_setRoom_87 : decode cX2_setRoom 87 = .ok (.newarray .int, 2) := by decide +kernel
theorem dX2_setRoom_89 : decode cX2_setRoom 89 = .ok (.putfield 25, 3) := by decide +kernel
theorem dX2_setRoom_92 : decode cX2_setRoom 92 = .ok (.iconst 0, 1) := by decide +kernel
theorem dX2_setRoom_93 : decode cX2_setRoom 93 = .ok (.istore_n 3, 1) := by decide +kernel
theorem dX2_setRoom_94 : decode cX2_setRoom 94 = .ok (.iload_n 3, 1) := by decide +kernel
theorem dX2_setRoom_95 : decode cX2_setRoom 95 = .ok (.aload_n 0, 1) := by decide +kernel
theorem dX2_setRoom_96 : decode cX2_setRoom 96 = .ok (.getfield 32, 3) := by decide +kernel
theorem dX2_setRoom_99 : decode cX2_setRoom 99 = .ok (.if_icmp .ge 16, 3) := by decide +kernel
theorem dX2_setRoom_102 : decode cX2_setRoom 102 = .ok (.aload_n 0, 1) := by decide +kernel
theorem dX2_setRoom_103 : decode cX2_setRoom 103 = .ok (.getfield 25, 3) := by decide +kernel
theorem dX2_setRoom_106 : decode cX2_setRoom 106 = .ok (.iload_n 3, 1) := by decide +kernel
theorem dX2_setRoom_107 : decode cX2_setRoom 107 = .ok (.iconst 0, 1) := by decide +kernel
theorem dX2_setRoom_108 : decode cX2_setRoom 108 = .ok (.iastore, 1) := by decide +kernel
theorem dX2_setRoom_109 : decode cX2_setRoom 109 = .ok (.iinc 3 1, 3) := by decide +kernel
theorem dX2_setRoom_112 : decode cX2_setRoom 112 = .ok (.goto (-18), 3) := by decide +kernel
theorem dX2_setRoom_115 : decode cX2_setRoom 115 = .ok (.iconst 0, 1) := by decide +kernel
theorem dX2_setRoom_116 : decode cX2_setRoom 116 = .ok (.istore_n 3, 1) := by decide +kernel
theorem dX2_setRoom_117 : decode cX2_setRoom 117 = .ok (.iload_n 3, 1) := by decide +kernel
theorem dX2_setRoom_118 : decode cX2_setRoom 118 = .ok (.aload_n 0, 1) := by decide +kernel
theorem dX2_setRoom_119 : decode cX2_setRoom 119 = .ok (.getfield 35, 3) := by decide +kernel
theorem dX2_setRoom_122 : decode cX2_setRoom 122 = .ok (.if_icmp .ge 33, 3) := by decide +kernel
theorem dX2_setRoom_125 : decode cX2_setRoom 125 = .ok (.aload_n 0, 1) := by decide +kernel
theorem dX2_setRoom_126 : decode cX2_setRoom 126 = .ok (.getfield 25, 3) := by decide +kernel
theorem dX2_setRoom_129 : decode cX2_setRoom 129 = .ok (.aload_n 0, 1) := by decide +kernel
theorem dX2_setRoom_130 : decode cX2_setRoom 130 = .ok (.aload_n 0, 1) := by decide +kernel
theorem dX2_setRoom_131 : decode cX2_setRoom 131 = .ok (.getfield 9, 3) := by decide +kernel
theorem dX2_setRoom_134 : decode cX2_setRoom 134 = .ok (.iload_n 3, 1) := by decide +kernel
theorem dX2_setRoom_135 : decode cX2_setRoom 135 = .ok (.laload, 1) := by decide +kernel
theorem dX2_setRoom_136 : decode cX2_setRoom 136 = .ok (.aload_n 0, 1) := by decide +kernel
theorem dX2_setRoom_137 : decode cX2_setRoom 137 = .ok (.getfield 15, 3) := by decide +kernel
theorem dX2_setRoom_140 : decode cX2_setRoom 140 = .ok (.iload_n 3, 1) := by decide +kernel
theorem dX2_setRoom_141 : decode cX2_setRoom 141 = .ok (.laload, 1) := by decide +kernel
theorem dX2_setRoom_142 : decode cX2_setRoom 142 = .ok (.invokevirtual 69, 3) := by decide +kernel
theorem dX2_setRoom_145 : decode cX2_setRoom 145 = .ok (.iload_n 3, 1) := by decide +kernel
theorem dX2_setRoom_146 : decode cX2_setRoom 146 = .ok (.iconst 1, 1) := by decide +kernel
theorem dX2_setRoom_147 : decode cX2_setRoom 147 = .ok (.iadd, 1) := by decide +kernel
theorem dX2_setRoom_148 : decode cX2_setRoom 148 = .ok (.iastore, 1) := by decide +kernel
theorem dX2_setRoom_149 : decode cX2_setRoom 149 = .ok (.iinc 3 1, 3) := by decide +kernel
theorem dX2_setRoom_152 : decode cX2_setRoom 152 = .ok (.goto (-35), 3) := by decide +kernel
theorem dX2_setRoom_155 : decode cX2_setRoom 155 = .ok (.return_, 1) := by decide +kernel
theorem dX2_sortEnds_0 : decode cX2_sortEnds 0 = .ok (.aload_n 0, 1) := by decide +kernel
theorem dX2_sortEnds_1 : decode cX2_sortEnds 1 = .ok (.getfield 38, 3) := by decide +kernel
theorem dX2_sortEnds_4 : decode cX2_sortEnds 4 = .ok (.iconst 2, 1) := by decide +kernel
theorem dX2_sortEnds_5 : decode cX2_sortEnds 5 = .ok (.idiv, 1) := by decide +kernel
theorem dX2_sortEnds_6 : decode cX2_sortEnds 6 = .ok (.iconst 1, 1) := by decide +kernel
theorem dX2_sortEnds_7 : decode cX2_sortEnds 7 = .ok (.isub, 1) := by decide +kernel
theorem dX2_sortEnds_8 : decode cX2_sortEnds 8 = .ok (.istore_n 1, 1) := by decide +kernel
theorem dX2_sortEnds_9 : decode cX2_sortEnds 9 = .ok (.iload_n 1, 1) := by decide +kernel
theorem dX2_sortEnds_10 : decode cX2_sortEnds 10 = .ok (.ifCond .lt 18, 3) := by decide +kernel
theorem dX2_sortEnds_13 : decode cX2_sortEnds 13 = .ok (.aload_n 0, 1) := by decide +kernel
theorem dX2_sortEnds_14 : decode cX2_sortEnds 14 = .ok (.iload_n 1, 1) := by decide +kernel
theorem dX2_sortEnds_15 : decode cX2_sortEnds 15 = .ok (.aload_n 0, 1) := by decide +kernel
theorem dX2_sortEnds_16 : decode cX2_sortEnds 16 = .ok (.getfield 38, 3) := by decide +kernel
theorem dX2_sortEnds_19 : decode cX2_sortEnds 19 = .ok (.invokevirtual 86, 3) := by decide +kernel
theorem dX2_sortEnds_22 : decode cX2_sortEnds 22 = .ok (.iinc 1 (-1), 3) := by decide +kernel
theorem dX2_sortEnds_25 : decode cX2_sortEnds 25 = .ok (.goto (-16), 3) := by decide +kernel
theorem dX2_sortEnds_28 : decode cX2_sortEnds 28 = .ok (.aload_n 0, 1) := by decide +kernel
theorem dX2_sortEnds_29 : decode cX2_sortEnds 29 = .ok (.getfield 38, 3) := by decide +kernel
theorem dX2_sortEnds_32 : decode cX2_sortEnds 32 = .ok (.iconst 1, 1) := by decide +kernel
theorem dX2_sortEnds_33 : decode cX2_sortEnds 33 = .ok (.isub, 1) := by decide +kernel
theorem dX2_sortEnds_34 : decode cX2_sortEnds 34 = .ok (.istore_n 1, 1) := by decide +kernel
theorem dX2_sortEnds_35 : decode cX2_sortEnds 35 = .ok (.iload_n 1, 1) := by decide +kernel
theorem dX2_sortEnds_36 : decode cX2_sortEnds 36 = .ok (.ifCond .le 21, 3) := by decide +kernel
theorem dX2_sortEnds_39 : decode cX2_sortEnds 39 = .ok (.aload_n 0, 1) := by decide +kernel
theorem dX2_sortEnds_40 : decode cX2_sortEnds 40 = .ok (.iconst 0, 1) := by decide +kernel
theorem dX2_sortEnds_41 : decode cX2_sortEnds 41 = .ok (.iload_n 1, 1) := by decide +kernel
theorem dX2_sortEnds_42 : decode cX2_sortEnds 42 = .ok (.invokevirtual 89, 3) := by decide +kernel
theorem dX2_sortEnds_45 : decode cX2_sortEnds 45 = .ok (.aload_n 0, 1) := by decide +kernel
theorem dX2_sortEnds_46 : decode cX2_sortEnds 46 = .ok (.iconst 0, 1) := by decide +kernel
theorem dX2_sortEnds_47 : decode cX2_sortEnds 47 = .ok (.iload_n 1, 1) := by decide +kernel
theorem dX2_sortEnds_48 : decode cX2_sortEnds 48 = .ok (.invokevirtual 86, 3) := by decide +kernel
theorem dX2_sortEnds_51 : decode cX2_sortEnds 51 = .ok (.iinc 1 (-1), 3) := by decide +kernel
theorem dX2_sortEnds_54 : decode cX2_sortEnds 54 = .ok (.goto (-19), 3) := by decide +kernel
theorem dX2_sortEnds_57 : decode cX2_sortEnds 57 = .ok (.return_, 1) := by decide +kernel
theorem dX2_sink_0 : decode cX2_sink 0 = .ok (.iload_n 1, 1) := by decide +kernel
theorem dX2_sink_1 : decode cX2_sink 1 = .ok (.istore_n 3, 1) := by decide +kernel
theorem dX2_sink_2 : decode cX2_sink 2 = .ok (.iconst 2, 1) := by decide +kernel
theorem dX2_sink_3 : decode cX2_sink 3 = .ok (.iload_n 3, 1) := by decide +kernel
theorem dX2_sink_4 : decode cX2_sink 4 = .ok (.imul, 1) := by decide +kernel
theorem dX2_sink_5 : decode cX2_sink 5 = .ok (.iconst 1, 1) := by decide +kernel
theorem dX2_sink_6 : decode cX2_sink 6 = .ok (.iadd, 1) := by decide +kernel
theorem dX2_sink_7 : decode cX2_sink 7 = .ok (.iload_n 2, 1) := by decide +kernel
theorem dX2_sink_8 : decode cX2_sink 8 = .ok (.if_icmp .ge 70, 3) := by decide +kernel
theorem dX2_sink_11 : decode cX2_sink 11 = .ok (.iconst 2, 1) := by decide +kernel
theorem dX2_sink_12 : decode cX2_sink 12 = .ok (.iload_n 3, 1) := by decide +kernel
theorem dX2_sink_13 : decode cX2_sink 13 = .ok (.imul, 1) := by decide +kernel
theorem dX2_sink_14 : decode cX2_sink 14 = .ok (.iconst 1, 1) := by decide +kernel
theorem dX2_sink_15 : decode cX2_sink 15 = .ok (.iadd, 1) := by decide +kernel
theorem dX2_sink_16 : decode cX2_sink 16 = .ok (.istore 4, 2) := by decide +kernel
theorem dX2_sink_18 : decode cX2_sink 18 = .ok (.iload 4, 2) := by decide +kernel
theorem dX2_sink_20 : decode cX2_sink 20 = .ok (.iconst 1, 1) := by decide +kernel
theorem dX2_sink_21 : decode cX2_sink 21 = .ok (.iadd, 1) := by decide +kernel
theorem dX2_sink_22 : decode cX2_sink 22 = .ok (.iload_n 2, 1) := by decide +kernel
theorem dX2_sink_23 : decode cX2_sink 23 = .ok (.if_icmp .ge 24, 3) := by decide +kernel
theorem dX2_sink_26 : decode cX2_sink 26 = .ok (.aload_n 0, 1) := by decide +kernel
theorem dX2_sink_27 : decode cX2_sink 27 = .ok (.iload 4, 2) := by decide +kernel
theorem dX2_sink_29 : decode cX2_sink 29 = .ok (.iconst 1, 1) := by decide +kernel
theorem dX2_sink_30 : decode cX2_sink 30 = .ok (.iadd, 1) := by decide +kernel
theorem dX2_sink_31 : decode cX2_sink 31 = .ok (.invokevirtual 92, 3) := by decide +kernel
theorem dX2_sink_34 : decode cX2_sink 34 = .ok (.aload_n 0, 1) := by decide +kernel
theorem dX2_sink_35 : decode cX2_sink 35 = .ok (.iload 4, 2) := by decide +kernel
theorem dX2_sink_37 : decode cX2_sink 37 = .ok (.invokevirtual 92, 3) := by decide +kernel
theorem dX2_sink_40 : decode cX2_sink 40 = .ok (.lcmp, 1) := by decide +kernel
theorem dX2_sink_41 : decode cX2_sink 41 = .ok (.ifCond .le 6, 3) := by decide +kernel
theorem dX2_sink_44 : decode cX2_sink 44 = .ok (.iinc 4 1, 3) := by decide +kernel
theorem dX2_sink_47 : decode cX2_sink 47 = .ok (.aload_n 0, 1) := by decide +kernel
theorem dX2_sink_48 : decode cX2_sink 48 = .ok (.iload 4, 2) := by decide +kernel
theorem dX2_sink_50 : decode cX2_sink 50 = .ok (.invokevirtual 92, 3) := by decide +kernel
theorem dX2_sink_53 : decode cX2_sink 53 = .ok (.aload_n 0, 1) := by decide +kernel
theorem dX2_sink_54 : decode cX2_sink 54 = .ok (.iload_n 3, 1) := by decide +kernel
theorem dX2_sink_55 : decode cX2_sink 55 = .ok (.invokevirtual 92, 3) := by decide +kernel
theorem dX2_sink_58 : decode cX2_sink 58 = .ok (.lcmp, 1) := by decide +kernel
theorem dX2_sink_59 : decode cX2_sink 59 = .ok (.ifCond .gt 6, 3) := by decide +kernel
theorem dX2_sink_62 : decode cX2_sink 62 = .ok (.goto 16, 3) := by decide +kernel
theorem dX2_sink_65 : decode cX2_sink 65 = .ok (.aload_n 0, 1) := by decide +kernel
theorem dX2_sink_66 : decode cX2_sink 66 = .ok (.iload_n 3, 1) := by decide +kernel
theorem dX2_sink_67 : decode cX2_sink 67 = .ok (.iload 4, 2) := by decide +kernel
theorem dX2_sink_69 : decode cX2_sink 69 = .ok (.invokevirtual 89, 3) := by decide +kernel
theorem dX2_sink_72 : decode cX2_sink 72 = .ok (.iload 4, 2) := by decide +kernel
theorem dX2_sink_74 : decode cX2_sink 74 = .ok (.istore_n 3, 1) := by decide +kernel
theorem dX2_sink_75 : decode cX2_sink 75 = .ok (.goto (-73), 3) := by decide +kernel
theorem dX2_sink_78 : decode cX2_sink 78 = .ok (.return_, 1) := by decide +kernel
theorem dX2_heldAtEnd_0 : decode cX2_heldAtEnd 0 = .ok (.aload_n 0, 1) := by decide +kernel
theorem dX2_heldAtEnd_1 : decode cX2_heldAtEnd 1 = .ok (.getfield 9, 3) := by decide +kernel
theorem dX2_heldAtEnd_4 : decode cX2_heldAtEnd 4 = .ok (.aload_n 0, 1) := by decide +kernel
theorem dX2_heldAtEnd_5 : decode cX2_heldAtEnd 5 = .ok (.getfield 22, 3) := by decide +kernel
theorem dX2_heldAtEnd_8 : decode cX2_heldAtEnd 8 = .ok (.iload_n 1, 1) := by decide +kernel
