theorem dX4_init_0 : decode cX4_init 0 = .ok (.aload_n 0, 1) := by decide +kernel
theorem dX4_init_1 : decode cX4_init 1 = .ok (.invokespecial 1, 3) := by decide +kernel
theorem dX4_init_4 : decode cX4_init 4 = .ok (.aload_n 0, 1) := by decide +kernel
theorem dX4_init_5 : decode cX4_init 5 = .ok (.iconst 4, 1) := by decide +kernel
theorem dX4_init_6 : decode cX4_init 6 = .ok (.newarray .int, 2) := by decide +kernel
theorem dX4_init_8 : decode cX4_init 8 = .ok (.putfield 7, 3) := by decide +kernel
theorem dX4_init_11 : decode cX4_init 11 = .ok (.aload_n 0, 1) := by decide +kernel
theorem dX4_init_12 : decode cX4_init 12 = .ok (.bipush 24, 2) := by decide +kernel
theorem dX4_init_14 : decode cX4_init 14 = .ok (.newarray .int, 2) := by decide +kernel
theorem dX4_init_16 : decode cX4_init 16 = .ok (.putfield 13, 3) := by decide +kernel
theorem dX4_init_19 : decode cX4_init 19 = .ok (.aload_n 0, 1) := by decide +kernel
theorem dX4_init_20 : decode cX4_init 20 = .ok (.bipush 24, 2) := by decide +kernel
theorem dX4_init_22 : decode cX4_init 22 = .ok (.newarray .int, 2) := by decide +kernel
theorem dX4_init_24 : decode cX4_init 24 = .ok (.putfield 16, 3) := by decide +kernel
theorem dX4_init_27 : decode cX4_init 27 = .ok (.aload_n 0, 1) := by decide +kernel
theorem dX4_init_28 : decode cX4_init 28 = .ok (.bipush 24, 2) := by decide +kernel
theorem dX4_init_30 : decode cX4_init 30 = .ok (.newarray .int, 2) := by decide +kernel
theorem dX4_init_32 : decode cX4_init 32 = .ok (.putfield 19, 3) := by decide +kernel
theorem dX4_init_35 : decode cX4_init 35 = .ok (.aload_n 0, 1) := by decide +kernel
theorem dX4_init_36 : decode cX4_init 36 = .ok (.sipush 20000, 3) := by decide +kernel
theorem dX4_init_39 : decode cX4_init 39 = .ok (.newarray .long, 2) := by decide +kernel
theorem dX4_init_41 : decode cX4_init 41 = .ok (.putfield 22, 3) := by decide +kernel
theorem dX4_init_44 : decode cX4_init 44 = .ok (.aload_n 0, 1) := by decide +kernel
theorem dX4_init_45 : decode cX4_init 45 = .ok (.sipush 20000, 3) := by decide +kernel
theorem dX4_init_48 : decode cX4_init 48 = .ok (.newarray .long, 2) := by decide +kernel
theorem dX4_init_50 : decode cX4_init 50 = .ok (.putfield 26, 3) := by decide +kernel
theorem dX4_init_53 : decode cX4_init 53 = .ok (.aload_n 0, 1) := by decide +kernel
theorem dX4_init_54 : decode cX4_init 54 = .ok (.sipush 20000, 3) := by decide +kernel
theorem dX4_init_57 : decode cX4_init 57 = .ok (.newarray .int, 2) := by decide +kernel
theorem dX4_init_59 : decode cX4_init 59 = .ok (.putfield 29, 3) := by decide +kernel
theorem dX4_init_62 : decode cX4_init 62 = .ok (.aload_n 0, 1) := by decide +kernel
theorem dX4_init_63 : decode cX4_init 63 = .ok (.sipush 20000, 3) := by decide +kernel
theorem dX4_init_66 : decode cX4_init 66 = .ok (.newarray .int, 2) := by decide +kernel
theorem dX4_init_68 : decode cX4_init 68 = .ok (.putfield 32, 3) := by decide +kernel
theorem dX4_init_71 : decode cX4_init 71 = .ok (.aload_n 0, 1) := by decide +kernel
theorem dX4_init_72 : decode cX4_init 72 = .ok (.sipush 20000, 3) := by decide +kernel
theorem dX4_init_75 : decode cX4_init 75 = .ok (.newarray .int, 2) := by decide +kernel
theorem dX4_init_77 : decode cX4_init 77 = .ok (.putfield 35, 3) := by decide +kernel
theorem dX4_init_80 : decode cX4_init 80 = .ok (.aload_n 0, 1) := by decide +kernel
theorem dX4_init_81 : decode cX4_init 81 = .ok (.sipush 20000, 3) := by decide +kernel
theorem dX4_init_84 : decode cX4_init 84 = .ok (.newarray .int, 2) := by decide +kernel
theorem dX4_init_86 : decode cX4_init 86 = .ok (.putfield 38, 3) := by decide +kernel
theorem dX4_init_89 : decode cX4_init 89 = .ok (.aload_n 0, 1) := by decide +kernel
theorem dX4_init_90 : decode cX4_init 90 = .ok (.sipush 20000, 3) := by decide +kernel
theorem dX4_init_93 : decode cX4_init 93 = .ok (.newarray .int, 2) := by decide +kernel
theorem dX4_init_95 : decode cX4_init 95 = .ok (.putfield 41, 3) := by decide +kernel
theorem dX4_init_98 : decode cX4_init 98 = .ok (.aload_n 0, 1) := by decide +kernel
theorem dX4_init_99 : decode cX4_init 99 = .ok (.iconst 4, 1) := by decide +kernel
theorem dX4_init_100 : decode cX4_init 100 = .ok (.newarray .int, 2) := by decide +kernel
theorem dX4_init_102 : decode cX4_init 102 = .ok (.putfield 44, 3) := by decide +kernel
theorem dX4_init_105 : decode cX4_init 105 = .ok (.aload_n 0, 1) := by decide +kernel
theorem dX4_init_106 : decode cX4_init 106 = .ok (.bipush 16, 2) := by decide +kernel
theorem dX4_init_108 : decode cX4_init 108 = .ok (.newarray .int, 2) := by decide +kernel
theorem dX4_init_110 : decode cX4_init 110 = .ok (.putfield 47, 3) := by decide +kernel
theorem dX4_init_113 : decode cX4_init 113 = .ok (.aload_n 0, 1) := by decide +kernel
theorem dX4_init_114 : decode cX4_init 114 = .ok (.iconst 4, 1) := by decide +kernel
theorem dX4_init_115 : decode cX4_init 115 = .ok (.newarray .int, 2) := by decide +kernel
theorem dX4_init_117 : decode cX4_init 117 = .ok (.putfield 50, 3) := by decide +kernel
theorem dX4_init_120 : decode cX4_init 120 = .ok (.aload_n 0, 1) := by decide +kernel
theorem dX4_init_121 : decode cX4_init 121 = .ok (.iconst 4, 1) := by decide +kernel
theorem dX4_init_122 : decode cX4_init 122 = .ok (.newarray .int, 2) := by decide +kernel
theorem dX4_init_124 : decode cX4_init 124 = .ok (.putfield 53, 3) := by decide +kernel
theorem dX4_init_127 : decode cX4_init 127 = .ok (.aload_n 0, 1) := by decide +kernel
theorem dX4_init_128 : decode cX4_init 128 = .ok (.bipush 8, 2) := by decide +kernel
theorem dX4_init_130 : decode cX4_init 130 = .ok (.newarray .int, 2) := by decide +kernel
theorem dX4_init_132 : decode cX4_init 132 = .ok (.putfield 56, 3) := by decide +kernel
theorem dX4_init_135 : decode cX4_init 135 = .ok (.aload_n 0, 1) := by decide +kernel
theorem dX4_init_136 : decode cX4_init 136 = .ok (.bipush 8, 2) := by decide +kernel
theorem dX4_init_138 : decode cX4_init 138 = .ok (.newarray .int, 2) := by decide +kernel
theorem dX4_init_140 : decode cX4_init 140 = .ok (.putfield 59, 3) := by decide +kernel
theorem dX4_init_143 : decode cX4_init 143 = .ok (.aload_n 0, 1) := by decide +kernel
theorem dX4_init_144 : decode cX4_init 144 = .ok (.sipush 20000, 3) := by decide +kernel
theorem dX4_init_147 : decode cX4_init 147 = .ok (.newarray .long, 2) := by decide +kernel
theorem dX4_init_149 : decode cX4_init 149 = .ok (.putfield 62, 3) := by decide +kernel
theorem dX4_init_152 : decode cX4_init 152 = .ok (.aload_n 0, 1) := by decide +kernel
theorem dX4_init_153 : decode cX4_init 153 = .ok (.sipush 20000, 3) := by decide +kernel
theorem dX4_init_156 : decode cX4_init 156 = .ok (.newarray .int, 2) := by decide +kernel
theorem dX4_init_158 : decode cX4_init 158 = .ok (.putfield 65, 3) := by decide +kernel
theorem dX4_init_161 : decode cX4_init 161 = .ok (.aload_n 0, 1) := by decide +kernel
theorem dX4_init_162 : decode cX4_init 162 = .ok (.sipush 20000, 3) := by decide +kernel
theorem dX4_init_165 : decode cX4_init 165 = .ok (.newarray .long, 2) := by decide +kernel
theorem dX4_init_167 : decode cX4_init 167 = .ok (.putfield 68, 3) := by decide +kernel
theorem dX4_init_170 : decode cX4_init 170 = .ok (.aload_n 0, 1) := by decide +kernel
theorem dX4_init_171 : decode cX4_init 171 = .ok (.sipush 20000, 3) := by decide +kernel
theorem dX4_init_174 : decode cX4_init 174 = .ok (.newarray .long, 2) := by decide +kernel
theorem dX4_init_176 : decode cX4_init 176 = .ok (.putfield 71, 3) := by decide +kernel
theorem dX4_init_179 : decode cX4_init 179 = .ok (.return_, 1) := by decide +kernel
theorem dX4_thrown_0 : decode cX4_thrown 0 = .ok (.aload_n 0, 1) := by decide +kernel
theorem dX4_thrown_1 : decode cX4_thrown 1 = .ok (.getfield 74, 3) := by decide +kernel
theorem dX4_thrown_4 : decode cX4_thrown 4 = .ok (.ireturn, 1) := by decide +kernel
theorem dX4_raise_0 : decode cX4_raise 0 = .ok (.aload_n 0, 1) := by decide +kernel
theorem dX4_raise_1 : decode cX4_raise 1 = .ok (.iload_n 1, 1) := by decide +kernel
theorem dX4_raise_2 : decode cX4_raise 2 = .ok (.putfield 74, 3) := by decide +kernel
theorem dX4_raise_5 : decode cX4_raise 5 = .ok (.iconst 0, 1) := by decide +kernel
theorem dX4_raise_6 : decode cX4_raise 6 = .ok (.ireturn, 1) := by decide +kernel
theorem dX4_isSmall_0 : decode cX4_isSmall 0 = .ok (.iload_n 0, 1) := by decide +kernel
theorem dX4_isSmall_1 : decode cX4_isSmall 1 = .ok (.ifCond .lt 12, 3) := by decide +kernel
theorem dX4_isSmall_4 : decode cX4_isSmall 4 = .ok (.iload_n 0, 1) := by decide +kernel
theorem dX4_isSmall_5 : decode cX4_isSmall 5 = .ok (.iconst 4, 1) := by decide +kernel
theorem dX4_isSmall_6 : decode cX4_isSmall 6 = .ok (.if_icmp .ge 7, 3) := by decide +kernel
theorem dX4_isSmall_9 : decode cX4_isSmall 9 = .ok (.iconst 1, 1) := by decide +kernel
theorem dX4_isSmall_10 : decode cX4_isSmall 10 = .ok (.goto 4, 3) := by decide +kernel
theorem dX4_isSmall_13 : decode cX4_isSmall 13 = .ok (.iconst 0, 1) := by decide +kernel
theorem dX4_isSmall_14 : decode cX4_isSmall 14 = .ok (.ireturn, 1) := by decide +kernel
theorem dX4_all_0 : decode cX4_all 0 = .ok (.aload_n 0, 1) := by decide +kernel
theorem dX4_all_1 : decode cX4_all 1 = .ok (.getfield 7, 3) := by decide +kernel
theorem dX4_all_4 : decode cX4_all 4 = .ok (.iconst 0, 1) := by decide +kernel
theorem dX4_all_5 : decode cX4_all 5 = .ok (.iaload, 1) := by decide +kernel
theorem dX4_all_6 : decode cX4_all 6 = .ok (.aload_n 0, 1) := by decide +kernel
theorem dX4_all_7 : decode cX4_all 7 = .ok (.getfield 7, 3) := by decide +kernel
theorem dX4_all_10 : decode cX4_all 10 = .ok (.iconst 1, 1) := by decide +kernel
theorem dX4_all_11 : decode cX4_all 11 = .ok (.iaload, 1) := by decide +kernel
theorem dX4_all_12 : decode cX4_all 12 = .ok (.iadd, 1) := by decide +kernel
theorem dX4_all_13 : decode cX4_all 13 = .ok (.aload_n 0, 1) := by decide +kernel
theorem dX4_all_14 : decode cX4_all 14 = .ok (.getfield 7, 3) := by decide +kernel
theorem dX4_all_17 : decode cX4_all 17 = .ok (.iconst 2, 1) := by decide +kernel
theorem dX4_all_18 : decode cX4_all 18 = .ok (.iaload, 1) := by decide +kernel
theorem dX4_all_19 : decode cX4_all 19 = .ok (.iadd, 1) := by decide +kernel
theorem dX4_all_20 : decode cX4_all 20 = .ok (.aload_n 0, 1) := by decide +kernel
theorem dX4_all_21 : decode cX4_all 21 = .ok (.getfield 7, 3) := by decide +kernel
theorem dX4_all_24 : decode cX4_all 24 = .ok (.iconst 3, 1) := by decide +kernel
theorem dX4_all_25 : decode cX4_all 25 = .ok (.iaload, 1) := by decide +kernel
theorem dX4_all_26 : decode cX4_all 26 = .ok (.iadd, 1) := by decide +kernel
theorem dX4_all_27 : decode cX4_all 27 = .ok (.ireturn, 1) := by decide +kernel
theorem dX4_add_0 : decode cX4_add 0 = .ok (.aload_n 0, 1) := by decide +kernel
theorem dX4_add_1 : decode cX4_add 1 = .ok (.iconst 0, 1) := by decide +kernel
theorem dX4_add_2 : decode cX4_add 2 = .ok (.putfield 74, 3) := by decide +kernel
theorem dX4_add_5 : decode cX4_add 5 = .ok (.iload_n 1, 1) := by decide +kernel
theorem dX4_add_6 : decode cX4_add 6 = .ok (.invokestatic 78, 3) := by decide +kernel
theorem dX4_add_9 : decode cX4_add 9 = .ok (.ifCond .eq 48, 3) := by decide +kernel
theorem dX4_add_12 : decode cX4_add 12 = .ok (.iload_n 2, 1) := by decide +kernel
theorem dX4_add_13 : decode cX4_add 13 = .ok (.ifCond .lt 44, 3) := by decide +kernel
theorem dX4_add_16 : decode cX4_add 16 = .ok (.iload_n 2, 1) := by decide +kernel
theorem dX4_add_17 : decode cX4_add 17 = .ok (.bipush 6, 2) := by decide +kernel
theorem dX4_add_19 : decode cX4_add 19 = .ok (.if_icmp .gt 38, 3) := by decide +kernel
theorem dX4_add_22 : decode cX4_add 22 = .ok (.iload_n 3, 1) := by decide +kernel
theorem dX4_add_23 : decode cX4_add 23 = .ok (.invokestatic 78, 3) := by decide +kernel
theorem dX4_add_26 : decode cX4_add 26 = .ok (.ifCond .eq 31, 3) := by decide +kernel
theorem dX4_add_29 : decode cX4_add 29 = .ok (.iload 4, 2) := by decide +kernel
theorem dX4_add_31 : decode cX4_add 31 = .ok (.invokestatic 78, 3) := by decide +kernel
theorem dX4_add_34 : decode cX4_add 34 = .ok (.ifCond .eq 23, 3) := by decide +kernel
theorem dX4_add_37 : decode cX4_add 37 = .ok (.aload_n 0, 1) := by decide +kernel
theorem dX4_add_38 : decode cX4_add 38 = .ok (.getfield 7, 3) := by decide +kernel
theorem dX4_add_41 : decode cX4_add 41 = .ok (.iload_n 1, 1) := by decide +kernel
theorem dX4_add_42 : decode cX4_add 42 = .ok (.iaload, 1) := by decide +kernel
theorem dX4_add_43 : decode cX4_add 43 = .ok (.bipush 6, 2) := by decide +kernel
theorem dX4_add_45 : decode cX4_add 45 = .ok (.if_icmp .eq 12, 3) := by decide +kernel
theorem dX4_add_48 : decode cX4_add 48 = .ok (.aload_n 0, 1) := by decide +kernel
theorem dX4_add_49 : decode cX4_add 49 = .ok (.invokevirtual 82, 3) := by decide +kernel
theorem dX4_add_52 : decode cX4_add 52 = .ok (.bipush 12, 2) := by decide +kernel
theorem dX4_add_54 : decode cX4_add 54 = .ok (.if_icmp .ne 5, 3) := by decide +kernel
theorem dX4_add_57 : decode cX4_add 57 = .ok (.iconst 0, 1) := by decide +kernel
theorem dX4_add_58 : decode cX4_add 58 = .ok (.ireturn, 1) := by decide +kernel
theorem dX4_add_59 : decode cX4_add 59 = .ok (.iload_n 2, 1) := by decide +kernel
theorem dX4_add_60 : decode cX4_add 60 = .ok (.iconst 3, 1) := by decide +kernel
theorem dX4_add_61 : decode cX4_add 61 = .ok (.if_icmp .ne 12, 3) := by decide +kernel
theorem dX4_add_64 : decode cX4_add 64 = .ok (.iload_n 3, 1) := by decide +kernel
theorem dX4_add_65 : decode cX4_add 65 = .ok (.ifCond .gt 18, 3) := by decide +kernel
theorem dX4_add_68 : decode cX4_add 68 = .ok (.iload 4, 2) := by decide +kernel
theorem dX4_add_70 : decode cX4_add 70 = .ok (.ifCond .gt 13, 3) := by decide +kernel
theorem dX4_add_73 : decode cX4_add 73 = .ok (.iload_n 2, 1) := by decide +kernel
theorem dX4_add_74 : decode cX4_add 74 = .ok (.bipush 6, 2) := by decide +kernel
theorem dX4_add_76 : decode cX4_add 76 = .ok (.if_icmp .ne 9, 3) := by decide +kernel
theorem dX4_add_79 : decode cX4_add 79 = .ok (.iload_n 3, 1) := by decide +kernel
theorem dX4_add_80 : decode cX4_add 80 = .ok (.ifCond .ne 5, 3) := by decide +kernel
theorem dX4_add_83 : decode cX4_add 83 = .ok (.iconst 0, 1) := by decide +kernel
theorem dX4_add_84 : decode cX4_add 84 = .ok (.ireturn, 1) := by decide +kernel
theorem dX4_add_85 : decode cX4_add 85 = .ok (.bipush 6, 2) := by decide +kernel
theorem dX4_add_87 : decode cX4_add 87 = .ok (.iload_n 1, 1) := by decide +kernel
theorem dX4_add_88 : decode cX4_add 88 = .ok (.imul, 1) := by decide +kernel
theorem dX4_add_89 : decode cX4_add 89 = .ok (.aload_n 0, 1) := by decide +kernel
theorem dX4_add_90 : decode cX4_add 90 = .ok (.getfield 7, 3) := by decide +kernel
theorem dX4_add_93 : decode cX4_add 93 = .ok (.iload_n 1, 1) := by decide +kernel
theorem dX4_add_94 : decode cX4_add 94 = .ok (.iaload, 1) := by decide +kernel
theorem dX4_add_95 : decode cX4_add 95 = .ok (.iadd, 1) := by decide +kernel
theorem dX4_add_96 : decode cX4_add 96 = .ok (.istore 5, 2) := by decide +kernel
theorem dX4_add_98 : decode cX4_add 98 = .ok (.aload_n 0, 1) := by decide +kernel
theorem dX4_add_99 : decode cX4_add 99 = .ok (.getfield 13, 3) := by decide +kernel
theorem dX4_add_102 : decode cX4_add 102 = .ok (.iload 5, 2) := by decide +kernel
theorem dX4_add_104 : decode cX4_add 104 = .ok (.iload_n 2, 1) := by decide +kernel
theorem dX4_add_105 : decode cX4_add 105 = .ok (.iastore, 1) := by decide +kernel
theorem dX4_add_106 : decode cX4_add 106 = .ok (.aload_n 0, 1) := by decide +kernel
theorem dX4_add_107 : decode cX4_add 107 = .ok (.getfield 16, 3) := by decide +kernel
theorem dX4_add_110 : decode cX4_add 110 = .ok (.iload 5, 2) := by decide +kernel
theorem dX4_add_112 : decode cX4_add 112 = .ok (.iload_n 3, 1) := by decide +kernel
theorem dX4_add_113 : decode cX4_add 113 = .ok (.iastore, 1) := by decide +kernel
theorem dX4_add_114 : decode cX4_add 114 = .ok (.aload_n 0, 1) := by decide +kernel
theorem dX4_add_115 : decode cX4_add 115 = .ok (.getfield 19, 3) := by decide +kernel
theorem dX4_add_118 : decode cX4_add 118 = .ok (.iload 5, 2) := by decide +kernel
theorem dX4_add_120 : decode cX4_add 120 = .ok (.iload 4, 2) := by decide +kernel
theorem dX4_add_122 : decode cX4_add 122 = .ok (.iastore, 1) := by decide +kernel
theorem dX4_add_123 : decode cX4_add 123 = .ok (.aload_n 0, 1) := by decide +kernel
theorem dX4_add_124 : decode cX4_add 124 = .ok (.getfield 7, 3) := by decide +kernel
theorem dX4_add_127 : decode cX4_add 127 = .ok (.iload_n 1, 1) := by decide +kernel
theorem dX4_add_128 : decode cX4_add 128 = .ok (.dup2, 1) := by decide +kernel
theorem dX4_add_129 : decode cX4_add 129 = .ok (.iaload, 1) := by decide +kernel
theorem dX4_add_130 : decode cX4_add 130 = .ok (.iconst 1, 1) := by decide +kernel
theorem dX4_add_131 : decode cX4_add 131 = .ok (.iadd, 1) := by decide +kernel
theorem dX4_add_132 : decode cX4_add 132 = .ok (.iastore, 1) := by decide +kernel
theorem dX4_add_133 : decode cX4_add 133 = .ok (.iconst 1, 1) := by decide +kernel
theorem dX4_add_134 : decode cX4_add 134 = .ok (.ireturn, 1) := by decide +kernel
theorem dX4_clear_0 : decode cX4_clear 0 = .ok (.aload_n 0, 1) := by decide +kernel
theorem dX4_clear_1 : decode cX4_clear 1 = .ok (.iconst 0, 1) := by decide +kernel
theorem dX4_clear_2 : decode cX4_clear 2 = .ok (.putfield 74, 3) := by decide +kernel
theorem dX4_clear_5 : decode cX4_clear 5 = .ok (.iload_n 1, 1) := by decide +kernel
theorem dX4_clear_6 : decode cX4_clear 6 = .ok (.invokestatic 78, 3) := by decide +kernel
theorem dX4_clear_9 : decode cX4_clear 9 = .ok (.ifCond .ne 5, 3) := by decide +kernel
theorem dX4_clear_12 : decode cX4_clear 12 = .ok (.iconst (-1), 1) := by decide +kernel
theorem dX4_clear_13 : decode cX4_clear 13 = .ok (.ireturn, 1) := by decide +kernel
theorem dX4_clear_14 : decode cX4_clear 14 = .ok (.aload_n 0, 1) := by decide +kernel
theorem dX4_clear_15 : decode cX4_clear 15 = .ok (.getfield 7, 3) := by decide +kernel
theorem dX4_clear_18 : decode cX4_clear 18 = .ok (.iload_n 1, 1) := by decide +kernel
theorem dX4_clear_19 : decode cX4_clear 19 = .ok (.iaload, 1) := by decide +kernel
theorem dX4_clear_20 : decode cX4_clear 20 = .ok (.istore_n 2, 1) := by decide +kernel
theorem dX4_clear_21 : decode cX4_clear 21 = .ok (.aload_n 0, 1) := by decide +kernel
theorem dX4_clear_22 : decode cX4_clear 22 = .ok (.getfield 7, 3) := by decide +kernel
theorem dX4_clear_25 : decode cX4_clear 25 = .ok (.iload_n 1, 1) := by decide +kernel
theorem dX4_clear_26 : decode cX4_clear 26 = .ok (.iconst 0, 1) := by decide +kernel
theorem dX4_clear_27 : decode cX4_clear 27 = .ok (.iastore, 1) := by decide +kernel
theorem dX4_clear_28 : decode cX4_clear 28 = .ok (.iload_n 2, 1) := by decide +kernel
theorem dX4_clear_29 : decode cX4_clear 29 = .ok (.ireturn, 1) := by decide +kernel
theorem dX4_spread_0 : decode cX4_spread 0 = .ok (.aload_n 0, 1) := by decide +kernel
theorem dX4_spread_1 : decode cX4_spread 1 = .ok (.getfield 22, 3) := by decide +kernel
theorem dX4_spread_4 : decode cX4_spread 4 = .ok (.iload_n 1, 1) := by decide +kernel
theorem dX4_spread_5 : decode cX4_spread 5 = .ok (.laload, 1) := by decide +kernel
theorem dX4_spread_6 : decode cX4_spread 6 = .ok (.lstore_n 2, 1) := by decide +kernel
theorem dX4_spread_7 : decode cX4_spread 7 = .ok (.iconst 3, 1) := by decide +kernel
theorem dX4_spread_8 : decode cX4_spread 8 = .ok (.istore 4, 2) := by decide +kernel
theorem dX4_spread_10 : decode cX4_spread 10 = .ok (.iload 4, 2) := by decide +kernel
theorem dX4_spread_12 : decode cX4_spread 12 = .ok (.ifCond .lt 26, 3) := by decide +kernel
theorem dX4_spread_15 : decode cX4_spread 15 = .ok (.aload_n 0, 1) := by decide +kernel
theorem dX4_spread_16 : decode cX4_spread 16 = .ok (.getfield 50, 3) := by decide +kernel
theorem dX4_spread_19 : decode cX4_spread 19 = .ok (.iload 4, 2) := by decide +kernel
theorem dX4_spread_21 : decode cX4_spread 21 = .ok (.lload_n 2, 1) := by decide +kernel
theorem dX4_spread_22 : decode cX4_spread 22 = .ok (.ldc2_w 86, 3) := by decide +kernel
theorem dX4_spread_25 : decode cX4_spread 25 = .ok (.land, 1) := by decide +kernel
theorem dX4_spread_26 : decode cX4_spread 26 = .ok (.l2i, 1) := by decide +kernel
theorem dX4_spread_27 : decode cX4_spread 27 = .ok (.iastore, 1) := by decide +kernel
theorem dX4_spread_28 : decode cX4_spread 28 = .ok (.lload_n 2, 1) := by decide +kernel
theorem dX4_spread_29 : decode cX4_spread 29 = .ok (.iconst 2, 1) := by decide +kernel
theorem dX4_spread_30 : decode cX4_spread 30 = .ok (.lshr, 1) := by decide +kernel
theorem dX4_spread_31 : decode cX4_spread 31 = .ok (.lstore_n 2, 1) := by decide +kernel
theorem dX4_spread_32 : decode cX4_spread 32 = .ok (.iinc 4 (-1), 3) := by decide +kernel
theorem dX4_spread_35 : decode cX4_spread 35 = .ok (.goto (-25), 3) := by decide +kernel
theorem dX4_spread_38 : decode cX4_spread 38 = .ok (.bipush 15, 2) := by decide +kernel
theorem dX4_spread_40 : decode cX4_spread 40 = .ok (.istore 4, 2) := by decide +kernel
theorem dX4_spread_42 : decode cX4_spread 42 = .ok (.iload 4, 2) := by decide +kernel
theorem dX4_spread_44 : decode cX4_spread 44 = .ok (.ifCond .lt 26, 3) := by decide +kernel
theorem dX4_spread_47 : decode cX4_spread 47 = .ok (.aload_n 0, 1) := by decide +kernel
theorem dX4_spread_48 : decode cX4_spread 48 = .ok (.getfield 47, 3) := by decide +kernel
theorem dX4_spread_51 : decode cX4_spread 51 = .ok (.iload 4, 2) := by decide +kernel
theorem dX4_spread_53 : decode cX4_spread 53 = .ok (.lload_n 2, 1) := by decide +kernel
theorem dX4_spread_54 : decode cX4_spread 54 = .ok (.ldc2_w 86, 3) := by decide +kernel
theorem dX4_spread_57 : decode cX4_spread 57 = .ok (.land, 1) := by decide +kernel
theorem dX4_spread_58 : decode cX4_spread 58 = .ok (.l2i, 1) := by decide +kernel
theorem dX4_spread_59 : decode cX4_spread 59 = .ok (.iastore, 1) := by decide +kernel
theorem dX4_spread_60 : decode cX4_spread 60 = .ok (.lload_n 2, 1) := by decide +kernel
theorem dX4_spread_61 : decode cX4_spread 61 = .ok (.iconst 2, 1) := by decide +kernel
theorem dX4_spread_62 : decode cX4_spread 62 = .ok (.lshr, 1) := by decide +kernel
theorem dX4_spread_63 : decode cX4_spread 63 = .ok (.lstore_n 2, 1) := by decide +kernel
theorem dX4_spread_64 : decode cX4_spread 64 = .ok (.iinc 4 (-1), 3) := by decide +kernel
theorem dX4_spread_67 : decode cX4_spread 67 = .ok (.goto (-25), 3) := by decide +kernel
theorem dX4_spread_70 : decode cX4_spread 70 = .ok (.iconst 3, 1) := by decide +kernel
theorem dX4_spread_71 : decode cX4_spread 71 = .ok (.istore 4, 2) := by decide +kernel
theorem dX4_spread_73 : decode cX4_spread 73 = .ok (.iload 4, 2) := by decide +kernel
theorem dX4_spread_75 : decode cX4_spread 75 = .ok (.ifCond .lt 26, 3) := by decide +kernel
theorem dX4_spread_78 : decode cX4_spread 78 = .ok (.aload_n 0, 1) := by decide +kernel
theorem dX4_spread_79 : decode cX4_spread 79 = .ok (.getfield 44, 3) := by decide +kernel
theorem dX4_spread_82 : decode cX4_spread 82 = .ok (.iload 4, 2) := by decide +kernel
theorem dX4_spread_84 : decode cX4_spread 84 = .ok (.lload_n 2, 1) := by decide +kernel
theorem dX4_spread_85 : decode cX4_spread 85 = .ok (.ldc2_w 88, 3) := by decide +kernel
theorem dX4_spread_88 : decode cX4_spread 88 = .ok (.land, 1) := by decide +kernel
theorem dX4_spread_89 : decode cX4_spread 89 = .ok (.l2i, 1) := by decide +kernel
theorem dX4_spread_90 : decode cX4_spread 90 = .ok (.iastore, 1) := by decide +kernel
theorem dX4_spread_91 : decode cX4_spread 91 = .ok (.lload_n 2, 1) := by decide +kernel
theorem dX4_spread_92 : decode cX4_spread 92 = .ok (.iconst 3, 1) := by decide +kernel
theorem dX4_spread_93 : decode cX4_spread 93 = .ok (.lshr, 1) := by decide +kernel
theorem dX4_spread_94 : decode cX4_spread 94 = .ok (.lstore_n 2, 1) := by decide +kernel
theorem dX4_spread_95 : decode cX4_spread 95 = .ok (.iinc 4 (-1), 3) := by decide +kernel
theorem dX4_spread_98 : decode cX4_spread 98 = .ok (.goto (-25), 3) := by decide +kernel
theorem dX4_spread_101 : decode cX4_spread 101 = .ok (.aload_n 0, 1) := by decide +kernel
theorem dX4_spread_102 : decode cX4_spread 102 = .ok (.getfield 26, 3) := by decide +kernel
theorem dX4_spread_105 : decode cX4_spread 105 = .ok (.iload_n 1, 1) := by decide +kernel
theorem dX4_spread_106 : decode cX4_spread 106 = .ok (.laload, 1) := by decide +kernel
theorem dX4_spread_107 : decode cX4_spread 107 = .ok (.lstore 4, 2) := by decide +kernel
theorem dX4_spread_109 : decode cX4_spread 109 = .ok (.iconst 3, 1) := by decide +kernel
theorem dX4_spread_110 : decode cX4_spread 110 = .ok (.istore 6, 2) := by decide +kernel
theorem dX4_spread_112 : decode cX4_spread 112 = .ok (.iload 6, 2) := by decide +kernel
theorem dX4_spread_114 : decode cX4_spread 114 = .ok (.ifCond .lt 88, 3) := by decide +kernel
theorem dX4_spread_117 : decode cX4_spread 117 = .ok (.iconst 2, 1) := by decide +kernel
theorem dX4_spread_118 : decode cX4_spread 118 = .ok (.iload 6, 2) := by decide +kernel
theorem dX4_spread_120 : decode cX4_spread 120 = .ok (.imul, 1) := by decide +kernel
theorem dX4_spread_121 : decode cX4_spread 121 = .ok (.iconst 1, 1) := by decide +kernel
theorem dX4_spread_122 : decode cX4_spread 122 = .ok (.iadd, 1) := by decide +kernel
theorem dX4_spread_123 : decode cX4_spread 123 = .ok (.istore 7, 2) := by decide +kernel
theorem dX4_spread_125 : decode cX4_spread 125 = .ok (.iload 7, 2) := by decide +kernel
theorem dX4_spread_127 : decode cX4_spread 127 = .ok (.iconst 2, 1) := by decide +kernel
theorem dX4_spread_128 : decode cX4_spread 128 = .ok (.iload 6, 2) := by decide +kernel
theorem dX4_spread_130 : decode cX4_spread 130 = .ok (.imul, 1) := by decide +kernel
theorem dX4_spread_131 : decode cX4_spread 131 = .ok (.if_icmp .lt 45, 3) := by decide +kernel
theorem dX4_spread_134 : decode cX4_spread 134 = .ok (.aload_n 0, 1) := by decide +kernel
theorem dX4_spread_135 : decode cX4_spread 135 = .ok (.getfield 59, 3) := by decide +kernel
theorem dX4_spread_138 : decode cX4_spread 138 = .ok (.iload 7, 2) := by decide +kernel
theorem dX4_spread_140 : decode cX4_spread 140 = .ok (.lload 4, 2) := by decide +kernel
theorem dX4_spread_142 : decode cX4_spread 142 = .ok (.ldc2_w 86, 3) := by decide +kernel
theorem dX4_spread_145 : decode cX4_spread 145 = .ok (.land, 1) := by decide +kernel
theorem dX4_spread_146 : decode cX4_spread 146 = .ok (.l2i, 1) := by decide +kernel
theorem dX4_spread_147 : decode cX4_spread 147 = .ok (.iastore, 1) := by decide +kernel
theorem dX4_spread_148 : decode cX4_spread 148 = .ok (.aload_n 0, 1) := by decide +kernel
theorem dX4_spread_149 : decode cX4_spread 149 = .ok (.getfield 56, 3) := by decide +kernel
theorem dX4_spread_152 : decode cX4_spread 152 = .ok (.iload 7, 2) := by decide +kernel
theorem dX4_spread_154 : decode cX4_spread 154 = .ok (.lload 4, 2) := by decide +kernel
theorem dX4_spread_156 : decode cX4_spread 156 = .ok (.iconst 2, 1) := by decide +kernel
theorem dX4_spread_157 : decode cX4_spread 157 = .ok (.lshr, 1) := by decide +kernel
theorem dX4_spread_158 : decode cX4_spread 158 = .ok (.ldc2_w 86, 3) := by decide +kernel
theorem dX4_spread_161 : decode cX4_spread 161 = .ok (.land, 1) := by decide +kernel
theorem dX4_spread_162 : decode cX4_spread 162 = .ok (.l2i, 1) := by decide +kernel
theorem dX4_spread_163 : decode cX4_spread 163 = .ok (.iastore, 1) := by decide +kernel
theorem dX4_spread_164 : decode cX4_spread 164 = .ok (.lload 4, 2) := by decide +kernel
theorem dX4_spread_166 : decode cX4_spread 166 = .ok (.iconst 4, 1) := by decide +kernel
theorem dX4_spread_167 : decode cX4_spread 167 = .ok (.lshr, 1) := by decide +kernel
theorem dX4_spread_168 : decode cX4_spread 168 = .ok (.lstore 4, 2) := by decide +kernel
theorem dX4_spread_170 : decode cX4_spread 170 = .ok (.iinc 7 (-1), 3) := by decide +kernel
theorem dX4_spread_173 : decode cX4_spread 173 = .ok (.goto (-48), 3) := by decide +kernel
theorem dX4_spread_176 : decode cX4_spread 176 = .ok (.aload_n 0, 1) := by decide +kernel
theorem dX4_spread_177 : decode cX4_spread 177 = .ok (.getfield 53, 3) := by decide +kernel
theorem dX4_spread_180 : decode cX4_spread 180 = .ok (.iload 6, 2) := by decide +kernel
theorem dX4_spread_182 : decode cX4_spread 182 = .ok (.lload 4, 2) := by decide +kernel
theorem dX4_spread_184 : decode cX4_spread 184 = .ok (.ldc2_w 86, 3) := by decide +kernel
theorem dX4_spread_187 : decode cX4_spread 187 = .ok (.land, 1) := by decide +kernel
theorem dX4_spread_188 : decode cX4_spread 188 = .ok (.l2i, 1) := by decide +kernel
theorem dX4_spread_189 : decode cX4_spread 189 = .ok (.iastore, 1) := by decide +kernel
theorem dX4_spread_190 : decode cX4_spread 190 = .ok (.lload 4, 2) := by decide +kernel
theorem dX4_spread_192 : decode cX4_spread 192 = .ok (.iconst 2, 1) := by decide +kernel
theorem dX4_spread_193 : decode cX4_spread 193 = .ok (.lshr, 1) := by decide +kernel
theorem dX4_spread_194 : decode cX4_spread 194 = .ok (.lstore 4, 2) := by decide +kernel
theorem dX4_spread_196 : decode cX4_spread 196 = .ok (.iinc 6 (-1), 3) := by decide +kernel
theorem dX4_spread_199 : decode cX4_spread 199 = .ok (.goto (-87), 3) := by decide +kernel
theorem dX4_spread_202 : decode cX4_spread 202 = .ok (.return_, 1) := by decide +kernel
theorem dX4_packed_0 : decode cX4_packed 0 = .ok (.lconst 0, 1) := by decide +kernel
theorem dX4_packed_1 : decode cX4_packed 1 = .ok (.lstore_n 1, 1) := by decide +kernel
theorem dX4_packed_2 : decode cX4_packed 2 = .ok (.iconst 0, 1) := by decide +kernel
theorem dX4_packed_3 : decode cX4_packed 3 = .ok (.istore_n 3, 1) := by decide +kernel
theorem dX4_packed_4 : decode cX4_packed 4 = .ok (.iload_n 3, 1) := by decide +kernel
theorem dX4_packed_5 : decode cX4_packed 5 = .ok (.iconst 4, 1) := by decide +kernel
theorem dX4_packed_6 : decode cX4_packed 6 = .ok (.if_icmp .ge 21, 3) := by decide +kernel
theorem dX4_packed_9 : decode cX4_packed 9 = .ok (.lload_n 1, 1) := by decide +kernel
theorem dX4_packed_10 : decode cX4_packed 10 = .ok (.iconst 3, 1) := by decide +kernel
theorem dX4_packed_11 : decode cX4_packed 11 = .ok (.lshl, 1) := by decide +kernel
theorem dX4_packed_12 : decode cX4_packed 12 = .ok (.aload_n 0, 1) := by decide +kernel
theorem dX4_packed_13 : decode cX4_packed 13 = .ok (.getfield 44, 3) := by decide +kernel
theorem dX4_packed_16 : decode cX4_packed 16 = .ok (.iload_n 3, 1) := by decide +kernel
theorem dX4_packed_17 : decode cX4_packed 17 = .ok (.iaload, 1) := by decide +kernel
theorem dX4_packed_18 : decode cX4_packed 18 = .ok (.i2l, 1) := by decide +kernel
theorem dX4_packed_19 : decode cX4_packed 19 = .ok (.lor, 1) := by decide +kernel
theorem dX4_packed_20 : decode cX4_packed 20 = .ok (.lstore_n 1, 1) := by decide +kernel
theorem dX4_packed_21 : decode cX4_packed 21 = .ok (.iinc 3 1, 3) := by decide +kernel
theorem dX4_packed_24 : decode cX4_packed 24 = .ok (.goto (-20), 3) := by decide +kernel
theorem dX4_packed_27 : decode cX4_packed 27 = .ok (.iconst 0, 1) := by decide +kernel
theorem dX4_packed_28 : decode cX4_packed 28 = .ok (.istore_n 3, 1) := by decide +kernel
theorem dX4_packed_29 : decode cX4_packed 29 = .ok (.iload_n 3, 1) := by decide +kernel
theorem dX4_packed_30 : decode cX4_packed 30 = .ok (.bipush 16, 2) := by decide +kernel
theorem dX4_packed_32 : decode cX4_packed 32 = .ok (.if_icmp .ge 21, 3) := by decide +kernel
theorem dX4_packed_35 : decode cX4_packed 35 = .ok (.lload_n 1, 1) := by decide +kernel
theorem dX4_packed_36 : decode cX4_packed 36 = .ok (.iconst 2, 1) := by decide +kernel
theorem dX4_packed_37 : decode cX4_packed 37 = .ok (.lshl, 1) := by decide +kernel
theorem dX4_packed_38 : decode cX4_packed 38 = .ok (.aload_n 0, 1) := by decide +kernel
theorem dX4_packed_39 : decode cX4_packed 39 = .ok (.getfield 47, 3) := by decide +kernel
theorem dX4_packed_42 : decode cX4_packed 42 = .ok (.iload_n 3, 1) := by decide +kernel
theorem dX4_packed_43 : decode cX4_packed 43 = .ok (.iaload, 1) := by decide +kernel
theorem dX4_packed_44 : decode cX4_packed 44 = .ok (.i2l, 1) := by decide +kernel
theorem dX4_packed_45 : decode cX4_packed 45 = .ok (.lor, 1) := by decide +kernel
theorem dX4_packed_46 : decode cX4_packed 46 = .ok (.lstore_n 1, 1) := by decide +kernel
theorem dX4_packed_47 : decode cX4_packed 47 = .ok (.iinc 3 1, 3) := by decide +kernel
theorem dX4_packed_50 : decode cX4_packed 50 = .ok (.goto (-21), 3) := by decide +kernel
theorem dX4_packed_53 : decode cX4_packed 53 = .ok (.iconst 0, 1) := by decide +kernel
theorem dX4_packed_54 : decode cX4_packed 54 = .ok (.istore_n 3, 1) := by decide +kernel
theorem dX4_packed_55 : decode cX4_packed 55 = .ok (.iload_n 3, 1) := by decide +kernel
theorem dX4_packed_56 : decode cX4_packed 56 = .ok (.iconst 4, 1) := by decide +kernel
theorem dX4_packed_57 : decode cX4_packed 57 = .ok (.if_icmp .ge 21, 3) := by decide +kernel
theorem dX4_packed_60 : decode cX4_packed 60 = .ok (.lload_n 1, 1) := by decide +kernel
theorem dX4_packed_61 : decode cX4_packed 61 = .ok (.iconst 2, 1) := by decide +kernel
theorem dX4_packed_62 : decode cX4_packed 62 = .ok (.lshl, 1) := by decide +kernel
theorem dX4_packed_63 : decode cX4_packed 63 = .ok (.aload_n 0, 1) := by decide +kernel
theorem dX4_packed_64 : decode cX4_packed 64 = .ok (.getfield 50, 3) := by decide +kernel
theorem dX4_packed_67 : decode cX4_packed 67 = .ok (.iload_n 3, 1) := by decide +kernel
theorem dX4_packed_68 : decode cX4_packed 68 = .ok (.iaload, 1) := by decide +kernel
theorem dX4_packed_69 : decode cX4_packed 69 = .ok (.i2l, 1) := by decide +kernel
theorem dX4_packed_70 : decode cX4_packed 70 = .ok (.lor, 1) := by decide +kernel
theorem dX4_packed_71 : decode cX4_packed 71 = .ok (.lstore_n 1, 1) := by decide +kernel
theorem dX4_packed_72 : decode cX4_packed 72 = .ok (.iinc 3 1, 3) := by decide +kernel
theorem dX4_packed_75 : decode cX4_packed 75 = .ok (.goto (-20), 3) := by decide +kernel
theorem dX4_packed_78 : decode cX4_packed 78 = .ok (.lload_n 1, 1) := by decide +kernel
theorem dX4_packed_79 : decode cX4_packed 79 = .ok (.lreturn, 1) := by decide +kernel
theorem dX4_buffered_0 : decode cX4_buffered 0 = .ok (.lconst 0, 1) := by decide +kernel
theorem dX4_buffered_1 : decode cX4_buffered 1 = .ok (.lstore_n 1, 1) := by decide +kernel
theorem dX4_buffered_2 : decode cX4_buffered 2 = .ok (.iconst 0, 1) := by decide +kernel
theorem dX4_buffered_3 : decode cX4_buffered 3 = .ok (.istore_n 3, 1) := by decide +kernel
theorem dX4_buffered_4 : decode cX4_buffered 4 = .ok (.iload_n 3, 1) := by decide +kernel
theorem dX4_buffered_5 : decode cX4_buffered 5 = .ok (.iconst 4, 1) := by decide +kernel
theorem dX4_buffered_6 : decode cX4_buffered 6 = .ok (.if_icmp .ge 97, 3) := by decide +kernel
theorem dX4_buffered_9 : decode cX4_buffered 9 = .ok (.lload_n 1, 1) := by decide +kernel
theorem dX4_buffered_10 : decode cX4_buffered 10 = .ok (.iconst 2, 1) := by decide +kernel
theorem dX4_buffered_11 : decode cX4_buffered 11 = .ok (.lshl, 1) := by decide +kernel
theorem dX4_buffered_12 : decode cX4_buffered 12 = .ok (.aload_n 0, 1) := by decide +kernel
theorem dX4_buffered_13 : decode cX4_buffered 13 = .ok (.getfield 53, 3) := by decide +kernel
theorem dX4_buffered_16 : decode cX4_buffered 16 = .ok (.iload_n 3, 1) := by decide +kernel
theorem dX4_buffered_17 : decode cX4_buffered 17 = .ok (.iaload, 1) := by decide +kernel
theorem dX4_buffered_18 : decode cX4_buffered 18 = .ok (.i2l, 1) := by decide +kernel
theorem dX4_buffered_19 : decode cX4_buffered 19 = .ok (.lor, 1) := by decide +kernel
theorem dX4_buffered_20 : decode cX4_buffered 20 = .ok (.lstore_n 1, 1) := by decide +kernel
theorem dX4_buffered_21 : decode cX4_buffered 21 = .ok (.iconst 0, 1) := by decide +kernel
theorem dX4_buffered_22 : decode cX4_buffered 22 = .ok (.istore 4, 2) := by decide +kernel
theorem dX4_buffered_24 : decode cX4_buffered 24 = .ok (.iload 4, 2) := by decide +kernel
theorem dX4_buffered_26 : decode cX4_buffered 26 = .ok (.iconst 2, 1) := by decide +kernel
theorem dX4_buffered_27 : decode cX4_buffered 27 = .ok (.if_icmp .ge 70, 3) := by decide +kernel
theorem dX4_buffered_30 : decode cX4_buffered 30 = .ok (.iload 4, 2) := by decide +kernel
theorem dX4_buffered_32 : decode cX4_buffered 32 = .ok (.aload_n 0, 1) := by decide +kernel
theorem dX4_buffered_33 : decode cX4_buffered 33 = .ok (.getfield 53, 3) := by decide +kernel
theorem dX4_buffered_36 : decode cX4_buffered 36 = .ok (.iload_n 3, 1) := by decide +kernel
theorem dX4_buffered_37 : decode cX4_buffered 37 = .ok (.iaload, 1) := by decide +kernel
theorem dX4_buffered_38 : decode cX4_buffered 38 = .ok (.if_icmp .ge 7, 3) := by decide +kernel
theorem dX4_buffered_41 : decode cX4_buffered 41 = .ok (.iconst 1, 1) := by decide +kernel
theorem dX4_buffered_42 : decode cX4_buffered 42 = .ok (.goto 4, 3) := by decide +kernel
theorem dX4_buffered_45 : decode cX4_buffered 45 = .ok (.iconst 0, 1) := by decide +kernel
theorem dX4_buffered_46 : decode cX4_buffered 46 = .ok (.istore 5, 2) := by decide +kernel
theorem dX4_buffered_48 : decode cX4_buffered 48 = .ok (.lload_n 1, 1) := by decide +kernel
theorem dX4_buffered_49 : decode cX4_buffered 49 = .ok (.iconst 4, 1) := by decide +kernel
theorem dX4_buffered_50 : decode cX4_buffered 50 = .ok (.lshl, 1) := by decide +kernel
theorem dX4_buffered_51 : decode cX4_buffered 51 = .ok (.iload 5, 2) := by decide +kernel
theorem dX4_buffered_53 : decode cX4_buffered 53 = .ok (.ifCond .eq 35, 3) := by decide +kernel
theorem dX4_buffered_56 : decode cX4_buffered 56 = .ok (.ldc2_w 90, 3) := by decide +kernel
theorem dX4_buffered_59 : decode cX4_buffered 59 = .ok (.aload_n 0, 1) := by decide +kernel
theorem dX4_buffered_60 : decode cX4_buffered 60 = .ok (.getfield 56, 3) := by decide +kernel
theorem dX4_buffered_63 : decode cX4_buffered 63 = .ok (.iconst 2, 1) := by decide +kernel
theorem dX4_buffered_64 : decode cX4_buffered 64 = .ok (.iload_n 3, 1) := by decide +kernel
theorem dX4_buffered_65 : decode cX4_buffered 65 = .ok (.imul, 1) := by decide +kernel
theorem dX4_buffered_66 : decode cX4_buffered 66 = .ok (.iload 4, 2) := by decide +kernel
theorem dX4_buffered_68 : decode cX4_buffered 68 = .ok (.iadd, 1) := by decide +kernel
theorem dX4_buffered_69 : decode cX4_buffered 69 = .ok (.iaload, 1) := by decide +kernel
theorem dX4_buffered_70 : decode cX4_buffered 70 = .ok (.i2l, 1) := by decide +kernel
theorem dX4_buffered_71 : decode cX4_buffered 71 = .ok (.lmul, 1) := by decide +kernel
theorem dX4_buffered_72 : decode cX4_buffered 72 = .ok (.aload_n 0, 1) := by decide +kernel
theorem dX4_buffered_73 : decode cX4_buffered 73 = .ok (.getfield 59, 3) := by decide +kernel
theorem dX4_buffered_76 : decode cX4_buffered 76 = .ok (.iconst 2, 1) := by decide +kernel
theorem dX4_buffered_77 : decode cX4_buffered 77 = .ok (.iload_n 3, 1) := by decide +kernel
theorem dX4_buffered_78 : decode cX4_buffered 78 = .ok (.imul, 1) := by decide +kernel
theorem dX4_buffered_79 : decode cX4_buffered 79 = .ok (.iload 4, 2) := by decide +kernel
theorem dX4_buffered_81 : decode cX4_buffered 81 = .ok (.iadd, 1) := by decide +kernel
theorem dX4_buffered_82 : decode cX4_buffered 82 = .ok (.iaload, 1) := by decide +kernel
