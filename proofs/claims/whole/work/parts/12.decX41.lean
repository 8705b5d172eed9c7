theorem dX4_buffered_83 : decode cX4_buffered 83 = .ok (.i2l, 1) := by decide +kernel
theorem dX4_buffered_84 : decode cX4_buffered 84 = .ok (.ladd, 1) := by decide +kernel
theorem dX4_buffered_85 : decode cX4_buffered 85 = .ok (.goto 4, 3) := by decide +kernel
theorem dX4_buffered_88 : decode cX4_buffered 88 = .ok (.lconst 0, 1) := by decide +kernel
theorem dX4_buffered_89 : decode cX4_buffered 89 = .ok (.lor, 1) := by decide +kernel
theorem dX4_buffered_90 : decode cX4_buffered 90 = .ok (.lstore_n 1, 1) := by decide +kernel
theorem dX4_buffered_91 : decode cX4_buffered 91 = .ok (.iinc 4 1, 3) := by decide +kernel
theorem dX4_buffered_94 : decode cX4_buffered 94 = .ok (.goto (-70), 3) := by decide +kernel
theorem dX4_buffered_97 : decode cX4_buffered 97 = .ok (.iinc 3 1, 3) := by decide +kernel
theorem dX4_buffered_100 : decode cX4_buffered 100 = .ok (.goto (-96), 3) := by decide +kernel
theorem dX4_buffered_103 : decode cX4_buffered 103 = .ok (.lload_n 1, 1) := by decide +kernel
theorem dX4_buffered_104 : decode cX4_buffered 104 = .ok (.lreturn, 1) := by decide +kernel
theorem dX4_store_0 : decode cX4_store 0 = .ok (.iload 4, 2) := by decide +kernel
theorem dX4_store_2 : decode cX4_store 2 = .ok (.ifCond .ne 11, 3) := by decide +kernel
theorem dX4_store_5 : decode cX4_store 5 = .ok (.aload_n 0, 1) := by decide +kernel
theorem dX4_store_6 : decode cX4_store 6 = .ok (.getfield 50, 3) := by decide +kernel
theorem dX4_store_9 : decode cX4_store 9 = .ok (.iload_n 2, 1) := by decide +kernel
theorem dX4_store_10 : decode cX4_store 10 = .ok (.iload_n 3, 1) := by decide +kernel
theorem dX4_store_11 : decode cX4_store 11 = .ok (.iastore, 1) := by decide +kernel
theorem dX4_store_12 : decode cX4_store 12 = .ok (.return_, 1) := by decide +kernel
theorem dX4_store_13 : decode cX4_store 13 = .ok (.aload_n 0, 1) := by decide +kernel
theorem dX4_store_14 : decode cX4_store 14 = .ok (.getfield 56, 3) := by decide +kernel
theorem dX4_store_17 : decode cX4_store 17 = .ok (.iconst 2, 1) := by decide +kernel
theorem dX4_store_18 : decode cX4_store 18 = .ok (.iload_n 1, 1) := by decide +kernel
theorem dX4_store_19 : decode cX4_store 19 = .ok (.imul, 1) := by decide +kernel
theorem dX4_store_20 : decode cX4_store 20 = .ok (.aload_n 0, 1) := by decide +kernel
theorem dX4_store_21 : decode cX4_store 21 = .ok (.getfield 53, 3) := by decide +kernel
theorem dX4_store_24 : decode cX4_store 24 = .ok (.iload_n 1, 1) := by decide +kernel
theorem dX4_store_25 : decode cX4_store 25 = .ok (.iaload, 1) := by decide +kernel
theorem dX4_store_26 : decode cX4_store 26 = .ok (.iadd, 1) := by decide +kernel
theorem dX4_store_27 : decode cX4_store 27 = .ok (.iload_n 2, 1) := by decide +kernel
theorem dX4_store_28 : decode cX4_store 28 = .ok (.iastore, 1) := by decide +kernel
theorem dX4_store_29 : decode cX4_store 29 = .ok (.aload_n 0, 1) := by decide +kernel
theorem dX4_store_30 : decode cX4_store 30 = .ok (.getfield 59, 3) := by decide +kernel
theorem dX4_store_33 : decode cX4_store 33 = .ok (.iconst 2, 1) := by decide +kernel
theorem dX4_store_34 : decode cX4_store 34 = .ok (.iload_n 1, 1) := by decide +kernel
theorem dX4_store_35 : decode cX4_store 35 = .ok (.imul, 1) := by decide +kernel
theorem dX4_store_36 : decode cX4_store 36 = .ok (.aload_n 0, 1) := by decide +kernel
theorem dX4_store_37 : decode cX4_store 37 = .ok (.getfield 53, 3) := by decide +kernel
theorem dX4_store_40 : decode cX4_store 40 = .ok (.iload_n 1, 1) := by decide +kernel
theorem dX4_store_41 : decode cX4_store 41 = .ok (.iaload, 1) := by decide +kernel
theorem dX4_store_42 : decode cX4_store 42 = .ok (.iadd, 1) := by decide +kernel
theorem dX4_store_43 : decode cX4_store 43 = .ok (.iload_n 3, 1) := by decide +kernel
theorem dX4_store_44 : decode cX4_store 44 = .ok (.iastore, 1) := by decide +kernel
theorem dX4_store_45 : decode cX4_store 45 = .ok (.aload_n 0, 1) := by decide +kernel
theorem dX4_store_46 : decode cX4_store 46 = .ok (.getfield 53, 3) := by decide +kernel
theorem dX4_store_49 : decode cX4_store 49 = .ok (.iload_n 1, 1) := by decide +kernel
theorem dX4_store_50 : decode cX4_store 50 = .ok (.dup2, 1) := by decide +kernel
theorem dX4_store_51 : decode cX4_store 51 = .ok (.iaload, 1) := by decide +kernel
theorem dX4_store_52 : decode cX4_store 52 = .ok (.iconst 1, 1) := by decide +kernel
theorem dX4_store_53 : decode cX4_store 53 = .ok (.iadd, 1) := by decide +kernel
theorem dX4_store_54 : decode cX4_store 54 = .ok (.iastore, 1) := by decide +kernel
theorem dX4_store_55 : decode cX4_store 55 = .ok (.return_, 1) := by decide +kernel
theorem dX4_seen_0 : decode cX4_seen 0 = .ok (.aload_n 0, 1) := by decide +kernel
theorem dX4_seen_1 : decode cX4_seen 1 = .ok (.getfield 50, 3) := by decide +kernel
theorem dX4_seen_4 : decode cX4_seen 4 = .ok (.iload_n 2, 1) := by decide +kernel
theorem dX4_seen_5 : decode cX4_seen 5 = .ok (.iaload, 1) := by decide +kernel
theorem dX4_seen_6 : decode cX4_seen 6 = .ok (.istore_n 3, 1) := by decide +kernel
theorem dX4_seen_7 : decode cX4_seen 7 = .ok (.iconst 0, 1) := by decide +kernel
theorem dX4_seen_8 : decode cX4_seen 8 = .ok (.istore 4, 2) := by decide +kernel
theorem dX4_seen_10 : decode cX4_seen 10 = .ok (.iload 4, 2) := by decide +kernel
theorem dX4_seen_12 : decode cX4_seen 12 = .ok (.aload_n 0, 1) := by decide +kernel
theorem dX4_seen_13 : decode cX4_seen 13 = .ok (.getfield 53, 3) := by decide +kernel
theorem dX4_seen_16 : decode cX4_seen 16 = .ok (.iload_n 1, 1) := by decide +kernel
theorem dX4_seen_17 : decode cX4_seen 17 = .ok (.iaload, 1) := by decide +kernel
theorem dX4_seen_18 : decode cX4_seen 18 = .ok (.if_icmp .ge 36, 3) := by decide +kernel
theorem dX4_seen_21 : decode cX4_seen 21 = .ok (.aload_n 0, 1) := by decide +kernel
theorem dX4_seen_22 : decode cX4_seen 22 = .ok (.getfield 56, 3) := by decide +kernel
theorem dX4_seen_25 : decode cX4_seen 25 = .ok (.iconst 2, 1) := by decide +kernel
theorem dX4_seen_26 : decode cX4_seen 26 = .ok (.iload_n 1, 1) := by decide +kernel
theorem dX4_seen_27 : decode cX4_seen 27 = .ok (.imul, 1) := by decide +kernel
theorem dX4_seen_28 : decode cX4_seen 28 = .ok (.iload 4, 2) := by decide +kernel
theorem dX4_seen_30 : decode cX4_seen 30 = .ok (.iadd, 1) := by decide +kernel
theorem dX4_seen_31 : decode cX4_seen 31 = .ok (.iaload, 1) := by decide +kernel
theorem dX4_seen_32 : decode cX4_seen 32 = .ok (.iload_n 2, 1) := by decide +kernel
theorem dX4_seen_33 : decode cX4_seen 33 = .ok (.if_icmp .ne 15, 3) := by decide +kernel
theorem dX4_seen_36 : decode cX4_seen 36 = .ok (.aload_n 0, 1) := by decide +kernel
theorem dX4_seen_37 : decode cX4_seen 37 = .ok (.getfield 59, 3) := by decide +kernel
theorem dX4_seen_40 : decode cX4_seen 40 = .ok (.iconst 2, 1) := by decide +kernel
theorem dX4_seen_41 : decode cX4_seen 41 = .ok (.iload_n 1, 1) := by decide +kernel
theorem dX4_seen_42 : decode cX4_seen 42 = .ok (.imul, 1) := by decide +kernel
theorem dX4_seen_43 : decode cX4_seen 43 = .ok (.iload 4, 2) := by decide +kernel
theorem dX4_seen_45 : decode cX4_seen 45 = .ok (.iadd, 1) := by decide +kernel
theorem dX4_seen_46 : decode cX4_seen 46 = .ok (.iaload, 1) := by decide +kernel
theorem dX4_seen_47 : decode cX4_seen 47 = .ok (.istore_n 3, 1) := by decide +kernel
theorem dX4_seen_48 : decode cX4_seen 48 = .ok (.iinc 4 1, 3) := by decide +kernel
theorem dX4_seen_51 : decode cX4_seen 51 = .ok (.goto (-41), 3) := by decide +kernel
theorem dX4_seen_54 : decode cX4_seen 54 = .ok (.iload_n 3, 1) := by decide +kernel
theorem dX4_seen_55 : decode cX4_seen 55 = .ok (.ireturn, 1) := by decide +kernel
theorem dX4_goesOn_0 : decode cX4_goesOn 0 = .ok (.aload_n 0, 1) := by decide +kernel
theorem dX4_goesOn_1 : decode cX4_goesOn 1 = .ok (.getfield 44, 3) := by decide +kernel
theorem dX4_goesOn_4 : decode cX4_goesOn 4 = .ok (.iload_n 1, 1) := by decide +kernel
theorem dX4_goesOn_5 : decode cX4_goesOn 5 = .ok (.iaload, 1) := by decide +kernel
theorem dX4_goesOn_6 : decode cX4_goesOn 6 = .ok (.aload_n 0, 1) := by decide +kernel
theorem dX4_goesOn_7 : decode cX4_goesOn 7 = .ok (.getfield 7, 3) := by decide +kernel
theorem dX4_goesOn_10 : decode cX4_goesOn 10 = .ok (.iload_n 1, 1) := by decide +kernel
theorem dX4_goesOn_11 : decode cX4_goesOn 11 = .ok (.iaload, 1) := by decide +kernel
theorem dX4_goesOn_12 : decode cX4_goesOn 12 = .ok (.if_icmp .ne 5, 3) := by decide +kernel
theorem dX4_goesOn_15 : decode cX4_goesOn 15 = .ok (.iconst 0, 1) := by decide +kernel
theorem dX4_goesOn_16 : decode cX4_goesOn 16 = .ok (.ireturn, 1) := by decide +kernel
theorem dX4_goesOn_17 : decode cX4_goesOn 17 = .ok (.bipush 6, 2) := by decide +kernel
theorem dX4_goesOn_19 : decode cX4_goesOn 19 = .ok (.iload_n 1, 1) := by decide +kernel
theorem dX4_goesOn_20 : decode cX4_goesOn 20 = .ok (.imul, 1) := by decide +kernel
theorem dX4_goesOn_21 : decode cX4_goesOn 21 = .ok (.aload_n 0, 1) := by decide +kernel
theorem dX4_goesOn_22 : decode cX4_goesOn 22 = .ok (.getfield 44, 3) := by decide +kernel
theorem dX4_goesOn_25 : decode cX4_goesOn 25 = .ok (.iload_n 1, 1) := by decide +kernel
theorem dX4_goesOn_26 : decode cX4_goesOn 26 = .ok (.iaload, 1) := by decide +kernel
theorem dX4_goesOn_27 : decode cX4_goesOn 27 = .ok (.iadd, 1) := by decide +kernel
theorem dX4_goesOn_28 : decode cX4_goesOn 28 = .ok (.istore_n 3, 1) := by decide +kernel
theorem dX4_goesOn_29 : decode cX4_goesOn 29 = .ok (.aload_n 0, 1) := by decide +kernel
theorem dX4_goesOn_30 : decode cX4_goesOn 30 = .ok (.getfield 13, 3) := by decide +kernel
theorem dX4_goesOn_33 : decode cX4_goesOn 33 = .ok (.iload_n 3, 1) := by decide +kernel
theorem dX4_goesOn_34 : decode cX4_goesOn 34 = .ok (.iaload, 1) := by decide +kernel
theorem dX4_goesOn_35 : decode cX4_goesOn 35 = .ok (.istore 4, 2) := by decide +kernel
theorem dX4_goesOn_37 : decode cX4_goesOn 37 = .ok (.aload_n 0, 1) := by decide +kernel
theorem dX4_goesOn_38 : decode cX4_goesOn 38 = .ok (.getfield 16, 3) := by decide +kernel
theorem dX4_goesOn_41 : decode cX4_goesOn 41 = .ok (.iload_n 3, 1) := by decide +kernel
theorem dX4_goesOn_42 : decode cX4_goesOn 42 = .ok (.iaload, 1) := by decide +kernel
theorem dX4_goesOn_43 : decode cX4_goesOn 43 = .ok (.istore 5, 2) := by decide +kernel
theorem dX4_goesOn_45 : decode cX4_goesOn 45 = .ok (.iconst 4, 1) := by decide +kernel
theorem dX4_goesOn_46 : decode cX4_goesOn 46 = .ok (.iload_n 1, 1) := by decide +kernel
theorem dX4_goesOn_47 : decode cX4_goesOn 47 = .ok (.imul, 1) := by decide +kernel
theorem dX4_goesOn_48 : decode cX4_goesOn 48 = .ok (.aload_n 0, 1) := by decide +kernel
theorem dX4_goesOn_49 : decode cX4_goesOn 49 = .ok (.getfield 19, 3) := by decide +kernel
theorem dX4_goesOn_52 : decode cX4_goesOn 52 = .ok (.iload_n 3, 1) := by decide +kernel
theorem dX4_goesOn_53 : decode cX4_goesOn 53 = .ok (.iaload, 1) := by decide +kernel
theorem dX4_goesOn_54 : decode cX4_goesOn 54 = .ok (.iadd, 1) := by decide +kernel
theorem dX4_goesOn_55 : decode cX4_goesOn 55 = .ok (.istore 6, 2) := by decide +kernel
theorem dX4_goesOn_57 : decode cX4_goesOn 57 = .ok (.iload 4, 2) := by decide +kernel
theorem dX4_goesOn_59 : decode cX4_goesOn 59 = .ok (.iconst 1, 1) := by decide +kernel
theorem dX4_goesOn_60 : decode cX4_goesOn 60 = .ok (.if_icmp .gt 13, 3) := by decide +kernel
theorem dX4_goesOn_63 : decode cX4_goesOn 63 = .ok (.aload_n 0, 1) := by decide +kernel
theorem dX4_goesOn_64 : decode cX4_goesOn 64 = .ok (.getfield 53, 3) := by decide +kernel
theorem dX4_goesOn_67 : decode cX4_goesOn 67 = .ok (.iload_n 1, 1) := by decide +kernel
theorem dX4_goesOn_68 : decode cX4_goesOn 68 = .ok (.iaload, 1) := by decide +kernel
theorem dX4_goesOn_69 : decode cX4_goesOn 69 = .ok (.iconst 2, 1) := by decide +kernel
theorem dX4_goesOn_70 : decode cX4_goesOn 70 = .ok (.if_icmp .eq 24, 3) := by decide +kernel
theorem dX4_goesOn_73 : decode cX4_goesOn 73 = .ok (.iload 4, 2) := by decide +kernel
theorem dX4_goesOn_75 : decode cX4_goesOn 75 = .ok (.iconst 3, 1) := by decide +kernel
theorem dX4_goesOn_76 : decode cX4_goesOn 76 = .ok (.if_icmp .lt 20, 3) := by decide +kernel
theorem dX4_goesOn_79 : decode cX4_goesOn 79 = .ok (.iload 4, 2) := by decide +kernel
theorem dX4_goesOn_81 : decode cX4_goesOn 81 = .ok (.iconst 5, 1) := by decide +kernel
theorem dX4_goesOn_82 : decode cX4_goesOn 82 = .ok (.if_icmp .gt 14, 3) := by decide +kernel
theorem dX4_goesOn_85 : decode cX4_goesOn 85 = .ok (.aload_n 0, 1) := by decide +kernel
theorem dX4_goesOn_86 : decode cX4_goesOn 86 = .ok (.getfield 53, 3) := by decide +kernel
theorem dX4_goesOn_89 : decode cX4_goesOn 89 = .ok (.iload_n 1, 1) := by decide +kernel
theorem dX4_goesOn_90 : decode cX4_goesOn 90 = .ok (.iaload, 1) := by decide +kernel
theorem dX4_goesOn_91 : decode cX4_goesOn 91 = .ok (.ifCond .le 5, 3) := by decide +kernel
theorem dX4_goesOn_94 : decode cX4_goesOn 94 = .ok (.iconst 0, 1) := by decide +kernel
theorem dX4_goesOn_95 : decode cX4_goesOn 95 = .ok (.ireturn, 1) := by decide +kernel
theorem dX4_goesOn_96 : decode cX4_goesOn 96 = .ok (.aload_n 0, 1) := by decide +kernel
theorem dX4_goesOn_97 : decode cX4_goesOn 97 = .ok (.getfield 44, 3) := by decide +kernel
theorem dX4_goesOn_100 : decode cX4_goesOn 100 = .ok (.iload_n 1, 1) := by decide +kernel
theorem dX4_goesOn_101 : decode cX4_goesOn 101 = .ok (.dup2, 1) := by decide +kernel
theorem dX4_goesOn_102 : decode cX4_goesOn 102 = .ok (.iaload, 1) := by decide +kernel
theorem dX4_goesOn_103 : decode cX4_goesOn 103 = .ok (.iconst 1, 1) := by decide +kernel
theorem dX4_goesOn_104 : decode cX4_goesOn 104 = .ok (.iadd, 1) := by decide +kernel
theorem dX4_goesOn_105 : decode cX4_goesOn 105 = .ok (.iastore, 1) := by decide +kernel
theorem dX4_goesOn_106 : decode cX4_goesOn 106 = .ok (.iload 4, 2) := by decide +kernel
theorem dX4_goesOn_108 : decode cX4_goesOn 108 = .ok (.tableswitch 165 0 5 #[40, 57, 75, 92, 95, 130], 40) := by decide +kernel
theorem dX4_goesOn_148 : decode cX4_goesOn 148 = .ok (.aload_n 0, 1) := by decide +kernel
theorem dX4_goesOn_149 : decode cX4_goesOn 149 = .ok (.iload_n 1, 1) := by decide +kernel
theorem dX4_goesOn_150 : decode cX4_goesOn 150 = .ok (.iload 5, 2) := by decide +kernel
theorem dX4_goesOn_152 : decode cX4_goesOn 152 = .ok (.aload_n 0, 1) := by decide +kernel
theorem dX4_goesOn_153 : decode cX4_goesOn 153 = .ok (.getfield 19, 3) := by decide +kernel
theorem dX4_goesOn_156 : decode cX4_goesOn 156 = .ok (.iload_n 3, 1) := by decide +kernel
theorem dX4_goesOn_157 : decode cX4_goesOn 157 = .ok (.iaload, 1) := by decide +kernel
theorem dX4_goesOn_158 : decode cX4_goesOn 158 = .ok (.iload_n 2, 1) := by decide +kernel
theorem dX4_goesOn_159 : decode cX4_goesOn 159 = .ok (.invokevirtual 92, 3) := by decide +kernel
theorem dX4_goesOn_162 : decode cX4_goesOn 162 = .ok (.goto 163, 3) := by decide +kernel
theorem dX4_goesOn_165 : decode cX4_goesOn 165 = .ok (.aload_n 0, 1) := by decide +kernel
theorem dX4_goesOn_166 : decode cX4_goesOn 166 = .ok (.iload_n 1, 1) := by decide +kernel
theorem dX4_goesOn_167 : decode cX4_goesOn 167 = .ok (.iload 5, 2) := by decide +kernel
theorem dX4_goesOn_169 : decode cX4_goesOn 169 = .ok (.aload_n 0, 1) := by decide +kernel
theorem dX4_goesOn_170 : decode cX4_goesOn 170 = .ok (.getfield 47, 3) := by decide +kernel
theorem dX4_goesOn_173 : decode cX4_goesOn 173 = .ok (.iload 6, 2) := by decide +kernel
theorem dX4_goesOn_175 : decode cX4_goesOn 175 = .ok (.iaload, 1) := by decide +kernel
theorem dX4_goesOn_176 : decode cX4_goesOn 176 = .ok (.iload_n 2, 1) := by decide +kernel
theorem dX4_goesOn_177 : decode cX4_goesOn 177 = .ok (.invokevirtual 92, 3) := by decide +kernel
theorem dX4_goesOn_180 : decode cX4_goesOn 180 = .ok (.goto 145, 3) := by decide +kernel
theorem dX4_goesOn_183 : decode cX4_goesOn 183 = .ok (.aload_n 0, 1) := by decide +kernel
theorem dX4_goesOn_184 : decode cX4_goesOn 184 = .ok (.getfield 47, 3) := by decide +kernel
theorem dX4_goesOn_187 : decode cX4_goesOn 187 = .ok (.iload 6, 2) := by decide +kernel
theorem dX4_goesOn_189 : decode cX4_goesOn 189 = .ok (.aload_n 0, 1) := by decide +kernel
theorem dX4_goesOn_190 : decode cX4_goesOn 190 = .ok (.iload_n 1, 1) := by decide +kernel
theorem dX4_goesOn_191 : decode cX4_goesOn 191 = .ok (.iload 5, 2) := by decide +kernel
theorem dX4_goesOn_193 : decode cX4_goesOn 193 = .ok (.invokevirtual 96, 3) := by decide +kernel
theorem dX4_goesOn_196 : decode cX4_goesOn 196 = .ok (.iastore, 1) := by decide +kernel
theorem dX4_goesOn_197 : decode cX4_goesOn 197 = .ok (.goto 128, 3) := by decide +kernel
theorem dX4_goesOn_200 : decode cX4_goesOn 200 = .ok (.goto 125, 3) := by decide +kernel
theorem dX4_goesOn_203 : decode cX4_goesOn 203 = .ok (.aload_n 0, 1) := by decide +kernel
theorem dX4_goesOn_204 : decode cX4_goesOn 204 = .ok (.getfield 50, 3) := by decide +kernel
theorem dX4_goesOn_207 : decode cX4_goesOn 207 = .ok (.iload 5, 2) := by decide +kernel
theorem dX4_goesOn_209 : decode cX4_goesOn 209 = .ok (.iaload, 1) := by decide +kernel
theorem dX4_goesOn_210 : decode cX4_goesOn 210 = .ok (.istore 7, 2) := by decide +kernel
theorem dX4_goesOn_212 : decode cX4_goesOn 212 = .ok (.aload_n 0, 1) := by decide +kernel
theorem dX4_goesOn_213 : decode cX4_goesOn 213 = .ok (.getfield 50, 3) := by decide +kernel
theorem dX4_goesOn_216 : decode cX4_goesOn 216 = .ok (.iload 5, 2) := by decide +kernel
theorem dX4_goesOn_218 : decode cX4_goesOn 218 = .ok (.aload_n 0, 1) := by decide +kernel
theorem dX4_goesOn_219 : decode cX4_goesOn 219 = .ok (.getfield 47, 3) := by decide +kernel
theorem dX4_goesOn_222 : decode cX4_goesOn 222 = .ok (.iload 6, 2) := by decide +kernel
theorem dX4_goesOn_224 : decode cX4_goesOn 224 = .ok (.iaload, 1) := by decide +kernel
theorem dX4_goesOn_225 : decode cX4_goesOn 225 = .ok (.iastore, 1) := by decide +kernel
theorem dX4_goesOn_226 : decode cX4_goesOn 226 = .ok (.aload_n 0, 1) := by decide +kernel
theorem dX4_goesOn_227 : decode cX4_goesOn 227 = .ok (.getfield 47, 3) := by decide +kernel
theorem dX4_goesOn_230 : decode cX4_goesOn 230 = .ok (.iload 6, 2) := by decide +kernel
theorem dX4_goesOn_232 : decode cX4_goesOn 232 = .ok (.iload 7, 2) := by decide +kernel
theorem dX4_goesOn_234 : decode cX4_goesOn 234 = .ok (.iastore, 1) := by decide +kernel
theorem dX4_goesOn_235 : decode cX4_goesOn 235 = .ok (.goto 90, 3) := by decide +kernel
theorem dX4_goesOn_238 : decode cX4_goesOn 238 = .ok (.aload_n 0, 1) := by decide +kernel
theorem dX4_goesOn_239 : decode cX4_goesOn 239 = .ok (.getfield 47, 3) := by decide +kernel
theorem dX4_goesOn_242 : decode cX4_goesOn 242 = .ok (.iload 6, 2) := by decide +kernel
theorem dX4_goesOn_244 : decode cX4_goesOn 244 = .ok (.aload_n 0, 1) := by decide +kernel
theorem dX4_goesOn_245 : decode cX4_goesOn 245 = .ok (.getfield 50, 3) := by decide +kernel
theorem dX4_goesOn_248 : decode cX4_goesOn 248 = .ok (.iload 5, 2) := by decide +kernel
theorem dX4_goesOn_250 : decode cX4_goesOn 250 = .ok (.iaload, 1) := by decide +kernel
theorem dX4_goesOn_251 : decode cX4_goesOn 251 = .ok (.iastore, 1) := by decide +kernel
theorem dX4_goesOn_252 : decode cX4_goesOn 252 = .ok (.aload_n 0, 1) := by decide +kernel
theorem dX4_goesOn_253 : decode cX4_goesOn 253 = .ok (.getfield 50, 3) := by decide +kernel
theorem dX4_goesOn_256 : decode cX4_goesOn 256 = .ok (.iload 5, 2) := by decide +kernel
theorem dX4_goesOn_258 : decode cX4_goesOn 258 = .ok (.aload_n 0, 1) := by decide +kernel
theorem dX4_goesOn_259 : decode cX4_goesOn 259 = .ok (.getfield 50, 3) := by decide +kernel
theorem dX4_goesOn_262 : decode cX4_goesOn 262 = .ok (.iload 5, 2) := by decide +kernel
theorem dX4_goesOn_264 : decode cX4_goesOn 264 = .ok (.iaload, 1) := by decide +kernel
theorem dX4_goesOn_265 : decode cX4_goesOn 265 = .ok (.iconst 1, 1) := by decide +kernel
theorem dX4_goesOn_266 : decode cX4_goesOn 266 = .ok (.iadd, 1) := by decide +kernel
theorem dX4_goesOn_267 : decode cX4_goesOn 267 = .ok (.iconst 4, 1) := by decide +kernel
theorem dX4_goesOn_268 : decode cX4_goesOn 268 = .ok (.irem, 1) := by decide +kernel
theorem dX4_goesOn_269 : decode cX4_goesOn 269 = .ok (.iastore, 1) := by decide +kernel
theorem dX4_goesOn_270 : decode cX4_goesOn 270 = .ok (.goto 55, 3) := by decide +kernel
theorem dX4_goesOn_273 : decode cX4_goesOn 273 = .ok (.aload_n 0, 1) := by decide +kernel
theorem dX4_goesOn_274 : decode cX4_goesOn 274 = .ok (.getfield 47, 3) := by decide +kernel
theorem dX4_goesOn_277 : decode cX4_goesOn 277 = .ok (.iload 6, 2) := by decide +kernel
theorem dX4_goesOn_279 : decode cX4_goesOn 279 = .ok (.iaload, 1) := by decide +kernel
theorem dX4_goesOn_280 : decode cX4_goesOn 280 = .ok (.ifCond .ne 45, 3) := by decide +kernel
theorem dX4_goesOn_283 : decode cX4_goesOn 283 = .ok (.aload_n 0, 1) := by decide +kernel
theorem dX4_goesOn_284 : decode cX4_goesOn 284 = .ok (.getfield 44, 3) := by decide +kernel
theorem dX4_goesOn_287 : decode cX4_goesOn 287 = .ok (.iload_n 1, 1) := by decide +kernel
theorem dX4_goesOn_288 : decode cX4_goesOn 288 = .ok (.aload_n 0, 1) := by decide +kernel
theorem dX4_goesOn_289 : decode cX4_goesOn 289 = .ok (.getfield 44, 3) := by decide +kernel
theorem dX4_goesOn_292 : decode cX4_goesOn 292 = .ok (.iload_n 1, 1) := by decide +kernel
theorem dX4_goesOn_293 : decode cX4_goesOn 293 = .ok (.iaload, 1) := by decide +kernel
theorem dX4_goesOn_294 : decode cX4_goesOn 294 = .ok (.iload 5, 2) := by decide +kernel
theorem dX4_goesOn_296 : decode cX4_goesOn 296 = .ok (.iadd, 1) := by decide +kernel
theorem dX4_goesOn_297 : decode cX4_goesOn 297 = .ok (.aload_n 0, 1) := by decide +kernel
theorem dX4_goesOn_298 : decode cX4_goesOn 298 = .ok (.getfield 7, 3) := by decide +kernel
theorem dX4_goesOn_301 : decode cX4_goesOn 301 = .ok (.iload_n 1, 1) := by decide +kernel
theorem dX4_goesOn_302 : decode cX4_goesOn 302 = .ok (.iaload, 1) := by decide +kernel
theorem dX4_goesOn_303 : decode cX4_goesOn 303 = .ok (.if_icmp .ge 15, 3) := by decide +kernel
theorem dX4_goesOn_306 : decode cX4_goesOn 306 = .ok (.aload_n 0, 1) := by decide +kernel
theorem dX4_goesOn_307 : decode cX4_goesOn 307 = .ok (.getfield 44, 3) := by decide +kernel
theorem dX4_goesOn_310 : decode cX4_goesOn 310 = .ok (.iload_n 1, 1) := by decide +kernel
theorem dX4_goesOn_311 : decode cX4_goesOn 311 = .ok (.iaload, 1) := by decide +kernel
theorem dX4_goesOn_312 : decode cX4_goesOn 312 = .ok (.iload 5, 2) := by decide +kernel
theorem dX4_goesOn_314 : decode cX4_goesOn 314 = .ok (.iadd, 1) := by decide +kernel
theorem dX4_goesOn_315 : decode cX4_goesOn 315 = .ok (.goto 9, 3) := by decide +kernel
theorem dX4_goesOn_318 : decode cX4_goesOn 318 = .ok (.aload_n 0, 1) := by decide +kernel
theorem dX4_goesOn_319 : decode cX4_goesOn 319 = .ok (.getfield 7, 3) := by decide +kernel
theorem dX4_goesOn_322 : decode cX4_goesOn 322 = .ok (.iload_n 1, 1) := by decide +kernel
theorem dX4_goesOn_323 : decode cX4_goesOn 323 = .ok (.iaload, 1) := by decide +kernel
theorem dX4_goesOn_324 : decode cX4_goesOn 324 = .ok (.iastore, 1) := by decide +kernel
theorem dX4_goesOn_325 : decode cX4_goesOn 325 = .ok (.iconst 1, 1) := by decide +kernel
theorem dX4_goesOn_326 : decode cX4_goesOn 326 = .ok (.ireturn, 1) := by decide +kernel
theorem dX4_leaves_0 : decode cX4_leaves 0 = .ok (.iconst 0, 1) := by decide +kernel
theorem dX4_leaves_1 : decode cX4_leaves 1 = .ok (.istore 4, 2) := by decide +kernel
theorem dX4_leaves_3 : decode cX4_leaves 3 = .ok (.iload 4, 2) := by decide +kernel
theorem dX4_leaves_5 : decode cX4_leaves 5 = .ok (.aload_n 0, 1) := by decide +kernel
theorem dX4_leaves_6 : decode cX4_leaves 6 = .ok (.getfield 53, 3) := by decide +kernel
theorem dX4_leaves_9 : decode cX4_leaves 9 = .ok (.iload_n 1, 1) := by decide +kernel
theorem dX4_leaves_10 : decode cX4_leaves 10 = .ok (.iaload, 1) := by decide +kernel
theorem dX4_leaves_11 : decode cX4_leaves 11 = .ok (.if_icmp .ge 24, 3) := by decide +kernel
theorem dX4_leaves_14 : decode cX4_leaves 14 = .ok (.aload_n 0, 1) := by decide +kernel
theorem dX4_leaves_15 : decode cX4_leaves 15 = .ok (.getfield 56, 3) := by decide +kernel
theorem dX4_leaves_18 : decode cX4_leaves 18 = .ok (.iconst 2, 1) := by decide +kernel
theorem dX4_leaves_19 : decode cX4_leaves 19 = .ok (.iload_n 1, 1) := by decide +kernel
theorem dX4_leaves_20 : decode cX4_leaves 20 = .ok (.imul, 1) := by decide +kernel
theorem dX4_leaves_21 : decode cX4_leaves 21 = .ok (.iload 4, 2) := by decide +kernel
theorem dX4_leaves_23 : decode cX4_leaves 23 = .ok (.iadd, 1) := by decide +kernel
theorem dX4_leaves_24 : decode cX4_leaves 24 = .ok (.iaload, 1) := by decide +kernel
theorem dX4_leaves_25 : decode cX4_leaves 25 = .ok (.iload_n 2, 1) := by decide +kernel
theorem dX4_leaves_26 : decode cX4_leaves 26 = .ok (.if_icmp .eq 9, 3) := by decide +kernel
theorem dX4_leaves_29 : decode cX4_leaves 29 = .ok (.iinc 4 1, 3) := by decide +kernel
theorem dX4_leaves_32 : decode cX4_leaves 32 = .ok (.goto (-29), 3) := by decide +kernel
theorem dX4_leaves_35 : decode cX4_leaves 35 = .ok (.iload 4, 2) := by decide +kernel
theorem dX4_leaves_37 : decode cX4_leaves 37 = .ok (.aload_n 0, 1) := by decide +kernel
theorem dX4_leaves_38 : decode cX4_leaves 38 = .ok (.getfield 53, 3) := by decide +kernel
theorem dX4_leaves_41 : decode cX4_leaves 41 = .ok (.iload_n 1, 1) := by decide +kernel
theorem dX4_leaves_42 : decode cX4_leaves 42 = .ok (.iaload, 1) := by decide +kernel
theorem dX4_leaves_43 : decode cX4_leaves 43 = .ok (.if_icmp .eq 13, 3) := by decide +kernel
theorem dX4_leaves_46 : decode cX4_leaves 46 = .ok (.iload_n 3, 1) := by decide +kernel
theorem dX4_leaves_47 : decode cX4_leaves 47 = .ok (.iconst 1, 1) := by decide +kernel
theorem dX4_leaves_48 : decode cX4_leaves 48 = .ok (.if_icmp .ne 10, 3) := by decide +kernel
theorem dX4_leaves_51 : decode cX4_leaves 51 = .ok (.iload 4, 2) := by decide +kernel
theorem dX4_leaves_53 : decode cX4_leaves 53 = .ok (.ifCond .le 5, 3) := by decide +kernel
theorem dX4_leaves_56 : decode cX4_leaves 56 = .ok (.iconst 0, 1) := by decide +kernel
theorem dX4_leaves_57 : decode cX4_leaves 57 = .ok (.ireturn, 1) := by decide +kernel
theorem dX4_leaves_58 : decode cX4_leaves 58 = .ok (.aload_n 0, 1) := by decide +kernel
theorem dX4_leaves_59 : decode cX4_leaves 59 = .ok (.getfield 50, 3) := by decide +kernel
theorem dX4_leaves_62 : decode cX4_leaves 62 = .ok (.iload_n 2, 1) := by decide +kernel
theorem dX4_leaves_63 : decode cX4_leaves 63 = .ok (.aload_n 0, 1) := by decide +kernel
theorem dX4_leaves_64 : decode cX4_leaves 64 = .ok (.getfield 59, 3) := by decide +kernel
theorem dX4_leaves_67 : decode cX4_leaves 67 = .ok (.iconst 2, 1) := by decide +kernel
theorem dX4_leaves_68 : decode cX4_leaves 68 = .ok (.iload_n 1, 1) := by decide +kernel
theorem dX4_leaves_69 : decode cX4_leaves 69 = .ok (.imul, 1) := by decide +kernel
theorem dX4_leaves_70 : decode cX4_leaves 70 = .ok (.iload 4, 2) := by decide +kernel
theorem dX4_leaves_72 : decode cX4_leaves 72 = .ok (.iadd, 1) := by decide +kernel
theorem dX4_leaves_73 : decode cX4_leaves 73 = .ok (.iaload, 1) := by decide +kernel
theorem dX4_leaves_74 : decode cX4_leaves 74 = .ok (.iastore, 1) := by decide +kernel
theorem dX4_leaves_75 : decode cX4_leaves 75 = .ok (.aload_n 0, 1) := by decide +kernel
theorem dX4_leaves_76 : decode cX4_leaves 76 = .ok (.getfield 53, 3) := by decide +kernel
theorem dX4_leaves_79 : decode cX4_leaves 79 = .ok (.iload_n 1, 1) := by decide +kernel
theorem dX4_leaves_80 : decode cX4_leaves 80 = .ok (.dup2, 1) := by decide +kernel
theorem dX4_leaves_81 : decode cX4_leaves 81 = .ok (.iaload, 1) := by decide +kernel
theorem dX4_leaves_82 : decode cX4_leaves 82 = .ok (.iconst 1, 1) := by decide +kernel
theorem dX4_leaves_83 : decode cX4_leaves 83 = .ok (.isub, 1) := by decide +kernel
theorem dX4_leaves_84 : decode cX4_leaves 84 = .ok (.iastore, 1) := by decide +kernel
theorem dX4_leaves_85 : decode cX4_leaves 85 = .ok (.iload 4, 2) := by decide +kernel
theorem dX4_leaves_87 : decode cX4_leaves 87 = .ok (.aload_n 0, 1) := by decide +kernel
theorem dX4_leaves_88 : decode cX4_leaves 88 = .ok (.getfield 53, 3) := by decide +kernel
theorem dX4_leaves_91 : decode cX4_leaves 91 = .ok (.iload_n 1, 1) := by decide +kernel
theorem dX4_leaves_92 : decode cX4_leaves 92 = .ok (.iaload, 1) := by decide +kernel
theorem dX4_leaves_93 : decode cX4_leaves 93 = .ok (.if_icmp .ge 57, 3) := by decide +kernel
theorem dX4_leaves_96 : decode cX4_leaves 96 = .ok (.aload_n 0, 1) := by decide +kernel
theorem dX4_leaves_97 : decode cX4_leaves 97 = .ok (.getfield 56, 3) := by decide +kernel
theorem dX4_leaves_100 : decode cX4_leaves 100 = .ok (.iconst 2, 1) := by decide +kernel
theorem dX4_leaves_101 : decode cX4_leaves 101 = .ok (.iload_n 1, 1) := by decide +kernel
theorem dX4_leaves_102 : decode cX4_leaves 102 = .ok (.imul, 1) := by decide +kernel
theorem dX4_leaves_103 : decode cX4_leaves 103 = .ok (.iload 4, 2) := by decide +kernel
theorem dX4_leaves_105 : decode cX4_leaves 105 = .ok (.iadd, 1) := by decide +kernel
theorem dX4_leaves_106 : decode cX4_leaves 106 = .ok (.aload_n 0, 1) := by decide +kernel
theorem dX4_leaves_107 : decode cX4_leaves 107 = .ok (.getfield 56, 3) := by decide +kernel
theorem dX4_leaves_110 : decode cX4_leaves 110 = .ok (.iconst 2, 1) := by decide +kernel
theorem dX4_leaves_111 : decode cX4_leaves 111 = .ok (.iload_n 1, 1) := by decide +kernel
theorem dX4_leaves_112 : decode cX4_leaves 112 = .ok (.imul, 1) := by decide +kernel
theorem dX4_leaves_113 : decode cX4_leaves 113 = .ok (.iload 4, 2) := by decide +kernel
theorem dX4_leaves_115 : decode cX4_leaves 115 = .ok (.iadd, 1) := by decide +kernel
theorem dX4_leaves_116 : decode cX4_leaves 116 = .ok (.iconst 1, 1) := by decide +kernel
theorem dX4_leaves_117 : decode cX4_leaves 117 = .ok (.iadd, 1) := by decide +kernel
theorem dX4_leaves_118 : decode cX4_leaves 118 = .ok (.iaload, 1) := by decide +kernel
theorem dX4_leaves_119 : decode cX4_leaves 119 = .ok (.iastore, 1) := by decide +kernel
theorem dX4_leaves_120 : decode cX4_leaves 120 = .ok (.aload_n 0, 1) := by decide +kernel
theorem dX4_leaves_121 : decode cX4_leaves 121 = .ok (.getfield 59, 3) := by decide +kernel
theorem dX4_leaves_124 : decode cX4_leaves 124 = .ok (.iconst 2, 1) := by decide +kernel
theorem dX4_leaves_125 : decode cX4_leaves 125 = .ok (.iload_n 1, 1) := by decide +kernel
theorem dX4_leaves_126 : decode cX4_leaves 126 = .ok (.imul, 1) := by decide +kernel
theorem dX4_leaves_127 : decode cX4_leaves 127 = .ok (.iload 4, 2) := by decide +kernel
theorem dX4_leaves_129 : decode cX4_leaves 129 = .ok (.iadd, 1) := by decide +kernel
theorem dX4_leaves_130 : decode cX4_leaves 130 = .ok (.aload_n 0, 1) := by decide +kernel
theorem dX4_leaves_131 : decode cX4_leaves 131 = .ok (.getfield 59, 3) := by decide +kernel
theorem dX4_leaves_134 : decode cX4_leaves 134 = .ok (.iconst 2, 1) := by decide +kernel
theorem dX4_leaves_135 : decode cX4_leaves 135 = .ok (.iload_n 1, 1) := by decide +kernel
theorem dX4_leaves_136 : decode cX4_leaves 136 = .ok (.imul, 1) := by decide +kernel
theorem dX4_leaves_137 : decode cX4_leaves 137 = .ok (.iload 4, 2) := by decide +kernel
theorem dX4_leaves_139 : decode cX4_leaves 139 = .ok (.iadd, 1) := by decide +kernel
theorem dX4_leaves_140 : decode cX4_leaves 140 = .ok (.iconst 1, 1) := by decide +kernel
theorem dX4_leaves_141 : decode cX4_leaves 141 = .ok (.iadd, 1) := by decide +kernel
theorem dX4_leaves_142 : decode cX4_leaves 142 = .ok (.iaload, 1) := by decide +kernel
theorem dX4_leaves_143 : decode cX4_leaves 143 = .ok (.iastore, 1) := by decide +kernel
theorem dX4_leaves_144 : decode cX4_leaves 144 = .ok (.iinc 4 1, 3) := by decide +kernel
theorem dX4_leaves_147 : decode cX4_leaves 147 = .ok (.goto (-62), 3) := by decide +kernel
theorem dX4_leaves_150 : decode cX4_leaves 150 = .ok (.iconst 1, 1) := by decide +kernel
theorem dX4_leaves_151 : decode cX4_leaves 151 = .ok (.ireturn, 1) := by decide +kernel
theorem dX4_makes_0 : decode cX4_makes 0 = .ok (.iload_n 1, 1) := by decide +kernel
theorem dX4_makes_1 : decode cX4_makes 1 = .ok (.iconst 4, 1) := by decide +kernel
theorem dX4_makes_2 : decode cX4_makes 2 = .ok (.if_icmp .ge 12, 3) := by decide +kernel
theorem dX4_makes_5 : decode cX4_makes 5 = .ok (.aload_n 0, 1) := by decide +kernel
theorem dX4_makes_6 : decode cX4_makes 6 = .ok (.iload_n 1, 1) := by decide +kernel
theorem dX4_makes_7 : decode cX4_makes 7 = .ok (.iload_n 2, 1) := by decide +kernel
theorem dX4_makes_8 : decode cX4_makes 8 = .ok (.invokevirtual 100, 3) := by decide +kernel
theorem dX4_makes_11 : decode cX4_makes 11 = .ok (.goto 18, 3) := by decide +kernel
theorem dX4_makes_14 : decode cX4_makes 14 = .ok (.aload_n 0, 1) := by decide +kernel
theorem dX4_makes_15 : decode cX4_makes 15 = .ok (.iload_n 1, 1) := by decide +kernel
theorem dX4_makes_16 : decode cX4_makes 16 = .ok (.iconst 4, 1) := by decide +kernel
theorem dX4_makes_17 : decode cX4_makes 17 = .ok (.isub, 1) := by decide +kernel
theorem dX4_makes_18 : decode cX4_makes 18 = .ok (.iconst 4, 1) := by decide +kernel
theorem dX4_makes_19 : decode cX4_makes 19 = .ok (.idiv, 1) := by decide +kernel
theorem dX4_makes_20 : decode cX4_makes 20 = .ok (.iload_n 1, 1) := by decide +kernel
theorem dX4_makes_21 : decode cX4_makes 21 = .ok (.iconst 4, 1) := by decide +kernel
theorem dX4_makes_22 : decode cX4_makes 22 = .ok (.isub, 1) := by decide +kernel
theorem dX4_makes_23 : decode cX4_makes 23 = .ok (.iconst 4, 1) := by decide +kernel
theorem dX4_makes_24 : decode cX4_makes 24 = .ok (.irem, 1) := by decide +kernel
theorem dX4_makes_25 : decode cX4_makes 25 = .ok (.iload_n 2, 1) := by decide +kernel
theorem dX4_makes_26 : decode cX4_makes 26 = .ok (.invokevirtual 104, 3) := by decide +kernel
theorem dX4_makes_29 : decode cX4_makes 29 = .ok (.ireturn, 1) := by decide +kernel
theorem dX4_isOver_0 : decode cX4_isOver 0 = .ok (.iconst 1, 1) := by decide +kernel
theorem dX4_isOver_1 : decode cX4_isOver 1 = .ok (.istore_n 1, 1) := by decide +kernel
theorem dX4_isOver_2 : decode cX4_isOver 2 = .ok (.iconst 0, 1) := by decide +kernel
theorem dX4_isOver_3 : decode cX4_isOver 3 = .ok (.istore_n 2, 1) := by decide +kernel
theorem dX4_isOver_4 : decode cX4_isOver 4 = .ok (.iload_n 2, 1) := by decide +kernel
theorem dX4_isOver_5 : decode cX4_isOver 5 = .ok (.iconst 4, 1) := by decide +kernel
theorem dX4_isOver_6 : decode cX4_isOver 6 = .ok (.if_icmp .ge 43, 3) := by decide +kernel
theorem dX4_isOver_9 : decode cX4_isOver 9 = .ok (.iload_n 1, 1) := by decide +kernel
theorem dX4_isOver_10 : decode cX4_isOver 10 = .ok (.ifCond .eq 31, 3) := by decide +kernel
theorem dX4_isOver_13 : decode cX4_isOver 13 = .ok (.aload_n 0, 1) := by decide +kernel
theorem dX4_isOver_14 : decode cX4_isOver 14 = .ok (.getfield 44, 3) := by decide +kernel
theorem dX4_isOver_17 : decode cX4_isOver 17 = .ok (.iload_n 2, 1) := by decide +kernel
theorem dX4_isOver_18 : decode cX4_isOver 18 = .ok (.iaload, 1) := by decide +kernel
theorem dX4_isOver_19 : decode cX4_isOver 19 = .ok (.aload_n 0, 1) := by decide +kernel
theorem dX4_isOver_20 : decode cX4_isOver 20 = .ok (.getfield 7, 3) := by decide +kernel
theorem dX4_isOver_23 : decode cX4_isOver 23 = .ok (.iload_n 2, 1) := by decide +kernel
theorem dX4_isOver_24 : decode cX4_isOver 24 = .ok (.iaload, 1) := by decide +kernel
theorem dX4_isOver_25 : decode cX4_isOver 25 = .ok (.if_icmp .ne 16, 3) := by decide +kernel
theorem dX4_isOver_28 : decode cX4_isOver 28 = .ok (.aload_n 0, 1) := by decide +kernel
theorem dX4_isOver_29 : decode cX4_isOver 29 = .ok (.getfield 53, 3) := by decide +kernel
theorem dX4_isOver_32 : decode cX4_isOver 32 = .ok (.iload_n 2, 1) := by decide +kernel
theorem dX4_isOver_33 : decode cX4_isOver 33 = .ok (.iaload, 1) := by decide +kernel
theorem dX4_isOver_34 : decode cX4_isOver 34 = .ok (.ifCond .ne 7, 3) := by decide +kernel
theorem dX4_isOver_37 : decode cX4_isOver 37 = .ok (.iconst 1, 1) := by decide +kernel
theorem dX4_isOver_38 : decode cX4_isOver 38 = .ok (.goto 4, 3) := by decide +kernel
theorem dX4_isOver_41 : decode cX4_isOver 41 = .ok (.iconst 0, 1) := by decide +kernel
theorem dX4_isOver_42 : decode cX4_isOver 42 = .ok (.istore_n 1, 1) := by decide +kernel
theorem dX4_isOver_43 : decode cX4_isOver 43 = .ok (.iinc 2 1, 3) := by decide +kernel
theorem dX4_isOver_46 : decode cX4_isOver 46 = .ok (.goto (-42), 3) := by decide +kernel
theorem dX4_isOver_49 : decode cX4_isOver 49 = .ok (.iload_n 1, 1) := by decide +kernel
theorem dX4_isOver_50 : decode cX4_isOver 50 = .ok (.ireturn, 1) := by decide +kernel
theorem dX4_beside_0 : decode cX4_beside 0 = .ok (.lload_n 1, 1) := by decide +kernel
theorem dX4_beside_1 : decode cX4_beside 1 = .ok (.ldc2_w 108, 3) := by decide +kernel
theorem dX4_beside_4 : decode cX4_beside 4 = .ok (.lmul, 1) := by decide +kernel
theorem dX4_beside_5 : decode cX4_beside 5 = .ok (.lstore 6, 2) := by decide +kernel
theorem dX4_beside_7 : decode cX4_beside 7 = .ok (.aload_n 0, 1) := by decide +kernel
theorem dX4_beside_8 : decode cX4_beside 8 = .ok (.getfield 22, 3) := by decide +kernel
theorem dX4_beside_11 : decode cX4_beside 11 = .ok (.iload 5, 2) := by decide +kernel
theorem dX4_beside_13 : decode cX4_beside 13 = .ok (.laload, 1) := by decide +kernel
theorem dX4_beside_14 : decode cX4_beside 14 = .ok (.ldc2_w 108, 3) := by decide +kernel
theorem dX4_beside_17 : decode cX4_beside 17 = .ok (.lmul, 1) := by decide +kernel
theorem dX4_beside_18 : decode cX4_beside 18 = .ok (.lstore 8, 2) := by decide +kernel
theorem dX4_beside_20 : decode cX4_beside 20 = .ok (.lload 6, 2) := by decide +kernel
theorem dX4_beside_22 : decode cX4_beside 22 = .ok (.lload 8, 2) := by decide +kernel
theorem dX4_beside_24 : decode cX4_beside 24 = .ok (.lcmp, 1) := by decide +kernel
theorem dX4_beside_25 : decode cX4_beside 25 = .ok (.ifCond .eq 17, 3) := by decide +kernel
theorem dX4_beside_28 : decode cX4_beside 28 = .ok (.lload 6, 2) := by decide +kernel
theorem dX4_beside_30 : decode cX4_beside 30 = .ok (.lload 8, 2) := by decide +kernel
theorem dX4_beside_32 : decode cX4_beside 32 = .ok (.lcmp, 1) := by decide +kernel
theorem dX4_beside_33 : decode cX4_beside 33 = .ok (.ifCond .ge 7, 3) := by decide +kernel
theorem dX4_beside_36 : decode cX4_beside 36 = .ok (.iconst (-1), 1) := by decide +kernel
theorem dX4_beside_37 : decode cX4_beside 37 = .ok (.goto 4, 3) := by decide +kernel
theorem dX4_beside_40 : decode cX4_beside 40 = .ok (.iconst 1, 1) := by decide +kernel
theorem dX4_beside_41 : decode cX4_beside 41 = .ok (.ireturn, 1) := by decide +kernel
theorem dX4_beside_42 : decode cX4_beside 42 = .ok (.lload_n 3, 1) := by decide +kernel
theorem dX4_beside_43 : decode cX4_beside 43 = .ok (.aload_n 0, 1) := by decide +kernel
theorem dX4_beside_44 : decode cX4_beside 44 = .ok (.getfield 26, 3) := by decide +kernel
theorem dX4_beside_47 : decode cX4_beside 47 = .ok (.iload 5, 2) := by decide +kernel
theorem dX4_beside_49 : decode cX4_beside 49 = .ok (.laload, 1) := by decide +kernel
theorem dX4_beside_50 : decode cX4_beside 50 = .ok (.lcmp, 1) := by decide +kernel
theorem dX4_beside_51 : decode cX4_beside 51 = .ok (.ifCond .ge 7, 3) := by decide +kernel
theorem dX4_beside_54 : decode cX4_beside 54 = .ok (.iconst (-1), 1) := by decide +kernel
theorem dX4_beside_55 : decode cX4_beside 55 = .ok (.goto 20, 3) := by decide +kernel
theorem dX4_beside_58 : decode cX4_beside 58 = .ok (.lload_n 3, 1) := by decide +kernel
theorem dX4_beside_59 : decode cX4_beside 59 = .ok (.aload_n 0, 1) := by decide +kernel
theorem dX4_beside_60 : decode cX4_beside 60 = .ok (.getfield 26, 3) := by decide +kernel
