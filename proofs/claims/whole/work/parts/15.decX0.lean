theorem dX0_init_0 : decode cX0_init 0 = .ok (.aload_n 0, 1) := by decide +kernel
theorem dX0_init_1 : decode cX0_init 1 = .ok (.invokespecial 3, 3) := by decide +kernel
theorem dX0_init_4 : decode cX0_init 4 = .ok (.aload_n 0, 1) := by decide +kernel
theorem dX0_init_5 : decode cX0_init 5 = .ok (.iconst 0, 1) := by decide +kernel
theorem dX0_init_6 : decode cX0_init 6 = .ok (.putfield 9, 3) := by decide +kernel
theorem dX0_init_9 : decode cX0_init 9 = .ok (.aload_n 0, 1) := by decide +kernel
theorem dX0_init_10 : decode cX0_init 10 = .ok (.lconst 0, 1) := by decide +kernel
theorem dX0_init_11 : decode cX0_init 11 = .ok (.putfield 15, 3) := by decide +kernel
theorem dX0_init_14 : decode cX0_init 14 = .ok (.aload_n 0, 1) := by decide +kernel
theorem dX0_init_15 : decode cX0_init 15 = .ok (.lconst 0, 1) := by decide +kernel
theorem dX0_init_16 : decode cX0_init 16 = .ok (.putfield 19, 3) := by decide +kernel
theorem dX0_init_19 : decode cX0_init 19 = .ok (.aload_n 0, 1) := by decide +kernel
theorem dX0_init_20 : decode cX0_init 20 = .ok (.aload_n 1, 1) := by decide +kernel
theorem dX0_init_21 : decode cX0_init 21 = .ok (.putfield 22, 3) := by decide +kernel
theorem dX0_init_24 : decode cX0_init 24 = .ok (.return_, 1) := by decide +kernel
theorem dX0_step_0 : decode cX0_step 0 = .ok (.aload_n 0, 1) := by decide +kernel
theorem dX0_step_1 : decode cX0_step 1 = .ok (.lload_n 1, 1) := by decide +kernel
theorem dX0_step_2 : decode cX0_step 2 = .ok (.putfield 15, 3) := by decide +kernel
theorem dX0_step_5 : decode cX0_step 5 = .ok (.aload_n 0, 1) := by decide +kernel
theorem dX0_step_6 : decode cX0_step 6 = .ok (.lload_n 3, 1) := by decide +kernel
theorem dX0_step_7 : decode cX0_step 7 = .ok (.putfield 19, 3) := by decide +kernel
theorem dX0_step_10 : decode cX0_step 10 = .ok (.iload 5, 2) := by decide +kernel
theorem dX0_step_12 : decode cX0_step 12 = .ok (.iconst 4, 1) := by decide +kernel
theorem dX0_step_13 : decode cX0_step 13 = .ok (.if_icmp .ge 10, 3) := by decide +kernel
theorem dX0_step_16 : decode cX0_step 16 = .ok (.aload_n 0, 1) := by decide +kernel
theorem dX0_step_17 : decode cX0_step 17 = .ok (.iload 5, 2) := by decide +kernel
theorem dX0_step_19 : decode cX0_step 19 = .ok (.invokevirtual 26, 3) := by decide +kernel
theorem dX0_step_22 : decode cX0_step 22 = .ok (.ireturn, 1) := by decide +kernel
theorem dX0_step_23 : decode cX0_step 23 = .ok (.aload_n 0, 1) := by decide +kernel
theorem dX0_step_24 : decode cX0_step 24 = .ok (.iload 5, 2) := by decide +kernel
theorem dX0_step_26 : decode cX0_step 26 = .ok (.iconst 4, 1) := by decide +kernel
theorem dX0_step_27 : decode cX0_step 27 = .ok (.isub, 1) := by decide +kernel
theorem dX0_step_28 : decode cX0_step 28 = .ok (.iconst 4, 1) := by decide +kernel
theorem dX0_step_29 : decode cX0_step 29 = .ok (.idiv, 1) := by decide +kernel
theorem dX0_step_30 : decode cX0_step 30 = .ok (.iload 5, 2) := by decide +kernel
theorem dX0_step_32 : decode cX0_step 32 = .ok (.iconst 4, 1) := by decide +kernel
theorem dX0_step_33 : decode cX0_step 33 = .ok (.isub, 1) := by decide +kernel
theorem dX0_step_34 : decode cX0_step 34 = .ok (.iconst 4, 1) := by decide +kernel
theorem dX0_step_35 : decode cX0_step 35 = .ok (.irem, 1) := by decide +kernel
theorem dX0_step_36 : decode cX0_step 36 = .ok (.invokevirtual 30, 3) := by decide +kernel
theorem dX0_step_39 : decode cX0_step 39 = .ok (.ireturn, 1) := by decide +kernel
theorem dX0_goOn_0 : decode cX0_goOn 0 = .ok (.aload_n 0, 1) := by decide +kernel
theorem dX0_goOn_1 : decode cX0_goOn 1 = .ok (.iload_n 1, 1) := by decide +kernel
theorem dX0_goOn_2 : decode cX0_goOn 2 = .ok (.invokevirtual 34, 3) := by decide +kernel
theorem dX0_goOn_5 : decode cX0_goOn 5 = .ok (.bipush 7, 2) := by decide +kernel
theorem dX0_goOn_7 : decode cX0_goOn 7 = .ok (.iand, 1) := by decide +kernel
theorem dX0_goOn_8 : decode cX0_goOn 8 = .ok (.istore_n 2, 1) := by decide +kernel
theorem dX0_goOn_9 : decode cX0_goOn 9 = .ok (.aload_n 0, 1) := by decide +kernel
theorem dX0_goOn_10 : decode cX0_goOn 10 = .ok (.getfield 22, 3) := by decide +kernel
theorem dX0_goOn_13 : decode cX0_goOn 13 = .ok (.iload_n 1, 1) := by decide +kernel
theorem dX0_goOn_14 : decode cX0_goOn 14 = .ok (.invokevirtual 38, 3) := by decide +kernel
theorem dX0_goOn_17 : decode cX0_goOn 17 = .ok (.istore_n 3, 1) := by decide +kernel
theorem dX0_goOn_18 : decode cX0_goOn 18 = .ok (.iload_n 2, 1) := by decide +kernel
theorem dX0_goOn_19 : decode cX0_goOn 19 = .ok (.iload_n 3, 1) := by decide +kernel
theorem dX0_goOn_20 : decode cX0_goOn 20 = .ok (.if_icmp .lt 5, 3) := by decide +kernel
theorem dX0_goOn_23 : decode cX0_goOn 23 = .ok (.iconst 0, 1) := by decide +kernel
theorem dX0_goOn_24 : decode cX0_goOn 24 = .ok (.ireturn, 1) := by decide +kernel
theorem dX0_goOn_25 : decode cX0_goOn 25 = .ok (.aload_n 0, 1) := by decide +kernel
theorem dX0_goOn_26 : decode cX0_goOn 26 = .ok (.getfield 22, 3) := by decide +kernel
theorem dX0_goOn_29 : decode cX0_goOn 29 = .ok (.iload_n 1, 1) := by decide +kernel
theorem dX0_goOn_30 : decode cX0_goOn 30 = .ok (.iload_n 2, 1) := by decide +kernel
theorem dX0_goOn_31 : decode cX0_goOn 31 = .ok (.invokevirtual 43, 3) := by decide +kernel
theorem dX0_goOn_34 : decode cX0_goOn 34 = .ok (.istore 4, 2) := by decide +kernel
theorem dX0_goOn_36 : decode cX0_goOn 36 = .ok (.iload 4, 2) := by decide +kernel
theorem dX0_goOn_38 : decode cX0_goOn 38 = .ok (.iconst 2, 1) := by decide +kernel
theorem dX0_goOn_39 : decode cX0_goOn 39 = .ok (.ishr, 1) := by decide +kernel
theorem dX0_goOn_40 : decode cX0_goOn 40 = .ok (.iconst 3, 1) := by decide +kernel
theorem dX0_goOn_41 : decode cX0_goOn 41 = .ok (.iand, 1) := by decide +kernel
theorem dX0_goOn_42 : decode cX0_goOn 42 = .ok (.istore 5, 2) := by decide +kernel
theorem dX0_goOn_44 : decode cX0_goOn 44 = .ok (.iload_n 1, 1) := by decide +kernel
theorem dX0_goOn_45 : decode cX0_goOn 45 = .ok (.iconst 4, 1) := by decide +kernel
theorem dX0_goOn_46 : decode cX0_goOn 46 = .ok (.imul, 1) := by decide +kernel
theorem dX0_goOn_47 : decode cX0_goOn 47 = .ok (.iload 4, 2) := by decide +kernel
theorem dX0_goOn_49 : decode cX0_goOn 49 = .ok (.iconst 3, 1) := by decide +kernel
theorem dX0_goOn_50 : decode cX0_goOn 50 = .ok (.iand, 1) := by decide +kernel
theorem dX0_goOn_51 : decode cX0_goOn 51 = .ok (.iadd, 1) := by decide +kernel
theorem dX0_goOn_52 : decode cX0_goOn 52 = .ok (.istore 6, 2) := by decide +kernel
theorem dX0_goOn_54 : decode cX0_goOn 54 = .ok (.iconst 0, 1) := by decide +kernel
theorem dX0_goOn_55 : decode cX0_goOn 55 = .ok (.istore 7, 2) := by decide +kernel
theorem dX0_goOn_57 : decode cX0_goOn 57 = .ok (.iload 4, 2) := by decide +kernel
theorem dX0_goOn_59 : decode cX0_goOn 59 = .ok (.iconst 4, 1) := by decide +kernel
theorem dX0_goOn_60 : decode cX0_goOn 60 = .ok (.ishr, 1) := by decide +kernel
theorem dX0_goOn_61 : decode cX0_goOn 61 = .ok (.tableswitch 126 0 6 #[43, 59, 80, 126, 126, 126, 103], 43) := by decide +kernel
theorem dX0_goOn_104 : decode cX0_goOn 104 = .ok (.aload_n 0, 1) := by decide +kernel
theorem dX0_goOn_105 : decode cX0_goOn 105 = .ok (.iload_n 1, 1) := by decide +kernel
theorem dX0_goOn_106 : decode cX0_goOn 106 = .ok (.iload 5, 2) := by decide +kernel
theorem dX0_goOn_108 : decode cX0_goOn 108 = .ok (.iload 4, 2) := by decide +kernel
theorem dX0_goOn_110 : decode cX0_goOn 110 = .ok (.iconst 3, 1) := by decide +kernel
theorem dX0_goOn_111 : decode cX0_goOn 111 = .ok (.iand, 1) := by decide +kernel
theorem dX0_goOn_112 : decode cX0_goOn 112 = .ok (.invokevirtual 47, 3) := by decide +kernel
theorem dX0_goOn_115 : decode cX0_goOn 115 = .ok (.ifCond .ne 97, 3) := by decide +kernel
theorem dX0_goOn_118 : decode cX0_goOn 118 = .ok (.iconst 0, 1) := by decide +kernel
theorem dX0_goOn_119 : decode cX0_goOn 119 = .ok (.ireturn, 1) := by decide +kernel
theorem dX0_goOn_120 : decode cX0_goOn 120 = .ok (.aload_n 0, 1) := by decide +kernel
theorem dX0_goOn_121 : decode cX0_goOn 121 = .ok (.iload_n 1, 1) := by decide +kernel
theorem dX0_goOn_122 : decode cX0_goOn 122 = .ok (.iload 5, 2) := by decide +kernel
theorem dX0_goOn_124 : decode cX0_goOn 124 = .ok (.aload_n 0, 1) := by decide +kernel
theorem dX0_goOn_125 : decode cX0_goOn 125 = .ok (.getfield 15, 3) := by decide +kernel
theorem dX0_goOn_128 : decode cX0_goOn 128 = .ok (.iload 6, 2) := by decide +kernel
theorem dX0_goOn_130 : decode cX0_goOn 130 = .ok (.invokestatic 51, 3) := by decide +kernel
theorem dX0_goOn_133 : decode cX0_goOn 133 = .ok (.invokevirtual 47, 3) := by decide +kernel
theorem dX0_goOn_136 : decode cX0_goOn 136 = .ok (.ifCond .ne 76, 3) := by decide +kernel
theorem dX0_goOn_139 : decode cX0_goOn 139 = .ok (.iconst 0, 1) := by decide +kernel
theorem dX0_goOn_140 : decode cX0_goOn 140 = .ok (.ireturn, 1) := by decide +kernel
theorem dX0_goOn_141 : decode cX0_goOn 141 = .ok (.aload_n 0, 1) := by decide +kernel
theorem dX0_goOn_142 : decode cX0_goOn 142 = .ok (.aload_n 0, 1) := by decide +kernel
theorem dX0_goOn_143 : decode cX0_goOn 143 = .ok (.getfield 15, 3) := by decide +kernel
theorem dX0_goOn_146 : decode cX0_goOn 146 = .ok (.iload 6, 2) := by decide +kernel
theorem dX0_goOn_148 : decode cX0_goOn 148 = .ok (.aload_n 0, 1) := by decide +kernel
theorem dX0_goOn_149 : decode cX0_goOn 149 = .ok (.iload_n 1, 1) := by decide +kernel
theorem dX0_goOn_150 : decode cX0_goOn 150 = .ok (.iload 5, 2) := by decide +kernel
theorem dX0_goOn_152 : decode cX0_goOn 152 = .ok (.invokevirtual 55, 3) := by decide +kernel
theorem dX0_goOn_155 : decode cX0_goOn 155 = .ok (.invokestatic 58, 3) := by decide +kernel
theorem dX0_goOn_158 : decode cX0_goOn 158 = .ok (.putfield 15, 3) := by decide +kernel
theorem dX0_goOn_161 : decode cX0_goOn 161 = .ok (.goto 51, 3) := by decide +kernel
theorem dX0_goOn_164 : decode cX0_goOn 164 = .ok (.aload_n 0, 1) := by decide +kernel
theorem dX0_goOn_165 : decode cX0_goOn 165 = .ok (.getfield 15, 3) := by decide +kernel
theorem dX0_goOn_168 : decode cX0_goOn 168 = .ok (.iload 6, 2) := by decide +kernel
theorem dX0_goOn_170 : decode cX0_goOn 170 = .ok (.invokestatic 51, 3) := by decide +kernel
theorem dX0_goOn_173 : decode cX0_goOn 173 = .ok (.ifCond .ne 8, 3) := by decide +kernel
theorem dX0_goOn_176 : decode cX0_goOn 176 = .ok (.iload 5, 2) := by decide +kernel
theorem dX0_goOn_178 : decode cX0_goOn 178 = .ok (.goto 4, 3) := by decide +kernel
theorem dX0_goOn_181 : decode cX0_goOn 181 = .ok (.iconst 0, 1) := by decide +kernel
theorem dX0_goOn_182 : decode cX0_goOn 182 = .ok (.istore 7, 2) := by decide +kernel
theorem dX0_goOn_184 : decode cX0_goOn 184 = .ok (.goto 28, 3) := by decide +kernel
theorem dX0_goOn_187 : decode cX0_goOn 187 = .ok (.aload_n 0, 1) := by decide +kernel
theorem dX0_goOn_188 : decode cX0_goOn 188 = .ok (.iload_n 1, 1) := by decide +kernel
theorem dX0_goOn_189 : decode cX0_goOn 189 = .ok (.invokevirtual 34, 3) := by decide +kernel
theorem dX0_goOn_192 : decode cX0_goOn 192 = .ok (.invokestatic 62, 3) := by decide +kernel
theorem dX0_goOn_195 : decode cX0_goOn 195 = .ok (.ifCond .le 5, 3) := by decide +kernel
theorem dX0_goOn_198 : decode cX0_goOn 198 = .ok (.iconst 0, 1) := by decide +kernel
theorem dX0_goOn_199 : decode cX0_goOn 199 = .ok (.ireturn, 1) := by decide +kernel
theorem dX0_goOn_200 : decode cX0_goOn 200 = .ok (.aload_n 0, 1) := by decide +kernel
theorem dX0_goOn_201 : decode cX0_goOn 201 = .ok (.iload 4, 2) := by decide +kernel
theorem dX0_goOn_203 : decode cX0_goOn 203 = .ok (.iconst 4, 1) := by decide +kernel
theorem dX0_goOn_204 : decode cX0_goOn 204 = .ok (.ishr, 1) := by decide +kernel
theorem dX0_goOn_205 : decode cX0_goOn 205 = .ok (.iload 5, 2) := by decide +kernel
theorem dX0_goOn_207 : decode cX0_goOn 207 = .ok (.iload 6, 2) := by decide +kernel
theorem dX0_goOn_209 : decode cX0_goOn 209 = .ok (.invokevirtual 65, 3) := by decide +kernel
theorem dX0_goOn_212 : decode cX0_goOn 212 = .ok (.aload_n 0, 1) := by decide +kernel
theorem dX0_goOn_213 : decode cX0_goOn 213 = .ok (.iload_n 1, 1) := by decide +kernel
theorem dX0_goOn_214 : decode cX0_goOn 214 = .ok (.iload_n 2, 1) := by decide +kernel
theorem dX0_goOn_215 : decode cX0_goOn 215 = .ok (.iconst 1, 1) := by decide +kernel
theorem dX0_goOn_216 : decode cX0_goOn 216 = .ok (.iadd, 1) := by decide +kernel
theorem dX0_goOn_217 : decode cX0_goOn 217 = .ok (.iload 7, 2) := by decide +kernel
theorem dX0_goOn_219 : decode cX0_goOn 219 = .ok (.iadd, 1) := by decide +kernel
theorem dX0_goOn_220 : decode cX0_goOn 220 = .ok (.iload_n 3, 1) := by decide +kernel
theorem dX0_goOn_221 : decode cX0_goOn 221 = .ok (.invokestatic 69, 3) := by decide +kernel
theorem dX0_goOn_224 : decode cX0_goOn 224 = .ok (.invokevirtual 74, 3) := by decide +kernel
theorem dX0_goOn_227 : decode cX0_goOn 227 = .ok (.iconst 1, 1) := by decide +kernel
theorem dX0_goOn_228 : decode cX0_goOn 228 = .ok (.ireturn, 1) := by decide +kernel
theorem dX0_store_0 : decode cX0_store 0 = .ok (.aload_n 0, 1) := by decide +kernel
theorem dX0_store_1 : decode cX0_store 1 = .ok (.getfield 9, 3) := by decide +kernel
theorem dX0_store_4 : decode cX0_store 4 = .ok (.ifCond .ne 21, 3) := by decide +kernel
theorem dX0_store_7 : decode cX0_store 7 = .ok (.aload_n 0, 1) := by decide +kernel
theorem dX0_store_8 : decode cX0_store 8 = .ok (.aload_n 0, 1) := by decide +kernel
theorem dX0_store_9 : decode cX0_store 9 = .ok (.getfield 15, 3) := by decide +kernel
theorem dX0_store_12 : decode cX0_store 12 = .ok (.bipush 16, 2) := by decide +kernel
theorem dX0_store_14 : decode cX0_store 14 = .ok (.iload_n 2, 1) := by decide +kernel
theorem dX0_store_15 : decode cX0_store 15 = .ok (.iadd, 1) := by decide +kernel
theorem dX0_store_16 : decode cX0_store 16 = .ok (.iload_n 3, 1) := by decide +kernel
theorem dX0_store_17 : decode cX0_store 17 = .ok (.invokestatic 58, 3) := by decide +kernel
theorem dX0_store_20 : decode cX0_store 20 = .ok (.putfield 15, 3) := by decide +kernel
theorem dX0_store_23 : decode cX0_store 23 = .ok (.iconst 1, 1) := by decide +kernel
theorem dX0_store_24 : decode cX0_store 24 = .ok (.ireturn, 1) := by decide +kernel
theorem dX0_store_25 : decode cX0_store 25 = .ok (.aload_n 0, 1) := by decide +kernel
theorem dX0_store_26 : decode cX0_store 26 = .ok (.iload_n 1, 1) := by decide +kernel
theorem dX0_store_27 : decode cX0_store 27 = .ok (.invokevirtual 34, 3) := by decide +kernel
theorem dX0_store_30 : decode cX0_store 30 = .ok (.istore 4, 2) := by decide +kernel
theorem dX0_store_32 : decode cX0_store 32 = .ok (.iload 4, 2) := by decide +kernel
theorem dX0_store_34 : decode cX0_store 34 = .ok (.invokestatic 62, 3) := by decide +kernel
theorem dX0_store_37 : decode cX0_store 37 = .ok (.istore 5, 2) := by decide +kernel
theorem dX0_store_39 : decode cX0_store 39 = .ok (.iload 5, 2) := by decide +kernel
theorem dX0_store_41 : decode cX0_store 41 = .ok (.iconst 2, 1) := by decide +kernel
theorem dX0_store_42 : decode cX0_store 42 = .ok (.if_icmp .lt 5, 3) := by decide +kernel
theorem dX0_store_45 : decode cX0_store 45 = .ok (.iconst 0, 1) := by decide +kernel
theorem dX0_store_46 : decode cX0_store 46 = .ok (.ireturn, 1) := by decide +kernel
theorem dX0_store_47 : decode cX0_store 47 = .ok (.iload_n 2, 1) := by decide +kernel
theorem dX0_store_48 : decode cX0_store 48 = .ok (.iconst 2, 1) := by decide +kernel
theorem dX0_store_49 : decode cX0_store 49 = .ok (.ishl, 1) := by decide +kernel
theorem dX0_store_50 : decode cX0_store 50 = .ok (.iload_n 3, 1) := by decide +kernel
theorem dX0_store_51 : decode cX0_store 51 = .ok (.ior, 1) := by decide +kernel
theorem dX0_store_52 : decode cX0_store 52 = .ok (.istore 6, 2) := by decide +kernel
theorem dX0_store_54 : decode cX0_store 54 = .ok (.bipush 8, 2) := by decide +kernel
theorem dX0_store_56 : decode cX0_store 56 = .ok (.iload 6, 2) := by decide +kernel
theorem dX0_store_58 : decode cX0_store 58 = .ok (.iconst 5, 1) := by decide +kernel
theorem dX0_store_59 : decode cX0_store 59 = .ok (.iconst 4, 1) := by decide +kernel
theorem dX0_store_60 : decode cX0_store 60 = .ok (.iload 5, 2) := by decide +kernel
theorem dX0_store_62 : decode cX0_store 62 = .ok (.imul, 1) := by decide +kernel
theorem dX0_store_63 : decode cX0_store 63 = .ok (.iadd, 1) := by decide +kernel
theorem dX0_store_64 : decode cX0_store 64 = .ok (.ishl, 1) := by decide +kernel
theorem dX0_store_65 : decode cX0_store 65 = .ok (.ior, 1) := by decide +kernel
theorem dX0_store_66 : decode cX0_store 66 = .ok (.istore 7, 2) := by decide +kernel
theorem dX0_store_68 : decode cX0_store 68 = .ok (.aload_n 0, 1) := by decide +kernel
theorem dX0_store_69 : decode cX0_store 69 = .ok (.iload_n 1, 1) := by decide +kernel
theorem dX0_store_70 : decode cX0_store 70 = .ok (.iload 4, 2) := by decide +kernel
theorem dX0_store_72 : decode cX0_store 72 = .ok (.iload 7, 2) := by decide +kernel
theorem dX0_store_74 : decode cX0_store 74 = .ok (.iadd, 1) := by decide +kernel
theorem dX0_store_75 : decode cX0_store 75 = .ok (.invokevirtual 78, 3) := by decide +kernel
theorem dX0_store_78 : decode cX0_store 78 = .ok (.iconst 1, 1) := by decide +kernel
theorem dX0_store_79 : decode cX0_store 79 = .ok (.ireturn, 1) := by decide +kernel
theorem dX0_seen_0 : decode cX0_seen 0 = .ok (.aload_n 0, 1) := by decide +kernel
theorem dX0_seen_1 : decode cX0_seen 1 = .ok (.iload_n 1, 1) := by decide +kernel
theorem dX0_seen_2 : decode cX0_seen 2 = .ok (.invokevirtual 34, 3) := by decide +kernel
theorem dX0_seen_5 : decode cX0_seen 5 = .ok (.istore_n 3, 1) := by decide +kernel
theorem dX0_seen_6 : decode cX0_seen 6 = .ok (.iload_n 3, 1) := by decide +kernel
theorem dX0_seen_7 : decode cX0_seen 7 = .ok (.invokestatic 62, 3) := by decide +kernel
theorem dX0_seen_10 : decode cX0_seen 10 = .ok (.iconst 1, 1) := by decide +kernel
theorem dX0_seen_11 : decode cX0_seen 11 = .ok (.isub, 1) := by decide +kernel
theorem dX0_seen_12 : decode cX0_seen 12 = .ok (.istore 4, 2) := by decide +kernel
theorem dX0_seen_14 : decode cX0_seen 14 = .ok (.iload 4, 2) := by decide +kernel
theorem dX0_seen_16 : decode cX0_seen 16 = .ok (.ifCond .lt 30, 3) := by decide +kernel
theorem dX0_seen_19 : decode cX0_seen 19 = .ok (.iload_n 3, 1) := by decide +kernel
theorem dX0_seen_20 : decode cX0_seen 20 = .ok (.iload 4, 2) := by decide +kernel
theorem dX0_seen_22 : decode cX0_seen 22 = .ok (.invokestatic 81, 3) := by decide +kernel
theorem dX0_seen_25 : decode cX0_seen 25 = .ok (.istore 5, 2) := by decide +kernel
theorem dX0_seen_27 : decode cX0_seen 27 = .ok (.iload 5, 2) := by decide +kernel
theorem dX0_seen_29 : decode cX0_seen 29 = .ok (.iconst 2, 1) := by decide +kernel
theorem dX0_seen_30 : decode cX0_seen 30 = .ok (.ishr, 1) := by decide +kernel
theorem dX0_seen_31 : decode cX0_seen 31 = .ok (.iload_n 2, 1) := by decide +kernel
theorem dX0_seen_32 : decode cX0_seen 32 = .ok (.if_icmp .ne 8, 3) := by decide +kernel
theorem dX0_seen_35 : decode cX0_seen 35 = .ok (.iload 5, 2) := by decide +kernel
theorem dX0_seen_37 : decode cX0_seen 37 = .ok (.iconst 3, 1) := by decide +kernel
theorem dX0_seen_38 : decode cX0_seen 38 = .ok (.iand, 1) := by decide +kernel
theorem dX0_seen_39 : decode cX0_seen 39 = .ok (.ireturn, 1) := by decide +kernel
theorem dX0_seen_40 : decode cX0_seen 40 = .ok (.iinc 4 (-1), 3) := by decide +kernel
theorem dX0_seen_43 : decode cX0_seen 43 = .ok (.goto (-29), 3) := by decide +kernel
theorem dX0_seen_46 : decode cX0_seen 46 = .ok (.aload_n 0, 1) := by decide +kernel
theorem dX0_seen_47 : decode cX0_seen 47 = .ok (.getfield 15, 3) := by decide +kernel
theorem dX0_seen_50 : decode cX0_seen 50 = .ok (.bipush 16, 2) := by decide +kernel
theorem dX0_seen_52 : decode cX0_seen 52 = .ok (.iload_n 2, 1) := by decide +kernel
theorem dX0_seen_53 : decode cX0_seen 53 = .ok (.iadd, 1) := by decide +kernel
theorem dX0_seen_54 : decode cX0_seen 54 = .ok (.invokestatic 51, 3) := by decide +kernel
theorem dX0_seen_57 : decode cX0_seen 57 = .ok (.ireturn, 1) := by decide +kernel
theorem dX0_atOnce_0 : decode cX0_atOnce 0 = .ok (.aload_n 0, 1) := by decide +kernel
theorem dX0_atOnce_1 : decode cX0_atOnce 1 = .ok (.getfield 15, 3) := by decide +kernel
theorem dX0_atOnce_4 : decode cX0_atOnce 4 = .ok (.bipush 16, 2) := by decide +kernel
theorem dX0_atOnce_6 : decode cX0_atOnce 6 = .ok (.iload_n 2, 1) := by decide +kernel
theorem dX0_atOnce_7 : decode cX0_atOnce 7 = .ok (.iadd, 1) := by decide +kernel
theorem dX0_atOnce_8 : decode cX0_atOnce 8 = .ok (.invokestatic 51, 3) := by decide +kernel
theorem dX0_atOnce_11 : decode cX0_atOnce 11 = .ok (.istore 4, 2) := by decide +kernel
theorem dX0_atOnce_13 : decode cX0_atOnce 13 = .ok (.iload_n 1, 1) := by decide +kernel
theorem dX0_atOnce_14 : decode cX0_atOnce 14 = .ok (.iconst 4, 1) := by decide +kernel
theorem dX0_atOnce_15 : decode cX0_atOnce 15 = .ok (.if_icmp .ne 43, 3) := by decide +kernel
theorem dX0_atOnce_18 : decode cX0_atOnce 18 = .ok (.aload_n 0, 1) := by decide +kernel
theorem dX0_atOnce_19 : decode cX0_atOnce 19 = .ok (.aload_n 0, 1) := by decide +kernel
theorem dX0_atOnce_20 : decode cX0_atOnce 20 = .ok (.getfield 15, 3) := by decide +kernel
theorem dX0_atOnce_23 : decode cX0_atOnce 23 = .ok (.bipush 16, 2) := by decide +kernel
theorem dX0_atOnce_25 : decode cX0_atOnce 25 = .ok (.iload_n 2, 1) := by decide +kernel
theorem dX0_atOnce_26 : decode cX0_atOnce 26 = .ok (.iadd, 1) := by decide +kernel
theorem dX0_atOnce_27 : decode cX0_atOnce 27 = .ok (.aload_n 0, 1) := by decide +kernel
theorem dX0_atOnce_28 : decode cX0_atOnce 28 = .ok (.getfield 15, 3) := by decide +kernel
theorem dX0_atOnce_31 : decode cX0_atOnce 31 = .ok (.iload_n 3, 1) := by decide +kernel
theorem dX0_atOnce_32 : decode cX0_atOnce 32 = .ok (.invokestatic 51, 3) := by decide +kernel
theorem dX0_atOnce_35 : decode cX0_atOnce 35 = .ok (.invokestatic 58, 3) := by decide +kernel
theorem dX0_atOnce_38 : decode cX0_atOnce 38 = .ok (.putfield 15, 3) := by decide +kernel
theorem dX0_atOnce_41 : decode cX0_atOnce 41 = .ok (.aload_n 0, 1) := by decide +kernel
theorem dX0_atOnce_42 : decode cX0_atOnce 42 = .ok (.aload_n 0, 1) := by decide +kernel
theorem dX0_atOnce_43 : decode cX0_atOnce 43 = .ok (.getfield 15, 3) := by decide +kernel
theorem dX0_atOnce_46 : decode cX0_atOnce 46 = .ok (.iload_n 3, 1) := by decide +kernel
theorem dX0_atOnce_47 : decode cX0_atOnce 47 = .ok (.iload 4, 2) := by decide +kernel
theorem dX0_atOnce_49 : decode cX0_atOnce 49 = .ok (.invokestatic 58, 3) := by decide +kernel
theorem dX0_atOnce_52 : decode cX0_atOnce 52 = .ok (.putfield 15, 3) := by decide +kernel
theorem dX0_atOnce_55 : decode cX0_atOnce 55 = .ok (.goto 41, 3) := by decide +kernel
theorem dX0_atOnce_58 : decode cX0_atOnce 58 = .ok (.iload_n 1, 1) := by decide +kernel
theorem dX0_atOnce_59 : decode cX0_atOnce 59 = .ok (.iconst 5, 1) := by decide +kernel
theorem dX0_atOnce_60 : decode cX0_atOnce 60 = .ok (.if_icmp .ne 36, 3) := by decide +kernel
theorem dX0_atOnce_63 : decode cX0_atOnce 63 = .ok (.aload_n 0, 1) := by decide +kernel
theorem dX0_atOnce_64 : decode cX0_atOnce 64 = .ok (.aload_n 0, 1) := by decide +kernel
theorem dX0_atOnce_65 : decode cX0_atOnce 65 = .ok (.getfield 15, 3) := by decide +kernel
theorem dX0_atOnce_68 : decode cX0_atOnce 68 = .ok (.bipush 16, 2) := by decide +kernel
theorem dX0_atOnce_70 : decode cX0_atOnce 70 = .ok (.iload_n 2, 1) := by decide +kernel
theorem dX0_atOnce_71 : decode cX0_atOnce 71 = .ok (.iadd, 1) := by decide +kernel
theorem dX0_atOnce_72 : decode cX0_atOnce 72 = .ok (.iload 4, 2) := by decide +kernel
theorem dX0_atOnce_74 : decode cX0_atOnce 74 = .ok (.iconst 1, 1) := by decide +kernel
theorem dX0_atOnce_75 : decode cX0_atOnce 75 = .ok (.iadd, 1) := by decide +kernel
theorem dX0_atOnce_76 : decode cX0_atOnce 76 = .ok (.invokestatic 58, 3) := by decide +kernel
theorem dX0_atOnce_79 : decode cX0_atOnce 79 = .ok (.putfield 15, 3) := by decide +kernel
theorem dX0_atOnce_82 : decode cX0_atOnce 82 = .ok (.aload_n 0, 1) := by decide +kernel
theorem dX0_atOnce_83 : decode cX0_atOnce 83 = .ok (.aload_n 0, 1) := by decide +kernel
theorem dX0_atOnce_84 : decode cX0_atOnce 84 = .ok (.getfield 15, 3) := by decide +kernel
theorem dX0_atOnce_87 : decode cX0_atOnce 87 = .ok (.iload_n 3, 1) := by decide +kernel
theorem dX0_atOnce_88 : decode cX0_atOnce 88 = .ok (.iload 4, 2) := by decide +kernel
theorem dX0_atOnce_90 : decode cX0_atOnce 90 = .ok (.invokestatic 58, 3) := by decide +kernel
theorem dX0_atOnce_93 : decode cX0_atOnce 93 = .ok (.putfield 15, 3) := by decide +kernel
theorem dX0_atOnce_96 : decode cX0_atOnce 96 = .ok (.return_, 1) := by decide +kernel
theorem dX0_release_0 : decode cX0_release 0 = .ok (.aload_n 0, 1) := by decide +kernel
theorem dX0_release_1 : decode cX0_release 1 = .ok (.iload_n 1, 1) := by decide +kernel
theorem dX0_release_2 : decode cX0_release 2 = .ok (.invokevirtual 34, 3) := by decide +kernel
theorem dX0_release_5 : decode cX0_release 5 = .ok (.istore_n 3, 1) := by decide +kernel
theorem dX0_release_6 : decode cX0_release 6 = .ok (.iload_n 3, 1) := by decide +kernel
theorem dX0_release_7 : decode cX0_release 7 = .ok (.invokestatic 62, 3) := by decide +kernel
theorem dX0_release_10 : decode cX0_release 10 = .ok (.istore 4, 2) := by decide +kernel
theorem dX0_release_12 : decode cX0_release 12 = .ok (.aload_n 0, 1) := by decide +kernel
theorem dX0_release_13 : decode cX0_release 13 = .ok (.getfield 9, 3) := by decide +kernel
theorem dX0_release_16 : decode cX0_release 16 = .ok (.iconst 1, 1) := by decide +kernel
theorem dX0_release_17 : decode cX0_release 17 = .ok (.if_icmp .ne 12, 3) := by decide +kernel
theorem dX0_release_20 : decode cX0_release 20 = .ok (.iload 4, 2) := by decide +kernel
theorem dX0_release_22 : decode cX0_release 22 = .ok (.iconst 1, 1) := by decide +kernel
theorem dX0_release_23 : decode cX0_release 23 = .ok (.invokestatic 69, 3) := by decide +kernel
theorem dX0_release_26 : decode cX0_release 26 = .ok (.goto 5, 3) := by decide +kernel
theorem dX0_release_29 : decode cX0_release 29 = .ok (.iload 4, 2) := by decide +kernel
theorem dX0_release_31 : decode cX0_release 31 = .ok (.istore 5, 2) := by decide +kernel
theorem dX0_release_33 : decode cX0_release 33 = .ok (.iconst 0, 1) := by decide +kernel
theorem dX0_release_34 : decode cX0_release 34 = .ok (.istore 6, 2) := by decide +kernel
theorem dX0_release_36 : decode cX0_release 36 = .ok (.iload 6, 2) := by decide +kernel
theorem dX0_release_38 : decode cX0_release 38 = .ok (.iload 5, 2) := by decide +kernel
theorem dX0_release_40 : decode cX0_release 40 = .ok (.if_icmp .ge 57, 3) := by decide +kernel
theorem dX0_release_43 : decode cX0_release 43 = .ok (.iload_n 3, 1) := by decide +kernel
theorem dX0_release_44 : decode cX0_release 44 = .ok (.iload 6, 2) := by decide +kernel
theorem dX0_release_46 : decode cX0_release 46 = .ok (.invokestatic 81, 3) := by decide +kernel
theorem dX0_release_49 : decode cX0_release 49 = .ok (.istore 7, 2) := by decide +kernel
theorem dX0_release_51 : decode cX0_release 51 = .ok (.iload 7, 2) := by decide +kernel
theorem dX0_release_53 : decode cX0_release 53 = .ok (.iconst 2, 1) := by decide +kernel
theorem dX0_release_54 : decode cX0_release 54 = .ok (.ishr, 1) := by decide +kernel
theorem dX0_release_55 : decode cX0_release 55 = .ok (.iload_n 2, 1) := by decide +kernel
theorem dX0_release_56 : decode cX0_release 56 = .ok (.if_icmp .ne 35, 3) := by decide +kernel
theorem dX0_release_59 : decode cX0_release 59 = .ok (.aload_n 0, 1) := by decide +kernel
theorem dX0_release_60 : decode cX0_release 60 = .ok (.aload_n 0, 1) := by decide +kernel
theorem dX0_release_61 : decode cX0_release 61 = .ok (.getfield 15, 3) := by decide +kernel
theorem dX0_release_64 : decode cX0_release 64 = .ok (.bipush 16, 2) := by decide +kernel
theorem dX0_release_66 : decode cX0_release 66 = .ok (.iload_n 2, 1) := by decide +kernel
theorem dX0_release_67 : decode cX0_release 67 = .ok (.iadd, 1) := by decide +kernel
theorem dX0_release_68 : decode cX0_release 68 = .ok (.iload 7, 2) := by decide +kernel
theorem dX0_release_70 : decode cX0_release 70 = .ok (.iconst 3, 1) := by decide +kernel
theorem dX0_release_71 : decode cX0_release 71 = .ok (.iand, 1) := by decide +kernel
theorem dX0_release_72 : decode cX0_release 72 = .ok (.invokestatic 58, 3) := by decide +kernel
theorem dX0_release_75 : decode cX0_release 75 = .ok (.putfield 15, 3) := by decide +kernel
theorem dX0_release_78 : decode cX0_release 78 = .ok (.aload_n 0, 1) := by decide +kernel
theorem dX0_release_79 : decode cX0_release 79 = .ok (.iload_n 1, 1) := by decide +kernel
theorem dX0_release_80 : decode cX0_release 80 = .ok (.iload_n 3, 1) := by decide +kernel
theorem dX0_release_81 : decode cX0_release 81 = .ok (.iload 6, 2) := by decide +kernel
theorem dX0_release_83 : decode cX0_release 83 = .ok (.invokestatic 84, 3) := by decide +kernel
theorem dX0_release_86 : decode cX0_release 86 = .ok (.invokevirtual 78, 3) := by decide +kernel
theorem dX0_release_89 : decode cX0_release 89 = .ok (.iconst 1, 1) := by decide +kernel
theorem dX0_release_90 : decode cX0_release 90 = .ok (.ireturn, 1) := by decide +kernel
theorem dX0_release_91 : decode cX0_release 91 = .ok (.iinc 6 1, 3) := by decide +kernel
theorem dX0_release_94 : decode cX0_release 94 = .ok (.goto (-58), 3) := by decide +kernel
theorem dX0_release_97 : decode cX0_release 97 = .ok (.iconst 0, 1) := by decide +kernel
theorem dX0_release_98 : decode cX0_release 98 = .ok (.ireturn, 1) := by decide +kernel
theorem dX0_without_0 : decode cX0_without 0 = .ok (.iload_n 0, 1) := by decide +kernel
theorem dX0_without_1 : decode cX0_without 1 = .ok (.iconst 1, 1) := by decide +kernel
theorem dX0_without_2 : decode cX0_without 2 = .ok (.iload_n 1, 1) := by decide +kernel
theorem dX0_without_3 : decode cX0_without 3 = .ok (.isub, 1) := by decide +kernel
theorem dX0_without_4 : decode cX0_without 4 = .ok (.invokestatic 81, 3) := by decide +kernel
theorem dX0_without_7 : decode cX0_without 7 = .ok (.istore_n 2, 1) := by decide +kernel
theorem dX0_without_8 : decode cX0_without 8 = .ok (.iload_n 0, 1) := by decide +kernel
theorem dX0_without_9 : decode cX0_without 9 = .ok (.invokestatic 62, 3) := by decide +kernel
theorem dX0_without_12 : decode cX0_without 12 = .ok (.iconst 1, 1) := by decide +kernel
theorem dX0_without_13 : decode cX0_without 13 = .ok (.isub, 1) := by decide +kernel
theorem dX0_without_14 : decode cX0_without 14 = .ok (.istore_n 3, 1) := by decide +kernel
theorem dX0_without_15 : decode cX0_without 15 = .ok (.iload_n 0, 1) := by decide +kernel
theorem dX0_without_16 : decode cX0_without 16 = .ok (.bipush 7, 2) := by decide +kernel
theorem dX0_without_18 : decode cX0_without 18 = .ok (.iand, 1) := by decide +kernel
theorem dX0_without_19 : decode cX0_without 19 = .ok (.iload_n 3, 1) := by decide +kernel
theorem dX0_without_20 : decode cX0_without 20 = .ok (.iconst 3, 1) := by decide +kernel
theorem dX0_without_21 : decode cX0_without 21 = .ok (.ishl, 1) := by decide +kernel
theorem dX0_without_22 : decode cX0_without 22 = .ok (.ior, 1) := by decide +kernel
theorem dX0_without_23 : decode cX0_without 23 = .ok (.iload_n 2, 1) := by decide +kernel
theorem dX0_without_24 : decode cX0_without 24 = .ok (.iconst 5, 1) := by decide +kernel
theorem dX0_without_25 : decode cX0_without 25 = .ok (.ishl, 1) := by decide +kernel
theorem dX0_without_26 : decode cX0_without 26 = .ok (.ior, 1) := by decide +kernel
theorem dX0_without_27 : decode cX0_without 27 = .ok (.ireturn, 1) := by decide +kernel
theorem dX0_laneOf_0 : decode cX0_laneOf 0 = .ok (.aload_n 0, 1) := by decide +kernel
theorem dX0_laneOf_1 : decode cX0_laneOf 1 = .ok (.getfield 19, 3) := by decide +kernel
theorem dX0_laneOf_4 : decode cX0_laneOf 4 = .ok (.bipush 13, 2) := by decide +kernel
theorem dX0_laneOf_6 : decode cX0_laneOf 6 = .ok (.iload_n 1, 1) := by decide +kernel
theorem dX0_laneOf_7 : decode cX0_laneOf 7 = .ok (.imul, 1) := by decide +kernel
theorem dX0_laneOf_8 : decode cX0_laneOf 8 = .ok (.lushr, 1) := by decide +kernel
theorem dX0_laneOf_9 : decode cX0_laneOf 9 = .ok (.l2i, 1) := by decide +kernel
theorem dX0_laneOf_10 : decode cX0_laneOf 10 = .ok (.sipush 8191, 3) := by decide +kernel
theorem dX0_laneOf_13 : decode cX0_laneOf 13 = .ok (.iand, 1) := by decide +kernel
theorem dX0_laneOf_14 : decode cX0_laneOf 14 = .ok (.ireturn, 1) := by decide +kernel
theorem dX0_setLane_0 : decode cX0_setLane 0 = .ok (.bipush 13, 2) := by decide +kernel
theorem dX0_setLane_2 : decode cX0_setLane 2 = .ok (.iload_n 1, 1) := by decide +kernel
theorem dX0_setLane_3 : decode cX0_setLane 3 = .ok (.imul, 1) := by decide +kernel
theorem dX0_setLane_4 : decode cX0_setLane 4 = .ok (.istore_n 3, 1) := by decide +kernel
theorem dX0_setLane_5 : decode cX0_setLane 5 = .ok (.ldc2_w 87, 3) := by decide +kernel
theorem dX0_setLane_8 : decode cX0_setLane 8 = .ok (.iload_n 3, 1) := by decide +kernel
theorem dX0_setLane_9 : decode cX0_setLane 9 = .ok (.lshl, 1) := by decide +kernel
theorem dX0_setLane_10 : decode cX0_setLane 10 = .ok (.lstore 4, 2) := by decide +kernel
theorem dX0_setLane_12 : decode cX0_setLane 12 = .ok (.aload_n 0, 1) := by decide +kernel
theorem dX0_setLane_13 : decode cX0_setLane 13 = .ok (.aload_n 0, 1) := by decide +kernel
theorem dX0_setLane_14 : decode cX0_setLane 14 = .ok (.getfield 19, 3) := by decide +kernel
theorem dX0_setLane_17 : decode cX0_setLane 17 = .ok (.lload 4, 2) := by decide +kernel
theorem dX0_setLane_19 : decode cX0_setLane 19 = .ok (.ldc2_w 89, 3) := by decide +kernel
theorem dX0_setLane_22 : decode cX0_setLane 22 = .ok (.lxor, 1) := by decide +kernel
theorem dX0_setLane_23 : decode cX0_setLane 23 = .ok (.land, 1) := by decide +kernel
theorem dX0_setLane_24 : decode cX0_setLane 24 = .ok (.iload_n 2, 1) := by decide +kernel
theorem dX0_setLane_25 : decode cX0_setLane 25 = .ok (.i2l, 1) := by decide +kernel
theorem dX0_setLane_26 : decode cX0_setLane 26 = .ok (.iload_n 3, 1) := by decide +kernel
theorem dX0_setLane_27 : decode cX0_setLane 27 = .ok (.lshl, 1) := by decide +kernel
theorem dX0_setLane_28 : decode cX0_setLane 28 = .ok (.lor, 1) := by decide +kernel
theorem dX0_setLane_29 : decode cX0_setLane 29 = .ok (.putfield 19, 3) := by decide +kernel
theorem dX0_setLane_32 : decode cX0_setLane 32 = .ok (.return_, 1) := by decide +kernel
theorem dX0_setPlace_0 : decode cX0_setPlace 0 = .ok (.aload_n 0, 1) := by decide +kernel
theorem dX0_setPlace_1 : decode cX0_setPlace 1 = .ok (.iload_n 1, 1) := by decide +kernel
theorem dX0_setPlace_2 : decode cX0_setPlace 2 = .ok (.aload_n 0, 1) := by decide +kernel
theorem dX0_setPlace_3 : decode cX0_setPlace 3 = .ok (.iload_n 1, 1) := by decide +kernel
theorem dX0_setPlace_4 : decode cX0_setPlace 4 = .ok (.invokevirtual 34, 3) := by decide +kernel
theorem dX0_setPlace_7 : decode cX0_setPlace 7 = .ok (.bipush (-8), 2) := by decide +kernel
theorem dX0_setPlace_9 : decode cX0_setPlace 9 = .ok (.iand, 1) := by decide +kernel
theorem dX0_setPlace_10 : decode cX0_setPlace 10 = .ok (.iload_n 2, 1) := by decide +kernel
theorem dX0_setPlace_11 : decode cX0_setPlace 11 = .ok (.ior, 1) := by decide +kernel
theorem dX0_setPlace_12 : decode cX0_setPlace 12 = .ok (.invokevirtual 78, 3) := by decide +kernel
theorem dX0_setPlace_15 : decode cX0_setPlace 15 = .ok (.return_, 1) := by decide +kernel
theorem dX0_waitingIn_0 : decode cX0_waitingIn 0 = .ok (.iload_n 0, 1) := by decide +kernel
theorem dX0_waitingIn_1 : decode cX0_waitingIn 1 = .ok (.iconst 3, 1) := by decide +kernel
theorem dX0_waitingIn_2 : decode cX0_waitingIn 2 = .ok (.ishr, 1) := by decide +kernel
theorem dX0_waitingIn_3 : decode cX0_waitingIn 3 = .ok (.iconst 3, 1) := by decide +kernel
theorem dX0_waitingIn_4 : decode cX0_waitingIn 4 = .ok (.iand, 1) := by decide +kernel
theorem dX0_waitingIn_5 : decode cX0_waitingIn 5 = .ok (.ireturn, 1) := by decide +kernel
theorem dX0_entryIn_0 : decode cX0_entryIn 0 = .ok (.iload_n 0, 1) := by decide +kernel
theorem dX0_entryIn_1 : decode cX0_entryIn 1 = .ok (.iconst 5, 1) := by decide +kernel
theorem dX0_entryIn_2 : decode cX0_entryIn 2 = .ok (.iconst 4, 1) := by decide +kernel
theorem dX0_entryIn_3 : decode cX0_entryIn 3 = .ok (.iload_n 1, 1) := by decide +kernel
theorem dX0_entryIn_4 : decode cX0_entryIn 4 = .ok (.imul, 1) := by decide +kernel
theorem dX0_entryIn_5 : decode cX0_entryIn 5 = .ok (.iadd, 1) := by decide +kernel
theorem dX0_entryIn_6 : decode cX0_entryIn 6 = .ok (.ishr, 1) := by decide +kernel
theorem dX0_entryIn_7 : decode cX0_entryIn 7 = .ok (.bipush 15, 2) := by decide +kernel
theorem dX0_entryIn_9 : decode cX0_entryIn 9 = .ok (.iand, 1) := by decide +kernel
theorem dX0_entryIn_10 : decode cX0_entryIn 10 = .ok (.ireturn, 1) := by decide +kernel
