theorem dX4_beside_63 : decode cX4_beside 63 = .ok (.iload 5, 2) := by decide +kernel
theorem dX4_beside_65 : decode cX4_beside 65 = .ok (.laload, 1) := by decide +kernel
theorem dX4_beside_66 : decode cX4_beside 66 = .ok (.lcmp, 1) := by decide +kernel
theorem dX4_beside_67 : decode cX4_beside 67 = .ok (.ifCond .le 7, 3) := by decide +kernel
theorem dX4_beside_70 : decode cX4_beside 70 = .ok (.iconst 1, 1) := by decide +kernel
theorem dX4_beside_71 : decode cX4_beside 71 = .ok (.goto 4, 3) := by decide +kernel
theorem dX4_beside_74 : decode cX4_beside 74 = .ok (.iconst 0, 1) := by decide +kernel
theorem dX4_beside_75 : decode cX4_beside 75 = .ok (.ireturn, 1) := by decide +kernel
theorem dX4_comes_0 : decode cX4_comes 0 = .ok (.aload_n 0, 1) := by decide +kernel
theorem dX4_comes_1 : decode cX4_comes 1 = .ok (.invokevirtual 110, 3) := by decide +kernel
theorem dX4_comes_4 : decode cX4_comes 4 = .ok (.lstore_n 3, 1) := by decide +kernel
theorem dX4_comes_5 : decode cX4_comes 5 = .ok (.aload_n 0, 1) := by decide +kernel
theorem dX4_comes_6 : decode cX4_comes 6 = .ok (.invokevirtual 114, 3) := by decide +kernel
theorem dX4_comes_9 : decode cX4_comes 9 = .ok (.lstore 5, 2) := by decide +kernel
theorem dX4_comes_11 : decode cX4_comes 11 = .ok (.iconst 0, 1) := by decide +kernel
theorem dX4_comes_12 : decode cX4_comes 12 = .ok (.istore 7, 2) := by decide +kernel
theorem dX4_comes_14 : decode cX4_comes 14 = .ok (.aload_n 0, 1) := by decide +kernel
theorem dX4_comes_15 : decode cX4_comes 15 = .ok (.getfield 117, 3) := by decide +kernel
theorem dX4_comes_18 : decode cX4_comes 18 = .ok (.ifCond .ne 7, 3) := by decide +kernel
theorem dX4_comes_21 : decode cX4_comes 21 = .ok (.iconst 0, 1) := by decide +kernel
theorem dX4_comes_22 : decode cX4_comes 22 = .ok (.goto 11, 3) := by decide +kernel
theorem dX4_comes_25 : decode cX4_comes 25 = .ok (.aload_n 0, 1) := by decide +kernel
theorem dX4_comes_26 : decode cX4_comes 26 = .ok (.lload_n 3, 1) := by decide +kernel
theorem dX4_comes_27 : decode cX4_comes 27 = .ok (.lload 5, 2) := by decide +kernel
theorem dX4_comes_29 : decode cX4_comes 29 = .ok (.iconst 0, 1) := by decide +kernel
theorem dX4_comes_30 : decode cX4_comes 30 = .ok (.invokevirtual 120, 3) := by decide +kernel
theorem dX4_comes_33 : decode cX4_comes 33 = .ok (.istore 8, 2) := by decide +kernel
theorem dX4_comes_35 : decode cX4_comes 35 = .ok (.aload_n 0, 1) := by decide +kernel
theorem dX4_comes_36 : decode cX4_comes 36 = .ok (.getfield 117, 3) := by decide +kernel
theorem dX4_comes_39 : decode cX4_comes 39 = .ok (.ifCond .le 72, 3) := by decide +kernel
theorem dX4_comes_42 : decode cX4_comes 42 = .ok (.iload 8, 2) := by decide +kernel
theorem dX4_comes_44 : decode cX4_comes 44 = .ok (.ifCond .eq 67, 3) := by decide +kernel
theorem dX4_comes_47 : decode cX4_comes 47 = .ok (.iload 8, 2) := by decide +kernel
theorem dX4_comes_49 : decode cX4_comes 49 = .ok (.ifCond .ge 13, 3) := by decide +kernel
theorem dX4_comes_52 : decode cX4_comes 52 = .ok (.aload_n 0, 1) := by decide +kernel
theorem dX4_comes_53 : decode cX4_comes 53 = .ok (.getfield 38, 3) := by decide +kernel
theorem dX4_comes_56 : decode cX4_comes 56 = .ok (.iload 7, 2) := by decide +kernel
theorem dX4_comes_58 : decode cX4_comes 58 = .ok (.iaload, 1) := by decide +kernel
theorem dX4_comes_59 : decode cX4_comes 59 = .ok (.goto 10, 3) := by decide +kernel
theorem dX4_comes_62 : decode cX4_comes 62 = .ok (.aload_n 0, 1) := by decide +kernel
theorem dX4_comes_63 : decode cX4_comes 63 = .ok (.getfield 41, 3) := by decide +kernel
theorem dX4_comes_66 : decode cX4_comes 66 = .ok (.iload 7, 2) := by decide +kernel
theorem dX4_comes_68 : decode cX4_comes 68 = .ok (.iaload, 1) := by decide +kernel
theorem dX4_comes_69 : decode cX4_comes 69 = .ok (.iconst (-1), 1) := by decide +kernel
theorem dX4_comes_70 : decode cX4_comes 70 = .ok (.if_icmp .eq 41, 3) := by decide +kernel
theorem dX4_comes_73 : decode cX4_comes 73 = .ok (.iload 8, 2) := by decide +kernel
theorem dX4_comes_75 : decode cX4_comes 75 = .ok (.ifCond .ge 13, 3) := by decide +kernel
theorem dX4_comes_78 : decode cX4_comes 78 = .ok (.aload_n 0, 1) := by decide +kernel
theorem dX4_comes_79 : decode cX4_comes 79 = .ok (.getfield 38, 3) := by decide +kernel
theorem dX4_comes_82 : decode cX4_comes 82 = .ok (.iload 7, 2) := by decide +kernel
theorem dX4_comes_84 : decode cX4_comes 84 = .ok (.iaload, 1) := by decide +kernel
theorem dX4_comes_85 : decode cX4_comes 85 = .ok (.goto 10, 3) := by decide +kernel
theorem dX4_comes_88 : decode cX4_comes 88 = .ok (.aload_n 0, 1) := by decide +kernel
theorem dX4_comes_89 : decode cX4_comes 89 = .ok (.getfield 41, 3) := by decide +kernel
theorem dX4_comes_92 : decode cX4_comes 92 = .ok (.iload 7, 2) := by decide +kernel
theorem dX4_comes_94 : decode cX4_comes 94 = .ok (.iaload, 1) := by decide +kernel
theorem dX4_comes_95 : decode cX4_comes 95 = .ok (.istore 7, 2) := by decide +kernel
theorem dX4_comes_97 : decode cX4_comes 97 = .ok (.aload_n 0, 1) := by decide +kernel
theorem dX4_comes_98 : decode cX4_comes 98 = .ok (.lload_n 3, 1) := by decide +kernel
theorem dX4_comes_99 : decode cX4_comes 99 = .ok (.lload 5, 2) := by decide +kernel
theorem dX4_comes_101 : decode cX4_comes 101 = .ok (.iload 7, 2) := by decide +kernel
theorem dX4_comes_103 : decode cX4_comes 103 = .ok (.invokevirtual 120, 3) := by decide +kernel
theorem dX4_comes_106 : decode cX4_comes 106 = .ok (.istore 8, 2) := by decide +kernel
theorem dX4_comes_108 : decode cX4_comes 108 = .ok (.goto (-73), 3) := by decide +kernel
theorem dX4_comes_111 : decode cX4_comes 111 = .ok (.aload_n 0, 1) := by decide +kernel
theorem dX4_comes_112 : decode cX4_comes 112 = .ok (.getfield 117, 3) := by decide +kernel
theorem dX4_comes_115 : decode cX4_comes 115 = .ok (.ifCond .le 10, 3) := by decide +kernel
theorem dX4_comes_118 : decode cX4_comes 118 = .ok (.iload 8, 2) := by decide +kernel
theorem dX4_comes_120 : decode cX4_comes 120 = .ok (.ifCond .ne 5, 3) := by decide +kernel
theorem dX4_comes_123 : decode cX4_comes 123 = .ok (.iconst 1, 1) := by decide +kernel
theorem dX4_comes_124 : decode cX4_comes 124 = .ok (.ireturn, 1) := by decide +kernel
theorem dX4_comes_125 : decode cX4_comes 125 = .ok (.aload_n 0, 1) := by decide +kernel
theorem dX4_comes_126 : decode cX4_comes 126 = .ok (.getfield 117, 3) := by decide +kernel
theorem dX4_comes_129 : decode cX4_comes 129 = .ok (.sipush 20000, 3) := by decide +kernel
theorem dX4_comes_132 : decode cX4_comes 132 = .ok (.if_icmp .ne 5, 3) := by decide +kernel
theorem dX4_comes_135 : decode cX4_comes 135 = .ok (.iconst 0, 1) := by decide +kernel
theorem dX4_comes_136 : decode cX4_comes 136 = .ok (.ireturn, 1) := by decide +kernel
theorem dX4_comes_137 : decode cX4_comes 137 = .ok (.aload_n 0, 1) := by decide +kernel
theorem dX4_comes_138 : decode cX4_comes 138 = .ok (.getfield 117, 3) := by decide +kernel
theorem dX4_comes_141 : decode cX4_comes 141 = .ok (.ifCond .le 19, 3) := by decide +kernel
theorem dX4_comes_144 : decode cX4_comes 144 = .ok (.iload 8, 2) := by decide +kernel
theorem dX4_comes_146 : decode cX4_comes 146 = .ok (.ifCond .ge 14, 3) := by decide +kernel
theorem dX4_comes_149 : decode cX4_comes 149 = .ok (.aload_n 0, 1) := by decide +kernel
theorem dX4_comes_150 : decode cX4_comes 150 = .ok (.getfield 38, 3) := by decide +kernel
theorem dX4_comes_153 : decode cX4_comes 153 = .ok (.iload 7, 2) := by decide +kernel
theorem dX4_comes_155 : decode cX4_comes 155 = .ok (.aload_n 0, 1) := by decide +kernel
theorem dX4_comes_156 : decode cX4_comes 156 = .ok (.getfield 117, 3) := by decide +kernel
theorem dX4_comes_159 : decode cX4_comes 159 = .ok (.iastore, 1) := by decide +kernel
theorem dX4_comes_160 : decode cX4_comes 160 = .ok (.aload_n 0, 1) := by decide +kernel
theorem dX4_comes_161 : decode cX4_comes 161 = .ok (.getfield 117, 3) := by decide +kernel
theorem dX4_comes_164 : decode cX4_comes 164 = .ok (.ifCond .le 19, 3) := by decide +kernel
theorem dX4_comes_167 : decode cX4_comes 167 = .ok (.iload 8, 2) := by decide +kernel
theorem dX4_comes_169 : decode cX4_comes 169 = .ok (.ifCond .le 14, 3) := by decide +kernel
theorem dX4_comes_172 : decode cX4_comes 172 = .ok (.aload_n 0, 1) := by decide +kernel
theorem dX4_comes_173 : decode cX4_comes 173 = .ok (.getfield 41, 3) := by decide +kernel
theorem dX4_comes_176 : decode cX4_comes 176 = .ok (.iload 7, 2) := by decide +kernel
theorem dX4_comes_178 : decode cX4_comes 178 = .ok (.aload_n 0, 1) := by decide +kernel
theorem dX4_comes_179 : decode cX4_comes 179 = .ok (.getfield 117, 3) := by decide +kernel
theorem dX4_comes_182 : decode cX4_comes 182 = .ok (.iastore, 1) := by decide +kernel
theorem dX4_comes_183 : decode cX4_comes 183 = .ok (.aload_n 0, 1) := by decide +kernel
theorem dX4_comes_184 : decode cX4_comes 184 = .ok (.getfield 22, 3) := by decide +kernel
theorem dX4_comes_187 : decode cX4_comes 187 = .ok (.aload_n 0, 1) := by decide +kernel
theorem dX4_comes_188 : decode cX4_comes 188 = .ok (.getfield 117, 3) := by decide +kernel
theorem dX4_comes_191 : decode cX4_comes 191 = .ok (.lload_n 3, 1) := by decide +kernel
theorem dX4_comes_192 : decode cX4_comes 192 = .ok (.lastore, 1) := by decide +kernel
theorem dX4_comes_193 : decode cX4_comes 193 = .ok (.aload_n 0, 1) := by decide +kernel
theorem dX4_comes_194 : decode cX4_comes 194 = .ok (.getfield 26, 3) := by decide +kernel
theorem dX4_comes_197 : decode cX4_comes 197 = .ok (.aload_n 0, 1) := by decide +kernel
theorem dX4_comes_198 : decode cX4_comes 198 = .ok (.getfield 117, 3) := by decide +kernel
theorem dX4_comes_201 : decode cX4_comes 201 = .ok (.lload 5, 2) := by decide +kernel
theorem dX4_comes_203 : decode cX4_comes 203 = .ok (.lastore, 1) := by decide +kernel
theorem dX4_comes_204 : decode cX4_comes 204 = .ok (.aload_n 0, 1) := by decide +kernel
theorem dX4_comes_205 : decode cX4_comes 205 = .ok (.getfield 38, 3) := by decide +kernel
theorem dX4_comes_208 : decode cX4_comes 208 = .ok (.aload_n 0, 1) := by decide +kernel
theorem dX4_comes_209 : decode cX4_comes 209 = .ok (.getfield 117, 3) := by decide +kernel
theorem dX4_comes_212 : decode cX4_comes 212 = .ok (.iconst (-1), 1) := by decide +kernel
theorem dX4_comes_213 : decode cX4_comes 213 = .ok (.iastore, 1) := by decide +kernel
theorem dX4_comes_214 : decode cX4_comes 214 = .ok (.aload_n 0, 1) := by decide +kernel
theorem dX4_comes_215 : decode cX4_comes 215 = .ok (.getfield 41, 3) := by decide +kernel
theorem dX4_comes_218 : decode cX4_comes 218 = .ok (.aload_n 0, 1) := by decide +kernel
theorem dX4_comes_219 : decode cX4_comes 219 = .ok (.getfield 117, 3) := by decide +kernel
theorem dX4_comes_222 : decode cX4_comes 222 = .ok (.iconst (-1), 1) := by decide +kernel
theorem dX4_comes_223 : decode cX4_comes 223 = .ok (.iastore, 1) := by decide +kernel
theorem dX4_comes_224 : decode cX4_comes 224 = .ok (.aload_n 0, 1) := by decide +kernel
theorem dX4_comes_225 : decode cX4_comes 225 = .ok (.getfield 32, 3) := by decide +kernel
theorem dX4_comes_228 : decode cX4_comes 228 = .ok (.aload_n 0, 1) := by decide +kernel
theorem dX4_comes_229 : decode cX4_comes 229 = .ok (.getfield 117, 3) := by decide +kernel
theorem dX4_comes_232 : decode cX4_comes 232 = .ok (.iload_n 1, 1) := by decide +kernel
theorem dX4_comes_233 : decode cX4_comes 233 = .ok (.iastore, 1) := by decide +kernel
theorem dX4_comes_234 : decode cX4_comes 234 = .ok (.aload_n 0, 1) := by decide +kernel
theorem dX4_comes_235 : decode cX4_comes 235 = .ok (.getfield 35, 3) := by decide +kernel
theorem dX4_comes_238 : decode cX4_comes 238 = .ok (.aload_n 0, 1) := by decide +kernel
theorem dX4_comes_239 : decode cX4_comes 239 = .ok (.getfield 117, 3) := by decide +kernel
theorem dX4_comes_242 : decode cX4_comes 242 = .ok (.iload_n 2, 1) := by decide +kernel
theorem dX4_comes_243 : decode cX4_comes 243 = .ok (.iastore, 1) := by decide +kernel
theorem dX4_comes_244 : decode cX4_comes 244 = .ok (.aload_n 0, 1) := by decide +kernel
theorem dX4_comes_245 : decode cX4_comes 245 = .ok (.getfield 29, 3) := by decide +kernel
theorem dX4_comes_248 : decode cX4_comes 248 = .ok (.aload_n 0, 1) := by decide +kernel
theorem dX4_comes_249 : decode cX4_comes 249 = .ok (.getfield 117, 3) := by decide +kernel
theorem dX4_comes_252 : decode cX4_comes 252 = .ok (.iload_n 1, 1) := by decide +kernel
theorem dX4_comes_253 : decode cX4_comes 253 = .ok (.iconst (-1), 1) := by decide +kernel
theorem dX4_comes_254 : decode cX4_comes 254 = .ok (.if_icmp .ne 7, 3) := by decide +kernel
theorem dX4_comes_257 : decode cX4_comes 257 = .ok (.iconst 0, 1) := by decide +kernel
theorem dX4_comes_258 : decode cX4_comes 258 = .ok (.goto 11, 3) := by decide +kernel
theorem dX4_comes_261 : decode cX4_comes 261 = .ok (.aload_n 0, 1) := by decide +kernel
theorem dX4_comes_262 : decode cX4_comes 262 = .ok (.getfield 29, 3) := by decide +kernel
theorem dX4_comes_265 : decode cX4_comes 265 = .ok (.iload_n 1, 1) := by decide +kernel
theorem dX4_comes_266 : decode cX4_comes 266 = .ok (.iaload, 1) := by decide +kernel
theorem dX4_comes_267 : decode cX4_comes 267 = .ok (.iconst 1, 1) := by decide +kernel
theorem dX4_comes_268 : decode cX4_comes 268 = .ok (.iadd, 1) := by decide +kernel
theorem dX4_comes_269 : decode cX4_comes 269 = .ok (.iastore, 1) := by decide +kernel
theorem dX4_comes_270 : decode cX4_comes 270 = .ok (.aload_n 0, 1) := by decide +kernel
theorem dX4_comes_271 : decode cX4_comes 271 = .ok (.dup, 1) := by decide +kernel
theorem dX4_comes_272 : decode cX4_comes 272 = .ok (.getfield 117, 3) := by decide +kernel
theorem dX4_comes_275 : decode cX4_comes 275 = .ok (.iconst 1, 1) := by decide +kernel
theorem dX4_comes_276 : decode cX4_comes 276 = .ok (.iadd, 1) := by decide +kernel
theorem dX4_comes_277 : decode cX4_comes 277 = .ok (.putfield 117, 3) := by decide +kernel
theorem dX4_comes_280 : decode cX4_comes 280 = .ok (.iconst 1, 1) := by decide +kernel
theorem dX4_comes_281 : decode cX4_comes 281 = .ok (.ireturn, 1) := by decide +kernel
theorem dX4_wipe_0 : decode cX4_wipe 0 = .ok (.iconst 0, 1) := by decide +kernel
theorem dX4_wipe_1 : decode cX4_wipe 1 = .ok (.istore_n 1, 1) := by decide +kernel
theorem dX4_wipe_2 : decode cX4_wipe 2 = .ok (.iload_n 1, 1) := by decide +kernel
theorem dX4_wipe_3 : decode cX4_wipe 3 = .ok (.iconst 4, 1) := by decide +kernel
theorem dX4_wipe_4 : decode cX4_wipe 4 = .ok (.if_icmp .ge 30, 3) := by decide +kernel
theorem dX4_wipe_7 : decode cX4_wipe 7 = .ok (.aload_n 0, 1) := by decide +kernel
theorem dX4_wipe_8 : decode cX4_wipe 8 = .ok (.getfield 44, 3) := by decide +kernel
theorem dX4_wipe_11 : decode cX4_wipe 11 = .ok (.iload_n 1, 1) := by decide +kernel
theorem dX4_wipe_12 : decode cX4_wipe 12 = .ok (.iconst 0, 1) := by decide +kernel
theorem dX4_wipe_13 : decode cX4_wipe 13 = .ok (.iastore, 1) := by decide +kernel
theorem dX4_wipe_14 : decode cX4_wipe 14 = .ok (.aload_n 0, 1) := by decide +kernel
theorem dX4_wipe_15 : decode cX4_wipe 15 = .ok (.getfield 50, 3) := by decide +kernel
theorem dX4_wipe_18 : decode cX4_wipe 18 = .ok (.iload_n 1, 1) := by decide +kernel
theorem dX4_wipe_19 : decode cX4_wipe 19 = .ok (.iconst 0, 1) := by decide +kernel
theorem dX4_wipe_20 : decode cX4_wipe 20 = .ok (.iastore, 1) := by decide +kernel
theorem dX4_wipe_21 : decode cX4_wipe 21 = .ok (.aload_n 0, 1) := by decide +kernel
theorem dX4_wipe_22 : decode cX4_wipe 22 = .ok (.getfield 53, 3) := by decide +kernel
theorem dX4_wipe_25 : decode cX4_wipe 25 = .ok (.iload_n 1, 1) := by decide +kernel
theorem dX4_wipe_26 : decode cX4_wipe 26 = .ok (.iconst 0, 1) := by decide +kernel
theorem dX4_wipe_27 : decode cX4_wipe 27 = .ok (.iastore, 1) := by decide +kernel
theorem dX4_wipe_28 : decode cX4_wipe 28 = .ok (.iinc 1 1, 3) := by decide +kernel
theorem dX4_wipe_31 : decode cX4_wipe 31 = .ok (.goto (-29), 3) := by decide +kernel
theorem dX4_wipe_34 : decode cX4_wipe 34 = .ok (.iconst 0, 1) := by decide +kernel
theorem dX4_wipe_35 : decode cX4_wipe 35 = .ok (.istore_n 1, 1) := by decide +kernel
theorem dX4_wipe_36 : decode cX4_wipe 36 = .ok (.iload_n 1, 1) := by decide +kernel
theorem dX4_wipe_37 : decode cX4_wipe 37 = .ok (.bipush 16, 2) := by decide +kernel
theorem dX4_wipe_39 : decode cX4_wipe 39 = .ok (.if_icmp .ge 16, 3) := by decide +kernel
theorem dX4_wipe_42 : decode cX4_wipe 42 = .ok (.aload_n 0, 1) := by decide +kernel
theorem dX4_wipe_43 : decode cX4_wipe 43 = .ok (.getfield 47, 3) := by decide +kernel
theorem dX4_wipe_46 : decode cX4_wipe 46 = .ok (.iload_n 1, 1) := by decide +kernel
theorem dX4_wipe_47 : decode cX4_wipe 47 = .ok (.iconst 0, 1) := by decide +kernel
theorem dX4_wipe_48 : decode cX4_wipe 48 = .ok (.iastore, 1) := by decide +kernel
theorem dX4_wipe_49 : decode cX4_wipe 49 = .ok (.iinc 1 1, 3) := by decide +kernel
theorem dX4_wipe_52 : decode cX4_wipe 52 = .ok (.goto (-16), 3) := by decide +kernel
theorem dX4_wipe_55 : decode cX4_wipe 55 = .ok (.aload_n 0, 1) := by decide +kernel
theorem dX4_wipe_56 : decode cX4_wipe 56 = .ok (.iconst 0, 1) := by decide +kernel
theorem dX4_wipe_57 : decode cX4_wipe 57 = .ok (.putfield 117, 3) := by decide +kernel
theorem dX4_wipe_60 : decode cX4_wipe 60 = .ok (.return_, 1) := by decide +kernel
theorem dX4_explore_0 : decode cX4_explore 0 = .ok (.iload_n 1, 1) := by decide +kernel
theorem dX4_explore_1 : decode cX4_explore 1 = .ok (.ifCond .lt 8, 3) := by decide +kernel
theorem dX4_explore_4 : decode cX4_explore 4 = .ok (.iload_n 1, 1) := by decide +kernel
theorem dX4_explore_5 : decode cX4_explore 5 = .ok (.iconst 2, 1) := by decide +kernel
theorem dX4_explore_6 : decode cX4_explore 6 = .ok (.if_icmp .le 9, 3) := by decide +kernel
theorem dX4_explore_9 : decode cX4_explore 9 = .ok (.aload_n 0, 1) := by decide +kernel
theorem dX4_explore_10 : decode cX4_explore 10 = .ok (.iconst 1, 1) := by decide +kernel
theorem dX4_explore_11 : decode cX4_explore 11 = .ok (.invokevirtual 124, 3) := by decide +kernel
theorem dX4_explore_14 : decode cX4_explore 14 = .ok (.ireturn, 1) := by decide +kernel
theorem dX4_explore_15 : decode cX4_explore 15 = .ok (.aload_n 0, 1) := by decide +kernel
theorem dX4_explore_16 : decode cX4_explore 16 = .ok (.invokevirtual 128, 3) := by decide +kernel
theorem dX4_explore_19 : decode cX4_explore 19 = .ok (.aload_n 0, 1) := by decide +kernel
theorem dX4_explore_20 : decode cX4_explore 20 = .ok (.iconst (-1), 1) := by decide +kernel
theorem dX4_explore_21 : decode cX4_explore 21 = .ok (.iconst (-1), 1) := by decide +kernel
theorem dX4_explore_22 : decode cX4_explore 22 = .ok (.invokevirtual 131, 3) := by decide +kernel
theorem dX4_explore_25 : decode cX4_explore 25 = .ok (.pop, 1) := by decide +kernel
theorem dX4_explore_26 : decode cX4_explore 26 = .ok (.iconst 0, 1) := by decide +kernel
theorem dX4_explore_27 : decode cX4_explore 27 = .ok (.istore_n 2, 1) := by decide +kernel
theorem dX4_explore_28 : decode cX4_explore 28 = .ok (.iconst 0, 1) := by decide +kernel
theorem dX4_explore_29 : decode cX4_explore 29 = .ok (.istore_n 3, 1) := by decide +kernel
theorem dX4_explore_30 : decode cX4_explore 30 = .ok (.iload_n 3, 1) := by decide +kernel
theorem dX4_explore_31 : decode cX4_explore 31 = .ok (.aload_n 0, 1) := by decide +kernel
theorem dX4_explore_32 : decode cX4_explore 32 = .ok (.getfield 117, 3) := by decide +kernel
theorem dX4_explore_35 : decode cX4_explore 35 = .ok (.if_icmp .ge 79, 3) := by decide +kernel
theorem dX4_explore_38 : decode cX4_explore 38 = .ok (.iconst 0, 1) := by decide +kernel
theorem dX4_explore_39 : decode cX4_explore 39 = .ok (.istore 4, 2) := by decide +kernel
theorem dX4_explore_41 : decode cX4_explore 41 = .ok (.iconst 0, 1) := by decide +kernel
theorem dX4_explore_42 : decode cX4_explore 42 = .ok (.istore 5, 2) := by decide +kernel
theorem dX4_explore_44 : decode cX4_explore 44 = .ok (.iload 5, 2) := by decide +kernel
theorem dX4_explore_46 : decode cX4_explore 46 = .ok (.bipush 20, 2) := by decide +kernel
theorem dX4_explore_48 : decode cX4_explore 48 = .ok (.if_icmp .ge 46, 3) := by decide +kernel
theorem dX4_explore_51 : decode cX4_explore 51 = .ok (.aload_n 0, 1) := by decide +kernel
theorem dX4_explore_52 : decode cX4_explore 52 = .ok (.iload_n 3, 1) := by decide +kernel
theorem dX4_explore_53 : decode cX4_explore 53 = .ok (.invokevirtual 134, 3) := by decide +kernel
theorem dX4_explore_56 : decode cX4_explore 56 = .ok (.aload_n 0, 1) := by decide +kernel
theorem dX4_explore_57 : decode cX4_explore 57 = .ok (.iload 5, 2) := by decide +kernel
theorem dX4_explore_59 : decode cX4_explore 59 = .ok (.iload_n 1, 1) := by decide +kernel
theorem dX4_explore_60 : decode cX4_explore 60 = .ok (.invokevirtual 138, 3) := by decide +kernel
theorem dX4_explore_63 : decode cX4_explore 63 = .ok (.ifCond .ne 6, 3) := by decide +kernel
theorem dX4_explore_66 : decode cX4_explore 66 = .ok (.goto 22, 3) := by decide +kernel
theorem dX4_explore_69 : decode cX4_explore 69 = .ok (.iinc 4 1, 3) := by decide +kernel
theorem dX4_explore_72 : decode cX4_explore 72 = .ok (.aload_n 0, 1) := by decide +kernel
theorem dX4_explore_73 : decode cX4_explore 73 = .ok (.iload_n 3, 1) := by decide +kernel
theorem dX4_explore_74 : decode cX4_explore 74 = .ok (.iload 5, 2) := by decide +kernel
theorem dX4_explore_76 : decode cX4_explore 76 = .ok (.invokevirtual 131, 3) := by decide +kernel
theorem dX4_explore_79 : decode cX4_explore 79 = .ok (.ifCond .ne 9, 3) := by decide +kernel
theorem dX4_explore_82 : decode cX4_explore 82 = .ok (.aload_n 0, 1) := by decide +kernel
theorem dX4_explore_83 : decode cX4_explore 83 = .ok (.iconst 2, 1) := by decide +kernel
theorem dX4_explore_84 : decode cX4_explore 84 = .ok (.invokevirtual 124, 3) := by decide +kernel
theorem dX4_explore_87 : decode cX4_explore 87 = .ok (.ireturn, 1) := by decide +kernel
theorem dX4_explore_88 : decode cX4_explore 88 = .ok (.iinc 5 1, 3) := by decide +kernel
theorem dX4_explore_91 : decode cX4_explore 91 = .ok (.goto (-47), 3) := by decide +kernel
theorem dX4_explore_94 : decode cX4_explore 94 = .ok (.iload_n 2, 1) := by decide +kernel
theorem dX4_explore_95 : decode cX4_explore 95 = .ok (.iload 4, 2) := by decide +kernel
theorem dX4_explore_97 : decode cX4_explore 97 = .ok (.iconst 1, 1) := by decide +kernel
theorem dX4_explore_98 : decode cX4_explore 98 = .ok (.if_icmp .le 7, 3) := by decide +kernel
theorem dX4_explore_101 : decode cX4_explore 101 = .ok (.iconst 1, 1) := by decide +kernel
theorem dX4_explore_102 : decode cX4_explore 102 = .ok (.goto 4, 3) := by decide +kernel
theorem dX4_explore_105 : decode cX4_explore 105 = .ok (.iconst 0, 1) := by decide +kernel
theorem dX4_explore_106 : decode cX4_explore 106 = .ok (.iadd, 1) := by decide +kernel
theorem dX4_explore_107 : decode cX4_explore 107 = .ok (.istore_n 2, 1) := by decide +kernel
theorem dX4_explore_108 : decode cX4_explore 108 = .ok (.iinc 3 1, 3) := by decide +kernel
theorem dX4_explore_111 : decode cX4_explore 111 = .ok (.goto (-81), 3) := by decide +kernel
theorem dX4_explore_114 : decode cX4_explore 114 = .ok (.aload_n 0, 1) := by decide +kernel
theorem dX4_explore_115 : decode cX4_explore 115 = .ok (.iconst 0, 1) := by decide +kernel
theorem dX4_explore_116 : decode cX4_explore 116 = .ok (.putfield 74, 3) := by decide +kernel
theorem dX4_explore_119 : decode cX4_explore 119 = .ok (.aload_n 0, 1) := by decide +kernel
theorem dX4_explore_120 : decode cX4_explore 120 = .ok (.aload_n 0, 1) := by decide +kernel
theorem dX4_explore_121 : decode cX4_explore 121 = .ok (.getfield 117, 3) := by decide +kernel
theorem dX4_explore_124 : decode cX4_explore 124 = .ok (.putfield 141, 3) := by decide +kernel
theorem dX4_explore_127 : decode cX4_explore 127 = .ok (.aload_n 0, 1) := by decide +kernel
theorem dX4_explore_128 : decode cX4_explore 128 = .ok (.iload_n 2, 1) := by decide +kernel
theorem dX4_explore_129 : decode cX4_explore 129 = .ok (.putfield 144, 3) := by decide +kernel
theorem dX4_explore_132 : decode cX4_explore 132 = .ok (.aload_n 0, 1) := by decide +kernel
theorem dX4_explore_133 : decode cX4_explore 133 = .ok (.aload_n 0, 1) := by decide +kernel
theorem dX4_explore_134 : decode cX4_explore 134 = .ok (.getfield 29, 3) := by decide +kernel
theorem dX4_explore_137 : decode cX4_explore 137 = .ok (.aload_n 0, 1) := by decide +kernel
theorem dX4_explore_138 : decode cX4_explore 138 = .ok (.getfield 117, 3) := by decide +kernel
theorem dX4_explore_141 : decode cX4_explore 141 = .ok (.iconst 1, 1) := by decide +kernel
theorem dX4_explore_142 : decode cX4_explore 142 = .ok (.isub, 1) := by decide +kernel
theorem dX4_explore_143 : decode cX4_explore 143 = .ok (.iaload, 1) := by decide +kernel
theorem dX4_explore_144 : decode cX4_explore 144 = .ok (.putfield 147, 3) := by decide +kernel
theorem dX4_explore_147 : decode cX4_explore 147 = .ok (.aload_n 0, 1) := by decide +kernel
theorem dX4_explore_148 : decode cX4_explore 148 = .ok (.iconst 0, 1) := by decide +kernel
theorem dX4_explore_149 : decode cX4_explore 149 = .ok (.putfield 150, 3) := by decide +kernel
theorem dX4_explore_152 : decode cX4_explore 152 = .ok (.iconst 0, 1) := by decide +kernel
theorem dX4_explore_153 : decode cX4_explore 153 = .ok (.istore_n 3, 1) := by decide +kernel
theorem dX4_explore_154 : decode cX4_explore 154 = .ok (.iload_n 3, 1) := by decide +kernel
theorem dX4_explore_155 : decode cX4_explore 155 = .ok (.aload_n 0, 1) := by decide +kernel
theorem dX4_explore_156 : decode cX4_explore 156 = .ok (.getfield 117, 3) := by decide +kernel
theorem dX4_explore_159 : decode cX4_explore 159 = .ok (.if_icmp .ge 26, 3) := by decide +kernel
theorem dX4_explore_162 : decode cX4_explore 162 = .ok (.aload_n 0, 1) := by decide +kernel
theorem dX4_explore_163 : decode cX4_explore 163 = .ok (.iload_n 3, 1) := by decide +kernel
theorem dX4_explore_164 : decode cX4_explore 164 = .ok (.invokevirtual 134, 3) := by decide +kernel
theorem dX4_explore_167 : decode cX4_explore 167 = .ok (.aload_n 0, 1) := by decide +kernel
theorem dX4_explore_168 : decode cX4_explore 168 = .ok (.invokevirtual 153, 3) := by decide +kernel
theorem dX4_explore_171 : decode cX4_explore 171 = .ok (.ifCond .eq 8, 3) := by decide +kernel
theorem dX4_explore_174 : decode cX4_explore 174 = .ok (.aload_n 0, 1) := by decide +kernel
theorem dX4_explore_175 : decode cX4_explore 175 = .ok (.iload_n 3, 1) := by decide +kernel
theorem dX4_explore_176 : decode cX4_explore 176 = .ok (.invokevirtual 157, 3) := by decide +kernel
theorem dX4_explore_179 : decode cX4_explore 179 = .ok (.iinc 3 1, 3) := by decide +kernel
theorem dX4_explore_182 : decode cX4_explore 182 = .ok (.goto (-28), 3) := by decide +kernel
theorem dX4_explore_185 : decode cX4_explore 185 = .ok (.aload_n 0, 1) := by decide +kernel
theorem dX4_explore_186 : decode cX4_explore 186 = .ok (.invokevirtual 160, 3) := by decide +kernel
theorem dX4_explore_189 : decode cX4_explore 189 = .ok (.aload_n 0, 1) := by decide +kernel
theorem dX4_explore_190 : decode cX4_explore 190 = .ok (.getfield 150, 3) := by decide +kernel
theorem dX4_explore_193 : decode cX4_explore 193 = .ok (.ireturn, 1) := by decide +kernel
theorem dX4_keep_0 : decode cX4_keep 0 = .ok (.aload_n 0, 1) := by decide +kernel
theorem dX4_keep_1 : decode cX4_keep 1 = .ok (.getfield 62, 3) := by decide +kernel
theorem dX4_keep_4 : decode cX4_keep 4 = .ok (.aload_n 0, 1) := by decide +kernel
theorem dX4_keep_5 : decode cX4_keep 5 = .ok (.getfield 150, 3) := by decide +kernel
theorem dX4_keep_8 : decode cX4_keep 8 = .ok (.aload_n 0, 1) := by decide +kernel
theorem dX4_keep_9 : decode cX4_keep 9 = .ok (.getfield 22, 3) := by decide +kernel
theorem dX4_keep_12 : decode cX4_keep 12 = .ok (.iload_n 1, 1) := by decide +kernel
theorem dX4_keep_13 : decode cX4_keep 13 = .ok (.laload, 1) := by decide +kernel
theorem dX4_keep_14 : decode cX4_keep 14 = .ok (.ldc2_w 163, 3) := by decide +kernel
theorem dX4_keep_17 : decode cX4_keep 17 = .ok (.land, 1) := by decide +kernel
theorem dX4_keep_18 : decode cX4_keep 18 = .ok (.lastore, 1) := by decide +kernel
theorem dX4_keep_19 : decode cX4_keep 19 = .ok (.aload_n 0, 1) := by decide +kernel
theorem dX4_keep_20 : decode cX4_keep 20 = .ok (.getfield 65, 3) := by decide +kernel
theorem dX4_keep_23 : decode cX4_keep 23 = .ok (.aload_n 0, 1) := by decide +kernel
theorem dX4_keep_24 : decode cX4_keep 24 = .ok (.getfield 150, 3) := by decide +kernel
theorem dX4_keep_27 : decode cX4_keep 27 = .ok (.aload_n 0, 1) := by decide +kernel
theorem dX4_keep_28 : decode cX4_keep 28 = .ok (.getfield 29, 3) := by decide +kernel
theorem dX4_keep_31 : decode cX4_keep 31 = .ok (.iload_n 1, 1) := by decide +kernel
theorem dX4_keep_32 : decode cX4_keep 32 = .ok (.iaload, 1) := by decide +kernel
theorem dX4_keep_33 : decode cX4_keep 33 = .ok (.iastore, 1) := by decide +kernel
theorem dX4_keep_34 : decode cX4_keep 34 = .ok (.aload_n 0, 1) := by decide +kernel
theorem dX4_keep_35 : decode cX4_keep 35 = .ok (.getfield 68, 3) := by decide +kernel
theorem dX4_keep_38 : decode cX4_keep 38 = .ok (.aload_n 0, 1) := by decide +kernel
theorem dX4_keep_39 : decode cX4_keep 39 = .ok (.getfield 150, 3) := by decide +kernel
theorem dX4_keep_42 : decode cX4_keep 42 = .ok (.lconst 0, 1) := by decide +kernel
theorem dX4_keep_43 : decode cX4_keep 43 = .ok (.lastore, 1) := by decide +kernel
theorem dX4_keep_44 : decode cX4_keep 44 = .ok (.aload_n 0, 1) := by decide +kernel
theorem dX4_keep_45 : decode cX4_keep 45 = .ok (.getfield 71, 3) := by decide +kernel
theorem dX4_keep_48 : decode cX4_keep 48 = .ok (.aload_n 0, 1) := by decide +kernel
theorem dX4_keep_49 : decode cX4_keep 49 = .ok (.getfield 150, 3) := by decide +kernel
theorem dX4_keep_52 : decode cX4_keep 52 = .ok (.lconst 0, 1) := by decide +kernel
theorem dX4_keep_53 : decode cX4_keep 53 = .ok (.lastore, 1) := by decide +kernel
theorem dX4_keep_54 : decode cX4_keep 54 = .ok (.iload_n 1, 1) := by decide +kernel
theorem dX4_keep_55 : decode cX4_keep 55 = .ok (.istore_n 2, 1) := by decide +kernel
theorem dX4_keep_56 : decode cX4_keep 56 = .ok (.aload_n 0, 1) := by decide +kernel
theorem dX4_keep_57 : decode cX4_keep 57 = .ok (.getfield 29, 3) := by decide +kernel
theorem dX4_keep_60 : decode cX4_keep 60 = .ok (.iload_n 1, 1) := by decide +kernel
theorem dX4_keep_61 : decode cX4_keep 61 = .ok (.iaload, 1) := by decide +kernel
theorem dX4_keep_62 : decode cX4_keep 62 = .ok (.iconst 1, 1) := by decide +kernel
theorem dX4_keep_63 : decode cX4_keep 63 = .ok (.isub, 1) := by decide +kernel
theorem dX4_keep_64 : decode cX4_keep 64 = .ok (.istore_n 3, 1) := by decide +kernel
theorem dX4_keep_65 : decode cX4_keep 65 = .ok (.iload_n 3, 1) := by decide +kernel
theorem dX4_keep_66 : decode cX4_keep 66 = .ok (.ifCond .lt 74, 3) := by decide +kernel
theorem dX4_keep_69 : decode cX4_keep 69 = .ok (.iload_n 3, 1) := by decide +kernel
theorem dX4_keep_70 : decode cX4_keep 70 = .ok (.bipush 12, 2) := by decide +kernel
theorem dX4_keep_72 : decode cX4_keep 72 = .ok (.if_icmp .ge 29, 3) := by decide +kernel
theorem dX4_keep_75 : decode cX4_keep 75 = .ok (.aload_n 0, 1) := by decide +kernel
theorem dX4_keep_76 : decode cX4_keep 76 = .ok (.getfield 68, 3) := by decide +kernel
theorem dX4_keep_79 : decode cX4_keep 79 = .ok (.aload_n 0, 1) := by decide +kernel
theorem dX4_keep_80 : decode cX4_keep 80 = .ok (.getfield 150, 3) := by decide +kernel
theorem dX4_keep_83 : decode cX4_keep 83 = .ok (.dup2, 1) := by decide +kernel
theorem dX4_keep_84 : decode cX4_keep 84 = .ok (.laload, 1) := by decide +kernel
theorem dX4_keep_85 : decode cX4_keep 85 = .ok (.aload_n 0, 1) := by decide +kernel
theorem dX4_keep_86 : decode cX4_keep 86 = .ok (.getfield 35, 3) := by decide +kernel
theorem dX4_keep_89 : decode cX4_keep 89 = .ok (.iload_n 2, 1) := by decide +kernel
theorem dX4_keep_90 : decode cX4_keep 90 = .ok (.iaload, 1) := by decide +kernel
theorem dX4_keep_91 : decode cX4_keep 91 = .ok (.i2l, 1) := by decide +kernel
theorem dX4_keep_92 : decode cX4_keep 92 = .ok (.iconst 5, 1) := by decide +kernel
theorem dX4_keep_93 : decode cX4_keep 93 = .ok (.iload_n 3, 1) := by decide +kernel
theorem dX4_keep_94 : decode cX4_keep 94 = .ok (.imul, 1) := by decide +kernel
theorem dX4_keep_95 : decode cX4_keep 95 = .ok (.lshl, 1) := by decide +kernel
theorem dX4_keep_96 : decode cX4_keep 96 = .ok (.lor, 1) := by decide +kernel
theorem dX4_keep_97 : decode cX4_keep 97 = .ok (.lastore, 1) := by decide +kernel
theorem dX4_keep_98 : decode cX4_keep 98 = .ok (.goto 29, 3) := by decide +kernel
theorem dX4_keep_101 : decode cX4_keep 101 = .ok (.aload_n 0, 1) := by decide +kernel
theorem dX4_keep_102 : decode cX4_keep 102 = .ok (.getfield 71, 3) := by decide +kernel
theorem dX4_keep_105 : decode cX4_keep 105 = .ok (.aload_n 0, 1) := by decide +kernel
theorem dX4_keep_106 : decode cX4_keep 106 = .ok (.getfield 150, 3) := by decide +kernel
theorem dX4_keep_109 : decode cX4_keep 109 = .ok (.dup2, 1) := by decide +kernel
theorem dX4_keep_110 : decode cX4_keep 110 = .ok (.laload, 1) := by decide +kernel
theorem dX4_keep_111 : decode cX4_keep 111 = .ok (.aload_n 0, 1) := by decide +kernel
theorem dX4_keep_112 : decode cX4_keep 112 = .ok (.getfield 35, 3) := by decide +kernel
theorem dX4_keep_115 : decode cX4_keep 115 = .ok (.iload_n 2, 1) := by decide +kernel
theorem dX4_keep_116 : decode cX4_keep 116 = .ok (.iaload, 1) := by decide +kernel
theorem dX4_keep_117 : decode cX4_keep 117 = .ok (.i2l, 1) := by decide +kernel
theorem dX4_keep_118 : decode cX4_keep 118 = .ok (.iconst 5, 1) := by decide +kernel
theorem dX4_keep_119 : decode cX4_keep 119 = .ok (.iload_n 3, 1) := by decide +kernel
theorem dX4_keep_120 : decode cX4_keep 120 = .ok (.bipush 12, 2) := by decide +kernel
theorem dX4_keep_122 : decode cX4_keep 122 = .ok (.isub, 1) := by decide +kernel
theorem dX4_keep_123 : decode cX4_keep 123 = .ok (.imul, 1) := by decide +kernel
theorem dX4_keep_124 : decode cX4_keep 124 = .ok (.lshl, 1) := by decide +kernel
theorem dX4_keep_125 : decode cX4_keep 125 = .ok (.lor, 1) := by decide +kernel
theorem dX4_keep_126 : decode cX4_keep 126 = .ok (.lastore, 1) := by decide +kernel
theorem dX4_keep_127 : decode cX4_keep 127 = .ok (.aload_n 0, 1) := by decide +kernel
theorem dX4_keep_128 : decode cX4_keep 128 = .ok (.getfield 32, 3) := by decide +kernel
theorem dX4_keep_131 : decode cX4_keep 131 = .ok (.iload_n 2, 1) := by decide +kernel
theorem dX4_keep_132 : decode cX4_keep 132 = .ok (.iaload, 1) := by decide +kernel
theorem dX4_keep_133 : decode cX4_keep 133 = .ok (.istore_n 2, 1) := by decide +kernel
theorem dX4_keep_134 : decode cX4_keep 134 = .ok (.iinc 3 (-1), 3) := by decide +kernel
theorem dX4_keep_137 : decode cX4_keep 137 = .ok (.goto (-72), 3) := by decide +kernel
theorem dX4_keep_140 : decode cX4_keep 140 = .ok (.aload_n 0, 1) := by decide +kernel
theorem dX4_keep_141 : decode cX4_keep 141 = .ok (.dup, 1) := by decide +kernel
theorem dX4_keep_142 : decode cX4_keep 142 = .ok (.getfield 150, 3) := by decide +kernel
theorem dX4_keep_145 : decode cX4_keep 145 = .ok (.iconst 1, 1) := by decide +kernel
theorem dX4_keep_146 : decode cX4_keep 146 = .ok (.iadd, 1) := by decide +kernel
theorem dX4_keep_147 : decode cX4_keep 147 = .ok (.putfield 150, 3) := by decide +kernel
theorem dX4_keep_150 : decode cX4_keep 150 = .ok (.return_, 1) := by decide +kernel
theorem dX4_sort_0 : decode cX4_sort 0 = .ok (.iconst 1, 1) := by decide +kernel
theorem dX4_sort_1 : decode cX4_sort 1 = .ok (.istore_n 1, 1) := by decide +kernel
theorem dX4_sort_2 : decode cX4_sort 2 = .ok (.iload_n 1, 1) := by decide +kernel
theorem dX4_sort_3 : decode cX4_sort 3 = .ok (.aload_n 0, 1) := by decide +kernel
theorem dX4_sort_4 : decode cX4_sort 4 = .ok (.getfield 150, 3) := by decide +kernel
theorem dX4_sort_7 : decode cX4_sort 7 = .ok (.if_icmp .ge 12, 3) := by decide +kernel
theorem dX4_sort_10 : decode cX4_sort 10 = .ok (.iconst 3, 1) := by decide +kernel
theorem dX4_sort_11 : decode cX4_sort 11 = .ok (.iload_n 1, 1) := by decide +kernel
theorem dX4_sort_12 : decode cX4_sort 12 = .ok (.imul, 1) := by decide +kernel
theorem dX4_sort_13 : decode cX4_sort 13 = .ok (.iconst 1, 1) := by decide +kernel
theorem dX4_sort_14 : decode cX4_sort 14 = .ok (.iadd, 1) := by decide +kernel
theorem dX4_sort_15 : decode cX4_sort 15 = .ok (.istore_n 1, 1) := by decide +kernel
theorem dX4_sort_16 : decode cX4_sort 16 = .ok (.goto (-14), 3) := by decide +kernel
theorem dX4_sort_19 : decode cX4_sort 19 = .ok (.iload_n 1, 1) := by decide +kernel
theorem dX4_sort_20 : decode cX4_sort 20 = .ok (.ifCond .le 66, 3) := by decide +kernel
theorem dX4_sort_23 : decode cX4_sort 23 = .ok (.iload_n 1, 1) := by decide +kernel
theorem dX4_sort_24 : decode cX4_sort 24 = .ok (.istore_n 2, 1) := by decide +kernel
theorem dX4_sort_25 : decode cX4_sort 25 = .ok (.iload_n 2, 1) := by decide +kernel
theorem dX4_sort_26 : decode cX4_sort 26 = .ok (.aload_n 0, 1) := by decide +kernel
theorem dX4_sort_27 : decode cX4_sort 27 = .ok (.getfield 150, 3) := by decide +kernel
theorem dX4_sort_30 : decode cX4_sort 30 = .ok (.if_icmp .ge 49, 3) := by decide +kernel
theorem dX4_sort_33 : decode cX4_sort 33 = .ok (.iload_n 2, 1) := by decide +kernel
theorem dX4_sort_34 : decode cX4_sort 34 = .ok (.istore_n 3, 1) := by decide +kernel
theorem dX4_sort_35 : decode cX4_sort 35 = .ok (.iload_n 3, 1) := by decide +kernel
theorem dX4_sort_36 : decode cX4_sort 36 = .ok (.iload_n 1, 1) := by decide +kernel
theorem dX4_sort_37 : decode cX4_sort 37 = .ok (.if_icmp .lt 36, 3) := by decide +kernel
theorem dX4_sort_40 : decode cX4_sort 40 = .ok (.aload_n 0, 1) := by decide +kernel
theorem dX4_sort_41 : decode cX4_sort 41 = .ok (.getfield 62, 3) := by decide +kernel
theorem dX4_sort_44 : decode cX4_sort 44 = .ok (.iload_n 3, 1) := by decide +kernel
theorem dX4_sort_45 : decode cX4_sort 45 = .ok (.laload, 1) := by decide +kernel
theorem dX4_sort_46 : decode cX4_sort 46 = .ok (.aload_n 0, 1) := by decide +kernel
theorem dX4_sort_47 : decode cX4_sort 47 = .ok (.getfield 62, 3) := by decide +kernel
theorem dX4_sort_50 : decode cX4_sort 50 = .ok (.iload_n 3, 1) := by decide +kernel
theorem dX4_sort_51 : decode cX4_sort 51 = .ok (.iload_n 1, 1) := by decide +kernel
theorem dX4_sort_52 : decode cX4_sort 52 = .ok (.isub, 1) := by decide +kernel
theorem dX4_sort_53 : decode cX4_sort 53 = .ok (.laload, 1) := by decide +kernel
theorem dX4_sort_54 : decode cX4_sort 54 = .ok (.lcmp, 1) := by decide +kernel
theorem dX4_sort_55 : decode cX4_sort 55 = .ok (.ifCond .ge 18, 3) := by decide +kernel
theorem dX4_sort_58 : decode cX4_sort 58 = .ok (.aload_n 0, 1) := by decide +kernel
theorem dX4_sort_59 : decode cX4_sort 59 = .ok (.iload_n 3, 1) := by decide +kernel
theorem dX4_sort_60 : decode cX4_sort 60 = .ok (.iload_n 3, 1) := by decide +kernel
theorem dX4_sort_61 : decode cX4_sort 61 = .ok (.iload_n 1, 1) := by decide +kernel
theorem dX4_sort_62 : decode cX4_sort 62 = .ok (.isub, 1) := by decide +kernel
theorem dX4_sort_63 : decode cX4_sort 63 = .ok (.invokevirtual 165, 3) := by decide +kernel
theorem dX4_sort_66 : decode cX4_sort 66 = .ok (.iload_n 3, 1) := by decide +kernel
theorem dX4_sort_67 : decode cX4_sort 67 = .ok (.iload_n 1, 1) := by decide +kernel
theorem dX4_sort_68 : decode cX4_sort 68 = .ok (.isub, 1) := by decide +kernel
theorem dX4_sort_69 : decode cX4_sort 69 = .ok (.istore_n 3, 1) := by decide +kernel
theorem dX4_sort_70 : decode cX4_sort 70 = .ok (.goto (-35), 3) := by decide +kernel
