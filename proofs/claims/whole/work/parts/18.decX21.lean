theorem dX2_heldAtEnd_9 : decode cX2_heldAtEnd 9 = .ok (.iaload, 1) := by decide +kernel
theorem dX2_heldAtEnd_10 : decode cX2_heldAtEnd 10 = .ok (.laload, 1) := by decide +kernel
theorem dX2_heldAtEnd_11 : decode cX2_heldAtEnd 11 = .ok (.lreturn, 1) := by decide +kernel
theorem dX2_swapEnds_0 : decode cX2_swapEnds 0 = .ok (.aload_n 0, 1) := by decide +kernel
theorem dX2_swapEnds_1 : decode cX2_swapEnds 1 = .ok (.getfield 22, 3) := by decide +kernel
theorem dX2_swapEnds_4 : decode cX2_swapEnds 4 = .ok (.iload_n 1, 1) := by decide +kernel
theorem dX2_swapEnds_5 : decode cX2_swapEnds 5 = .ok (.iaload, 1) := by decide +kernel
theorem dX2_swapEnds_6 : decode cX2_swapEnds 6 = .ok (.istore_n 3, 1) := by decide +kernel
theorem dX2_swapEnds_7 : decode cX2_swapEnds 7 = .ok (.aload_n 0, 1) := by decide +kernel
theorem dX2_swapEnds_8 : decode cX2_swapEnds 8 = .ok (.getfield 22, 3) := by decide +kernel
theorem dX2_swapEnds_11 : decode cX2_swapEnds 11 = .ok (.iload_n 1, 1) := by decide +kernel
theorem dX2_swapEnds_12 : decode cX2_swapEnds 12 = .ok (.aload_n 0, 1) := by decide +kernel
theorem dX2_swapEnds_13 : decode cX2_swapEnds 13 = .ok (.getfield 22, 3) := by decide +kernel
theorem dX2_swapEnds_16 : decode cX2_swapEnds 16 = .ok (.iload_n 2, 1) := by decide +kernel
theorem dX2_swapEnds_17 : decode cX2_swapEnds 17 = .ok (.iaload, 1) := by decide +kernel
theorem dX2_swapEnds_18 : decode cX2_swapEnds 18 = .ok (.iastore, 1) := by decide +kernel
theorem dX2_swapEnds_19 : decode cX2_swapEnds 19 = .ok (.aload_n 0, 1) := by decide +kernel
theorem dX2_swapEnds_20 : decode cX2_swapEnds 20 = .ok (.getfield 22, 3) := by decide +kernel
theorem dX2_swapEnds_23 : decode cX2_swapEnds 23 = .ok (.iload_n 2, 1) := by decide +kernel
theorem dX2_swapEnds_24 : decode cX2_swapEnds 24 = .ok (.iload_n 3, 1) := by decide +kernel
theorem dX2_swapEnds_25 : decode cX2_swapEnds 25 = .ok (.iastore, 1) := by decide +kernel
theorem dX2_swapEnds_26 : decode cX2_swapEnds 26 = .ok (.return_, 1) := by decide +kernel
theorem dX2_endAt_0 : decode cX2_endAt 0 = .ok (.iload_n 1, 1) := by decide +kernel
theorem dX2_endAt_1 : decode cX2_endAt 1 = .ok (.ifCond .lt 20, 3) := by decide +kernel
theorem dX2_endAt_4 : decode cX2_endAt 4 = .ok (.iload_n 1, 1) := by decide +kernel
theorem dX2_endAt_5 : decode cX2_endAt 5 = .ok (.aload_n 0, 1) := by decide +kernel
theorem dX2_endAt_6 : decode cX2_endAt 6 = .ok (.getfield 38, 3) := by decide +kernel
theorem dX2_endAt_9 : decode cX2_endAt 9 = .ok (.if_icmp .ge 12, 3) := by decide +kernel
theorem dX2_endAt_12 : decode cX2_endAt 12 = .ok (.aload_n 0, 1) := by decide +kernel
theorem dX2_endAt_13 : decode cX2_endAt 13 = .ok (.getfield 22, 3) := by decide +kernel
theorem dX2_endAt_16 : decode cX2_endAt 16 = .ok (.iload_n 1, 1) := by decide +kernel
theorem dX2_endAt_17 : decode cX2_endAt 17 = .ok (.iaload, 1) := by decide +kernel
theorem dX2_endAt_18 : decode cX2_endAt 18 = .ok (.goto 4, 3) := by decide +kernel
theorem dX2_endAt_21 : decode cX2_endAt 21 = .ok (.iconst (-1), 1) := by decide +kernel
theorem dX2_endAt_22 : decode cX2_endAt 22 = .ok (.ireturn, 1) := by decide +kernel
theorem dX2_stepsTo_0 : decode cX2_stepsTo 0 = .ok (.iconst 0, 1) := by decide +kernel
theorem dX2_stepsTo_1 : decode cX2_stepsTo 1 = .ok (.istore_n 2, 1) := by decide +kernel
theorem dX2_stepsTo_2 : decode cX2_stepsTo 2 = .ok (.iload_n 1, 1) := by decide +kernel
theorem dX2_stepsTo_3 : decode cX2_stepsTo 3 = .ok (.istore_n 3, 1) := by decide +kernel
theorem dX2_stepsTo_4 : decode cX2_stepsTo 4 = .ok (.iload_n 3, 1) := by decide +kernel
theorem dX2_stepsTo_5 : decode cX2_stepsTo 5 = .ok (.ifCond .le 25, 3) := by decide +kernel
theorem dX2_stepsTo_8 : decode cX2_stepsTo 8 = .ok (.iload_n 2, 1) := by decide +kernel
theorem dX2_stepsTo_9 : decode cX2_stepsTo 9 = .ok (.bipush 24, 2) := by decide +kernel
theorem dX2_stepsTo_11 : decode cX2_stepsTo 11 = .ok (.if_icmp .ge 19, 3) := by decide +kernel
theorem dX2_stepsTo_14 : decode cX2_stepsTo 14 = .ok (.iinc 2 1, 3) := by decide +kernel
theorem dX2_stepsTo_17 : decode cX2_stepsTo 17 = .ok (.aload_n 0, 1) := by decide +kernel
theorem dX2_stepsTo_18 : decode cX2_stepsTo 18 = .ok (.getfield 18, 3) := by decide +kernel
theorem dX2_stepsTo_21 : decode cX2_stepsTo 21 = .ok (.iload_n 3, 1) := by decide +kernel
theorem dX2_stepsTo_22 : decode cX2_stepsTo 22 = .ok (.iaload, 1) := by decide +kernel
theorem dX2_stepsTo_23 : decode cX2_stepsTo 23 = .ok (.bipush 20, 2) := by decide +kernel
theorem dX2_stepsTo_25 : decode cX2_stepsTo 25 = .ok (.idiv, 1) := by decide +kernel
theorem dX2_stepsTo_26 : decode cX2_stepsTo 26 = .ok (.istore_n 3, 1) := by decide +kernel
theorem dX2_stepsTo_27 : decode cX2_stepsTo 27 = .ok (.goto (-23), 3) := by decide +kernel
theorem dX2_stepsTo_30 : decode cX2_stepsTo 30 = .ok (.iload_n 2, 1) := by decide +kernel
theorem dX2_stepsTo_31 : decode cX2_stepsTo 31 = .ok (.ireturn, 1) := by decide +kernel
theorem dX2_stepBefore_0 : decode cX2_stepBefore 0 = .ok (.iload_n 1, 1) := by decide +kernel
theorem dX2_stepBefore_1 : decode cX2_stepBefore 1 = .ok (.istore_n 3, 1) := by decide +kernel
theorem dX2_stepBefore_2 : decode cX2_stepBefore 2 = .ok (.iconst 0, 1) := by decide +kernel
theorem dX2_stepBefore_3 : decode cX2_stepBefore 3 = .ok (.istore 4, 2) := by decide +kernel
theorem dX2_stepBefore_5 : decode cX2_stepBefore 5 = .ok (.iload 4, 2) := by decide +kernel
theorem dX2_stepBefore_7 : decode cX2_stepBefore 7 = .ok (.iload_n 2, 1) := by decide +kernel
theorem dX2_stepBefore_8 : decode cX2_stepBefore 8 = .ok (.if_icmp .ge 19, 3) := by decide +kernel
theorem dX2_stepBefore_11 : decode cX2_stepBefore 11 = .ok (.aload_n 0, 1) := by decide +kernel
theorem dX2_stepBefore_12 : decode cX2_stepBefore 12 = .ok (.getfield 18, 3) := by decide +kernel
theorem dX2_stepBefore_15 : decode cX2_stepBefore 15 = .ok (.iload_n 3, 1) := by decide +kernel
theorem dX2_stepBefore_16 : decode cX2_stepBefore 16 = .ok (.iaload, 1) := by decide +kernel
theorem dX2_stepBefore_17 : decode cX2_stepBefore 17 = .ok (.bipush 20, 2) := by decide +kernel
theorem dX2_stepBefore_19 : decode cX2_stepBefore 19 = .ok (.idiv, 1) := by decide +kernel
theorem dX2_stepBefore_20 : decode cX2_stepBefore 20 = .ok (.istore_n 3, 1) := by decide +kernel
theorem dX2_stepBefore_21 : decode cX2_stepBefore 21 = .ok (.iinc 4 1, 3) := by decide +kernel
theorem dX2_stepBefore_24 : decode cX2_stepBefore 24 = .ok (.goto (-19), 3) := by decide +kernel
theorem dX2_stepBefore_27 : decode cX2_stepBefore 27 = .ok (.aload_n 0, 1) := by decide +kernel
theorem dX2_stepBefore_28 : decode cX2_stepBefore 28 = .ok (.getfield 18, 3) := by decide +kernel
theorem dX2_stepBefore_31 : decode cX2_stepBefore 31 = .ok (.iload_n 3, 1) := by decide +kernel
theorem dX2_stepBefore_32 : decode cX2_stepBefore 32 = .ok (.iaload, 1) := by decide +kernel
theorem dX2_stepBefore_33 : decode cX2_stepBefore 33 = .ok (.bipush 20, 2) := by decide +kernel
theorem dX2_stepBefore_35 : decode cX2_stepBefore 35 = .ok (.irem, 1) := by decide +kernel
theorem dX2_stepBefore_36 : decode cX2_stepBefore 36 = .ok (.ireturn, 1) := by decide +kernel
