theorem dX0_init_0 : decode cX0_init 0 = .ok (.aload_n 0, 1) := by decide +kernel
theorem dX0_init_1 : decode cX0_init 1 = .ok (.invokespecial 3, 3) := by decide +kernel
theorem dX0_init_4 : decode cX0_init 4 = .ok (.aload_n 0, 1) := by decide +kernel
theorem dX0_init_5 : decode cX0_init 5 = .ok (.sipush 400, 3) := by decide +kernel
theorem dX0_init_8 : decode cX0_init 8 = .ok (.newarray .int, 2) := by decide +kernel
theorem dX0_init_10 : decode cX0_init 10 = .ok (.putfield 9, 3) := by decide +kernel
theorem dX0_init_13 : decode cX0_init 13 = .ok (.return_, 1) := by decide +kernel
theorem dX0_clearFor_0 : decode cX0_clearFor 0 = .ok (.aload_n 0, 1) := by decide +kernel
theorem dX0_clearFor_1 : decode cX0_clearFor 1 = .ok (.getfield 9, 3) := by decide +kernel
theorem dX0_clearFor_4 : decode cX0_clearFor 4 = .ok (.iconst 0, 1) := by decide +kernel
theorem dX0_clearFor_5 : decode cX0_clearFor 5 = .ok (.invokestatic 15, 3) := by decide +kernel
theorem dX0_clearFor_8 : decode cX0_clearFor 8 = .ok (.aload_n 0, 1) := by decide +kernel
theorem dX0_clearFor_9 : decode cX0_clearFor 9 = .ok (.iload_n 1, 1) := by decide +kernel
theorem dX0_clearFor_10 : decode cX0_clearFor 10 = .ok (.aload_n 0, 1) := by decide +kernel
theorem dX0_clearFor_11 : decode cX0_clearFor 11 = .ok (.getfield 9, 3) := by decide +kernel
theorem dX0_clearFor_14 : decode cX0_clearFor 14 = .ok (.arraylength, 1) := by decide +kernel
theorem dX0_clearFor_15 : decode cX0_clearFor 15 = .ok (.invokestatic 21, 3) := by decide +kernel
theorem dX0_clearFor_18 : decode cX0_clearFor 18 = .ok (.putfield 27, 3) := by decide +kernel
theorem dX0_clearFor_21 : decode cX0_clearFor 21 = .ok (.return_, 1) := by decide +kernel
theorem dX0_addLevel_0 : decode cX0_addLevel 0 = .ok (.aload_n 0, 1) := by decide +kernel
theorem dX0_addLevel_1 : decode cX0_addLevel 1 = .ok (.iload_n 1, 1) := by decide +kernel
theorem dX0_addLevel_2 : decode cX0_addLevel 2 = .ok (.invokevirtual 31, 3) := by decide +kernel
theorem dX0_addLevel_5 : decode cX0_addLevel 5 = .ok (.ifCond .eq 13, 3) := by decide +kernel
theorem dX0_addLevel_8 : decode cX0_addLevel 8 = .ok (.aload_n 0, 1) := by decide +kernel
theorem dX0_addLevel_9 : decode cX0_addLevel 9 = .ok (.getfield 9, 3) := by decide +kernel
theorem dX0_addLevel_12 : decode cX0_addLevel 12 = .ok (.iload_n 1, 1) := by decide +kernel
theorem dX0_addLevel_13 : decode cX0_addLevel 13 = .ok (.dup2, 1) := by decide +kernel
theorem dX0_addLevel_14 : decode cX0_addLevel 14 = .ok (.iaload, 1) := by decide +kernel
theorem dX0_addLevel_15 : decode cX0_addLevel 15 = .ok (.iload_n 2, 1) := by decide +kernel
theorem dX0_addLevel_16 : decode cX0_addLevel 16 = .ok (.ior, 1) := by decide +kernel
theorem dX0_addLevel_17 : decode cX0_addLevel 17 = .ok (.iastore, 1) := by decide +kernel
theorem dX0_addLevel_18 : decode cX0_addLevel 18 = .ok (.return_, 1) := by decide +kernel
theorem dX0_has_0 : decode cX0_has 0 = .ok (.iload_n 1, 1) := by decide +kernel
theorem dX0_has_1 : decode cX0_has 1 = .ok (.ifCond .lt 24, 3) := by decide +kernel
theorem dX0_has_4 : decode cX0_has 4 = .ok (.iload_n 1, 1) := by decide +kernel
theorem dX0_has_5 : decode cX0_has 5 = .ok (.aload_n 0, 1) := by decide +kernel
theorem dX0_has_6 : decode cX0_has 6 = .ok (.getfield 27, 3) := by decide +kernel
theorem dX0_has_9 : decode cX0_has 9 = .ok (.if_icmp .ge 16, 3) := by decide +kernel
theorem dX0_has_12 : decode cX0_has 12 = .ok (.iload_n 1, 1) := by decide +kernel
theorem dX0_has_13 : decode cX0_has 13 = .ok (.aload_n 0, 1) := by decide +kernel
theorem dX0_has_14 : decode cX0_has 14 = .ok (.getfield 9, 3) := by decide +kernel
theorem dX0_has_17 : decode cX0_has 17 = .ok (.arraylength, 1) := by decide +kernel
theorem dX0_has_18 : decode cX0_has 18 = .ok (.if_icmp .ge 7, 3) := by decide +kernel
theorem dX0_has_21 : decode cX0_has 21 = .ok (.iconst 1, 1) := by decide +kernel
theorem dX0_has_22 : decode cX0_has 22 = .ok (.goto 4, 3) := by decide +kernel
theorem dX0_has_25 : decode cX0_has 25 = .ok (.iconst 0, 1) := by decide +kernel
theorem dX0_has_26 : decode cX0_has 26 = .ok (.ireturn, 1) := by decide +kernel
theorem dX0_levelsAt_0 : decode cX0_levelsAt 0 = .ok (.aload_n 0, 1) := by decide +kernel
theorem dX0_levelsAt_1 : decode cX0_levelsAt 1 = .ok (.iload_n 1, 1) := by decide +kernel
theorem dX0_levelsAt_2 : decode cX0_levelsAt 2 = .ok (.invokevirtual 31, 3) := by decide +kernel
theorem dX0_levelsAt_5 : decode cX0_levelsAt 5 = .ok (.ifCond .eq 12, 3) := by decide +kernel
theorem dX0_levelsAt_8 : decode cX0_levelsAt 8 = .ok (.aload_n 0, 1) := by decide +kernel
theorem dX0_levelsAt_9 : decode cX0_levelsAt 9 = .ok (.getfield 9, 3) := by decide +kernel
theorem dX0_levelsAt_12 : decode cX0_levelsAt 12 = .ok (.iload_n 1, 1) := by decide +kernel
theorem dX0_levelsAt_13 : decode cX0_levelsAt 13 = .ok (.iaload, 1) := by decide +kernel
theorem dX0_levelsAt_14 : decode cX0_levelsAt 14 = .ok (.goto 4, 3) := by decide +kernel
theorem dX0_levelsAt_17 : decode cX0_levelsAt 17 = .ok (.iconst 0, 1) := by decide +kernel
theorem dX0_levelsAt_18 : decode cX0_levelsAt 18 = .ok (.ireturn, 1) := by decide +kernel
theorem dX0_isHighAt_0 : decode cX0_isHighAt 0 = .ok (.aload_n 0, 1) := by decide +kernel
theorem dX0_isHighAt_1 : decode cX0_isHighAt 1 = .ok (.iload_n 2, 1) := by decide +kernel
theorem dX0_isHighAt_2 : decode cX0_isHighAt 2 = .ok (.invokevirtual 31, 3) := by decide +kernel
theorem dX0_isHighAt_5 : decode cX0_isHighAt 5 = .ok (.ifCond .eq 21, 3) := by decide +kernel
theorem dX0_isHighAt_8 : decode cX0_isHighAt 8 = .ok (.aload_n 0, 1) := by decide +kernel
theorem dX0_isHighAt_9 : decode cX0_isHighAt 9 = .ok (.getfield 9, 3) := by decide +kernel
theorem dX0_isHighAt_12 : decode cX0_isHighAt 12 = .ok (.iload_n 2, 1) := by decide +kernel
theorem dX0_isHighAt_13 : decode cX0_isHighAt 13 = .ok (.iaload, 1) := by decide +kernel
theorem dX0_isHighAt_14 : decode cX0_isHighAt 14 = .ok (.iload_n 1, 1) := by decide +kernel
theorem dX0_isHighAt_15 : decode cX0_isHighAt 15 = .ok (.ishr, 1) := by decide +kernel
theorem dX0_isHighAt_16 : decode cX0_isHighAt 16 = .ok (.iconst 1, 1) := by decide +kernel
theorem dX0_isHighAt_17 : decode cX0_isHighAt 17 = .ok (.iand, 1) := by decide +kernel
theorem dX0_isHighAt_18 : decode cX0_isHighAt 18 = .ok (.iconst 1, 1) := by decide +kernel
theorem dX0_isHighAt_19 : decode cX0_isHighAt 19 = .ok (.if_icmp .ne 7, 3) := by decide +kernel
theorem dX0_isHighAt_22 : decode cX0_isHighAt 22 = .ok (.iconst 1, 1) := by decide +kernel
theorem dX0_isHighAt_23 : decode cX0_isHighAt 23 = .ok (.goto 4, 3) := by decide +kernel
theorem dX0_isHighAt_26 : decode cX0_isHighAt 26 = .ok (.iconst 0, 1) := by decide +kernel
theorem dX0_isHighAt_27 : decode cX0_isHighAt 27 = .ok (.ireturn, 1) := by decide +kernel
theorem dX0_changesAt_0 : decode cX0_changesAt 0 = .ok (.iload_n 2, 1) := by decide +kernel
theorem dX0_changesAt_1 : decode cX0_changesAt 1 = .ok (.ifCond .le 24, 3) := by decide +kernel
theorem dX0_changesAt_4 : decode cX0_changesAt 4 = .ok (.aload_n 0, 1) := by decide +kernel
theorem dX0_changesAt_5 : decode cX0_changesAt 5 = .ok (.iload_n 1, 1) := by decide +kernel
theorem dX0_changesAt_6 : decode cX0_changesAt 6 = .ok (.iload_n 2, 1) := by decide +kernel
theorem dX0_changesAt_7 : decode cX0_changesAt 7 = .ok (.invokevirtual 35, 3) := by decide +kernel
theorem dX0_changesAt_10 : decode cX0_changesAt 10 = .ok (.aload_n 0, 1) := by decide +kernel
theorem dX0_changesAt_11 : decode cX0_changesAt 11 = .ok (.iload_n 1, 1) := by decide +kernel
theorem dX0_changesAt_12 : decode cX0_changesAt 12 = .ok (.iload_n 2, 1) := by decide +kernel
theorem dX0_changesAt_13 : decode cX0_changesAt 13 = .ok (.iconst 1, 1) := by decide +kernel
theorem dX0_changesAt_14 : decode cX0_changesAt 14 = .ok (.isub, 1) := by decide +kernel
theorem dX0_changesAt_15 : decode cX0_changesAt 15 = .ok (.invokevirtual 35, 3) := by decide +kernel
theorem dX0_changesAt_18 : decode cX0_changesAt 18 = .ok (.if_icmp .eq 7, 3) := by decide +kernel
theorem dX0_changesAt_21 : decode cX0_changesAt 21 = .ok (.iconst 1, 1) := by decide +kernel
theorem dX0_changesAt_22 : decode cX0_changesAt 22 = .ok (.goto 4, 3) := by decide +kernel
theorem dX0_changesAt_25 : decode cX0_changesAt 25 = .ok (.iconst 0, 1) := by decide +kernel
theorem dX0_changesAt_26 : decode cX0_changesAt 26 = .ok (.ireturn, 1) := by decide +kernel
theorem dX0_risesAt_0 : decode cX0_risesAt 0 = .ok (.iload_n 2, 1) := by decide +kernel
theorem dX0_risesAt_1 : decode cX0_risesAt 1 = .ok (.ifCond .le 27, 3) := by decide +kernel
theorem dX0_risesAt_4 : decode cX0_risesAt 4 = .ok (.aload_n 0, 1) := by decide +kernel
theorem dX0_risesAt_5 : decode cX0_risesAt 5 = .ok (.iload_n 1, 1) := by decide +kernel
theorem dX0_risesAt_6 : decode cX0_risesAt 6 = .ok (.iload_n 2, 1) := by decide +kernel
theorem dX0_risesAt_7 : decode cX0_risesAt 7 = .ok (.invokevirtual 35, 3) := by decide +kernel
theorem dX0_risesAt_10 : decode cX0_risesAt 10 = .ok (.ifCond .eq 18, 3) := by decide +kernel
theorem dX0_risesAt_13 : decode cX0_risesAt 13 = .ok (.aload_n 0, 1) := by decide +kernel
theorem dX0_risesAt_14 : decode cX0_risesAt 14 = .ok (.iload_n 1, 1) := by decide +kernel
theorem dX0_risesAt_15 : decode cX0_risesAt 15 = .ok (.iload_n 2, 1) := by decide +kernel
theorem dX0_risesAt_16 : decode cX0_risesAt 16 = .ok (.iconst 1, 1) := by decide +kernel
theorem dX0_risesAt_17 : decode cX0_risesAt 17 = .ok (.isub, 1) := by decide +kernel
theorem dX0_risesAt_18 : decode cX0_risesAt 18 = .ok (.invokevirtual 35, 3) := by decide +kernel
theorem dX0_risesAt_21 : decode cX0_risesAt 21 = .ok (.ifCond .ne 7, 3) := by decide +kernel
theorem dX0_risesAt_24 : decode cX0_risesAt 24 = .ok (.iconst 1, 1) := by decide +kernel
theorem dX0_risesAt_25 : decode cX0_risesAt 25 = .ok (.goto 4, 3) := by decide +kernel
theorem dX0_risesAt_28 : decode cX0_risesAt 28 = .ok (.iconst 0, 1) := by decide +kernel
theorem dX0_risesAt_29 : decode cX0_risesAt 29 = .ok (.ireturn, 1) := by decide +kernel
theorem dX0_fallsAt_0 : decode cX0_fallsAt 0 = .ok (.iload_n 2, 1) := by decide +kernel
theorem dX0_fallsAt_1 : decode cX0_fallsAt 1 = .ok (.ifCond .le 27, 3) := by decide +kernel
theorem dX0_fallsAt_4 : decode cX0_fallsAt 4 = .ok (.aload_n 0, 1) := by decide +kernel
theorem dX0_fallsAt_5 : decode cX0_fallsAt 5 = .ok (.iload_n 1, 1) := by decide +kernel
theorem dX0_fallsAt_6 : decode cX0_fallsAt 6 = .ok (.iload_n 2, 1) := by decide +kernel
theorem dX0_fallsAt_7 : decode cX0_fallsAt 7 = .ok (.invokevirtual 35, 3) := by decide +kernel
theorem dX0_fallsAt_10 : decode cX0_fallsAt 10 = .ok (.ifCond .ne 18, 3) := by decide +kernel
theorem dX0_fallsAt_13 : decode cX0_fallsAt 13 = .ok (.aload_n 0, 1) := by decide +kernel
theorem dX0_fallsAt_14 : decode cX0_fallsAt 14 = .ok (.iload_n 1, 1) := by decide +kernel
theorem dX0_fallsAt_15 : decode cX0_fallsAt 15 = .ok (.iload_n 2, 1) := by decide +kernel
theorem dX0_fallsAt_16 : decode cX0_fallsAt 16 = .ok (.iconst 1, 1) := by decide +kernel
theorem dX0_fallsAt_17 : decode cX0_fallsAt 17 = .ok (.isub, 1) := by decide +kernel
theorem dX0_fallsAt_18 : decode cX0_fallsAt 18 = .ok (.invokevirtual 35, 3) := by decide +kernel
theorem dX0_fallsAt_21 : decode cX0_fallsAt 21 = .ok (.ifCond .eq 7, 3) := by decide +kernel
theorem dX0_fallsAt_24 : decode cX0_fallsAt 24 = .ok (.iconst 1, 1) := by decide +kernel
theorem dX0_fallsAt_25 : decode cX0_fallsAt 25 = .ok (.goto 4, 3) := by decide +kernel
theorem dX0_fallsAt_28 : decode cX0_fallsAt 28 = .ok (.iconst 0, 1) := by decide +kernel
theorem dX0_fallsAt_29 : decode cX0_fallsAt 29 = .ok (.ireturn, 1) := by decide +kernel
theorem dX0_changeCount_0 : decode cX0_changeCount 0 = .ok (.iconst 0, 1) := by decide +kernel
theorem dX0_changeCount_1 : decode cX0_changeCount 1 = .ok (.istore_n 1, 1) := by decide +kernel
theorem dX0_changeCount_2 : decode cX0_changeCount 2 = .ok (.iconst 1, 1) := by decide +kernel
theorem dX0_changeCount_3 : decode cX0_changeCount 3 = .ok (.istore_n 2, 1) := by decide +kernel
theorem dX0_changeCount_4 : decode cX0_changeCount 4 = .ok (.iload_n 2, 1) := by decide +kernel
theorem dX0_changeCount_5 : decode cX0_changeCount 5 = .ok (.aload_n 0, 1) := by decide +kernel
theorem dX0_changeCount_6 : decode cX0_changeCount 6 = .ok (.getfield 27, 3) := by decide +kernel
theorem dX0_changeCount_9 : decode cX0_changeCount 9 = .ok (.if_icmp .ge 27, 3) := by decide +kernel
theorem dX0_changeCount_12 : decode cX0_changeCount 12 = .ok (.aload_n 0, 1) := by decide +kernel
theorem dX0_changeCount_13 : decode cX0_changeCount 13 = .ok (.iload_n 2, 1) := by decide +kernel
theorem dX0_changeCount_14 : decode cX0_changeCount 14 = .ok (.invokevirtual 39, 3) := by decide +kernel
theorem dX0_changeCount_17 : decode cX0_changeCount 17 = .ok (.aload_n 0, 1) := by decide +kernel
theorem dX0_changeCount_18 : decode cX0_changeCount 18 = .ok (.iload_n 2, 1) := by decide +kernel
theorem dX0_changeCount_19 : decode cX0_changeCount 19 = .ok (.iconst 1, 1) := by decide +kernel
theorem dX0_changeCount_20 : decode cX0_changeCount 20 = .ok (.isub, 1) := by decide +kernel
theorem dX0_changeCount_21 : decode cX0_changeCount 21 = .ok (.invokevirtual 39, 3) := by decide +kernel
theorem dX0_changeCount_24 : decode cX0_changeCount 24 = .ok (.if_icmp .eq 6, 3) := by decide +kernel
theorem dX0_changeCount_27 : decode cX0_changeCount 27 = .ok (.iinc 1 1, 3) := by decide +kernel
theorem dX0_changeCount_30 : decode cX0_changeCount 30 = .ok (.iinc 2 1, 3) := by decide +kernel
theorem dX0_changeCount_33 : decode cX0_changeCount 33 = .ok (.goto (-29), 3) := by decide +kernel
theorem dX0_changeCount_36 : decode cX0_changeCount 36 = .ok (.iload_n 1, 1) := by decide +kernel
theorem dX0_changeCount_37 : decode cX0_changeCount 37 = .ok (.ireturn, 1) := by decide +kernel
theorem dX0_highCount_0 : decode cX0_highCount 0 = .ok (.iconst 0, 1) := by decide +kernel
theorem dX0_highCount_1 : decode cX0_highCount 1 = .ok (.istore_n 2, 1) := by decide +kernel
theorem dX0_highCount_2 : decode cX0_highCount 2 = .ok (.iconst 0, 1) := by decide +kernel
theorem dX0_highCount_3 : decode cX0_highCount 3 = .ok (.istore_n 3, 1) := by decide +kernel
theorem dX0_highCount_4 : decode cX0_highCount 4 = .ok (.iload_n 3, 1) := by decide +kernel
theorem dX0_highCount_5 : decode cX0_highCount 5 = .ok (.aload_n 0, 1) := by decide +kernel
theorem dX0_highCount_6 : decode cX0_highCount 6 = .ok (.getfield 27, 3) := by decide +kernel
theorem dX0_highCount_9 : decode cX0_highCount 9 = .ok (.if_icmp .ge 21, 3) := by decide +kernel
theorem dX0_highCount_12 : decode cX0_highCount 12 = .ok (.aload_n 0, 1) := by decide +kernel
theorem dX0_highCount_13 : decode cX0_highCount 13 = .ok (.iload_n 1, 1) := by decide +kernel
theorem dX0_highCount_14 : decode cX0_highCount 14 = .ok (.iload_n 3, 1) := by decide +kernel
theorem dX0_highCount_15 : decode cX0_highCount 15 = .ok (.invokevirtual 35, 3) := by decide +kernel
theorem dX0_highCount_18 : decode cX0_highCount 18 = .ok (.ifCond .eq 6, 3) := by decide +kernel
theorem dX0_highCount_21 : decode cX0_highCount 21 = .ok (.iinc 2 1, 3) := by decide +kernel
theorem dX0_highCount_24 : decode cX0_highCount 24 = .ok (.iinc 3 1, 3) := by decide +kernel
theorem dX0_highCount_27 : decode cX0_highCount 27 = .ok (.goto (-23), 3) := by decide +kernel
theorem dX0_highCount_30 : decode cX0_highCount 30 = .ok (.iload_n 2, 1) := by decide +kernel
theorem dX0_highCount_31 : decode cX0_highCount 31 = .ok (.ireturn, 1) := by decide +kernel
theorem dX0_runCount_0 : decode cX0_runCount 0 = .ok (.aload_n 0, 1) := by decide +kernel
theorem dX0_runCount_1 : decode cX0_runCount 1 = .ok (.getfield 27, 3) := by decide +kernel
theorem dX0_runCount_4 : decode cX0_runCount 4 = .ok (.ifCond .le 7, 3) := by decide +kernel
theorem dX0_runCount_7 : decode cX0_runCount 7 = .ok (.iconst 1, 1) := by decide +kernel
theorem dX0_runCount_8 : decode cX0_runCount 8 = .ok (.goto 4, 3) := by decide +kernel
theorem dX0_runCount_11 : decode cX0_runCount 11 = .ok (.iconst 0, 1) := by decide +kernel
theorem dX0_runCount_12 : decode cX0_runCount 12 = .ok (.istore_n 2, 1) := by decide +kernel
theorem dX0_runCount_13 : decode cX0_runCount 13 = .ok (.iconst 1, 1) := by decide +kernel
theorem dX0_runCount_14 : decode cX0_runCount 14 = .ok (.istore_n 3, 1) := by decide +kernel
theorem dX0_runCount_15 : decode cX0_runCount 15 = .ok (.iload_n 3, 1) := by decide +kernel
theorem dX0_runCount_16 : decode cX0_runCount 16 = .ok (.aload_n 0, 1) := by decide +kernel
theorem dX0_runCount_17 : decode cX0_runCount 17 = .ok (.getfield 27, 3) := by decide +kernel
theorem dX0_runCount_20 : decode cX0_runCount 20 = .ok (.if_icmp .ge 21, 3) := by decide +kernel
theorem dX0_runCount_23 : decode cX0_runCount 23 = .ok (.aload_n 0, 1) := by decide +kernel
theorem dX0_runCount_24 : decode cX0_runCount 24 = .ok (.iload_n 1, 1) := by decide +kernel
theorem dX0_runCount_25 : decode cX0_runCount 25 = .ok (.iload_n 3, 1) := by decide +kernel
theorem dX0_runCount_26 : decode cX0_runCount 26 = .ok (.invokevirtual 43, 3) := by decide +kernel
theorem dX0_runCount_29 : decode cX0_runCount 29 = .ok (.ifCond .eq 6, 3) := by decide +kernel
theorem dX0_runCount_32 : decode cX0_runCount 32 = .ok (.iinc 2 1, 3) := by decide +kernel
theorem dX0_runCount_35 : decode cX0_runCount 35 = .ok (.iinc 3 1, 3) := by decide +kernel
theorem dX0_runCount_38 : decode cX0_runCount 38 = .ok (.goto (-23), 3) := by decide +kernel
theorem dX0_runCount_41 : decode cX0_runCount 41 = .ok (.iload_n 2, 1) := by decide +kernel
theorem dX0_runCount_42 : decode cX0_runCount 42 = .ok (.ireturn, 1) := by decide +kernel
theorem dX0_runLength_0 : decode cX0_runLength 0 = .ok (.iconst 0, 1) := by decide +kernel
theorem dX0_runLength_1 : decode cX0_runLength 1 = .ok (.istore_n 3, 1) := by decide +kernel
theorem dX0_runLength_2 : decode cX0_runLength 2 = .ok (.iconst 0, 1) := by decide +kernel
theorem dX0_runLength_3 : decode cX0_runLength 3 = .ok (.istore 4, 2) := by decide +kernel
theorem dX0_runLength_5 : decode cX0_runLength 5 = .ok (.iconst 0, 1) := by decide +kernel
theorem dX0_runLength_6 : decode cX0_runLength 6 = .ok (.istore 5, 2) := by decide +kernel
theorem dX0_runLength_8 : decode cX0_runLength 8 = .ok (.iload 5, 2) := by decide +kernel
theorem dX0_runLength_10 : decode cX0_runLength 10 = .ok (.aload_n 0, 1) := by decide +kernel
theorem dX0_runLength_11 : decode cX0_runLength 11 = .ok (.getfield 27, 3) := by decide +kernel
theorem dX0_runLength_14 : decode cX0_runLength 14 = .ok (.if_icmp .ge 30, 3) := by decide +kernel
theorem dX0_runLength_17 : decode cX0_runLength 17 = .ok (.aload_n 0, 1) := by decide +kernel
theorem dX0_runLength_18 : decode cX0_runLength 18 = .ok (.iload_n 1, 1) := by decide +kernel
theorem dX0_runLength_19 : decode cX0_runLength 19 = .ok (.iload 5, 2) := by decide +kernel
theorem dX0_runLength_21 : decode cX0_runLength 21 = .ok (.invokevirtual 43, 3) := by decide +kernel
theorem dX0_runLength_24 : decode cX0_runLength 24 = .ok (.ifCond .eq 6, 3) := by decide +kernel
theorem dX0_runLength_27 : decode cX0_runLength 27 = .ok (.iinc 3 1, 3) := by decide +kernel
theorem dX0_runLength_30 : decode cX0_runLength 30 = .ok (.iload_n 3, 1) := by decide +kernel
theorem dX0_runLength_31 : decode cX0_runLength 31 = .ok (.iload_n 2, 1) := by decide +kernel
theorem dX0_runLength_32 : decode cX0_runLength 32 = .ok (.if_icmp .ne 6, 3) := by decide +kernel
theorem dX0_runLength_35 : decode cX0_runLength 35 = .ok (.iinc 4 1, 3) := by decide +kernel
theorem dX0_runLength_38 : decode cX0_runLength 38 = .ok (.iinc 5 1, 3) := by decide +kernel
theorem dX0_runLength_41 : decode cX0_runLength 41 = .ok (.goto (-33), 3) := by decide +kernel
theorem dX0_runLength_44 : decode cX0_runLength 44 = .ok (.iload 4, 2) := by decide +kernel
theorem dX0_runLength_46 : decode cX0_runLength 46 = .ok (.ireturn, 1) := by decide +kernel
theorem dX0_shortestInner_0 : decode cX0_shortestInner 0 = .ok (.iconst 0, 1) := by decide +kernel
theorem dX0_shortestInner_1 : decode cX0_shortestInner 1 = .ok (.istore_n 2, 1) := by decide +kernel
theorem dX0_shortestInner_2 : decode cX0_shortestInner 2 = .ok (.iconst 0, 1) := by decide +kernel
theorem dX0_shortestInner_3 : decode cX0_shortestInner 3 = .ok (.istore_n 3, 1) := by decide +kernel
theorem dX0_shortestInner_4 : decode cX0_shortestInner 4 = .ok (.iconst 1, 1) := by decide +kernel
theorem dX0_shortestInner_5 : decode cX0_shortestInner 5 = .ok (.istore 4, 2) := by decide +kernel
theorem dX0_shortestInner_7 : decode cX0_shortestInner 7 = .ok (.iload 4, 2) := by decide +kernel
theorem dX0_shortestInner_9 : decode cX0_shortestInner 9 = .ok (.aload_n 0, 1) := by decide +kernel
theorem dX0_shortestInner_10 : decode cX0_shortestInner 10 = .ok (.getfield 27, 3) := by decide +kernel
theorem dX0_shortestInner_13 : decode cX0_shortestInner 13 = .ok (.if_icmp .ge 45, 3) := by decide +kernel
theorem dX0_shortestInner_16 : decode cX0_shortestInner 16 = .ok (.aload_n 0, 1) := by decide +kernel
theorem dX0_shortestInner_17 : decode cX0_shortestInner 17 = .ok (.iload_n 1, 1) := by decide +kernel
theorem dX0_shortestInner_18 : decode cX0_shortestInner 18 = .ok (.iload 4, 2) := by decide +kernel
theorem dX0_shortestInner_20 : decode cX0_shortestInner 20 = .ok (.invokevirtual 43, 3) := by decide +kernel
theorem dX0_shortestInner_23 : decode cX0_shortestInner 23 = .ok (.ifCond .eq 29, 3) := by decide +kernel
theorem dX0_shortestInner_26 : decode cX0_shortestInner 26 = .ok (.iload 4, 2) := by decide +kernel
theorem dX0_shortestInner_28 : decode cX0_shortestInner 28 = .ok (.iload_n 3, 1) := by decide +kernel
theorem dX0_shortestInner_29 : decode cX0_shortestInner 29 = .ok (.isub, 1) := by decide +kernel
theorem dX0_shortestInner_30 : decode cX0_shortestInner 30 = .ok (.istore 5, 2) := by decide +kernel
theorem dX0_shortestInner_32 : decode cX0_shortestInner 32 = .ok (.iload_n 3, 1) := by decide +kernel
theorem dX0_shortestInner_33 : decode cX0_shortestInner 33 = .ok (.ifCond .le 16, 3) := by decide +kernel
theorem dX0_shortestInner_36 : decode cX0_shortestInner 36 = .ok (.iload_n 2, 1) := by decide +kernel
theorem dX0_shortestInner_37 : decode cX0_shortestInner 37 = .ok (.ifCond .eq 9, 3) := by decide +kernel
theorem dX0_shortestInner_40 : decode cX0_shortestInner 40 = .ok (.iload 5, 2) := by decide +kernel
theorem dX0_shortestInner_42 : decode cX0_shortestInner 42 = .ok (.iload_n 2, 1) := by decide +kernel
theorem dX0_shortestInner_43 : decode cX0_shortestInner 43 = .ok (.if_icmp .ge 6, 3) := by decide +kernel
theorem dX0_shortestInner_46 : decode cX0_shortestInner 46 = .ok (.iload 5, 2) := by decide +kernel
theorem dX0_shortestInner_48 : decode cX0_shortestInner 48 = .ok (.istore_n 2, 1) := by decide +kernel
theorem dX0_shortestInner_49 : decode cX0_shortestInner 49 = .ok (.iload 4, 2) := by decide +kernel
theorem dX0_shortestInner_51 : decode cX0_shortestInner 51 = .ok (.istore_n 3, 1) := by decide +kernel
theorem dX0_shortestInner_52 : decode cX0_shortestInner 52 = .ok (.iinc 4 1, 3) := by decide +kernel
theorem dX0_shortestInner_55 : decode cX0_shortestInner 55 = .ok (.goto (-48), 3) := by decide +kernel
theorem dX0_shortestInner_58 : decode cX0_shortestInner 58 = .ok (.iload_n 2, 1) := by decide +kernel
theorem dX0_shortestInner_59 : decode cX0_shortestInner 59 = .ok (.ireturn, 1) := by decide +kernel
theorem dX0_blockCount_0 : decode cX0_blockCount 0 = .ok (.aload_n 0, 1) := by decide +kernel
theorem dX0_blockCount_1 : decode cX0_blockCount 1 = .ok (.getfield 27, 3) := by decide +kernel
theorem dX0_blockCount_4 : decode cX0_blockCount 4 = .ok (.iconst 1, 1) := by decide +kernel
theorem dX0_blockCount_5 : decode cX0_blockCount 5 = .ok (.iload_n 1, 1) := by decide +kernel
theorem dX0_blockCount_6 : decode cX0_blockCount 6 = .ok (.ishl, 1) := by decide +kernel
theorem dX0_blockCount_7 : decode cX0_blockCount 7 = .ok (.iadd, 1) := by decide +kernel
theorem dX0_blockCount_8 : decode cX0_blockCount 8 = .ok (.iconst 1, 1) := by decide +kernel
theorem dX0_blockCount_9 : decode cX0_blockCount 9 = .ok (.isub, 1) := by decide +kernel
theorem dX0_blockCount_10 : decode cX0_blockCount 10 = .ok (.iload_n 1, 1) := by decide +kernel
theorem dX0_blockCount_11 : decode cX0_blockCount 11 = .ok (.ishr, 1) := by decide +kernel
theorem dX0_blockCount_12 : decode cX0_blockCount 12 = .ok (.ireturn, 1) := by decide +kernel
theorem dX0_blockSign_0 : decode cX0_blockSign 0 = .ok (.iload_n 3, 1) := by decide +kernel
theorem dX0_blockSign_1 : decode cX0_blockSign 1 = .ok (.iload_n 2, 1) := by decide +kernel
theorem dX0_blockSign_2 : decode cX0_blockSign 2 = .ok (.ishl, 1) := by decide +kernel
theorem dX0_blockSign_3 : decode cX0_blockSign 3 = .ok (.istore 4, 2) := by decide +kernel
theorem dX0_blockSign_5 : decode cX0_blockSign 5 = .ok (.aload_n 0, 1) := by decide +kernel
theorem dX0_blockSign_6 : decode cX0_blockSign 6 = .ok (.getfield 27, 3) := by decide +kernel
theorem dX0_blockSign_9 : decode cX0_blockSign 9 = .ok (.iload 4, 2) := by decide +kernel
theorem dX0_blockSign_11 : decode cX0_blockSign 11 = .ok (.iconst 1, 1) := by decide +kernel
theorem dX0_blockSign_12 : decode cX0_blockSign 12 = .ok (.iload_n 2, 1) := by decide +kernel
theorem dX0_blockSign_13 : decode cX0_blockSign 13 = .ok (.ishl, 1) := by decide +kernel
theorem dX0_blockSign_14 : decode cX0_blockSign 14 = .ok (.iadd, 1) := by decide +kernel
theorem dX0_blockSign_15 : decode cX0_blockSign 15 = .ok (.invokestatic 21, 3) := by decide +kernel
theorem dX0_blockSign_18 : decode cX0_blockSign 18 = .ok (.istore 5, 2) := by decide +kernel
theorem dX0_blockSign_20 : decode cX0_blockSign 20 = .ok (.iload 4, 2) := by decide +kernel
theorem dX0_blockSign_22 : decode cX0_blockSign 22 = .ok (.istore 6, 2) := by decide +kernel
theorem dX0_blockSign_24 : decode cX0_blockSign 24 = .ok (.iload 6, 2) := by decide +kernel
theorem dX0_blockSign_26 : decode cX0_blockSign 26 = .ok (.iload 5, 2) := by decide +kernel
theorem dX0_blockSign_28 : decode cX0_blockSign 28 = .ok (.if_icmp .ge 22, 3) := by decide +kernel
theorem dX0_blockSign_31 : decode cX0_blockSign 31 = .ok (.aload_n 0, 1) := by decide +kernel
theorem dX0_blockSign_32 : decode cX0_blockSign 32 = .ok (.iload_n 1, 1) := by decide +kernel
theorem dX0_blockSign_33 : decode cX0_blockSign 33 = .ok (.iload 6, 2) := by decide +kernel
theorem dX0_blockSign_35 : decode cX0_blockSign 35 = .ok (.invokevirtual 43, 3) := by decide +kernel
theorem dX0_blockSign_38 : decode cX0_blockSign 38 = .ok (.ifCond .eq 6, 3) := by decide +kernel
theorem dX0_blockSign_41 : decode cX0_blockSign 41 = .ok (.bipush 120, 2) := by decide +kernel
theorem dX0_blockSign_43 : decode cX0_blockSign 43 = .ok (.ireturn, 1) := by decide +kernel
theorem dX0_blockSign_44 : decode cX0_blockSign 44 = .ok (.iinc 6 1, 3) := by decide +kernel
theorem dX0_blockSign_47 : decode cX0_blockSign 47 = .ok (.goto (-23), 3) := by decide +kernel
theorem dX0_blockSign_50 : decode cX0_blockSign 50 = .ok (.aload_n 0, 1) := by decide +kernel
theorem dX0_blockSign_51 : decode cX0_blockSign 51 = .ok (.iload_n 1, 1) := by decide +kernel
theorem dX0_blockSign_52 : decode cX0_blockSign 52 = .ok (.iload 4, 2) := by decide +kernel
theorem dX0_blockSign_54 : decode cX0_blockSign 54 = .ok (.invokevirtual 35, 3) := by decide +kernel
theorem dX0_blockSign_57 : decode cX0_blockSign 57 = .ok (.ifCond .eq 8, 3) := by decide +kernel
theorem dX0_blockSign_60 : decode cX0_blockSign 60 = .ok (.bipush 49, 2) := by decide +kernel
theorem dX0_blockSign_62 : decode cX0_blockSign 62 = .ok (.goto 5, 3) := by decide +kernel
theorem dX0_blockSign_65 : decode cX0_blockSign 65 = .ok (.bipush 48, 2) := by decide +kernel
theorem dX0_blockSign_67 : decode cX0_blockSign 67 = .ok (.ireturn, 1) := by decide +kernel
theorem dX0_areRunsWhole_0 : decode cX0_areRunsWhole 0 = .ok (.iconst 0, 1) := by decide +kernel
theorem dX0_areRunsWhole_1 : decode cX0_areRunsWhole 1 = .ok (.istore_n 2, 1) := by decide +kernel
theorem dX0_areRunsWhole_2 : decode cX0_areRunsWhole 2 = .ok (.iconst 0, 1) := by decide +kernel
theorem dX0_areRunsWhole_3 : decode cX0_areRunsWhole 3 = .ok (.istore_n 3, 1) := by decide +kernel
theorem dX0_areRunsWhole_4 : decode cX0_areRunsWhole 4 = .ok (.iconst 1, 1) := by decide +kernel
theorem dX0_areRunsWhole_5 : decode cX0_areRunsWhole 5 = .ok (.istore 4, 2) := by decide +kernel
theorem dX0_areRunsWhole_7 : decode cX0_areRunsWhole 7 = .ok (.iload 4, 2) := by decide +kernel
theorem dX0_areRunsWhole_9 : decode cX0_areRunsWhole 9 = .ok (.aload_n 0, 1) := by decide +kernel
theorem dX0_areRunsWhole_10 : decode cX0_areRunsWhole 10 = .ok (.getfield 27, 3) := by decide +kernel
theorem dX0_areRunsWhole_13 : decode cX0_areRunsWhole 13 = .ok (.if_icmp .ge 29, 3) := by decide +kernel
theorem dX0_areRunsWhole_16 : decode cX0_areRunsWhole 16 = .ok (.aload_n 0, 1) := by decide +kernel
theorem dX0_areRunsWhole_17 : decode cX0_areRunsWhole 17 = .ok (.iload_n 1, 1) := by decide +kernel
theorem dX0_areRunsWhole_18 : decode cX0_areRunsWhole 18 = .ok (.iload 4, 2) := by decide +kernel
theorem dX0_areRunsWhole_20 : decode cX0_areRunsWhole 20 = .ok (.invokevirtual 43, 3) := by decide +kernel
theorem dX0_areRunsWhole_23 : decode cX0_areRunsWhole 23 = .ok (.ifCond .eq 13, 3) := by decide +kernel
theorem dX0_areRunsWhole_26 : decode cX0_areRunsWhole 26 = .ok (.iload_n 2, 1) := by decide +kernel
theorem dX0_areRunsWhole_27 : decode cX0_areRunsWhole 27 = .ok (.iload 4, 2) := by decide +kernel
theorem dX0_areRunsWhole_29 : decode cX0_areRunsWhole 29 = .ok (.iload_n 3, 1) := by decide +kernel
theorem dX0_areRunsWhole_30 : decode cX0_areRunsWhole 30 = .ok (.isub, 1) := by decide +kernel
theorem dX0_areRunsWhole_31 : decode cX0_areRunsWhole 31 = .ok (.iadd, 1) := by decide +kernel
theorem dX0_areRunsWhole_32 : decode cX0_areRunsWhole 32 = .ok (.istore_n 2, 1) := by decide +kernel
theorem dX0_areRunsWhole_33 : decode cX0_areRunsWhole 33 = .ok (.iload 4, 2) := by decide +kernel
theorem dX0_areRunsWhole_35 : decode cX0_areRunsWhole 35 = .ok (.istore_n 3, 1) := by decide +kernel
theorem dX0_areRunsWhole_36 : decode cX0_areRunsWhole 36 = .ok (.iinc 4 1, 3) := by decide +kernel
theorem dX0_areRunsWhole_39 : decode cX0_areRunsWhole 39 = .ok (.goto (-32), 3) := by decide +kernel
theorem dX0_areRunsWhole_42 : decode cX0_areRunsWhole 42 = .ok (.iload_n 2, 1) := by decide +kernel
theorem dX0_areRunsWhole_43 : decode cX0_areRunsWhole 43 = .ok (.aload_n 0, 1) := by decide +kernel
theorem dX0_areRunsWhole_44 : decode cX0_areRunsWhole 44 = .ok (.getfield 27, 3) := by decide +kernel
theorem dX0_areRunsWhole_47 : decode cX0_areRunsWhole 47 = .ok (.iload_n 3, 1) := by decide +kernel
theorem dX0_areRunsWhole_48 : decode cX0_areRunsWhole 48 = .ok (.isub, 1) := by decide +kernel
theorem dX0_areRunsWhole_49 : decode cX0_areRunsWhole 49 = .ok (.iadd, 1) := by decide +kernel
theorem dX0_areRunsWhole_50 : decode cX0_areRunsWhole 50 = .ok (.aload_n 0, 1) := by decide +kernel
theorem dX0_areRunsWhole_51 : decode cX0_areRunsWhole 51 = .ok (.getfield 27, 3) := by decide +kernel
theorem dX0_areRunsWhole_54 : decode cX0_areRunsWhole 54 = .ok (.if_icmp .ne 7, 3) := by decide +kernel
theorem dX0_areRunsWhole_57 : decode cX0_areRunsWhole 57 = .ok (.iconst 1, 1) := by decide +kernel
theorem dX0_areRunsWhole_58 : decode cX0_areRunsWhole 58 = .ok (.goto 4, 3) := by decide +kernel
theorem dX0_areRunsWhole_61 : decode cX0_areRunsWhole 61 = .ok (.iconst 0, 1) := by decide +kernel
theorem dX0_areRunsWhole_62 : decode cX0_areRunsWhole 62 = .ok (.ireturn, 1) := by decide +kernel
theorem dX0_areChangesSeen_0 : decode cX0_areChangesSeen 0 = .ok (.iconst 0, 1) := by decide +kernel
theorem dX0_areChangesSeen_1 : decode cX0_areChangesSeen 1 = .ok (.istore_n 2, 1) := by decide +kernel
theorem dX0_areChangesSeen_2 : decode cX0_areChangesSeen 2 = .ok (.iload_n 2, 1) := by decide +kernel
theorem dX0_areChangesSeen_3 : decode cX0_areChangesSeen 3 = .ok (.bipush 9, 2) := by decide +kernel
theorem dX0_areChangesSeen_5 : decode cX0_areChangesSeen 5 = .ok (.if_icmp .gt 20, 3) := by decide +kernel
theorem dX0_areChangesSeen_8 : decode cX0_areChangesSeen 8 = .ok (.aload_n 0, 1) := by decide +kernel
theorem dX0_areChangesSeen_9 : decode cX0_areChangesSeen 9 = .ok (.iload_n 1, 1) := by decide +kernel
theorem dX0_areChangesSeen_10 : decode cX0_areChangesSeen 10 = .ok (.iload_n 2, 1) := by decide +kernel
theorem dX0_areChangesSeen_11 : decode cX0_areChangesSeen 11 = .ok (.invokevirtual 46, 3) := by decide +kernel
theorem dX0_areChangesSeen_14 : decode cX0_areChangesSeen 14 = .ok (.ifCond .ne 5, 3) := by decide +kernel
theorem dX0_areChangesSeen_17 : decode cX0_areChangesSeen 17 = .ok (.iconst 0, 1) := by decide +kernel
theorem dX0_areChangesSeen_18 : decode cX0_areChangesSeen 18 = .ok (.ireturn, 1) := by decide +kernel
theorem dX0_areChangesSeen_19 : decode cX0_areChangesSeen 19 = .ok (.iinc 2 1, 3) := by decide +kernel
theorem dX0_areChangesSeen_22 : decode cX0_areChangesSeen 22 = .ok (.goto (-20), 3) := by decide +kernel
theorem dX0_areChangesSeen_25 : decode cX0_areChangesSeen 25 = .ok (.iconst 1, 1) := by decide +kernel
theorem dX0_areChangesSeen_26 : decode cX0_areChangesSeen 26 = .ok (.ireturn, 1) := by decide +kernel
theorem dX0_areChangesSeenBy_0 : decode cX0_areChangesSeenBy 0 = .ok (.iconst 1, 1) := by decide +kernel
theorem dX0_areChangesSeenBy_1 : decode cX0_areChangesSeenBy 1 = .ok (.iload_n 2, 1) := by decide +kernel
theorem dX0_areChangesSeenBy_2 : decode cX0_areChangesSeenBy 2 = .ok (.ishl, 1) := by decide +kernel
theorem dX0_areChangesSeenBy_3 : decode cX0_areChangesSeenBy 3 = .ok (.iconst 1, 1) := by decide +kernel
theorem dX0_areChangesSeenBy_4 : decode cX0_areChangesSeenBy 4 = .ok (.isub, 1) := by decide +kernel
theorem dX0_areChangesSeenBy_5 : decode cX0_areChangesSeenBy 5 = .ok (.istore_n 3, 1) := by decide +kernel
theorem dX0_areChangesSeenBy_6 : decode cX0_areChangesSeenBy 6 = .ok (.bipush 120, 2) := by decide +kernel
theorem dX0_areChangesSeenBy_8 : decode cX0_areChangesSeenBy 8 = .ok (.istore 4, 2) := by decide +kernel
theorem dX0_areChangesSeenBy_10 : decode cX0_areChangesSeenBy 10 = .ok (.iconst 0, 1) := by decide +kernel
theorem dX0_areChangesSeenBy_11 : decode cX0_areChangesSeenBy 11 = .ok (.istore 5, 2) := by decide +kernel
theorem dX0_areChangesSeenBy_13 : decode cX0_areChangesSeenBy 13 = .ok (.iload 5, 2) := by decide +kernel
theorem dX0_areChangesSeenBy_15 : decode cX0_areChangesSeenBy 15 = .ok (.aload_n 0, 1) := by decide +kernel
theorem dX0_areChangesSeenBy_16 : decode cX0_areChangesSeenBy 16 = .ok (.getfield 27, 3) := by decide +kernel
theorem dX0_areChangesSeenBy_19 : decode cX0_areChangesSeenBy 19 = .ok (.if_icmp .ge 47, 3) := by decide +kernel
theorem dX0_areChangesSeenBy_22 : decode cX0_areChangesSeenBy 22 = .ok (.iload 5, 2) := by decide +kernel
theorem dX0_areChangesSeenBy_24 : decode cX0_areChangesSeenBy 24 = .ok (.iload_n 3, 1) := by decide +kernel
theorem dX0_areChangesSeenBy_25 : decode cX0_areChangesSeenBy 25 = .ok (.iand, 1) := by decide +kernel
theorem dX0_areChangesSeenBy_26 : decode cX0_areChangesSeenBy 26 = .ok (.ifCond .ne 15, 3) := by decide +kernel
theorem dX0_areChangesSeenBy_29 : decode cX0_areChangesSeenBy 29 = .ok (.aload_n 0, 1) := by decide +kernel
theorem dX0_areChangesSeenBy_30 : decode cX0_areChangesSeenBy 30 = .ok (.iload_n 1, 1) := by decide +kernel
theorem dX0_areChangesSeenBy_31 : decode cX0_areChangesSeenBy 31 = .ok (.iload_n 2, 1) := by decide +kernel
theorem dX0_areChangesSeenBy_32 : decode cX0_areChangesSeenBy 32 = .ok (.iload 5, 2) := by decide +kernel
theorem dX0_areChangesSeenBy_34 : decode cX0_areChangesSeenBy 34 = .ok (.iload_n 2, 1) := by decide +kernel
theorem dX0_areChangesSeenBy_35 : decode cX0_areChangesSeenBy 35 = .ok (.ishr, 1) := by decide +kernel
theorem dX0_areChangesSeenBy_36 : decode cX0_areChangesSeenBy 36 = .ok (.invokevirtual 49, 3) := by decide +kernel
theorem dX0_areChangesSeenBy_39 : decode cX0_areChangesSeenBy 39 = .ok (.istore 4, 2) := by decide +kernel
theorem dX0_areChangesSeenBy_41 : decode cX0_areChangesSeenBy 41 = .ok (.iload 4, 2) := by decide +kernel
theorem dX0_areChangesSeenBy_43 : decode cX0_areChangesSeenBy 43 = .ok (.bipush 120, 2) := by decide +kernel
theorem dX0_areChangesSeenBy_45 : decode cX0_areChangesSeenBy 45 = .ok (.if_icmp .eq 15, 3) := by decide +kernel
theorem dX0_areChangesSeenBy_48 : decode cX0_areChangesSeenBy 48 = .ok (.aload_n 0, 1) := by decide +kernel
theorem dX0_areChangesSeenBy_49 : decode cX0_areChangesSeenBy 49 = .ok (.iload_n 1, 1) := by decide +kernel
theorem dX0_areChangesSeenBy_50 : decode cX0_areChangesSeenBy 50 = .ok (.iload 5, 2) := by decide +kernel
theorem dX0_areChangesSeenBy_52 : decode cX0_areChangesSeenBy 52 = .ok (.invokevirtual 43, 3) := by decide +kernel
theorem dX0_areChangesSeenBy_55 : decode cX0_areChangesSeenBy 55 = .ok (.ifCond .eq 5, 3) := by decide +kernel
theorem dX0_areChangesSeenBy_58 : decode cX0_areChangesSeenBy 58 = .ok (.iconst 0, 1) := by decide +kernel
theorem dX0_areChangesSeenBy_59 : decode cX0_areChangesSeenBy 59 = .ok (.ireturn, 1) := by decide +kernel
theorem dX0_areChangesSeenBy_60 : decode cX0_areChangesSeenBy 60 = .ok (.iinc 5 1, 3) := by decide +kernel
theorem dX0_areChangesSeenBy_63 : decode cX0_areChangesSeenBy 63 = .ok (.goto (-50), 3) := by decide +kernel
theorem dX0_areChangesSeenBy_66 : decode cX0_areChangesSeenBy 66 = .ok (.iconst 1, 1) := by decide +kernel
theorem dX0_areChangesSeenBy_67 : decode cX0_areChangesSeenBy 67 = .ok (.ireturn, 1) := by decide +kernel
theorem dX1_init_0 : decode cX1_init 0 = .ok (.aload_n 0, 1) := by decide +kernel
theorem dX1_init_1 : decode cX1_init 1 = .ok (.invokespecial 3, 3) := by decide +kernel
theorem dX1_init_4 : decode cX1_init 4 = .ok (.aload_n 0, 1) := by decide +kernel
theorem dX1_init_5 : decode cX1_init 5 = .ok (.sipush 2048, 3) := by decide +kernel
theorem dX1_init_8 : decode cX1_init 8 = .ok (.newarray .int, 2) := by decide +kernel
theorem dX1_init_10 : decode cX1_init 10 = .ok (.putfield 9, 3) := by decide +kernel
theorem dX1_init_13 : decode cX1_init 13 = .ok (.return_, 1) := by decide +kernel
theorem dX1_read_0 : decode cX1_read 0 = .ok (.iload_n 1, 1) := by decide +kernel
theorem dX1_read_1 : decode cX1_read 1 = .ok (.bipush 16, 2) := by decide +kernel
theorem dX1_read_3 : decode cX1_read 3 = .ok (.imul, 1) := by decide +kernel
theorem dX1_read_4 : decode cX1_read 4 = .ok (.iload_n 2, 1) := by decide +kernel
theorem dX1_read_5 : decode cX1_read 5 = .ok (.iadd, 1) := by decide +kernel
theorem dX1_read_6 : decode cX1_read 6 = .ok (.istore_n 3, 1) := by decide +kernel
theorem dX1_read_7 : decode cX1_read 7 = .ok (.iload_n 3, 1) := by decide +kernel
theorem dX1_read_8 : decode cX1_read 8 = .ok (.ifCond .lt 21, 3) := by decide +kernel
theorem dX1_read_11 : decode cX1_read 11 = .ok (.iload_n 3, 1) := by decide +kernel
theorem dX1_read_12 : decode cX1_read 12 = .ok (.aload_n 0, 1) := by decide +kernel
theorem dX1_read_13 : decode cX1_read 13 = .ok (.getfield 9, 3) := by decide +kernel
theorem dX1_read_16 : decode cX1_read 16 = .ok (.arraylength, 1) := by decide +kernel
theorem dX1_read_17 : decode cX1_read 17 = .ok (.if_icmp .ge 12, 3) := by decide +kernel
theorem dX1_read_20 : decode cX1_read 20 = .ok (.aload_n 0, 1) := by decide +kernel
theorem dX1_read_21 : decode cX1_read 21 = .ok (.getfield 9, 3) := by decide +kernel
theorem dX1_read_24 : decode cX1_read 24 = .ok (.iload_n 3, 1) := by decide +kernel
theorem dX1_read_25 : decode cX1_read 25 = .ok (.iaload, 1) := by decide +kernel
theorem dX1_read_26 : decode cX1_read 26 = .ok (.goto 4, 3) := by decide +kernel
theorem dX1_read_29 : decode cX1_read 29 = .ok (.iconst 0, 1) := by decide +kernel
theorem dX1_read_30 : decode cX1_read 30 = .ok (.ireturn, 1) := by decide +kernel
theorem dX1_write_0 : decode cX1_write 0 = .ok (.iload_n 1, 1) := by decide +kernel
theorem dX1_write_1 : decode cX1_write 1 = .ok (.bipush 16, 2) := by decide +kernel
theorem dX1_write_3 : decode cX1_write 3 = .ok (.imul, 1) := by decide +kernel
theorem dX1_write_4 : decode cX1_write 4 = .ok (.iload_n 2, 1) := by decide +kernel
theorem dX1_write_5 : decode cX1_write 5 = .ok (.iadd, 1) := by decide +kernel
theorem dX1_write_6 : decode cX1_write 6 = .ok (.istore 4, 2) := by decide +kernel
theorem dX1_write_8 : decode cX1_write 8 = .ok (.iload 4, 2) := by decide +kernel
theorem dX1_write_10 : decode cX1_write 10 = .ok (.ifCond .lt 21, 3) := by decide +kernel
theorem dX1_write_13 : decode cX1_write 13 = .ok (.iload 4, 2) := by decide +kernel
theorem dX1_write_15 : decode cX1_write 15 = .ok (.aload_n 0, 1) := by decide +kernel
theorem dX1_write_16 : decode cX1_write 16 = .ok (.getfield 9, 3) := by decide +kernel
theorem dX1_write_19 : decode cX1_write 19 = .ok (.arraylength, 1) := by decide +kernel
theorem dX1_write_20 : decode cX1_write 20 = .ok (.if_icmp .ge 11, 3) := by decide +kernel
theorem dX1_write_23 : decode cX1_write 23 = .ok (.aload_n 0, 1) := by decide +kernel
theorem dX1_write_24 : decode cX1_write 24 = .ok (.getfield 9, 3) := by decide +kernel
theorem dX1_write_27 : decode cX1_write 27 = .ok (.iload 4, 2) := by decide +kernel
theorem dX1_write_29 : decode cX1_write 29 = .ok (.iload_n 3, 1) := by decide +kernel
theorem dX1_write_30 : decode cX1_write 30 = .ok (.iastore, 1) := by decide +kernel
theorem dX1_write_31 : decode cX1_write 31 = .ok (.return_, 1) := by decide +kernel
theorem dX2_init_0 : decode cX2_init 0 = .ok (.aload_n 0, 1) := by decide +kernel
theorem dX2_init_1 : decode cX2_init 1 = .ok (.invokespecial 3, 3) := by decide +kernel
theorem dX2_init_4 : decode cX2_init 4 = .ok (.aload_n 0, 1) := by decide +kernel
theorem dX2_init_5 : decode cX2_init 5 = .ok (.aload_n 1, 1) := by decide +kernel
theorem dX2_init_6 : decode cX2_init 6 = .ok (.putfield 9, 3) := by decide +kernel
theorem dX2_init_9 : decode cX2_init 9 = .ok (.return_, 1) := by decide +kernel
theorem dX2_takeBit_0 : decode cX2_takeBit 0 = .ok (.aload_n 0, 1) := by decide +kernel
theorem dX2_takeBit_1 : decode cX2_takeBit 1 = .ok (.getfield 15, 3) := by decide +kernel
theorem dX2_takeBit_4 : decode cX2_takeBit 4 = .ok (.ifCond .ne 13, 3) := by decide +kernel
theorem dX2_takeBit_7 : decode cX2_takeBit 7 = .ok (.aload_n 0, 1) := by decide +kernel
theorem dX2_takeBit_8 : decode cX2_takeBit 8 = .ok (.iload_n 2, 1) := by decide +kernel
theorem dX2_takeBit_9 : decode cX2_takeBit 9 = .ok (.putfield 19, 3) := by decide +kernel
theorem dX2_takeBit_12 : decode cX2_takeBit 12 = .ok (.aload_n 0, 1) := by decide +kernel
theorem dX2_takeBit_13 : decode cX2_takeBit 13 = .ok (.iconst 0, 1) := by decide +kernel
theorem dX2_takeBit_14 : decode cX2_takeBit 14 = .ok (.putfield 22, 3) := by decide +kernel
theorem dX2_takeBit_17 : decode cX2_takeBit 17 = .ok (.aload_n 0, 1) := by decide +kernel
theorem dX2_takeBit_18 : decode cX2_takeBit 18 = .ok (.aload_n 0, 1) := by decide +kernel
theorem dX2_takeBit_19 : decode cX2_takeBit 19 = .ok (.getfield 22, 3) := by decide +kernel
theorem dX2_takeBit_22 : decode cX2_takeBit 22 = .ok (.iconst 1, 1) := by decide +kernel
theorem dX2_takeBit_23 : decode cX2_takeBit 23 = .ok (.ishl, 1) := by decide +kernel
theorem dX2_takeBit_24 : decode cX2_takeBit 24 = .ok (.iload_n 1, 1) := by decide +kernel
theorem dX2_takeBit_25 : decode cX2_takeBit 25 = .ok (.ifCond .eq 7, 3) := by decide +kernel
theorem dX2_takeBit_28 : decode cX2_takeBit 28 = .ok (.iconst 1, 1) := by decide +kernel
theorem dX2_takeBit_29 : decode cX2_takeBit 29 = .ok (.goto 4, 3) := by decide +kernel
theorem dX2_takeBit_32 : decode cX2_takeBit 32 = .ok (.iconst 0, 1) := by decide +kernel
theorem dX2_takeBit_33 : decode cX2_takeBit 33 = .ok (.ior, 1) := by decide +kernel
theorem dX2_takeBit_34 : decode cX2_takeBit 34 = .ok (.putfield 22, 3) := by decide +kernel
theorem dX2_takeBit_37 : decode cX2_takeBit 37 = .ok (.aload_n 0, 1) := by decide +kernel
theorem dX2_takeBit_38 : decode cX2_takeBit 38 = .ok (.dup, 1) := by decide +kernel
theorem dX2_takeBit_39 : decode cX2_takeBit 39 = .ok (.getfield 15, 3) := by decide +kernel
theorem dX2_takeBit_42 : decode cX2_takeBit 42 = .ok (.iconst 1, 1) := by decide +kernel
theorem dX2_takeBit_43 : decode cX2_takeBit 43 = .ok (.iadd, 1) := by decide +kernel
theorem dX2_takeBit_44 : decode cX2_takeBit 44 = .ok (.putfield 15, 3) := by decide +kernel
theorem dX2_takeBit_47 : decode cX2_takeBit 47 = .ok (.aload_n 0, 1) := by decide +kernel
theorem dX2_takeBit_48 : decode cX2_takeBit 48 = .ok (.getfield 15, 3) := by decide +kernel
theorem dX2_takeBit_51 : decode cX2_takeBit 51 = .ok (.bipush 8, 2) := by decide +kernel
theorem dX2_takeBit_53 : decode cX2_takeBit 53 = .ok (.if_icmp .ne 28, 3) := by decide +kernel
theorem dX2_takeBit_56 : decode cX2_takeBit 56 = .ok (.aload_n 0, 1) := by decide +kernel
theorem dX2_takeBit_57 : decode cX2_takeBit 57 = .ok (.getfield 9, 3) := by decide +kernel
theorem dX2_takeBit_60 : decode cX2_takeBit 60 = .ok (.bipush 66, 2) := by decide +kernel
theorem dX2_takeBit_62 : decode cX2_takeBit 62 = .ok (.aload_n 0, 1) := by decide +kernel
theorem dX2_takeBit_63 : decode cX2_takeBit 63 = .ok (.getfield 19, 3) := by decide +kernel
theorem dX2_takeBit_66 : decode cX2_takeBit 66 = .ok (.iload_n 2, 1) := by decide +kernel
theorem dX2_takeBit_67 : decode cX2_takeBit 67 = .ok (.aload_n 0, 1) := by decide +kernel
theorem dX2_takeBit_68 : decode cX2_takeBit 68 = .ok (.getfield 22, 3) := by decide +kernel
theorem dX2_takeBit_71 : decode cX2_takeBit 71 = .ok (.bipush 45, 2) := by decide +kernel
theorem dX2_takeBit_73 : decode cX2_takeBit 73 = .ok (.invokevirtual 25, 3) := by decide +kernel
theorem dX2_takeBit_76 : decode cX2_takeBit 76 = .ok (.aload_n 0, 1) := by decide +kernel
theorem dX2_takeBit_77 : decode cX2_takeBit 77 = .ok (.iconst 0, 1) := by decide +kernel
theorem dX2_takeBit_78 : decode cX2_takeBit 78 = .ok (.putfield 15, 3) := by decide +kernel
theorem dX2_takeBit_81 : decode cX2_takeBit 81 = .ok (.return_, 1) := by decide +kernel
theorem dX2_takeSelectRise_0 : decode cX2_takeSelectRise 0 = .ok (.aload_n 0, 1) := by decide +kernel
theorem dX2_takeSelectRise_1 : decode cX2_takeSelectRise 1 = .ok (.getfield 15, 3) := by decide +kernel
theorem dX2_takeSelectRise_4 : decode cX2_takeSelectRise 4 = .ok (.ifCond .le 23, 3) := by decide +kernel
theorem dX2_takeSelectRise_7 : decode cX2_takeSelectRise 7 = .ok (.aload_n 0, 1) := by decide +kernel
theorem dX2_takeSelectRise_8 : decode cX2_takeSelectRise 8 = .ok (.getfield 9, 3) := by decide +kernel
theorem dX2_takeSelectRise_11 : decode cX2_takeSelectRise 11 = .ok (.bipush 66, 2) := by decide +kernel
theorem dX2_takeSelectRise_13 : decode cX2_takeSelectRise 13 = .ok (.aload_n 0, 1) := by decide +kernel
theorem dX2_takeSelectRise_14 : decode cX2_takeSelectRise 14 = .ok (.getfield 19, 3) := by decide +kernel
theorem dX2_takeSelectRise_17 : decode cX2_takeSelectRise 17 = .ok (.iload_n 1, 1) := by decide +kernel
theorem dX2_takeSelectRise_18 : decode cX2_takeSelectRise 18 = .ok (.aload_n 0, 1) := by decide +kernel
theorem dX2_takeSelectRise_19 : decode cX2_takeSelectRise 19 = .ok (.getfield 22, 3) := by decide +kernel
theorem dX2_takeSelectRise_22 : decode cX2_takeSelectRise 22 = .ok (.bipush 115, 2) := by decide +kernel
theorem dX2_takeSelectRise_24 : decode cX2_takeSelectRise 24 = .ok (.invokevirtual 25, 3) := by decide +kernel
theorem dX2_takeSelectRise_27 : decode cX2_takeSelectRise 27 = .ok (.aload_n 0, 1) := by decide +kernel
theorem dX2_takeSelectRise_28 : decode cX2_takeSelectRise 28 = .ok (.iconst 0, 1) := by decide +kernel
theorem dX2_takeSelectRise_29 : decode cX2_takeSelectRise 29 = .ok (.putfield 15, 3) := by decide +kernel
theorem dX2_takeSelectRise_32 : decode cX2_takeSelectRise 32 = .ok (.return_, 1) := by decide +kernel
theorem dX3_init_0 : decode cX3_init 0 = .ok (.aload_n 0, 1) := by decide +kernel
theorem dX3_init_1 : decode cX3_init 1 = .ok (.invokespecial 3, 3) := by decide +kernel
theorem dX3_init_4 : decode cX3_init 4 = .ok (.aload_n 0, 1) := by decide +kernel
theorem dX3_init_5 : decode cX3_init 5 = .ok (.sipush 200, 3) := by decide +kernel
theorem dX3_init_8 : decode cX3_init 8 = .ok (.newarray .char, 2) := by decide +kernel
theorem dX3_init_10 : decode cX3_init 10 = .ok (.putfield 9, 3) := by decide +kernel
theorem dX3_init_13 : decode cX3_init 13 = .ok (.aload_n 0, 1) := by decide +kernel
theorem dX3_init_14 : decode cX3_init 14 = .ok (.sipush 200, 3) := by decide +kernel
theorem dX3_init_17 : decode cX3_init 17 = .ok (.newarray .int, 2) := by decide +kernel
theorem dX3_init_19 : decode cX3_init 19 = .ok (.putfield 15, 3) := by decide +kernel
theorem dX3_init_22 : decode cX3_init 22 = .ok (.aload_n 0, 1) := by decide +kernel
theorem dX3_init_23 : decode cX3_init 23 = .ok (.sipush 200, 3) := by decide +kernel
theorem dX3_init_26 : decode cX3_init 26 = .ok (.newarray .int, 2) := by decide +kernel
theorem dX3_init_28 : decode cX3_init 28 = .ok (.putfield 19, 3) := by decide +kernel
theorem dX3_init_31 : decode cX3_init 31 = .ok (.aload_n 0, 1) := by decide +kernel
theorem dX3_init_32 : decode cX3_init 32 = .ok (.sipush 200, 3) := by decide +kernel
theorem dX3_init_35 : decode cX3_init 35 = .ok (.newarray .int, 2) := by decide +kernel
theorem dX3_init_37 : decode cX3_init 37 = .ok (.putfield 22, 3) := by decide +kernel
theorem dX3_init_40 : decode cX3_init 40 = .ok (.aload_n 0, 1) := by decide +kernel
theorem dX3_init_41 : decode cX3_init 41 = .ok (.sipush 200, 3) := by decide +kernel
theorem dX3_init_44 : decode cX3_init 44 = .ok (.newarray .char, 2) := by decide +kernel
theorem dX3_init_46 : decode cX3_init 46 = .ok (.putfield 25, 3) := by decide +kernel
theorem dX3_init_49 : decode cX3_init 49 = .ok (.return_, 1) := by decide +kernel
theorem dX3_tell_0 : decode cX3_tell 0 = .ok (.aload_n 0, 1) := by decide +kernel
theorem dX3_tell_1 : decode cX3_tell 1 = .ok (.getfield 28, 3) := by decide +kernel
theorem dX3_tell_4 : decode cX3_tell 4 = .ok (.ifCond .lt 13, 3) := by decide +kernel
theorem dX3_tell_7 : decode cX3_tell 7 = .ok (.aload_n 0, 1) := by decide +kernel
theorem dX3_tell_8 : decode cX3_tell 8 = .ok (.getfield 28, 3) := by decide +kernel
theorem dX3_tell_11 : decode cX3_tell 11 = .ok (.sipush 200, 3) := by decide +kernel
theorem dX3_tell_14 : decode cX3_tell 14 = .ok (.if_icmp .lt 4, 3) := by decide +kernel
theorem dX3_tell_17 : decode cX3_tell 17 = .ok (.return_, 1) := by decide +kernel
theorem dX3_tell_18 : decode cX3_tell 18 = .ok (.aload_n 0, 1) := by decide +kernel
theorem dX3_tell_19 : decode cX3_tell 19 = .ok (.getfield 9, 3) := by decide +kernel
theorem dX3_tell_22 : decode cX3_tell 22 = .ok (.aload_n 0, 1) := by decide +kernel
theorem dX3_tell_23 : decode cX3_tell 23 = .ok (.getfield 28, 3) := by decide +kernel
theorem dX3_tell_26 : decode cX3_tell 26 = .ok (.iload_n 1, 1) := by decide +kernel
theorem dX3_tell_27 : decode cX3_tell 27 = .ok (.castore, 1) := by decide +kernel
theorem dX3_tell_28 : decode cX3_tell 28 = .ok (.aload_n 0, 1) := by decide +kernel
theorem dX3_tell_29 : decode cX3_tell 29 = .ok (.getfield 15, 3) := by decide +kernel
theorem dX3_tell_32 : decode cX3_tell 32 = .ok (.aload_n 0, 1) := by decide +kernel
theorem dX3_tell_33 : decode cX3_tell 33 = .ok (.getfield 28, 3) := by decide +kernel
theorem dX3_tell_36 : decode cX3_tell 36 = .ok (.iload_n 2, 1) := by decide +kernel
theorem dX3_tell_37 : decode cX3_tell 37 = .ok (.iastore, 1) := by decide +kernel
theorem dX3_tell_38 : decode cX3_tell 38 = .ok (.aload_n 0, 1) := by decide +kernel
theorem dX3_tell_39 : decode cX3_tell 39 = .ok (.getfield 19, 3) := by decide +kernel
theorem dX3_tell_42 : decode cX3_tell 42 = .ok (.aload_n 0, 1) := by decide +kernel
theorem dX3_tell_43 : decode cX3_tell 43 = .ok (.getfield 28, 3) := by decide +kernel
theorem dX3_tell_46 : decode cX3_tell 46 = .ok (.iload_n 3, 1) := by decide +kernel
theorem dX3_tell_47 : decode cX3_tell 47 = .ok (.iastore, 1) := by decide +kernel
theorem dX3_tell_48 : decode cX3_tell 48 = .ok (.aload_n 0, 1) := by decide +kernel
theorem dX3_tell_49 : decode cX3_tell 49 = .ok (.getfield 22, 3) := by decide +kernel
theorem dX3_tell_52 : decode cX3_tell 52 = .ok (.aload_n 0, 1) := by decide +kernel
theorem dX3_tell_53 : decode cX3_tell 53 = .ok (.getfield 28, 3) := by decide +kernel
theorem dX3_tell_56 : decode cX3_tell 56 = .ok (.iload 4, 2) := by decide +kernel
theorem dX3_tell_58 : decode cX3_tell 58 = .ok (.iastore, 1) := by decide +kernel
theorem dX3_tell_59 : decode cX3_tell 59 = .ok (.aload_n 0, 1) := by decide +kernel
theorem dX3_tell_60 : decode cX3_tell 60 = .ok (.getfield 25, 3) := by decide +kernel
theorem dX3_tell_63 : decode cX3_tell 63 = .ok (.aload_n 0, 1) := by decide +kernel
theorem dX3_tell_64 : decode cX3_tell 64 = .ok (.getfield 28, 3) := by decide +kernel
theorem dX3_tell_67 : decode cX3_tell 67 = .ok (.iload 5, 2) := by decide +kernel
theorem dX3_tell_69 : decode cX3_tell 69 = .ok (.castore, 1) := by decide +kernel
theorem dX3_tell_70 : decode cX3_tell 70 = .ok (.aload_n 0, 1) := by decide +kernel
theorem dX3_tell_71 : decode cX3_tell 71 = .ok (.dup, 1) := by decide +kernel
theorem dX3_tell_72 : decode cX3_tell 72 = .ok (.getfield 28, 3) := by decide +kernel
theorem dX3_tell_75 : decode cX3_tell 75 = .ok (.iconst 1, 1) := by decide +kernel
theorem dX3_tell_76 : decode cX3_tell 76 = .ok (.iadd, 1) := by decide +kernel
theorem dX3_tell_77 : decode cX3_tell 77 = .ok (.putfield 28, 3) := by decide +kernel
theorem dX3_tell_80 : decode cX3_tell 80 = .ok (.return_, 1) := by decide +kernel
theorem dX3_pairCount_0 : decode cX3_pairCount 0 = .ok (.iconst 0, 1) := by decide +kernel
theorem dX3_pairCount_1 : decode cX3_pairCount 1 = .ok (.istore_n 3, 1) := by decide +kernel
theorem dX3_pairCount_2 : decode cX3_pairCount 2 = .ok (.iconst (-1), 1) := by decide +kernel
theorem dX3_pairCount_3 : decode cX3_pairCount 3 = .ok (.istore 4, 2) := by decide +kernel
theorem dX3_pairCount_5 : decode cX3_pairCount 5 = .ok (.iconst 0, 1) := by decide +kernel
theorem dX3_pairCount_6 : decode cX3_pairCount 6 = .ok (.istore 5, 2) := by decide +kernel
theorem dX3_pairCount_8 : decode cX3_pairCount 8 = .ok (.iload 5, 2) := by decide +kernel
theorem dX3_pairCount_10 : decode cX3_pairCount 10 = .ok (.aload_n 0, 1) := by decide +kernel
theorem dX3_pairCount_11 : decode cX3_pairCount 11 = .ok (.getfield 28, 3) := by decide +kernel
theorem dX3_pairCount_14 : decode cX3_pairCount 14 = .ok (.if_icmp .ge 70, 3) := by decide +kernel
theorem dX3_pairCount_17 : decode cX3_pairCount 17 = .ok (.iload 5, 2) := by decide +kernel
theorem dX3_pairCount_19 : decode cX3_pairCount 19 = .ok (.sipush 200, 3) := by decide +kernel
theorem dX3_pairCount_22 : decode cX3_pairCount 22 = .ok (.if_icmp .ge 62, 3) := by decide +kernel
theorem dX3_pairCount_25 : decode cX3_pairCount 25 = .ok (.aload_n 0, 1) := by decide +kernel
theorem dX3_pairCount_26 : decode cX3_pairCount 26 = .ok (.getfield 9, 3) := by decide +kernel
theorem dX3_pairCount_29 : decode cX3_pairCount 29 = .ok (.iload 5, 2) := by decide +kernel
theorem dX3_pairCount_31 : decode cX3_pairCount 31 = .ok (.caload, 1) := by decide +kernel
theorem dX3_pairCount_32 : decode cX3_pairCount 32 = .ok (.bipush 83, 2) := by decide +kernel
theorem dX3_pairCount_34 : decode cX3_pairCount 34 = .ok (.if_icmp .eq 44, 3) := by decide +kernel
theorem dX3_pairCount_37 : decode cX3_pairCount 37 = .ok (.aload_n 0, 1) := by decide +kernel
theorem dX3_pairCount_38 : decode cX3_pairCount 38 = .ok (.getfield 9, 3) := by decide +kernel
theorem dX3_pairCount_41 : decode cX3_pairCount 41 = .ok (.iload 5, 2) := by decide +kernel
theorem dX3_pairCount_43 : decode cX3_pairCount 43 = .ok (.caload, 1) := by decide +kernel
theorem dX3_pairCount_44 : decode cX3_pairCount 44 = .ok (.bipush 69, 2) := by decide +kernel
theorem dX3_pairCount_46 : decode cX3_pairCount 46 = .ok (.if_icmp .eq 32, 3) := by decide +kernel
theorem dX3_pairCount_49 : decode cX3_pairCount 49 = .ok (.iload 4, 2) := by decide +kernel
theorem dX3_pairCount_51 : decode cX3_pairCount 51 = .ok (.iload_n 1, 1) := by decide +kernel
theorem dX3_pairCount_52 : decode cX3_pairCount 52 = .ok (.if_icmp .ne 17, 3) := by decide +kernel
theorem dX3_pairCount_55 : decode cX3_pairCount 55 = .ok (.aload_n 0, 1) := by decide +kernel
theorem dX3_pairCount_56 : decode cX3_pairCount 56 = .ok (.getfield 22, 3) := by decide +kernel
theorem dX3_pairCount_59 : decode cX3_pairCount 59 = .ok (.iload 5, 2) := by decide +kernel
theorem dX3_pairCount_61 : decode cX3_pairCount 61 = .ok (.iaload, 1) := by decide +kernel
theorem dX3_pairCount_62 : decode cX3_pairCount 62 = .ok (.iload_n 2, 1) := by decide +kernel
theorem dX3_pairCount_63 : decode cX3_pairCount 63 = .ok (.if_icmp .ne 6, 3) := by decide +kernel
theorem dX3_pairCount_66 : decode cX3_pairCount 66 = .ok (.iinc 3 1, 3) := by decide +kernel
theorem dX3_pairCount_69 : decode cX3_pairCount 69 = .ok (.aload_n 0, 1) := by decide +kernel
theorem dX3_pairCount_70 : decode cX3_pairCount 70 = .ok (.getfield 22, 3) := by decide +kernel
theorem dX3_pairCount_73 : decode cX3_pairCount 73 = .ok (.iload 5, 2) := by decide +kernel
theorem dX3_pairCount_75 : decode cX3_pairCount 75 = .ok (.iaload, 1) := by decide +kernel
theorem dX3_pairCount_76 : decode cX3_pairCount 76 = .ok (.istore 4, 2) := by decide +kernel
theorem dX3_pairCount_78 : decode cX3_pairCount 78 = .ok (.iinc 5 1, 3) := by decide +kernel
theorem dX3_pairCount_81 : decode cX3_pairCount 81 = .ok (.goto (-73), 3) := by decide +kernel
theorem dX3_pairCount_84 : decode cX3_pairCount 84 = .ok (.iload_n 3, 1) := by decide +kernel
theorem dX3_pairCount_85 : decode cX3_pairCount 85 = .ok (.ireturn, 1) := by decide +kernel
theorem dX3_areInOrder_0 : decode cX3_areInOrder 0 = .ok (.iconst 0, 1) := by decide +kernel
theorem dX3_areInOrder_1 : decode cX3_areInOrder 1 = .ok (.istore_n 1, 1) := by decide +kernel
theorem dX3_areInOrder_2 : decode cX3_areInOrder 2 = .ok (.iload_n 1, 1) := by decide +kernel
theorem dX3_areInOrder_3 : decode cX3_areInOrder 3 = .ok (.aload_n 0, 1) := by decide +kernel
theorem dX3_areInOrder_4 : decode cX3_areInOrder 4 = .ok (.getfield 28, 3) := by decide +kernel
theorem dX3_areInOrder_7 : decode cX3_areInOrder 7 = .ok (.if_icmp .ge 54, 3) := by decide +kernel
theorem dX3_areInOrder_10 : decode cX3_areInOrder 10 = .ok (.iload_n 1, 1) := by decide +kernel
theorem dX3_areInOrder_11 : decode cX3_areInOrder 11 = .ok (.sipush 200, 3) := by decide +kernel
theorem dX3_areInOrder_14 : decode cX3_areInOrder 14 = .ok (.if_icmp .ge 47, 3) := by decide +kernel
theorem dX3_areInOrder_17 : decode cX3_areInOrder 17 = .ok (.aload_n 0, 1) := by decide +kernel
theorem dX3_areInOrder_18 : decode cX3_areInOrder 18 = .ok (.getfield 15, 3) := by decide +kernel
theorem dX3_areInOrder_21 : decode cX3_areInOrder 21 = .ok (.iload_n 1, 1) := by decide +kernel
theorem dX3_areInOrder_22 : decode cX3_areInOrder 22 = .ok (.iaload, 1) := by decide +kernel
theorem dX3_areInOrder_23 : decode cX3_areInOrder 23 = .ok (.aload_n 0, 1) := by decide +kernel
theorem dX3_areInOrder_24 : decode cX3_areInOrder 24 = .ok (.getfield 19, 3) := by decide +kernel
theorem dX3_areInOrder_27 : decode cX3_areInOrder 27 = .ok (.iload_n 1, 1) := by decide +kernel
theorem dX3_areInOrder_28 : decode cX3_areInOrder 28 = .ok (.iaload, 1) := by decide +kernel
theorem dX3_areInOrder_29 : decode cX3_areInOrder 29 = .ok (.if_icmp .gt 24, 3) := by decide +kernel
theorem dX3_areInOrder_32 : decode cX3_areInOrder 32 = .ok (.iload_n 1, 1) := by decide +kernel
theorem dX3_areInOrder_33 : decode cX3_areInOrder 33 = .ok (.ifCond .le 22, 3) := by decide +kernel
theorem dX3_areInOrder_36 : decode cX3_areInOrder 36 = .ok (.aload_n 0, 1) := by decide +kernel
theorem dX3_areInOrder_37 : decode cX3_areInOrder 37 = .ok (.getfield 15, 3) := by decide +kernel
theorem dX3_areInOrder_40 : decode cX3_areInOrder 40 = .ok (.iload_n 1, 1) := by decide +kernel
theorem dX3_areInOrder_41 : decode cX3_areInOrder 41 = .ok (.iaload, 1) := by decide +kernel
theorem dX3_areInOrder_42 : decode cX3_areInOrder 42 = .ok (.aload_n 0, 1) := by decide +kernel
theorem dX3_areInOrder_43 : decode cX3_areInOrder 43 = .ok (.getfield 15, 3) := by decide +kernel
theorem dX3_areInOrder_46 : decode cX3_areInOrder 46 = .ok (.iload_n 1, 1) := by decide +kernel
theorem dX3_areInOrder_47 : decode cX3_areInOrder 47 = .ok (.iconst 1, 1) := by decide +kernel
theorem dX3_areInOrder_48 : decode cX3_areInOrder 48 = .ok (.isub, 1) := by decide +kernel
theorem dX3_areInOrder_49 : decode cX3_areInOrder 49 = .ok (.iaload, 1) := by decide +kernel
theorem dX3_areInOrder_50 : decode cX3_areInOrder 50 = .ok (.if_icmp .ge 5, 3) := by decide +kernel
theorem dX3_areInOrder_53 : decode cX3_areInOrder 53 = .ok (.iconst 0, 1) := by decide +kernel
theorem dX3_areInOrder_54 : decode cX3_areInOrder 54 = .ok (.ireturn, 1) := by decide +kernel
theorem dX3_areInOrder_55 : decode cX3_areInOrder 55 = .ok (.iinc 1 1, 3) := by decide +kernel
theorem dX3_areInOrder_58 : decode cX3_areInOrder 58 = .ok (.goto (-56), 3) := by decide +kernel
theorem dX3_areInOrder_61 : decode cX3_areInOrder 61 = .ok (.iconst 1, 1) := by decide +kernel
theorem dX3_areInOrder_62 : decode cX3_areInOrder 62 = .ok (.ireturn, 1) := by decide +kernel
theorem dX4_init_0 : decode cX4_init 0 = .ok (.aload_n 0, 1) := by decide +kernel
theorem dX4_init_1 : decode cX4_init 1 = .ok (.invokespecial 3, 3) := by decide +kernel
theorem dX4_init_4 : decode cX4_init 4 = .ok (.aload_n 0, 1) := by decide +kernel
theorem dX4_init_5 : decode cX4_init 5 = .ok (.bipush 6, 2) := by decide +kernel
theorem dX4_init_7 : decode cX4_init 7 = .ok (.newarray .char, 2) := by decide +kernel
theorem dX4_init_9 : decode cX4_init 9 = .ok (.putfield 9, 3) := by decide +kernel
theorem dX4_init_12 : decode cX4_init 12 = .ok (.aload_n 0, 1) := by decide +kernel
theorem dX4_init_13 : decode cX4_init 13 = .ok (.bipush 6, 2) := by decide +kernel
theorem dX4_init_15 : decode cX4_init 15 = .ok (.newarray .int, 2) := by decide +kernel
theorem dX4_init_17 : decode cX4_init 17 = .ok (.putfield 15, 3) := by decide +kernel
theorem dX4_init_20 : decode cX4_init 20 = .ok (.aload_n 0, 1) := by decide +kernel
theorem dX4_init_21 : decode cX4_init 21 = .ok (.bipush 6, 2) := by decide +kernel
theorem dX4_init_23 : decode cX4_init 23 = .ok (.newarray .int, 2) := by decide +kernel
theorem dX4_init_25 : decode cX4_init 25 = .ok (.putfield 19, 3) := by decide +kernel
theorem dX4_init_28 : decode cX4_init 28 = .ok (.return_, 1) := by decide +kernel
theorem dX4_addStep_0 : decode cX4_addStep 0 = .ok (.aload_n 0, 1) := by decide +kernel
theorem dX4_addStep_1 : decode cX4_addStep 1 = .ok (.getfield 22, 3) := by decide +kernel
theorem dX4_addStep_4 : decode cX4_addStep 4 = .ok (.ifCond .lt 12, 3) := by decide +kernel
theorem dX4_addStep_7 : decode cX4_addStep 7 = .ok (.aload_n 0, 1) := by decide +kernel
theorem dX4_addStep_8 : decode cX4_addStep 8 = .ok (.getfield 22, 3) := by decide +kernel
theorem dX4_addStep_11 : decode cX4_addStep 11 = .ok (.bipush 6, 2) := by decide +kernel
theorem dX4_addStep_13 : decode cX4_addStep 13 = .ok (.if_icmp .lt 4, 3) := by decide +kernel
theorem dX4_addStep_16 : decode cX4_addStep 16 = .ok (.return_, 1) := by decide +kernel
theorem dX4_addStep_17 : decode cX4_addStep 17 = .ok (.aload_n 0, 1) := by decide +kernel
theorem dX4_addStep_18 : decode cX4_addStep 18 = .ok (.getfield 9, 3) := by decide +kernel
theorem dX4_addStep_21 : decode cX4_addStep 21 = .ok (.aload_n 0, 1) := by decide +kernel
theorem dX4_addStep_22 : decode cX4_addStep 22 = .ok (.getfield 22, 3) := by decide +kernel
theorem dX4_addStep_25 : decode cX4_addStep 25 = .ok (.iload_n 1, 1) := by decide +kernel
theorem dX4_addStep_26 : decode cX4_addStep 26 = .ok (.castore, 1) := by decide +kernel
theorem dX4_addStep_27 : decode cX4_addStep 27 = .ok (.aload_n 0, 1) := by decide +kernel
theorem dX4_addStep_28 : decode cX4_addStep 28 = .ok (.getfield 15, 3) := by decide +kernel
theorem dX4_addStep_31 : decode cX4_addStep 31 = .ok (.aload_n 0, 1) := by decide +kernel
theorem dX4_addStep_32 : decode cX4_addStep 32 = .ok (.getfield 22, 3) := by decide +kernel
theorem dX4_addStep_35 : decode cX4_addStep 35 = .ok (.iload_n 2, 1) := by decide +kernel
theorem dX4_addStep_36 : decode cX4_addStep 36 = .ok (.iastore, 1) := by decide +kernel
theorem dX4_addStep_37 : decode cX4_addStep 37 = .ok (.aload_n 0, 1) := by decide +kernel
theorem dX4_addStep_38 : decode cX4_addStep 38 = .ok (.getfield 19, 3) := by decide +kernel
theorem dX4_addStep_41 : decode cX4_addStep 41 = .ok (.aload_n 0, 1) := by decide +kernel
theorem dX4_addStep_42 : decode cX4_addStep 42 = .ok (.getfield 22, 3) := by decide +kernel
theorem dX4_addStep_45 : decode cX4_addStep 45 = .ok (.iload_n 3, 1) := by decide +kernel
theorem dX4_addStep_46 : decode cX4_addStep 46 = .ok (.iastore, 1) := by decide +kernel
theorem dX4_addStep_47 : decode cX4_addStep 47 = .ok (.aload_n 0, 1) := by decide +kernel
theorem dX4_addStep_48 : decode cX4_addStep 48 = .ok (.dup, 1) := by decide +kernel
theorem dX4_addStep_49 : decode cX4_addStep 49 = .ok (.getfield 22, 3) := by decide +kernel
theorem dX4_addStep_52 : decode cX4_addStep 52 = .ok (.iconst 1, 1) := by decide +kernel
theorem dX4_addStep_53 : decode cX4_addStep 53 = .ok (.iadd, 1) := by decide +kernel
theorem dX4_addStep_54 : decode cX4_addStep 54 = .ok (.putfield 22, 3) := by decide +kernel
theorem dX4_addStep_57 : decode cX4_addStep 57 = .ok (.return_, 1) := by decide +kernel
theorem dX4_metIn_0 : decode cX4_metIn 0 = .ok (.iconst (-1), 1) := by decide +kernel
theorem dX4_metIn_1 : decode cX4_metIn 1 = .ok (.istore_n 2, 1) := by decide +kernel
theorem dX4_metIn_2 : decode cX4_metIn 2 = .ok (.iconst 0, 1) := by decide +kernel
theorem dX4_metIn_3 : decode cX4_metIn 3 = .ok (.istore_n 3, 1) := by decide +kernel
theorem dX4_metIn_4 : decode cX4_metIn 4 = .ok (.iload_n 3, 1) := by decide +kernel
theorem dX4_metIn_5 : decode cX4_metIn 5 = .ok (.aload_n 0, 1) := by decide +kernel
theorem dX4_metIn_6 : decode cX4_metIn 6 = .ok (.getfield 22, 3) := by decide +kernel
theorem dX4_metIn_9 : decode cX4_metIn 9 = .ok (.if_icmp .ge 47, 3) := by decide +kernel
theorem dX4_metIn_12 : decode cX4_metIn 12 = .ok (.iload_n 3, 1) := by decide +kernel
theorem dX4_metIn_13 : decode cX4_metIn 13 = .ok (.bipush 6, 2) := by decide +kernel
theorem dX4_metIn_15 : decode cX4_metIn 15 = .ok (.if_icmp .ge 41, 3) := by decide +kernel
theorem dX4_metIn_18 : decode cX4_metIn 18 = .ok (.aload_n 1, 1) := by decide +kernel
theorem dX4_metIn_19 : decode cX4_metIn 19 = .ok (.iload_n 2, 1) := by decide +kernel
theorem dX4_metIn_20 : decode cX4_metIn 20 = .ok (.iconst 1, 1) := by decide +kernel
theorem dX4_metIn_21 : decode cX4_metIn 21 = .ok (.iadd, 1) := by decide +kernel
theorem dX4_metIn_22 : decode cX4_metIn 22 = .ok (.aload_n 0, 1) := by decide +kernel
theorem dX4_metIn_23 : decode cX4_metIn 23 = .ok (.getfield 9, 3) := by decide +kernel
theorem dX4_metIn_26 : decode cX4_metIn 26 = .ok (.iload_n 3, 1) := by decide +kernel
theorem dX4_metIn_27 : decode cX4_metIn 27 = .ok (.caload, 1) := by decide +kernel
theorem dX4_metIn_28 : decode cX4_metIn 28 = .ok (.aload_n 0, 1) := by decide +kernel
theorem dX4_metIn_29 : decode cX4_metIn 29 = .ok (.getfield 15, 3) := by decide +kernel
theorem dX4_metIn_32 : decode cX4_metIn 32 = .ok (.iload_n 3, 1) := by decide +kernel
theorem dX4_metIn_33 : decode cX4_metIn 33 = .ok (.iaload, 1) := by decide +kernel
theorem dX4_metIn_34 : decode cX4_metIn 34 = .ok (.aload_n 0, 1) := by decide +kernel
theorem dX4_metIn_35 : decode cX4_metIn 35 = .ok (.getfield 19, 3) := by decide +kernel
theorem dX4_metIn_38 : decode cX4_metIn 38 = .ok (.iload_n 3, 1) := by decide +kernel
theorem dX4_metIn_39 : decode cX4_metIn 39 = .ok (.iaload, 1) := by decide +kernel
theorem dX4_metIn_40 : decode cX4_metIn 40 = .ok (.invokestatic 26, 3) := by decide +kernel
theorem dX4_metIn_43 : decode cX4_metIn 43 = .ok (.istore_n 2, 1) := by decide +kernel
theorem dX4_metIn_44 : decode cX4_metIn 44 = .ok (.iload_n 2, 1) := by decide +kernel
theorem dX4_metIn_45 : decode cX4_metIn 45 = .ok (.ifCond .ge 5, 3) := by decide +kernel
theorem dX4_metIn_48 : decode cX4_metIn 48 = .ok (.iconst (-1), 1) := by decide +kernel
theorem dX4_metIn_49 : decode cX4_metIn 49 = .ok (.ireturn, 1) := by decide +kernel
theorem dX4_metIn_50 : decode cX4_metIn 50 = .ok (.iinc 3 1, 3) := by decide +kernel
theorem dX4_metIn_53 : decode cX4_metIn 53 = .ok (.goto (-49), 3) := by decide +kernel
theorem dX4_metIn_56 : decode cX4_metIn 56 = .ok (.iload_n 2, 1) := by decide +kernel
theorem dX4_metIn_57 : decode cX4_metIn 57 = .ok (.ireturn, 1) := by decide +kernel
theorem dX4_stepMetIn_0 : decode cX4_stepMetIn 0 = .ok (.iload_n 2, 1) := by decide +kernel
theorem dX4_stepMetIn_1 : decode cX4_stepMetIn 1 = .ok (.bipush 104, 2) := by decide +kernel
theorem dX4_stepMetIn_3 : decode cX4_stepMetIn 3 = .ok (.if_icmp .eq 9, 3) := by decide +kernel
theorem dX4_stepMetIn_6 : decode cX4_stepMetIn 6 = .ok (.iload_n 2, 1) := by decide +kernel
theorem dX4_stepMetIn_7 : decode cX4_stepMetIn 7 = .ok (.bipush 108, 2) := by decide +kernel
theorem dX4_stepMetIn_9 : decode cX4_stepMetIn 9 = .ok (.if_icmp .ne 7, 3) := by decide +kernel
theorem dX4_stepMetIn_12 : decode cX4_stepMetIn 12 = .ok (.iconst 1, 1) := by decide +kernel
theorem dX4_stepMetIn_13 : decode cX4_stepMetIn 13 = .ok (.goto 4, 3) := by decide +kernel
theorem dX4_stepMetIn_16 : decode cX4_stepMetIn 16 = .ok (.iconst 0, 1) := by decide +kernel
theorem dX4_stepMetIn_17 : decode cX4_stepMetIn 17 = .ok (.istore 5, 2) := by decide +kernel
theorem dX4_stepMetIn_19 : decode cX4_stepMetIn 19 = .ok (.iload_n 2, 1) := by decide +kernel
theorem dX4_stepMetIn_20 : decode cX4_stepMetIn 20 = .ok (.bipush 112, 2) := by decide +kernel
theorem dX4_stepMetIn_22 : decode cX4_stepMetIn 22 = .ok (.if_icmp .ne 7, 3) := by decide +kernel
theorem dX4_stepMetIn_25 : decode cX4_stepMetIn 25 = .ok (.iconst 1, 1) := by decide +kernel
theorem dX4_stepMetIn_26 : decode cX4_stepMetIn 26 = .ok (.goto 5, 3) := by decide +kernel
theorem dX4_stepMetIn_29 : decode cX4_stepMetIn 29 = .ok (.iload 4, 2) := by decide +kernel
theorem dX4_stepMetIn_31 : decode cX4_stepMetIn 31 = .ok (.istore 6, 2) := by decide +kernel
theorem dX4_stepMetIn_33 : decode cX4_stepMetIn 33 = .ok (.iconst 0, 1) := by decide +kernel
theorem dX4_stepMetIn_34 : decode cX4_stepMetIn 34 = .ok (.istore 7, 2) := by decide +kernel
theorem dX4_stepMetIn_36 : decode cX4_stepMetIn 36 = .ok (.iload_n 1, 1) := by decide +kernel
theorem dX4_stepMetIn_37 : decode cX4_stepMetIn 37 = .ok (.istore 8, 2) := by decide +kernel
theorem dX4_stepMetIn_39 : decode cX4_stepMetIn 39 = .ok (.iload 8, 2) := by decide +kernel
theorem dX4_stepMetIn_41 : decode cX4_stepMetIn 41 = .ok (.aload_n 0, 1) := by decide +kernel
theorem dX4_stepMetIn_42 : decode cX4_stepMetIn 42 = .ok (.getfield 30, 3) := by decide +kernel
theorem dX4_stepMetIn_45 : decode cX4_stepMetIn 45 = .ok (.if_icmp .ge 46, 3) := by decide +kernel
theorem dX4_stepMetIn_48 : decode cX4_stepMetIn 48 = .ok (.aload_n 0, 1) := by decide +kernel
theorem dX4_stepMetIn_49 : decode cX4_stepMetIn 49 = .ok (.iload 8, 2) := by decide +kernel
theorem dX4_stepMetIn_51 : decode cX4_stepMetIn 51 = .ok (.iload_n 2, 1) := by decide +kernel
theorem dX4_stepMetIn_52 : decode cX4_stepMetIn 52 = .ok (.iload_n 3, 1) := by decide +kernel
theorem dX4_stepMetIn_53 : decode cX4_stepMetIn 53 = .ok (.iload 4, 2) := by decide +kernel
theorem dX4_stepMetIn_55 : decode cX4_stepMetIn 55 = .ok (.invokestatic 33, 3) := by decide +kernel
theorem dX4_stepMetIn_58 : decode cX4_stepMetIn 58 = .ok (.ifCond .eq 9, 3) := by decide +kernel
theorem dX4_stepMetIn_61 : decode cX4_stepMetIn 61 = .ok (.iinc 7 1, 3) := by decide +kernel
theorem dX4_stepMetIn_64 : decode cX4_stepMetIn 64 = .ok (.goto 11, 3) := by decide +kernel
theorem dX4_stepMetIn_67 : decode cX4_stepMetIn 67 = .ok (.iload 5, 2) := by decide +kernel
theorem dX4_stepMetIn_69 : decode cX4_stepMetIn 69 = .ok (.ifCond .eq 6, 3) := by decide +kernel
theorem dX4_stepMetIn_72 : decode cX4_stepMetIn 72 = .ok (.iconst 0, 1) := by decide +kernel
theorem dX4_stepMetIn_73 : decode cX4_stepMetIn 73 = .ok (.istore 7, 2) := by decide +kernel
theorem dX4_stepMetIn_75 : decode cX4_stepMetIn 75 = .ok (.iload 7, 2) := by decide +kernel
theorem dX4_stepMetIn_77 : decode cX4_stepMetIn 77 = .ok (.iload 6, 2) := by decide +kernel
theorem dX4_stepMetIn_79 : decode cX4_stepMetIn 79 = .ok (.if_icmp .lt 6, 3) := by decide +kernel
theorem dX4_stepMetIn_82 : decode cX4_stepMetIn 82 = .ok (.iload 8, 2) := by decide +kernel
theorem dX4_stepMetIn_84 : decode cX4_stepMetIn 84 = .ok (.ireturn, 1) := by decide +kernel
theorem dX4_stepMetIn_85 : decode cX4_stepMetIn 85 = .ok (.iinc 8 1, 3) := by decide +kernel
theorem dX4_stepMetIn_88 : decode cX4_stepMetIn 88 = .ok (.goto (-49), 3) := by decide +kernel
theorem dX4_stepMetIn_91 : decode cX4_stepMetIn 91 = .ok (.iconst (-1), 1) := by decide +kernel
theorem dX4_stepMetIn_92 : decode cX4_stepMetIn 92 = .ok (.ireturn, 1) := by decide +kernel
theorem dX4_isHit_0 : decode cX4_isHit 0 = .ok (.iload_n 2, 1) := by decide +kernel
theorem dX4_isHit_1 : decode cX4_isHit 1 = .ok (.bipush 114, 2) := by decide +kernel
theorem dX4_isHit_3 : decode cX4_isHit 3 = .ok (.if_icmp .ne 10, 3) := by decide +kernel
theorem dX4_isHit_6 : decode cX4_isHit 6 = .ok (.aload_n 0, 1) := by decide +kernel
theorem dX4_isHit_7 : decode cX4_isHit 7 = .ok (.iload_n 3, 1) := by decide +kernel
theorem dX4_isHit_8 : decode cX4_isHit 8 = .ok (.iload_n 1, 1) := by decide +kernel
theorem dX4_isHit_9 : decode cX4_isHit 9 = .ok (.invokevirtual 37, 3) := by decide +kernel
theorem dX4_isHit_12 : decode cX4_isHit 12 = .ok (.ireturn, 1) := by decide +kernel
theorem dX4_isHit_13 : decode cX4_isHit 13 = .ok (.iload_n 2, 1) := by decide +kernel
theorem dX4_isHit_14 : decode cX4_isHit 14 = .ok (.bipush 102, 2) := by decide +kernel
theorem dX4_isHit_16 : decode cX4_isHit 16 = .ok (.if_icmp .ne 10, 3) := by decide +kernel
theorem dX4_isHit_19 : decode cX4_isHit 19 = .ok (.aload_n 0, 1) := by decide +kernel
theorem dX4_isHit_20 : decode cX4_isHit 20 = .ok (.iload_n 3, 1) := by decide +kernel
theorem dX4_isHit_21 : decode cX4_isHit 21 = .ok (.iload_n 1, 1) := by decide +kernel
theorem dX4_isHit_22 : decode cX4_isHit 22 = .ok (.invokevirtual 41, 3) := by decide +kernel
theorem dX4_isHit_25 : decode cX4_isHit 25 = .ok (.ireturn, 1) := by decide +kernel
theorem dX4_isHit_26 : decode cX4_isHit 26 = .ok (.iload_n 2, 1) := by decide +kernel
theorem dX4_isHit_27 : decode cX4_isHit 27 = .ok (.bipush 104, 2) := by decide +kernel
theorem dX4_isHit_29 : decode cX4_isHit 29 = .ok (.if_icmp .ne 10, 3) := by decide +kernel
theorem dX4_isHit_32 : decode cX4_isHit 32 = .ok (.aload_n 0, 1) := by decide +kernel
theorem dX4_isHit_33 : decode cX4_isHit 33 = .ok (.iload_n 3, 1) := by decide +kernel
theorem dX4_isHit_34 : decode cX4_isHit 34 = .ok (.iload_n 1, 1) := by decide +kernel
theorem dX4_isHit_35 : decode cX4_isHit 35 = .ok (.invokevirtual 44, 3) := by decide +kernel
theorem dX4_isHit_38 : decode cX4_isHit 38 = .ok (.ireturn, 1) := by decide +kernel
theorem dX4_isHit_39 : decode cX4_isHit 39 = .ok (.iload_n 2, 1) := by decide +kernel
theorem dX4_isHit_40 : decode cX4_isHit 40 = .ok (.bipush 108, 2) := by decide +kernel
theorem dX4_isHit_42 : decode cX4_isHit 42 = .ok (.if_icmp .ne 18, 3) := by decide +kernel
theorem dX4_isHit_45 : decode cX4_isHit 45 = .ok (.aload_n 0, 1) := by decide +kernel
theorem dX4_isHit_46 : decode cX4_isHit 46 = .ok (.iload_n 3, 1) := by decide +kernel
theorem dX4_isHit_47 : decode cX4_isHit 47 = .ok (.iload_n 1, 1) := by decide +kernel
theorem dX4_isHit_48 : decode cX4_isHit 48 = .ok (.invokevirtual 44, 3) := by decide +kernel
theorem dX4_isHit_51 : decode cX4_isHit 51 = .ok (.ifCond .ne 7, 3) := by decide +kernel
theorem dX4_isHit_54 : decode cX4_isHit 54 = .ok (.iconst 1, 1) := by decide +kernel
theorem dX4_isHit_55 : decode cX4_isHit 55 = .ok (.goto 4, 3) := by decide +kernel
theorem dX4_isHit_58 : decode cX4_isHit 58 = .ok (.iconst 0, 1) := by decide +kernel
theorem dX4_isHit_59 : decode cX4_isHit 59 = .ok (.ireturn, 1) := by decide +kernel
theorem dX4_isHit_60 : decode cX4_isHit 60 = .ok (.iload_n 2, 1) := by decide +kernel
theorem dX4_isHit_61 : decode cX4_isHit 61 = .ok (.bipush 116, 2) := by decide +kernel
theorem dX4_isHit_63 : decode cX4_isHit 63 = .ok (.if_icmp .eq 13, 3) := by decide +kernel
theorem dX4_isHit_66 : decode cX4_isHit 66 = .ok (.aload_n 0, 1) := by decide +kernel
theorem dX4_isHit_67 : decode cX4_isHit 67 = .ok (.iload_n 1, 1) := by decide +kernel
theorem dX4_isHit_68 : decode cX4_isHit 68 = .ok (.invokevirtual 47, 3) := by decide +kernel
theorem dX4_isHit_71 : decode cX4_isHit 71 = .ok (.iload 4, 2) := by decide +kernel
theorem dX4_isHit_73 : decode cX4_isHit 73 = .ok (.if_icmp .ne 7, 3) := by decide +kernel
theorem dX4_isHit_76 : decode cX4_isHit 76 = .ok (.iconst 1, 1) := by decide +kernel
theorem dX4_isHit_77 : decode cX4_isHit 77 = .ok (.goto 4, 3) := by decide +kernel
theorem dX4_isHit_80 : decode cX4_isHit 80 = .ok (.iconst 0, 1) := by decide +kernel
theorem dX4_isHit_81 : decode cX4_isHit 81 = .ok (.ireturn, 1) := by decide +kernel
theorem dX5_init_0 : decode cX5_init 0 = .ok (.aload_n 0, 1) := by decide +kernel
theorem dX5_init_1 : decode cX5_init 1 = .ok (.invokespecial 3, 3) := by decide +kernel
theorem dX5_init_4 : decode cX5_init 4 = .ok (.aload_n 0, 1) := by decide +kernel
theorem dX5_init_5 : decode cX5_init 5 = .ok (.aload_n 1, 1) := by decide +kernel
theorem dX5_init_6 : decode cX5_init 6 = .ok (.putfield 9, 3) := by decide +kernel
theorem dX5_init_9 : decode cX5_init 9 = .ok (.aload_n 0, 1) := by decide +kernel
theorem dX5_init_10 : decode cX5_init 10 = .ok (.aload_n 2, 1) := by decide +kernel
theorem dX5_init_11 : decode cX5_init 11 = .ok (.putfield 15, 3) := by decide +kernel
theorem dX5_init_14 : decode cX5_init 14 = .ok (.return_, 1) := by decide +kernel
theorem dX5_takeStart_0 : decode cX5_takeStart 0 = .ok (.aload_n 0, 1) := by decide +kernel
theorem dX5_takeStart_1 : decode cX5_takeStart 1 = .ok (.getfield 9, 3) := by decide +kernel
theorem dX5_takeStart_4 : decode cX5_takeStart 4 = .ok (.bipush 83, 2) := by decide +kernel
theorem dX5_takeStart_6 : decode cX5_takeStart 6 = .ok (.iload_n 1, 1) := by decide +kernel
theorem dX5_takeStart_7 : decode cX5_takeStart 7 = .ok (.iload_n 1, 1) := by decide +kernel
theorem dX5_takeStart_8 : decode cX5_takeStart 8 = .ok (.iconst 0, 1) := by decide +kernel
theorem dX5_takeStart_9 : decode cX5_takeStart 9 = .ok (.bipush 45, 2) := by decide +kernel
theorem dX5_takeStart_11 : decode cX5_takeStart 11 = .ok (.invokevirtual 19, 3) := by decide +kernel
theorem dX5_takeStart_14 : decode cX5_takeStart 14 = .ok (.aload_n 0, 1) := by decide +kernel
theorem dX5_takeStart_15 : decode cX5_takeStart 15 = .ok (.iconst 1, 1) := by decide +kernel
theorem dX5_takeStart_16 : decode cX5_takeStart 16 = .ok (.putfield 25, 3) := by decide +kernel
theorem dX5_takeStart_19 : decode cX5_takeStart 19 = .ok (.aload_n 0, 1) := by decide +kernel
theorem dX5_takeStart_20 : decode cX5_takeStart 20 = .ok (.iconst 0, 1) := by decide +kernel
theorem dX5_takeStart_21 : decode cX5_takeStart 21 = .ok (.putfield 29, 3) := by decide +kernel
theorem dX5_takeStart_24 : decode cX5_takeStart 24 = .ok (.aload_n 0, 1) := by decide +kernel
theorem dX5_takeStart_25 : decode cX5_takeStart 25 = .ok (.iconst 0, 1) := by decide +kernel
theorem dX5_takeStart_26 : decode cX5_takeStart 26 = .ok (.putfield 33, 3) := by decide +kernel
theorem dX5_takeStart_29 : decode cX5_takeStart 29 = .ok (.return_, 1) := by decide +kernel
theorem dX5_takeEnd_0 : decode cX5_takeEnd 0 = .ok (.aload_n 0, 1) := by decide +kernel
theorem dX5_takeEnd_1 : decode cX5_takeEnd 1 = .ok (.getfield 9, 3) := by decide +kernel
theorem dX5_takeEnd_4 : decode cX5_takeEnd 4 = .ok (.bipush 69, 2) := by decide +kernel
theorem dX5_takeEnd_6 : decode cX5_takeEnd 6 = .ok (.iload_n 1, 1) := by decide +kernel
theorem dX5_takeEnd_7 : decode cX5_takeEnd 7 = .ok (.iload_n 1, 1) := by decide +kernel
theorem dX5_takeEnd_8 : decode cX5_takeEnd 8 = .ok (.iconst 0, 1) := by decide +kernel
theorem dX5_takeEnd_9 : decode cX5_takeEnd 9 = .ok (.bipush 45, 2) := by decide +kernel
theorem dX5_takeEnd_11 : decode cX5_takeEnd 11 = .ok (.invokevirtual 19, 3) := by decide +kernel
theorem dX5_takeEnd_14 : decode cX5_takeEnd 14 = .ok (.aload_n 0, 1) := by decide +kernel
theorem dX5_takeEnd_15 : decode cX5_takeEnd 15 = .ok (.iconst 0, 1) := by decide +kernel
theorem dX5_takeEnd_16 : decode cX5_takeEnd 16 = .ok (.putfield 25, 3) := by decide +kernel
theorem dX5_takeEnd_19 : decode cX5_takeEnd 19 = .ok (.return_, 1) := by decide +kernel
theorem dX5_takeBit_0 : decode cX5_takeBit 0 = .ok (.aload_n 0, 1) := by decide +kernel
theorem dX5_takeBit_1 : decode cX5_takeBit 1 = .ok (.getfield 25, 3) := by decide +kernel
theorem dX5_takeBit_4 : decode cX5_takeBit 4 = .ok (.ifCond .ne 4, 3) := by decide +kernel
theorem dX5_takeBit_7 : decode cX5_takeBit 7 = .ok (.return_, 1) := by decide +kernel
theorem dX5_takeBit_8 : decode cX5_takeBit 8 = .ok (.aload_n 0, 1) := by decide +kernel
theorem dX5_takeBit_9 : decode cX5_takeBit 9 = .ok (.getfield 29, 3) := by decide +kernel
theorem dX5_takeBit_12 : decode cX5_takeBit 12 = .ok (.ifCond .ne 13, 3) := by decide +kernel
theorem dX5_takeBit_15 : decode cX5_takeBit 15 = .ok (.aload_n 0, 1) := by decide +kernel
theorem dX5_takeBit_16 : decode cX5_takeBit 16 = .ok (.iload_n 2, 1) := by decide +kernel
theorem dX5_takeBit_17 : decode cX5_takeBit 17 = .ok (.putfield 36, 3) := by decide +kernel
theorem dX5_takeBit_20 : decode cX5_takeBit 20 = .ok (.aload_n 0, 1) := by decide +kernel
theorem dX5_takeBit_21 : decode cX5_takeBit 21 = .ok (.iconst 0, 1) := by decide +kernel
theorem dX5_takeBit_22 : decode cX5_takeBit 22 = .ok (.putfield 39, 3) := by decide +kernel
theorem dX5_takeBit_25 : decode cX5_takeBit 25 = .ok (.aload_n 0, 1) := by decide +kernel
theorem dX5_takeBit_26 : decode cX5_takeBit 26 = .ok (.aload_n 0, 1) := by decide +kernel
theorem dX5_takeBit_27 : decode cX5_takeBit 27 = .ok (.getfield 39, 3) := by decide +kernel
theorem dX5_takeBit_30 : decode cX5_takeBit 30 = .ok (.iconst 1, 1) := by decide +kernel
theorem dX5_takeBit_31 : decode cX5_takeBit 31 = .ok (.ishl, 1) := by decide +kernel
theorem dX5_takeBit_32 : decode cX5_takeBit 32 = .ok (.iload_n 1, 1) := by decide +kernel
theorem dX5_takeBit_33 : decode cX5_takeBit 33 = .ok (.ifCond .eq 7, 3) := by decide +kernel
theorem dX5_takeBit_36 : decode cX5_takeBit 36 = .ok (.iconst 1, 1) := by decide +kernel
theorem dX5_takeBit_37 : decode cX5_takeBit 37 = .ok (.goto 4, 3) := by decide +kernel
theorem dX5_takeBit_40 : decode cX5_takeBit 40 = .ok (.iconst 0, 1) := by decide +kernel
theorem dX5_takeBit_41 : decode cX5_takeBit 41 = .ok (.ior, 1) := by decide +kernel
theorem dX5_takeBit_42 : decode cX5_takeBit 42 = .ok (.putfield 39, 3) := by decide +kernel
theorem dX5_takeBit_45 : decode cX5_takeBit 45 = .ok (.aload_n 0, 1) := by decide +kernel
theorem dX5_takeBit_46 : decode cX5_takeBit 46 = .ok (.dup, 1) := by decide +kernel
theorem dX5_takeBit_47 : decode cX5_takeBit 47 = .ok (.getfield 29, 3) := by decide +kernel
theorem dX5_takeBit_50 : decode cX5_takeBit 50 = .ok (.iconst 1, 1) := by decide +kernel
theorem dX5_takeBit_51 : decode cX5_takeBit 51 = .ok (.iadd, 1) := by decide +kernel
theorem dX5_takeBit_52 : decode cX5_takeBit 52 = .ok (.putfield 29, 3) := by decide +kernel
theorem dX5_takeBit_55 : decode cX5_takeBit 55 = .ok (.aload_n 0, 1) := by decide +kernel
theorem dX5_takeBit_56 : decode cX5_takeBit 56 = .ok (.getfield 29, 3) := by decide +kernel
theorem dX5_takeBit_59 : decode cX5_takeBit 59 = .ok (.bipush 9, 2) := by decide +kernel
theorem dX5_takeBit_61 : decode cX5_takeBit 61 = .ok (.if_icmp .ne 33, 3) := by decide +kernel
theorem dX5_takeBit_64 : decode cX5_takeBit 64 = .ok (.aload_n 0, 1) := by decide +kernel
theorem dX5_takeBit_65 : decode cX5_takeBit 65 = .ok (.aload_n 0, 1) := by decide +kernel
theorem dX5_takeBit_66 : decode cX5_takeBit 66 = .ok (.getfield 39, 3) := by decide +kernel
theorem dX5_takeBit_69 : decode cX5_takeBit 69 = .ok (.iconst 1, 1) := by decide +kernel
theorem dX5_takeBit_70 : decode cX5_takeBit 70 = .ok (.ishr, 1) := by decide +kernel
theorem dX5_takeBit_71 : decode cX5_takeBit 71 = .ok (.aload_n 0, 1) := by decide +kernel
theorem dX5_takeBit_72 : decode cX5_takeBit 72 = .ok (.getfield 39, 3) := by decide +kernel
theorem dX5_takeBit_75 : decode cX5_takeBit 75 = .ok (.iconst 1, 1) := by decide +kernel
theorem dX5_takeBit_76 : decode cX5_takeBit 76 = .ok (.iand, 1) := by decide +kernel
theorem dX5_takeBit_77 : decode cX5_takeBit 77 = .ok (.ifCond .ne 7, 3) := by decide +kernel
theorem dX5_takeBit_80 : decode cX5_takeBit 80 = .ok (.iconst 1, 1) := by decide +kernel
theorem dX5_takeBit_81 : decode cX5_takeBit 81 = .ok (.goto 4, 3) := by decide +kernel
theorem dX5_takeBit_84 : decode cX5_takeBit 84 = .ok (.iconst 0, 1) := by decide +kernel
theorem dX5_takeBit_85 : decode cX5_takeBit 85 = .ok (.iload_n 2, 1) := by decide +kernel
theorem dX5_takeBit_86 : decode cX5_takeBit 86 = .ok (.invokevirtual 42, 3) := by decide +kernel
theorem dX5_takeBit_89 : decode cX5_takeBit 89 = .ok (.aload_n 0, 1) := by decide +kernel
theorem dX5_takeBit_90 : decode cX5_takeBit 90 = .ok (.iconst 0, 1) := by decide +kernel
theorem dX5_takeBit_91 : decode cX5_takeBit 91 = .ok (.putfield 29, 3) := by decide +kernel
theorem dX5_takeBit_94 : decode cX5_takeBit 94 = .ok (.return_, 1) := by decide +kernel
theorem dX5_takeByte_0 : decode cX5_takeByte 0 = .ok (.aload_n 0, 1) := by decide +kernel
theorem dX5_takeByte_1 : decode cX5_takeByte 1 = .ok (.getfield 9, 3) := by decide +kernel
theorem dX5_takeByte_4 : decode cX5_takeByte 4 = .ok (.aload_n 0, 1) := by decide +kernel
theorem dX5_takeByte_5 : decode cX5_takeByte 5 = .ok (.getfield 33, 3) := by decide +kernel
theorem dX5_takeByte_8 : decode cX5_takeByte 8 = .ok (.ifCond .ne 8, 3) := by decide +kernel
theorem dX5_takeByte_11 : decode cX5_takeByte 11 = .ok (.bipush 65, 2) := by decide +kernel
theorem dX5_takeByte_13 : decode cX5_takeByte 13 = .ok (.goto 5, 3) := by decide +kernel
theorem dX5_takeByte_16 : decode cX5_takeByte 16 = .ok (.bipush 68, 2) := by decide +kernel
theorem dX5_takeByte_18 : decode cX5_takeByte 18 = .ok (.aload_n 0, 1) := by decide +kernel
theorem dX5_takeByte_19 : decode cX5_takeByte 19 = .ok (.getfield 36, 3) := by decide +kernel
theorem dX5_takeByte_22 : decode cX5_takeByte 22 = .ok (.iload_n 3, 1) := by decide +kernel
theorem dX5_takeByte_23 : decode cX5_takeByte 23 = .ok (.iload_n 1, 1) := by decide +kernel
theorem dX5_takeByte_24 : decode cX5_takeByte 24 = .ok (.iload_n 2, 1) := by decide +kernel
theorem dX5_takeByte_25 : decode cX5_takeByte 25 = .ok (.ifCond .eq 8, 3) := by decide +kernel
theorem dX5_takeByte_28 : decode cX5_takeByte 28 = .ok (.bipush 45, 2) := by decide +kernel
theorem dX5_takeByte_30 : decode cX5_takeByte 30 = .ok (.goto 5, 3) := by decide +kernel
theorem dX5_takeByte_33 : decode cX5_takeByte 33 = .ok (.bipush 110, 2) := by decide +kernel
theorem dX5_takeByte_35 : decode cX5_takeByte 35 = .ok (.invokevirtual 19, 3) := by decide +kernel
theorem dX5_takeByte_38 : decode cX5_takeByte 38 = .ok (.aload_n 0, 1) := by decide +kernel
theorem dX5_takeByte_39 : decode cX5_takeByte 39 = .ok (.getfield 33, 3) := by decide +kernel
theorem dX5_takeByte_42 : decode cX5_takeByte 42 = .ok (.ifCond .ne 32, 3) := by decide +kernel
theorem dX5_takeByte_45 : decode cX5_takeByte 45 = .ok (.aload_n 0, 1) := by decide +kernel
theorem dX5_takeByte_46 : decode cX5_takeByte 46 = .ok (.iload_n 2, 1) := by decide +kernel
theorem dX5_takeByte_47 : decode cX5_takeByte 47 = .ok (.ifCond .eq 13, 3) := by decide +kernel
theorem dX5_takeByte_50 : decode cX5_takeByte 50 = .ok (.iload_n 1, 1) := by decide +kernel
theorem dX5_takeByte_51 : decode cX5_takeByte 51 = .ok (.iconst 1, 1) := by decide +kernel
theorem dX5_takeByte_52 : decode cX5_takeByte 52 = .ok (.iand, 1) := by decide +kernel
theorem dX5_takeByte_53 : decode cX5_takeByte 53 = .ok (.ifCond .ne 7, 3) := by decide +kernel
theorem dX5_takeByte_56 : decode cX5_takeByte 56 = .ok (.iconst 1, 1) := by decide +kernel
theorem dX5_takeByte_57 : decode cX5_takeByte 57 = .ok (.goto 4, 3) := by decide +kernel
theorem dX5_takeByte_60 : decode cX5_takeByte 60 = .ok (.iconst 0, 1) := by decide +kernel
theorem dX5_takeByte_61 : decode cX5_takeByte 61 = .ok (.putfield 46, 3) := by decide +kernel
theorem dX5_takeByte_64 : decode cX5_takeByte 64 = .ok (.aload_n 0, 1) := by decide +kernel
theorem dX5_takeByte_65 : decode cX5_takeByte 65 = .ok (.iload_n 1, 1) := by decide +kernel
theorem dX5_takeByte_66 : decode cX5_takeByte 66 = .ok (.iconst 1, 1) := by decide +kernel
theorem dX5_takeByte_67 : decode cX5_takeByte 67 = .ok (.ishr, 1) := by decide +kernel
theorem dX5_takeByte_68 : decode cX5_takeByte 68 = .ok (.putfield 49, 3) := by decide +kernel
theorem dX5_takeByte_71 : decode cX5_takeByte 71 = .ok (.goto 77, 3) := by decide +kernel
theorem dX5_takeByte_74 : decode cX5_takeByte 74 = .ok (.aload_n 0, 1) := by decide +kernel
theorem dX5_takeByte_75 : decode cX5_takeByte 75 = .ok (.getfield 33, 3) := by decide +kernel
theorem dX5_takeByte_78 : decode cX5_takeByte 78 = .ok (.iconst 1, 1) := by decide +kernel
theorem dX5_takeByte_79 : decode cX5_takeByte 79 = .ok (.if_icmp .ne 34, 3) := by decide +kernel
theorem dX5_takeByte_82 : decode cX5_takeByte 82 = .ok (.aload_n 0, 1) := by decide +kernel
theorem dX5_takeByte_83 : decode cX5_takeByte 83 = .ok (.aload_n 0, 1) := by decide +kernel
theorem dX5_takeByte_84 : decode cX5_takeByte 84 = .ok (.getfield 46, 3) := by decide +kernel
theorem dX5_takeByte_87 : decode cX5_takeByte 87 = .ok (.ifCond .eq 11, 3) := by decide +kernel
theorem dX5_takeByte_90 : decode cX5_takeByte 90 = .ok (.iload_n 2, 1) := by decide +kernel
theorem dX5_takeByte_91 : decode cX5_takeByte 91 = .ok (.ifCond .eq 7, 3) := by decide +kernel
theorem dX5_takeByte_94 : decode cX5_takeByte 94 = .ok (.iconst 1, 1) := by decide +kernel
theorem dX5_takeByte_95 : decode cX5_takeByte 95 = .ok (.goto 4, 3) := by decide +kernel
theorem dX5_takeByte_98 : decode cX5_takeByte 98 = .ok (.iconst 0, 1) := by decide +kernel
theorem dX5_takeByte_99 : decode cX5_takeByte 99 = .ok (.putfield 46, 3) := by decide +kernel
theorem dX5_takeByte_102 : decode cX5_takeByte 102 = .ok (.aload_n 0, 1) := by decide +kernel
theorem dX5_takeByte_103 : decode cX5_takeByte 103 = .ok (.iload_n 1, 1) := by decide +kernel
theorem dX5_takeByte_104 : decode cX5_takeByte 104 = .ok (.bipush 15, 2) := by decide +kernel
theorem dX5_takeByte_106 : decode cX5_takeByte 106 = .ok (.iand, 1) := by decide +kernel
theorem dX5_takeByte_107 : decode cX5_takeByte 107 = .ok (.putfield 52, 3) := by decide +kernel
theorem dX5_takeByte_110 : decode cX5_takeByte 110 = .ok (.goto 38, 3) := by decide +kernel
theorem dX5_takeByte_113 : decode cX5_takeByte 113 = .ok (.aload_n 0, 1) := by decide +kernel
theorem dX5_takeByte_114 : decode cX5_takeByte 114 = .ok (.getfield 33, 3) := by decide +kernel
theorem dX5_takeByte_117 : decode cX5_takeByte 117 = .ok (.iconst 2, 1) := by decide +kernel
theorem dX5_takeByte_118 : decode cX5_takeByte 118 = .ok (.if_icmp .ne 30, 3) := by decide +kernel
theorem dX5_takeByte_121 : decode cX5_takeByte 121 = .ok (.aload_n 0, 1) := by decide +kernel
theorem dX5_takeByte_122 : decode cX5_takeByte 122 = .ok (.getfield 46, 3) := by decide +kernel
theorem dX5_takeByte_125 : decode cX5_takeByte 125 = .ok (.ifCond .eq 23, 3) := by decide +kernel
theorem dX5_takeByte_128 : decode cX5_takeByte 128 = .ok (.iload_n 2, 1) := by decide +kernel
theorem dX5_takeByte_129 : decode cX5_takeByte 129 = .ok (.ifCond .eq 19, 3) := by decide +kernel
theorem dX5_takeByte_132 : decode cX5_takeByte 132 = .ok (.aload_n 0, 1) := by decide +kernel
theorem dX5_takeByte_133 : decode cX5_takeByte 133 = .ok (.getfield 15, 3) := by decide +kernel
theorem dX5_takeByte_136 : decode cX5_takeByte 136 = .ok (.aload_n 0, 1) := by decide +kernel
theorem dX5_takeByte_137 : decode cX5_takeByte 137 = .ok (.getfield 49, 3) := by decide +kernel
theorem dX5_takeByte_140 : decode cX5_takeByte 140 = .ok (.aload_n 0, 1) := by decide +kernel
theorem dX5_takeByte_141 : decode cX5_takeByte 141 = .ok (.getfield 52, 3) := by decide +kernel
theorem dX5_takeByte_144 : decode cX5_takeByte 144 = .ok (.iload_n 1, 1) := by decide +kernel
theorem dX5_takeByte_145 : decode cX5_takeByte 145 = .ok (.invokevirtual 55, 3) := by decide +kernel
theorem dX5_takeByte_148 : decode cX5_takeByte 148 = .ok (.aload_n 0, 1) := by decide +kernel
theorem dX5_takeByte_149 : decode cX5_takeByte 149 = .ok (.dup, 1) := by decide +kernel
theorem dX5_takeByte_150 : decode cX5_takeByte 150 = .ok (.getfield 33, 3) := by decide +kernel
theorem dX5_takeByte_153 : decode cX5_takeByte 153 = .ok (.iconst 1, 1) := by decide +kernel
theorem dX5_takeByte_154 : decode cX5_takeByte 154 = .ok (.iadd, 1) := by decide +kernel
theorem dX5_takeByte_155 : decode cX5_takeByte 155 = .ok (.putfield 33, 3) := by decide +kernel
theorem dX5_takeByte_158 : decode cX5_takeByte 158 = .ok (.return_, 1) := by decide +kernel
theorem dX6_init_0 : decode cX6_init 0 = .ok (.aload_n 0, 1) := by decide +kernel
theorem dX6_init_1 : decode cX6_init 1 = .ok (.invokespecial 3, 3) := by decide +kernel
theorem dX6_init_4 : decode cX6_init 4 = .ok (.aload_n 0, 1) := by decide +kernel
theorem dX6_init_5 : decode cX6_init 5 = .ok (.sipush 364, 3) := by decide +kernel
theorem dX6_init_8 : decode cX6_init 8 = .ok (.newarray .int, 2) := by decide +kernel
theorem dX6_init_10 : decode cX6_init 10 = .ok (.putfield 9, 3) := by decide +kernel
theorem dX6_init_13 : decode cX6_init 13 = .ok (.aload_n 0, 1) := by decide +kernel
theorem dX6_init_14 : decode cX6_init 14 = .ok (.bipush 64, 2) := by decide +kernel
theorem dX6_init_16 : decode cX6_init 16 = .ok (.newarray .int, 2) := by decide +kernel
theorem dX6_init_18 : decode cX6_init 18 = .ok (.putfield 15, 3) := by decide +kernel
theorem dX6_init_21 : decode cX6_init 21 = .ok (.return_, 1) := by decide +kernel
theorem dX6_countAhead_0 : decode cX6_countAhead 0 = .ok (.iconst 0, 1) := by decide +kernel
theorem dX6_countAhead_1 : decode cX6_countAhead 1 = .ok (.istore_n 2, 1) := by decide +kernel
theorem dX6_countAhead_2 : decode cX6_countAhead 2 = .ok (.iconst 0, 1) := by decide +kernel
theorem dX6_countAhead_3 : decode cX6_countAhead 3 = .ok (.istore_n 3, 1) := by decide +kernel
theorem dX6_countAhead_4 : decode cX6_countAhead 4 = .ok (.iload_n 3, 1) := by decide +kernel
theorem dX6_countAhead_5 : decode cX6_countAhead 5 = .ok (.aload_n 0, 1) := by decide +kernel
theorem dX6_countAhead_6 : decode cX6_countAhead 6 = .ok (.getfield 18, 3) := by decide +kernel
theorem dX6_countAhead_9 : decode cX6_countAhead 9 = .ok (.if_icmp .ge 31, 3) := by decide +kernel
theorem dX6_countAhead_12 : decode cX6_countAhead 12 = .ok (.iload_n 3, 1) := by decide +kernel
theorem dX6_countAhead_13 : decode cX6_countAhead 13 = .ok (.aload_n 0, 1) := by decide +kernel
theorem dX6_countAhead_14 : decode cX6_countAhead 14 = .ok (.getfield 9, 3) := by decide +kernel
theorem dX6_countAhead_17 : decode cX6_countAhead 17 = .ok (.arraylength, 1) := by decide +kernel
theorem dX6_countAhead_18 : decode cX6_countAhead 18 = .ok (.if_icmp .ge 22, 3) := by decide +kernel
theorem dX6_countAhead_21 : decode cX6_countAhead 21 = .ok (.aload_n 0, 1) := by decide +kernel
theorem dX6_countAhead_22 : decode cX6_countAhead 22 = .ok (.getfield 9, 3) := by decide +kernel
theorem dX6_countAhead_25 : decode cX6_countAhead 25 = .ok (.iload_n 3, 1) := by decide +kernel
theorem dX6_countAhead_26 : decode cX6_countAhead 26 = .ok (.iaload, 1) := by decide +kernel
theorem dX6_countAhead_27 : decode cX6_countAhead 27 = .ok (.iload_n 1, 1) := by decide +kernel
theorem dX6_countAhead_28 : decode cX6_countAhead 28 = .ok (.if_icmp .ge 6, 3) := by decide +kernel
theorem dX6_countAhead_31 : decode cX6_countAhead 31 = .ok (.iinc 2 1, 3) := by decide +kernel
theorem dX6_countAhead_34 : decode cX6_countAhead 34 = .ok (.iinc 3 1, 3) := by decide +kernel
theorem dX6_countAhead_37 : decode cX6_countAhead 37 = .ok (.goto (-33), 3) := by decide +kernel
theorem dX6_countAhead_40 : decode cX6_countAhead 40 = .ok (.iload_n 2, 1) := by decide +kernel
theorem dX6_countAhead_41 : decode cX6_countAhead 41 = .ok (.ireturn, 1) := by decide +kernel
theorem dX6_hasFlip_0 : decode cX6_hasFlip 0 = .ok (.aload_n 0, 1) := by decide +kernel
theorem dX6_hasFlip_1 : decode cX6_hasFlip 1 = .ok (.iload_n 1, 1) := by decide +kernel
theorem dX6_hasFlip_2 : decode cX6_hasFlip 2 = .ok (.invokevirtual 22, 3) := by decide +kernel
theorem dX6_hasFlip_5 : decode cX6_hasFlip 5 = .ok (.istore_n 2, 1) := by decide +kernel
theorem dX6_hasFlip_6 : decode cX6_hasFlip 6 = .ok (.iload_n 2, 1) := by decide +kernel
theorem dX6_hasFlip_7 : decode cX6_hasFlip 7 = .ok (.aload_n 0, 1) := by decide +kernel
theorem dX6_hasFlip_8 : decode cX6_hasFlip 8 = .ok (.getfield 18, 3) := by decide +kernel
theorem dX6_hasFlip_11 : decode cX6_hasFlip 11 = .ok (.if_icmp .ge 26, 3) := by decide +kernel
theorem dX6_hasFlip_14 : decode cX6_hasFlip 14 = .ok (.iload_n 2, 1) := by decide +kernel
theorem dX6_hasFlip_15 : decode cX6_hasFlip 15 = .ok (.aload_n 0, 1) := by decide +kernel
theorem dX6_hasFlip_16 : decode cX6_hasFlip 16 = .ok (.getfield 9, 3) := by decide +kernel
theorem dX6_hasFlip_19 : decode cX6_hasFlip 19 = .ok (.arraylength, 1) := by decide +kernel
theorem dX6_hasFlip_20 : decode cX6_hasFlip 20 = .ok (.if_icmp .ge 17, 3) := by decide +kernel
theorem dX6_hasFlip_23 : decode cX6_hasFlip 23 = .ok (.aload_n 0, 1) := by decide +kernel
theorem dX6_hasFlip_24 : decode cX6_hasFlip 24 = .ok (.getfield 9, 3) := by decide +kernel
theorem dX6_hasFlip_27 : decode cX6_hasFlip 27 = .ok (.iload_n 2, 1) := by decide +kernel
theorem dX6_hasFlip_28 : decode cX6_hasFlip 28 = .ok (.iaload, 1) := by decide +kernel
theorem dX6_hasFlip_29 : decode cX6_hasFlip 29 = .ok (.iload_n 1, 1) := by decide +kernel
theorem dX6_hasFlip_30 : decode cX6_hasFlip 30 = .ok (.if_icmp .ne 7, 3) := by decide +kernel
theorem dX6_hasFlip_33 : decode cX6_hasFlip 33 = .ok (.iconst 1, 1) := by decide +kernel
theorem dX6_hasFlip_34 : decode cX6_hasFlip 34 = .ok (.goto 4, 3) := by decide +kernel
theorem dX6_hasFlip_37 : decode cX6_hasFlip 37 = .ok (.iconst 0, 1) := by decide +kernel
theorem dX6_hasFlip_38 : decode cX6_hasFlip 38 = .ok (.ireturn, 1) := by decide +kernel
theorem dX6_isHighAt_0 : decode cX6_isHighAt 0 = .ok (.aload_n 0, 1) := by decide +kernel
theorem dX6_isHighAt_1 : decode cX6_isHighAt 1 = .ok (.getfield 26, 3) := by decide +kernel
theorem dX6_isHighAt_4 : decode cX6_isHighAt 4 = .ok (.aload_n 0, 1) := by decide +kernel
theorem dX6_isHighAt_5 : decode cX6_isHighAt 5 = .ok (.iload_n 1, 1) := by decide +kernel
theorem dX6_isHighAt_6 : decode cX6_isHighAt 6 = .ok (.iconst 1, 1) := by decide +kernel
theorem dX6_isHighAt_7 : decode cX6_isHighAt 7 = .ok (.iadd, 1) := by decide +kernel
theorem dX6_isHighAt_8 : decode cX6_isHighAt 8 = .ok (.invokevirtual 22, 3) := by decide +kernel
theorem dX6_isHighAt_11 : decode cX6_isHighAt 11 = .ok (.iconst 2, 1) := by decide +kernel
theorem dX6_isHighAt_12 : decode cX6_isHighAt 12 = .ok (.irem, 1) := by decide +kernel
theorem dX6_isHighAt_13 : decode cX6_isHighAt 13 = .ok (.iconst 1, 1) := by decide +kernel
theorem dX6_isHighAt_14 : decode cX6_isHighAt 14 = .ok (.if_icmp .ne 7, 3) := by decide +kernel
theorem dX6_isHighAt_17 : decode cX6_isHighAt 17 = .ok (.iconst 1, 1) := by decide +kernel
theorem dX6_isHighAt_18 : decode cX6_isHighAt 18 = .ok (.goto 4, 3) := by decide +kernel
theorem dX6_isHighAt_21 : decode cX6_isHighAt 21 = .ok (.iconst 0, 1) := by decide +kernel
theorem dX6_isHighAt_22 : decode cX6_isHighAt 22 = .ok (.if_icmp .eq 7, 3) := by decide +kernel
theorem dX6_isHighAt_25 : decode cX6_isHighAt 25 = .ok (.iconst 1, 1) := by decide +kernel
theorem dX6_isHighAt_26 : decode cX6_isHighAt 26 = .ok (.goto 4, 3) := by decide +kernel
theorem dX6_isHighAt_29 : decode cX6_isHighAt 29 = .ok (.iconst 0, 1) := by decide +kernel
theorem dX6_isHighAt_30 : decode cX6_isHighAt 30 = .ok (.ireturn, 1) := by decide +kernel
theorem dX6_beginSending_0 : decode cX6_beginSending 0 = .ok (.aload_n 0, 1) := by decide +kernel
theorem dX6_beginSending_1 : decode cX6_beginSending 1 = .ok (.iload_n 1, 1) := by decide +kernel
theorem dX6_beginSending_2 : decode cX6_beginSending 2 = .ok (.putfield 30, 3) := by decide +kernel
theorem dX6_beginSending_5 : decode cX6_beginSending 5 = .ok (.aload_n 0, 1) := by decide +kernel
theorem dX6_beginSending_6 : decode cX6_beginSending 6 = .ok (.iconst 0, 1) := by decide +kernel
theorem dX6_beginSending_7 : decode cX6_beginSending 7 = .ok (.putfield 33, 3) := by decide +kernel
theorem dX6_beginSending_10 : decode cX6_beginSending 10 = .ok (.return_, 1) := by decide +kernel
theorem dX6_send_0 : decode cX6_send 0 = .ok (.iload_n 1, 1) := by decide +kernel
theorem dX6_send_1 : decode cX6_send 1 = .ok (.aload_n 0, 1) := by decide +kernel
theorem dX6_send_2 : decode cX6_send 2 = .ok (.getfield 30, 3) := by decide +kernel
theorem dX6_send_5 : decode cX6_send 5 = .ok (.if_icmp .eq 13, 3) := by decide +kernel
theorem dX6_send_8 : decode cX6_send 8 = .ok (.aload_n 0, 1) := by decide +kernel
theorem dX6_send_9 : decode cX6_send 9 = .ok (.iload_n 1, 1) := by decide +kernel
theorem dX6_send_10 : decode cX6_send 10 = .ok (.putfield 30, 3) := by decide +kernel
theorem dX6_send_13 : decode cX6_send 13 = .ok (.aload_n 0, 1) := by decide +kernel
theorem dX6_send_14 : decode cX6_send 14 = .ok (.iload_n 2, 1) := by decide +kernel
theorem dX6_send_15 : decode cX6_send 15 = .ok (.invokevirtual 36, 3) := by decide +kernel
theorem dX6_send_18 : decode cX6_send 18 = .ok (.return_, 1) := by decide +kernel
theorem dX6_addSent_0 : decode cX6_addSent 0 = .ok (.aload_n 0, 1) := by decide +kernel
theorem dX6_addSent_1 : decode cX6_addSent 1 = .ok (.getfield 33, 3) := by decide +kernel
theorem dX6_addSent_4 : decode cX6_addSent 4 = .ok (.iconst 1, 1) := by decide +kernel
theorem dX6_addSent_5 : decode cX6_addSent 5 = .ok (.isub, 1) := by decide +kernel
theorem dX6_addSent_6 : decode cX6_addSent 6 = .ok (.istore_n 2, 1) := by decide +kernel
theorem dX6_addSent_7 : decode cX6_addSent 7 = .ok (.iload_n 2, 1) := by decide +kernel
theorem dX6_addSent_8 : decode cX6_addSent 8 = .ok (.ifCond .lt 30, 3) := by decide +kernel
theorem dX6_addSent_11 : decode cX6_addSent 11 = .ok (.iload_n 2, 1) := by decide +kernel
theorem dX6_addSent_12 : decode cX6_addSent 12 = .ok (.aload_n 0, 1) := by decide +kernel
theorem dX6_addSent_13 : decode cX6_addSent 13 = .ok (.getfield 15, 3) := by decide +kernel
theorem dX6_addSent_16 : decode cX6_addSent 16 = .ok (.arraylength, 1) := by decide +kernel
theorem dX6_addSent_17 : decode cX6_addSent 17 = .ok (.if_icmp .ge 21, 3) := by decide +kernel
theorem dX6_addSent_20 : decode cX6_addSent 20 = .ok (.aload_n 0, 1) := by decide +kernel
theorem dX6_addSent_21 : decode cX6_addSent 21 = .ok (.getfield 15, 3) := by decide +kernel
theorem dX6_addSent_24 : decode cX6_addSent 24 = .ok (.iload_n 2, 1) := by decide +kernel
theorem dX6_addSent_25 : decode cX6_addSent 25 = .ok (.iaload, 1) := by decide +kernel
theorem dX6_addSent_26 : decode cX6_addSent 26 = .ok (.iload_n 1, 1) := by decide +kernel
theorem dX6_addSent_27 : decode cX6_addSent 27 = .ok (.if_icmp .ne 11, 3) := by decide +kernel
theorem dX6_addSent_30 : decode cX6_addSent 30 = .ok (.aload_n 0, 1) := by decide +kernel
theorem dX6_addSent_31 : decode cX6_addSent 31 = .ok (.iload_n 2, 1) := by decide +kernel
theorem dX6_addSent_32 : decode cX6_addSent 32 = .ok (.putfield 33, 3) := by decide +kernel
theorem dX6_addSent_35 : decode cX6_addSent 35 = .ok (.goto 42, 3) := by decide +kernel
theorem dX6_addSent_38 : decode cX6_addSent 38 = .ok (.aload_n 0, 1) := by decide +kernel
theorem dX6_addSent_39 : decode cX6_addSent 39 = .ok (.getfield 33, 3) := by decide +kernel
theorem dX6_addSent_42 : decode cX6_addSent 42 = .ok (.ifCond .lt 35, 3) := by decide +kernel
theorem dX6_addSent_45 : decode cX6_addSent 45 = .ok (.aload_n 0, 1) := by decide +kernel
theorem dX6_addSent_46 : decode cX6_addSent 46 = .ok (.getfield 33, 3) := by decide +kernel
theorem dX6_addSent_49 : decode cX6_addSent 49 = .ok (.aload_n 0, 1) := by decide +kernel
theorem dX6_addSent_50 : decode cX6_addSent 50 = .ok (.getfield 15, 3) := by decide +kernel
theorem dX6_addSent_53 : decode cX6_addSent 53 = .ok (.arraylength, 1) := by decide +kernel
theorem dX6_addSent_54 : decode cX6_addSent 54 = .ok (.if_icmp .ge 23, 3) := by decide +kernel
theorem dX6_addSent_57 : decode cX6_addSent 57 = .ok (.aload_n 0, 1) := by decide +kernel
theorem dX6_addSent_58 : decode cX6_addSent 58 = .ok (.getfield 15, 3) := by decide +kernel
theorem dX6_addSent_61 : decode cX6_addSent 61 = .ok (.aload_n 0, 1) := by decide +kernel
theorem dX6_addSent_62 : decode cX6_addSent 62 = .ok (.getfield 33, 3) := by decide +kernel
theorem dX6_addSent_65 : decode cX6_addSent 65 = .ok (.iload_n 1, 1) := by decide +kernel
theorem dX6_addSent_66 : decode cX6_addSent 66 = .ok (.iastore, 1) := by decide +kernel
theorem dX6_addSent_67 : decode cX6_addSent 67 = .ok (.aload_n 0, 1) := by decide +kernel
theorem dX6_addSent_68 : decode cX6_addSent 68 = .ok (.dup, 1) := by decide +kernel
theorem dX6_addSent_69 : decode cX6_addSent 69 = .ok (.getfield 33, 3) := by decide +kernel
theorem dX6_addSent_72 : decode cX6_addSent 72 = .ok (.iconst 1, 1) := by decide +kernel
theorem dX6_addSent_73 : decode cX6_addSent 73 = .ok (.iadd, 1) := by decide +kernel
theorem dX6_addSent_74 : decode cX6_addSent 74 = .ok (.putfield 33, 3) := by decide +kernel
theorem dX6_addSent_77 : decode cX6_addSent 77 = .ok (.return_, 1) := by decide +kernel
theorem dX6_takesSent_0 : decode cX6_takesSent 0 = .ok (.aload_n 0, 1) := by decide +kernel
theorem dX6_takesSent_1 : decode cX6_takesSent 1 = .ok (.getfield 18, 3) := by decide +kernel
theorem dX6_takesSent_4 : decode cX6_takesSent 4 = .ok (.istore_n 1, 1) := by decide +kernel
theorem dX6_takesSent_5 : decode cX6_takesSent 5 = .ok (.iconst 0, 1) := by decide +kernel
theorem dX6_takesSent_6 : decode cX6_takesSent 6 = .ok (.istore_n 2, 1) := by decide +kernel
theorem dX6_takesSent_7 : decode cX6_takesSent 7 = .ok (.iload_n 2, 1) := by decide +kernel
theorem dX6_takesSent_8 : decode cX6_takesSent 8 = .ok (.aload_n 0, 1) := by decide +kernel
theorem dX6_takesSent_9 : decode cX6_takesSent 9 = .ok (.getfield 33, 3) := by decide +kernel
theorem dX6_takesSent_12 : decode cX6_takesSent 12 = .ok (.if_icmp .ge 53, 3) := by decide +kernel
theorem dX6_takesSent_15 : decode cX6_takesSent 15 = .ok (.iload_n 2, 1) := by decide +kernel
theorem dX6_takesSent_16 : decode cX6_takesSent 16 = .ok (.aload_n 0, 1) := by decide +kernel
theorem dX6_takesSent_17 : decode cX6_takesSent 17 = .ok (.getfield 15, 3) := by decide +kernel
theorem dX6_takesSent_20 : decode cX6_takesSent 20 = .ok (.arraylength, 1) := by decide +kernel
theorem dX6_takesSent_21 : decode cX6_takesSent 21 = .ok (.if_icmp .ge 44, 3) := by decide +kernel
theorem dX6_takesSent_24 : decode cX6_takesSent 24 = .ok (.aload_n 0, 1) := by decide +kernel
theorem dX6_takesSent_25 : decode cX6_takesSent 25 = .ok (.getfield 15, 3) := by decide +kernel
theorem dX6_takesSent_28 : decode cX6_takesSent 28 = .ok (.iload_n 2, 1) := by decide +kernel
theorem dX6_takesSent_29 : decode cX6_takesSent 29 = .ok (.iaload, 1) := by decide +kernel
theorem dX6_takesSent_30 : decode cX6_takesSent 30 = .ok (.sipush 9999, 3) := by decide +kernel
theorem dX6_takesSent_33 : decode cX6_takesSent 33 = .ok (.if_icmp .le 5, 3) := by decide +kernel
theorem dX6_takesSent_36 : decode cX6_takesSent 36 = .ok (.iconst 0, 1) := by decide +kernel
theorem dX6_takesSent_37 : decode cX6_takesSent 37 = .ok (.ireturn, 1) := by decide +kernel
theorem dX6_takesSent_38 : decode cX6_takesSent 38 = .ok (.iload_n 1, 1) := by decide +kernel
theorem dX6_takesSent_39 : decode cX6_takesSent 39 = .ok (.aload_n 0, 1) := by decide +kernel
theorem dX6_takesSent_40 : decode cX6_takesSent 40 = .ok (.aload_n 0, 1) := by decide +kernel
theorem dX6_takesSent_41 : decode cX6_takesSent 41 = .ok (.getfield 15, 3) := by decide +kernel
theorem dX6_takesSent_44 : decode cX6_takesSent 44 = .ok (.iload_n 2, 1) := by decide +kernel
theorem dX6_takesSent_45 : decode cX6_takesSent 45 = .ok (.iaload, 1) := by decide +kernel
theorem dX6_takesSent_46 : decode cX6_takesSent 46 = .ok (.invokevirtual 40, 3) := by decide +kernel
theorem dX6_takesSent_49 : decode cX6_takesSent 49 = .ok (.ifCond .eq 7, 3) := by decide +kernel
theorem dX6_takesSent_52 : decode cX6_takesSent 52 = .ok (.iconst (-1), 1) := by decide +kernel
theorem dX6_takesSent_53 : decode cX6_takesSent 53 = .ok (.goto 4, 3) := by decide +kernel
theorem dX6_takesSent_56 : decode cX6_takesSent 56 = .ok (.iconst 1, 1) := by decide +kernel
theorem dX6_takesSent_57 : decode cX6_takesSent 57 = .ok (.iadd, 1) := by decide +kernel
theorem dX6_takesSent_58 : decode cX6_takesSent 58 = .ok (.istore_n 1, 1) := by decide +kernel
theorem dX6_takesSent_59 : decode cX6_takesSent 59 = .ok (.iinc 2 1, 3) := by decide +kernel
theorem dX6_takesSent_62 : decode cX6_takesSent 62 = .ok (.goto (-55), 3) := by decide +kernel
theorem dX6_takesSent_65 : decode cX6_takesSent 65 = .ok (.iload_n 1, 1) := by decide +kernel
theorem dX6_takesSent_66 : decode cX6_takesSent 66 = .ok (.sipush 300, 3) := by decide +kernel
theorem dX6_takesSent_69 : decode cX6_takesSent 69 = .ok (.if_icmp .gt 7, 3) := by decide +kernel
theorem dX6_takesSent_72 : decode cX6_takesSent 72 = .ok (.iconst 1, 1) := by decide +kernel
theorem dX6_takesSent_73 : decode cX6_takesSent 73 = .ok (.goto 4, 3) := by decide +kernel
theorem dX6_takesSent_76 : decode cX6_takesSent 76 = .ok (.iconst 0, 1) := by decide +kernel
theorem dX6_takesSent_77 : decode cX6_takesSent 77 = .ok (.ireturn, 1) := by decide +kernel
theorem dX6_flipSent_0 : decode cX6_flipSent 0 = .ok (.iconst 0, 1) := by decide +kernel
theorem dX6_flipSent_1 : decode cX6_flipSent 1 = .ok (.istore_n 1, 1) := by decide +kernel
theorem dX6_flipSent_2 : decode cX6_flipSent 2 = .ok (.iload_n 1, 1) := by decide +kernel
theorem dX6_flipSent_3 : decode cX6_flipSent 3 = .ok (.aload_n 0, 1) := by decide +kernel
theorem dX6_flipSent_4 : decode cX6_flipSent 4 = .ok (.getfield 33, 3) := by decide +kernel
theorem dX6_flipSent_7 : decode cX6_flipSent 7 = .ok (.if_icmp .ge 28, 3) := by decide +kernel
theorem dX6_flipSent_10 : decode cX6_flipSent 10 = .ok (.iload_n 1, 1) := by decide +kernel
theorem dX6_flipSent_11 : decode cX6_flipSent 11 = .ok (.aload_n 0, 1) := by decide +kernel
theorem dX6_flipSent_12 : decode cX6_flipSent 12 = .ok (.getfield 15, 3) := by decide +kernel
theorem dX6_flipSent_15 : decode cX6_flipSent 15 = .ok (.arraylength, 1) := by decide +kernel
theorem dX6_flipSent_16 : decode cX6_flipSent 16 = .ok (.if_icmp .ge 19, 3) := by decide +kernel
theorem dX6_flipSent_19 : decode cX6_flipSent 19 = .ok (.aload_n 0, 1) := by decide +kernel
theorem dX6_flipSent_20 : decode cX6_flipSent 20 = .ok (.aload_n 0, 1) := by decide +kernel
theorem dX6_flipSent_21 : decode cX6_flipSent 21 = .ok (.getfield 15, 3) := by decide +kernel
theorem dX6_flipSent_24 : decode cX6_flipSent 24 = .ok (.iload_n 1, 1) := by decide +kernel
theorem dX6_flipSent_25 : decode cX6_flipSent 25 = .ok (.iaload, 1) := by decide +kernel
theorem dX6_flipSent_26 : decode cX6_flipSent 26 = .ok (.invokevirtual 44, 3) := by decide +kernel
theorem dX6_flipSent_29 : decode cX6_flipSent 29 = .ok (.iinc 1 1, 3) := by decide +kernel
theorem dX6_flipSent_32 : decode cX6_flipSent 32 = .ok (.goto (-30), 3) := by decide +kernel
theorem dX6_flipSent_35 : decode cX6_flipSent 35 = .ok (.return_, 1) := by decide +kernel
theorem dX6_flipAt_0 : decode cX6_flipAt 0 = .ok (.aload_n 0, 1) := by decide +kernel
theorem dX6_flipAt_1 : decode cX6_flipAt 1 = .ok (.iload_n 1, 1) := by decide +kernel
theorem dX6_flipAt_2 : decode cX6_flipAt 2 = .ok (.invokevirtual 40, 3) := by decide +kernel
theorem dX6_flipAt_5 : decode cX6_flipAt 5 = .ok (.ifCond .eq 15, 3) := by decide +kernel
theorem dX6_flipAt_8 : decode cX6_flipAt 8 = .ok (.aload_n 0, 1) := by decide +kernel
theorem dX6_flipAt_9 : decode cX6_flipAt 9 = .ok (.aload_n 0, 1) := by decide +kernel
theorem dX6_flipAt_10 : decode cX6_flipAt 10 = .ok (.iload_n 1, 1) := by decide +kernel
theorem dX6_flipAt_11 : decode cX6_flipAt 11 = .ok (.invokevirtual 22, 3) := by decide +kernel
theorem dX6_flipAt_14 : decode cX6_flipAt 14 = .ok (.invokevirtual 47, 3) := by decide +kernel
theorem dX6_flipAt_17 : decode cX6_flipAt 17 = .ok (.goto 13, 3) := by decide +kernel
theorem dX6_flipAt_20 : decode cX6_flipAt 20 = .ok (.aload_n 0, 1) := by decide +kernel
theorem dX6_flipAt_21 : decode cX6_flipAt 21 = .ok (.aload_n 0, 1) := by decide +kernel
theorem dX6_flipAt_22 : decode cX6_flipAt 22 = .ok (.iload_n 1, 1) := by decide +kernel
theorem dX6_flipAt_23 : decode cX6_flipAt 23 = .ok (.invokevirtual 22, 3) := by decide +kernel
theorem dX6_flipAt_26 : decode cX6_flipAt 26 = .ok (.iload_n 1, 1) := by decide +kernel
theorem dX6_flipAt_27 : decode cX6_flipAt 27 = .ok (.invokevirtual 50, 3) := by decide +kernel
theorem dX6_flipAt_30 : decode cX6_flipAt 30 = .ok (.return_, 1) := by decide +kernel
theorem dX6_takeOut_0 : decode cX6_takeOut 0 = .ok (.iload_n 1, 1) := by decide +kernel
theorem dX6_takeOut_1 : decode cX6_takeOut 1 = .ok (.iconst 1, 1) := by decide +kernel
theorem dX6_takeOut_2 : decode cX6_takeOut 2 = .ok (.iadd, 1) := by decide +kernel
theorem dX6_takeOut_3 : decode cX6_takeOut 3 = .ok (.istore_n 2, 1) := by decide +kernel
theorem dX6_takeOut_4 : decode cX6_takeOut 4 = .ok (.iload_n 2, 1) := by decide +kernel
theorem dX6_takeOut_5 : decode cX6_takeOut 5 = .ok (.ifCond .le 40, 3) := by decide +kernel
theorem dX6_takeOut_8 : decode cX6_takeOut 8 = .ok (.iload_n 2, 1) := by decide +kernel
theorem dX6_takeOut_9 : decode cX6_takeOut 9 = .ok (.aload_n 0, 1) := by decide +kernel
theorem dX6_takeOut_10 : decode cX6_takeOut 10 = .ok (.getfield 18, 3) := by decide +kernel
theorem dX6_takeOut_13 : decode cX6_takeOut 13 = .ok (.if_icmp .ge 32, 3) := by decide +kernel
theorem dX6_takeOut_16 : decode cX6_takeOut 16 = .ok (.iload_n 2, 1) := by decide +kernel
theorem dX6_takeOut_17 : decode cX6_takeOut 17 = .ok (.aload_n 0, 1) := by decide +kernel
theorem dX6_takeOut_18 : decode cX6_takeOut 18 = .ok (.getfield 9, 3) := by decide +kernel
theorem dX6_takeOut_21 : decode cX6_takeOut 21 = .ok (.arraylength, 1) := by decide +kernel
theorem dX6_takeOut_22 : decode cX6_takeOut 22 = .ok (.if_icmp .ge 23, 3) := by decide +kernel
theorem dX6_takeOut_25 : decode cX6_takeOut 25 = .ok (.aload_n 0, 1) := by decide +kernel
theorem dX6_takeOut_26 : decode cX6_takeOut 26 = .ok (.getfield 9, 3) := by decide +kernel
theorem dX6_takeOut_29 : decode cX6_takeOut 29 = .ok (.iload_n 2, 1) := by decide +kernel
theorem dX6_takeOut_30 : decode cX6_takeOut 30 = .ok (.iconst 1, 1) := by decide +kernel
theorem dX6_takeOut_31 : decode cX6_takeOut 31 = .ok (.isub, 1) := by decide +kernel
theorem dX6_takeOut_32 : decode cX6_takeOut 32 = .ok (.aload_n 0, 1) := by decide +kernel
theorem dX6_takeOut_33 : decode cX6_takeOut 33 = .ok (.getfield 9, 3) := by decide +kernel
theorem dX6_takeOut_36 : decode cX6_takeOut 36 = .ok (.iload_n 2, 1) := by decide +kernel
theorem dX6_takeOut_37 : decode cX6_takeOut 37 = .ok (.iaload, 1) := by decide +kernel
theorem dX6_takeOut_38 : decode cX6_takeOut 38 = .ok (.iastore, 1) := by decide +kernel
theorem dX6_takeOut_39 : decode cX6_takeOut 39 = .ok (.iinc 2 1, 3) := by decide +kernel
theorem dX6_takeOut_42 : decode cX6_takeOut 42 = .ok (.goto (-38), 3) := by decide +kernel
theorem dX6_takeOut_45 : decode cX6_takeOut 45 = .ok (.aload_n 0, 1) := by decide +kernel
theorem dX6_takeOut_46 : decode cX6_takeOut 46 = .ok (.dup, 1) := by decide +kernel
theorem dX6_takeOut_47 : decode cX6_takeOut 47 = .ok (.getfield 18, 3) := by decide +kernel
theorem dX6_takeOut_50 : decode cX6_takeOut 50 = .ok (.iconst 1, 1) := by decide +kernel
theorem dX6_takeOut_51 : decode cX6_takeOut 51 = .ok (.isub, 1) := by decide +kernel
theorem dX6_takeOut_52 : decode cX6_takeOut 52 = .ok (.putfield 18, 3) := by decide +kernel
theorem dX6_takeOut_55 : decode cX6_takeOut 55 = .ok (.return_, 1) := by decide +kernel
theorem dX6_putIn_0 : decode cX6_putIn 0 = .ok (.iload_n 1, 1) := by decide +kernel
theorem dX6_putIn_1 : decode cX6_putIn 1 = .ok (.ifCond .lt 23, 3) := by decide +kernel
theorem dX6_putIn_4 : decode cX6_putIn 4 = .ok (.iload_n 1, 1) := by decide +kernel
theorem dX6_putIn_5 : decode cX6_putIn 5 = .ok (.aload_n 0, 1) := by decide +kernel
theorem dX6_putIn_6 : decode cX6_putIn 6 = .ok (.getfield 18, 3) := by decide +kernel
theorem dX6_putIn_9 : decode cX6_putIn 9 = .ok (.if_icmp .gt 15, 3) := by decide +kernel
theorem dX6_putIn_12 : decode cX6_putIn 12 = .ok (.aload_n 0, 1) := by decide +kernel
theorem dX6_putIn_13 : decode cX6_putIn 13 = .ok (.getfield 18, 3) := by decide +kernel
theorem dX6_putIn_16 : decode cX6_putIn 16 = .ok (.aload_n 0, 1) := by decide +kernel
theorem dX6_putIn_17 : decode cX6_putIn 17 = .ok (.getfield 9, 3) := by decide +kernel
theorem dX6_putIn_20 : decode cX6_putIn 20 = .ok (.arraylength, 1) := by decide +kernel
theorem dX6_putIn_21 : decode cX6_putIn 21 = .ok (.if_icmp .lt 4, 3) := by decide +kernel
theorem dX6_putIn_24 : decode cX6_putIn 24 = .ok (.return_, 1) := by decide +kernel
theorem dX6_putIn_25 : decode cX6_putIn 25 = .ok (.aload_n 0, 1) := by decide +kernel
theorem dX6_putIn_26 : decode cX6_putIn 26 = .ok (.getfield 18, 3) := by decide +kernel
theorem dX6_putIn_29 : decode cX6_putIn 29 = .ok (.istore_n 3, 1) := by decide +kernel
theorem dX6_putIn_30 : decode cX6_putIn 30 = .ok (.iload_n 3, 1) := by decide +kernel
theorem dX6_putIn_31 : decode cX6_putIn 31 = .ok (.iload_n 1, 1) := by decide +kernel
theorem dX6_putIn_32 : decode cX6_putIn 32 = .ok (.if_icmp .le 23, 3) := by decide +kernel
theorem dX6_putIn_35 : decode cX6_putIn 35 = .ok (.aload_n 0, 1) := by decide +kernel
theorem dX6_putIn_36 : decode cX6_putIn 36 = .ok (.getfield 9, 3) := by decide +kernel
theorem dX6_putIn_39 : decode cX6_putIn 39 = .ok (.iload_n 3, 1) := by decide +kernel
theorem dX6_putIn_40 : decode cX6_putIn 40 = .ok (.aload_n 0, 1) := by decide +kernel
theorem dX6_putIn_41 : decode cX6_putIn 41 = .ok (.getfield 9, 3) := by decide +kernel
theorem dX6_putIn_44 : decode cX6_putIn 44 = .ok (.iload_n 3, 1) := by decide +kernel
theorem dX6_putIn_45 : decode cX6_putIn 45 = .ok (.iconst 1, 1) := by decide +kernel
theorem dX6_putIn_46 : decode cX6_putIn 46 = .ok (.isub, 1) := by decide +kernel
theorem dX6_putIn_47 : decode cX6_putIn 47 = .ok (.iaload, 1) := by decide +kernel
theorem dX6_putIn_48 : decode cX6_putIn 48 = .ok (.iastore, 1) := by decide +kernel
theorem dX6_putIn_49 : decode cX6_putIn 49 = .ok (.iinc 3 (-1), 3) := by decide +kernel
theorem dX6_putIn_52 : decode cX6_putIn 52 = .ok (.goto (-22), 3) := by decide +kernel
theorem dX6_putIn_55 : decode cX6_putIn 55 = .ok (.aload_n 0, 1) := by decide +kernel
theorem dX6_putIn_56 : decode cX6_putIn 56 = .ok (.getfield 9, 3) := by decide +kernel
theorem dX6_putIn_59 : decode cX6_putIn 59 = .ok (.iload_n 1, 1) := by decide +kernel
theorem dX6_putIn_60 : decode cX6_putIn 60 = .ok (.iload_n 2, 1) := by decide +kernel
theorem dX6_putIn_61 : decode cX6_putIn 61 = .ok (.iastore, 1) := by decide +kernel
theorem dX6_putIn_62 : decode cX6_putIn 62 = .ok (.aload_n 0, 1) := by decide +kernel
theorem dX6_putIn_63 : decode cX6_putIn 63 = .ok (.dup, 1) := by decide +kernel
theorem dX6_putIn_64 : decode cX6_putIn 64 = .ok (.getfield 18, 3) := by decide +kernel
theorem dX6_putIn_67 : decode cX6_putIn 67 = .ok (.iconst 1, 1) := by decide +kernel
theorem dX6_putIn_68 : decode cX6_putIn 68 = .ok (.iadd, 1) := by decide +kernel
theorem dX6_putIn_69 : decode cX6_putIn 69 = .ok (.putfield 18, 3) := by decide +kernel
theorem dX6_putIn_72 : decode cX6_putIn 72 = .ok (.return_, 1) := by decide +kernel
theorem dX6_showIn_0 : decode cX6_showIn 0 = .ok (.aload_n 0, 1) := by decide +kernel
theorem dX6_showIn_1 : decode cX6_showIn 1 = .ok (.getfield 26, 3) := by decide +kernel
theorem dX6_showIn_4 : decode cX6_showIn 4 = .ok (.istore 5, 2) := by decide +kernel
theorem dX6_showIn_6 : decode cX6_showIn 6 = .ok (.iconst 0, 1) := by decide +kernel
theorem dX6_showIn_7 : decode cX6_showIn 7 = .ok (.istore 6, 2) := by decide +kernel
theorem dX6_showIn_9 : decode cX6_showIn 9 = .ok (.iconst 0, 1) := by decide +kernel
theorem dX6_showIn_10 : decode cX6_showIn 10 = .ok (.istore 7, 2) := by decide +kernel
theorem dX6_showIn_12 : decode cX6_showIn 12 = .ok (.iload 7, 2) := by decide +kernel
theorem dX6_showIn_14 : decode cX6_showIn 14 = .ok (.aload_n 1, 1) := by decide +kernel
theorem dX6_showIn_15 : decode cX6_showIn 15 = .ok (.getfield 54, 3) := by decide +kernel
theorem dX6_showIn_18 : decode cX6_showIn 18 = .ok (.if_icmp .ge 79, 3) := by decide +kernel
theorem dX6_showIn_21 : decode cX6_showIn 21 = .ok (.iload_n 3, 1) := by decide +kernel
theorem dX6_showIn_22 : decode cX6_showIn 22 = .ok (.iload 7, 2) := by decide +kernel
theorem dX6_showIn_24 : decode cX6_showIn 24 = .ok (.iload 4, 2) := by decide +kernel
theorem dX6_showIn_26 : decode cX6_showIn 26 = .ok (.imul, 1) := by decide +kernel
theorem dX6_showIn_27 : decode cX6_showIn 27 = .ok (.iadd, 1) := by decide +kernel
theorem dX6_showIn_28 : decode cX6_showIn 28 = .ok (.istore 8, 2) := by decide +kernel
theorem dX6_showIn_30 : decode cX6_showIn 30 = .ok (.iload 6, 2) := by decide +kernel
theorem dX6_showIn_32 : decode cX6_showIn 32 = .ok (.aload_n 0, 1) := by decide +kernel
theorem dX6_showIn_33 : decode cX6_showIn 33 = .ok (.getfield 18, 3) := by decide +kernel
theorem dX6_showIn_36 : decode cX6_showIn 36 = .ok (.if_icmp .ge 43, 3) := by decide +kernel
theorem dX6_showIn_39 : decode cX6_showIn 39 = .ok (.iload 6, 2) := by decide +kernel
theorem dX6_showIn_41 : decode cX6_showIn 41 = .ok (.aload_n 0, 1) := by decide +kernel
theorem dX6_showIn_42 : decode cX6_showIn 42 = .ok (.getfield 9, 3) := by decide +kernel
theorem dX6_showIn_45 : decode cX6_showIn 45 = .ok (.arraylength, 1) := by decide +kernel
theorem dX6_showIn_46 : decode cX6_showIn 46 = .ok (.if_icmp .ge 33, 3) := by decide +kernel
theorem dX6_showIn_49 : decode cX6_showIn 49 = .ok (.aload_n 0, 1) := by decide +kernel
theorem dX6_showIn_50 : decode cX6_showIn 50 = .ok (.getfield 9, 3) := by decide +kernel
theorem dX6_showIn_53 : decode cX6_showIn 53 = .ok (.iload 6, 2) := by decide +kernel
theorem dX6_showIn_55 : decode cX6_showIn 55 = .ok (.iaload, 1) := by decide +kernel
theorem dX6_showIn_56 : decode cX6_showIn 56 = .ok (.iload 8, 2) := by decide +kernel
theorem dX6_showIn_58 : decode cX6_showIn 58 = .ok (.if_icmp .gt 21, 3) := by decide +kernel
theorem dX6_showIn_61 : decode cX6_showIn 61 = .ok (.iload 5, 2) := by decide +kernel
theorem dX6_showIn_63 : decode cX6_showIn 63 = .ok (.ifCond .ne 7, 3) := by decide +kernel
theorem dX6_showIn_66 : decode cX6_showIn 66 = .ok (.iconst 1, 1) := by decide +kernel
theorem dX6_showIn_67 : decode cX6_showIn 67 = .ok (.goto 4, 3) := by decide +kernel
theorem dX6_showIn_70 : decode cX6_showIn 70 = .ok (.iconst 0, 1) := by decide +kernel
theorem dX6_showIn_71 : decode cX6_showIn 71 = .ok (.istore 5, 2) := by decide +kernel
theorem dX6_showIn_73 : decode cX6_showIn 73 = .ok (.iinc 6 1, 3) := by decide +kernel
theorem dX6_showIn_76 : decode cX6_showIn 76 = .ok (.goto (-46), 3) := by decide +kernel
theorem dX6_showIn_79 : decode cX6_showIn 79 = .ok (.iload 5, 2) := by decide +kernel
theorem dX6_showIn_81 : decode cX6_showIn 81 = .ok (.ifCond .eq 10, 3) := by decide +kernel
theorem dX6_showIn_84 : decode cX6_showIn 84 = .ok (.aload_n 1, 1) := by decide +kernel
theorem dX6_showIn_85 : decode cX6_showIn 85 = .ok (.iload 7, 2) := by decide +kernel
theorem dX6_showIn_87 : decode cX6_showIn 87 = .ok (.iload_n 2, 1) := by decide +kernel
theorem dX6_showIn_88 : decode cX6_showIn 88 = .ok (.invokevirtual 57, 3) := by decide +kernel
theorem dX6_showIn_91 : decode cX6_showIn 91 = .ok (.iinc 7 1, 3) := by decide +kernel
theorem dX6_showIn_94 : decode cX6_showIn 94 = .ok (.goto (-82), 3) := by decide +kernel
theorem dX6_showIn_97 : decode cX6_showIn 97 = .ok (.return_, 1) := by decide +kernel
