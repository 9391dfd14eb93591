theorem dU_nextSeed_0 : decode mU_nextSeed.2.1 0 = .ok (.bipush 75, 2) := by decide +kernel
theorem dU_nextSeed_2 : decode mU_nextSeed.2.1 2 = .ok (.iload_n 0, 1) := by decide +kernel
theorem dU_nextSeed_3 : decode mU_nextSeed.2.1 3 = .ok (.imul, 1) := by decide +kernel
theorem dU_nextSeed_4 : decode mU_nextSeed.2.1 4 = .ok (.bipush 74, 2) := by decide +kernel
theorem dU_nextSeed_6 : decode mU_nextSeed.2.1 6 = .ok (.iadd, 1) := by decide +kernel
theorem dU_nextSeed_7 : decode mU_nextSeed.2.1 7 = .ok (.ldc 66, 2) := by decide +kernel
theorem dU_nextSeed_9 : decode mU_nextSeed.2.1 9 = .ok (.irem, 1) := by decide +kernel
theorem dU_nextSeed_10 : decode mU_nextSeed.2.1 10 = .ok (.ireturn, 1) := by decide +kernel
theorem dU_openDoor_0 : decode mU_openDoor.2.1 0 = .ok (.iload_n 1, 1) := by decide +kernel
theorem dU_openDoor_1 : decode mU_openDoor.2.1 1 = .ok (.istore_n 2, 1) := by decide +kernel
theorem dU_openDoor_2 : decode mU_openDoor.2.1 2 = .ok (.iconst 0, 1) := by decide +kernel
theorem dU_openDoor_3 : decode mU_openDoor.2.1 3 = .ok (.istore_n 3, 1) := by decide +kernel
theorem dU_openDoor_4 : decode mU_openDoor.2.1 4 = .ok (.iload_n 3, 1) := by decide +kernel
theorem dU_openDoor_5 : decode mU_openDoor.2.1 5 = .ok (.iconst 4, 1) := by decide +kernel
theorem dU_openDoor_6 : decode mU_openDoor.2.1 6 = .ok (.if_icmp .ge 26, 3) := by decide +kernel
theorem dU_openDoor_9 : decode mU_openDoor.2.1 9 = .ok (.iload_n 0, 1) := by decide +kernel
theorem dU_openDoor_10 : decode mU_openDoor.2.1 10 = .ok (.iload_n 3, 1) := by decide +kernel
theorem dU_openDoor_11 : decode mU_openDoor.2.1 11 = .ok (.ishr, 1) := by decide +kernel
theorem dU_openDoor_12 : decode mU_openDoor.2.1 12 = .ok (.iconst 1, 1) := by decide +kernel
theorem dU_openDoor_13 : decode mU_openDoor.2.1 13 = .ok (.iand, 1) := by decide +kernel
theorem dU_openDoor_14 : decode mU_openDoor.2.1 14 = .ok (.ifCond .eq 12, 3) := by decide +kernel
theorem dU_openDoor_17 : decode mU_openDoor.2.1 17 = .ok (.iload_n 2, 1) := by decide +kernel
theorem dU_openDoor_18 : decode mU_openDoor.2.1 18 = .ok (.ifCond .ne 5, 3) := by decide +kernel
theorem dU_openDoor_21 : decode mU_openDoor.2.1 21 = .ok (.iload_n 3, 1) := by decide +kernel
theorem dU_openDoor_22 : decode mU_openDoor.2.1 22 = .ok (.ireturn, 1) := by decide +kernel
theorem dU_openDoor_23 : decode mU_openDoor.2.1 23 = .ok (.iinc 2 (-1), 3) := by decide +kernel
theorem dU_openDoor_26 : decode mU_openDoor.2.1 26 = .ok (.iinc 3 1, 3) := by decide +kernel
theorem dU_openDoor_29 : decode mU_openDoor.2.1 29 = .ok (.goto (-25), 3) := by decide +kernel
theorem dU_openDoor_32 : decode mU_openDoor.2.1 32 = .ok (.iconst 0, 1) := by decide +kernel
theorem dU_openDoor_33 : decode mU_openDoor.2.1 33 = .ok (.ireturn, 1) := by decide +kernel
theorem dU_commonDivisor_0 : decode mU_commonDivisor.2.1 0 = .ok (.lload_n 0, 1) := by decide +kernel
theorem dU_commonDivisor_1 : decode mU_commonDivisor.2.1 1 = .ok (.lstore 4, 2) := by decide +kernel
theorem dU_commonDivisor_3 : decode mU_commonDivisor.2.1 3 = .ok (.lload_n 2, 1) := by decide +kernel
theorem dU_commonDivisor_4 : decode mU_commonDivisor.2.1 4 = .ok (.lstore 6, 2) := by decide +kernel
theorem dU_commonDivisor_6 : decode mU_commonDivisor.2.1 6 = .ok (.iconst 0, 1) := by decide +kernel
theorem dU_commonDivisor_7 : decode mU_commonDivisor.2.1 7 = .ok (.istore 8, 2) := by decide +kernel
theorem dU_commonDivisor_9 : decode mU_commonDivisor.2.1 9 = .ok (.iload 8, 2) := by decide +kernel
theorem dU_commonDivisor_11 : decode mU_commonDivisor.2.1 11 = .ok (.sipush 200, 3) := by decide +kernel
theorem dU_commonDivisor_14 : decode mU_commonDivisor.2.1 14 = .ok (.if_icmp .ge 31, 3) := by decide +kernel
theorem dU_commonDivisor_17 : decode mU_commonDivisor.2.1 17 = .ok (.lload 6, 2) := by decide +kernel
theorem dU_commonDivisor_19 : decode mU_commonDivisor.2.1 19 = .ok (.lconst 0, 1) := by decide +kernel
theorem dU_commonDivisor_20 : decode mU_commonDivisor.2.1 20 = .ok (.lcmp, 1) := by decide +kernel
theorem dU_commonDivisor_21 : decode mU_commonDivisor.2.1 21 = .ok (.ifCond .eq 24, 3) := by decide +kernel
theorem dU_commonDivisor_24 : decode mU_commonDivisor.2.1 24 = .ok (.lload 4, 2) := by decide +kernel
theorem dU_commonDivisor_26 : decode mU_commonDivisor.2.1 26 = .ok (.lload 6, 2) := by decide +kernel
theorem dU_commonDivisor_28 : decode mU_commonDivisor.2.1 28 = .ok (.lrem, 1) := by decide +kernel
theorem dU_commonDivisor_29 : decode mU_commonDivisor.2.1 29 = .ok (.lstore 9, 2) := by decide +kernel
theorem dU_commonDivisor_31 : decode mU_commonDivisor.2.1 31 = .ok (.lload 6, 2) := by decide +kernel
theorem dU_commonDivisor_33 : decode mU_commonDivisor.2.1 33 = .ok (.lstore 4, 2) := by decide +kernel
theorem dU_commonDivisor_35 : decode mU_commonDivisor.2.1 35 = .ok (.lload 9, 2) := by decide +kernel
theorem dU_commonDivisor_37 : decode mU_commonDivisor.2.1 37 = .ok (.lstore 6, 2) := by decide +kernel
theorem dU_commonDivisor_39 : decode mU_commonDivisor.2.1 39 = .ok (.iinc 8 1, 3) := by decide +kernel
theorem dU_commonDivisor_42 : decode mU_commonDivisor.2.1 42 = .ok (.goto (-33), 3) := by decide +kernel
theorem dU_commonDivisor_45 : decode mU_commonDivisor.2.1 45 = .ok (.lload 4, 2) := by decide +kernel
theorem dU_commonDivisor_47 : decode mU_commonDivisor.2.1 47 = .ok (.lreturn, 1) := by decide +kernel
theorem dU_inLowestTerms_0 : decode mU_inLowestTerms.2.1 0 = .ok (.lload_n 1, 1) := by decide +kernel
theorem dU_inLowestTerms_1 : decode mU_inLowestTerms.2.1 1 = .ok (.aload_n 0, 1) := by decide +kernel
theorem dU_inLowestTerms_2 : decode mU_inLowestTerms.2.1 2 = .ok (.getfield 24, 3) := by decide +kernel
theorem dU_inLowestTerms_5 : decode mU_inLowestTerms.2.1 5 = .ok (.invokestatic 48, 3) := by decide +kernel
theorem dU_inLowestTerms_8 : decode mU_inLowestTerms.2.1 8 = .ok (.lstore 4, 2) := by decide +kernel
theorem dU_inLowestTerms_10 : decode mU_inLowestTerms.2.1 10 = .ok (.lload 4, 2) := by decide +kernel
theorem dU_inLowestTerms_12 : decode mU_inLowestTerms.2.1 12 = .ok (.lconst 0, 1) := by decide +kernel
theorem dU_inLowestTerms_13 : decode mU_inLowestTerms.2.1 13 = .ok (.lcmp, 1) := by decide +kernel
theorem dU_inLowestTerms_14 : decode mU_inLowestTerms.2.1 14 = .ok (.ifCond .ne 5, 3) := by decide +kernel
theorem dU_inLowestTerms_17 : decode mU_inLowestTerms.2.1 17 = .ok (.lconst 0, 1) := by decide +kernel
theorem dU_inLowestTerms_18 : decode mU_inLowestTerms.2.1 18 = .ok (.lreturn, 1) := by decide +kernel
theorem dU_inLowestTerms_19 : decode mU_inLowestTerms.2.1 19 = .ok (.iload_n 3, 1) := by decide +kernel
theorem dU_inLowestTerms_20 : decode mU_inLowestTerms.2.1 20 = .ok (.ifCond .eq 10, 3) := by decide +kernel
theorem dU_inLowestTerms_23 : decode mU_inLowestTerms.2.1 23 = .ok (.aload_n 0, 1) := by decide +kernel
theorem dU_inLowestTerms_24 : decode mU_inLowestTerms.2.1 24 = .ok (.getfield 24, 3) := by decide +kernel
theorem dU_inLowestTerms_27 : decode mU_inLowestTerms.2.1 27 = .ok (.goto 4, 3) := by decide +kernel
theorem dU_inLowestTerms_30 : decode mU_inLowestTerms.2.1 30 = .ok (.lload_n 1, 1) := by decide +kernel
theorem dU_inLowestTerms_31 : decode mU_inLowestTerms.2.1 31 = .ok (.lload 4, 2) := by decide +kernel
theorem dU_inLowestTerms_33 : decode mU_inLowestTerms.2.1 33 = .ok (.ldiv, 1) := by decide +kernel
theorem dU_inLowestTerms_34 : decode mU_inLowestTerms.2.1 34 = .ok (.lreturn, 1) := by decide +kernel
theorem dU_weightOfLast_0 : decode mU_weightOfLast.2.1 0 = .ok (.lconst 0, 1) := by decide +kernel
theorem dU_weightOfLast_1 : decode mU_weightOfLast.2.1 1 = .ok (.lstore_n 2, 1) := by decide +kernel
theorem dU_weightOfLast_2 : decode mU_weightOfLast.2.1 2 = .ok (.iconst 0, 1) := by decide +kernel
theorem dU_weightOfLast_3 : decode mU_weightOfLast.2.1 3 = .ok (.istore 4, 2) := by decide +kernel
theorem dU_weightOfLast_5 : decode mU_weightOfLast.2.1 5 = .ok (.iload 4, 2) := by decide +kernel
theorem dU_weightOfLast_7 : decode mU_weightOfLast.2.1 7 = .ok (.aload_n 0, 1) := by decide +kernel
theorem dU_weightOfLast_8 : decode mU_weightOfLast.2.1 8 = .ok (.getfield 9, 3) := by decide +kernel
theorem dU_weightOfLast_11 : decode mU_weightOfLast.2.1 11 = .ok (.arraylength, 1) := by decide +kernel
theorem dU_weightOfLast_12 : decode mU_weightOfLast.2.1 12 = .ok (.if_icmp .ge 31, 3) := by decide +kernel
theorem dU_weightOfLast_15 : decode mU_weightOfLast.2.1 15 = .ok (.lload_n 2, 1) := by decide +kernel
theorem dU_weightOfLast_16 : decode mU_weightOfLast.2.1 16 = .ok (.iload 4, 2) := by decide +kernel
theorem dU_weightOfLast_18 : decode mU_weightOfLast.2.1 18 = .ok (.iconst 4, 1) := by decide +kernel
theorem dU_weightOfLast_19 : decode mU_weightOfLast.2.1 19 = .ok (.irem, 1) := by decide +kernel
theorem dU_weightOfLast_20 : decode mU_weightOfLast.2.1 20 = .ok (.iload_n 1, 1) := by decide +kernel
theorem dU_weightOfLast_21 : decode mU_weightOfLast.2.1 21 = .ok (.if_icmp .ne 13, 3) := by decide +kernel
theorem dU_weightOfLast_24 : decode mU_weightOfLast.2.1 24 = .ok (.aload_n 0, 1) := by decide +kernel
theorem dU_weightOfLast_25 : decode mU_weightOfLast.2.1 25 = .ok (.getfield 9, 3) := by decide +kernel
theorem dU_weightOfLast_28 : decode mU_weightOfLast.2.1 28 = .ok (.iload 4, 2) := by decide +kernel
theorem dU_weightOfLast_30 : decode mU_weightOfLast.2.1 30 = .ok (.laload, 1) := by decide +kernel
theorem dU_weightOfLast_31 : decode mU_weightOfLast.2.1 31 = .ok (.goto 4, 3) := by decide +kernel
theorem dU_weightOfLast_34 : decode mU_weightOfLast.2.1 34 = .ok (.lconst 0, 1) := by decide +kernel
theorem dU_weightOfLast_35 : decode mU_weightOfLast.2.1 35 = .ok (.ladd, 1) := by decide +kernel
theorem dU_weightOfLast_36 : decode mU_weightOfLast.2.1 36 = .ok (.lstore_n 2, 1) := by decide +kernel
theorem dU_weightOfLast_37 : decode mU_weightOfLast.2.1 37 = .ok (.iinc 4 1, 3) := by decide +kernel
theorem dU_weightOfLast_40 : decode mU_weightOfLast.2.1 40 = .ok (.goto (-35), 3) := by decide +kernel
theorem dU_weightOfLast_43 : decode mU_weightOfLast.2.1 43 = .ok (.lload_n 2, 1) := by decide +kernel
theorem dU_weightOfLast_44 : decode mU_weightOfLast.2.1 44 = .ok (.lreturn, 1) := by decide +kernel
theorem dU_weightOfShut_0 : decode mU_weightOfShut.2.1 0 = .ok (.lconst 0, 1) := by decide +kernel
theorem dU_weightOfShut_1 : decode mU_weightOfShut.2.1 1 = .ok (.lstore_n 2, 1) := by decide +kernel
theorem dU_weightOfShut_2 : decode mU_weightOfShut.2.1 2 = .ok (.iconst 0, 1) := by decide +kernel
theorem dU_weightOfShut_3 : decode mU_weightOfShut.2.1 3 = .ok (.istore 4, 2) := by decide +kernel
theorem dU_weightOfShut_5 : decode mU_weightOfShut.2.1 5 = .ok (.iload 4, 2) := by decide +kernel
theorem dU_weightOfShut_7 : decode mU_weightOfShut.2.1 7 = .ok (.aload_n 0, 1) := by decide +kernel
theorem dU_weightOfShut_8 : decode mU_weightOfShut.2.1 8 = .ok (.getfield 9, 3) := by decide +kernel
theorem dU_weightOfShut_11 : decode mU_weightOfShut.2.1 11 = .ok (.arraylength, 1) := by decide +kernel
theorem dU_weightOfShut_12 : decode mU_weightOfShut.2.1 12 = .ok (.if_icmp .ge 34, 3) := by decide +kernel
theorem dU_weightOfShut_15 : decode mU_weightOfShut.2.1 15 = .ok (.lload_n 2, 1) := by decide +kernel
theorem dU_weightOfShut_16 : decode mU_weightOfShut.2.1 16 = .ok (.iload 4, 2) := by decide +kernel
theorem dU_weightOfShut_18 : decode mU_weightOfShut.2.1 18 = .ok (.iconst 4, 1) := by decide +kernel
theorem dU_weightOfShut_19 : decode mU_weightOfShut.2.1 19 = .ok (.idiv, 1) := by decide +kernel
theorem dU_weightOfShut_20 : decode mU_weightOfShut.2.1 20 = .ok (.iload_n 1, 1) := by decide +kernel
theorem dU_weightOfShut_21 : decode mU_weightOfShut.2.1 21 = .ok (.ishr, 1) := by decide +kernel
theorem dU_weightOfShut_22 : decode mU_weightOfShut.2.1 22 = .ok (.iconst 1, 1) := by decide +kernel
theorem dU_weightOfShut_23 : decode mU_weightOfShut.2.1 23 = .ok (.iand, 1) := by decide +kernel
theorem dU_weightOfShut_24 : decode mU_weightOfShut.2.1 24 = .ok (.ifCond .ne 13, 3) := by decide +kernel
theorem dU_weightOfShut_27 : decode mU_weightOfShut.2.1 27 = .ok (.aload_n 0, 1) := by decide +kernel
theorem dU_weightOfShut_28 : decode mU_weightOfShut.2.1 28 = .ok (.getfield 9, 3) := by decide +kernel
theorem dU_weightOfShut_31 : decode mU_weightOfShut.2.1 31 = .ok (.iload 4, 2) := by decide +kernel
theorem dU_weightOfShut_33 : decode mU_weightOfShut.2.1 33 = .ok (.laload, 1) := by decide +kernel
theorem dU_weightOfShut_34 : decode mU_weightOfShut.2.1 34 = .ok (.goto 4, 3) := by decide +kernel
theorem dU_weightOfShut_37 : decode mU_weightOfShut.2.1 37 = .ok (.lconst 0, 1) := by decide +kernel
theorem dU_weightOfShut_38 : decode mU_weightOfShut.2.1 38 = .ok (.ladd, 1) := by decide +kernel
theorem dU_weightOfShut_39 : decode mU_weightOfShut.2.1 39 = .ok (.lstore_n 2, 1) := by decide +kernel
theorem dU_weightOfShut_40 : decode mU_weightOfShut.2.1 40 = .ok (.iinc 4 1, 3) := by decide +kernel
theorem dU_weightOfShut_43 : decode mU_weightOfShut.2.1 43 = .ok (.goto (-38), 3) := by decide +kernel
theorem dU_weightOfShut_46 : decode mU_weightOfShut.2.1 46 = .ok (.lload_n 2, 1) := by decide +kernel
theorem dU_weightOfShut_47 : decode mU_weightOfShut.2.1 47 = .ok (.lreturn, 1) := by decide +kernel
theorem dU_weightOfOpen_0 : decode mU_weightOfOpen.2.1 0 = .ok (.lconst 0, 1) := by decide +kernel
theorem dU_weightOfOpen_1 : decode mU_weightOfOpen.2.1 1 = .ok (.lstore_n 1, 1) := by decide +kernel
theorem dU_weightOfOpen_2 : decode mU_weightOfOpen.2.1 2 = .ok (.iconst 0, 1) := by decide +kernel
theorem dU_weightOfOpen_3 : decode mU_weightOfOpen.2.1 3 = .ok (.istore_n 3, 1) := by decide +kernel
theorem dU_weightOfOpen_4 : decode mU_weightOfOpen.2.1 4 = .ok (.iload_n 3, 1) := by decide +kernel
theorem dU_weightOfOpen_5 : decode mU_weightOfOpen.2.1 5 = .ok (.aload_n 0, 1) := by decide +kernel
theorem dU_weightOfOpen_6 : decode mU_weightOfOpen.2.1 6 = .ok (.getfield 9, 3) := by decide +kernel
theorem dU_weightOfOpen_9 : decode mU_weightOfOpen.2.1 9 = .ok (.arraylength, 1) := by decide +kernel
theorem dU_weightOfOpen_10 : decode mU_weightOfOpen.2.1 10 = .ok (.if_icmp .ge 26, 3) := by decide +kernel
theorem dU_weightOfOpen_13 : decode mU_weightOfOpen.2.1 13 = .ok (.lload_n 1, 1) := by decide +kernel
theorem dU_weightOfOpen_14 : decode mU_weightOfOpen.2.1 14 = .ok (.aload_n 0, 1) := by decide +kernel
theorem dU_weightOfOpen_15 : decode mU_weightOfOpen.2.1 15 = .ok (.getfield 9, 3) := by decide +kernel
theorem dU_weightOfOpen_18 : decode mU_weightOfOpen.2.1 18 = .ok (.iload_n 3, 1) := by decide +kernel
theorem dU_weightOfOpen_19 : decode mU_weightOfOpen.2.1 19 = .ok (.laload, 1) := by decide +kernel
theorem dU_weightOfOpen_20 : decode mU_weightOfOpen.2.1 20 = .ok (.iload_n 3, 1) := by decide +kernel
theorem dU_weightOfOpen_21 : decode mU_weightOfOpen.2.1 21 = .ok (.iconst 4, 1) := by decide +kernel
theorem dU_weightOfOpen_22 : decode mU_weightOfOpen.2.1 22 = .ok (.idiv, 1) := by decide +kernel
theorem dU_weightOfOpen_23 : decode mU_weightOfOpen.2.1 23 = .ok (.invokestatic 34, 3) := by decide +kernel
theorem dU_weightOfOpen_26 : decode mU_weightOfOpen.2.1 26 = .ok (.i2l, 1) := by decide +kernel
theorem dU_weightOfOpen_27 : decode mU_weightOfOpen.2.1 27 = .ok (.lmul, 1) := by decide +kernel
theorem dU_weightOfOpen_28 : decode mU_weightOfOpen.2.1 28 = .ok (.ladd, 1) := by decide +kernel
theorem dU_weightOfOpen_29 : decode mU_weightOfOpen.2.1 29 = .ok (.lstore_n 1, 1) := by decide +kernel
theorem dU_weightOfOpen_30 : decode mU_weightOfOpen.2.1 30 = .ok (.iinc 3 1, 3) := by decide +kernel
theorem dU_weightOfOpen_33 : decode mU_weightOfOpen.2.1 33 = .ok (.goto (-29), 3) := by decide +kernel
theorem dU_weightOfOpen_36 : decode mU_weightOfOpen.2.1 36 = .ok (.lload_n 1, 1) := by decide +kernel
theorem dU_weightOfOpen_37 : decode mU_weightOfOpen.2.1 37 = .ok (.lreturn, 1) := by decide +kernel
theorem dU_draw_0 : decode mU_draw.2.1 0 = .ok (.iload_n 1, 1) := by decide +kernel
theorem dU_draw_1 : decode mU_draw.2.1 1 = .ok (.istore 6, 2) := by decide +kernel
theorem dU_draw_3 : decode mU_draw.2.1 3 = .ok (.iload 4, 2) := by decide +kernel
theorem dU_draw_5 : decode mU_draw.2.1 5 = .ok (.istore 7, 2) := by decide +kernel
theorem dU_draw_7 : decode mU_draw.2.1 7 = .ok (.aload_n 0, 1) := by decide +kernel
theorem dU_draw_8 : decode mU_draw.2.1 8 = .ok (.iload_n 2, 1) := by decide +kernel
theorem dU_draw_9 : decode mU_draw.2.1 9 = .ok (.putfield 52, 3) := by decide +kernel
theorem dU_draw_12 : decode mU_draw.2.1 12 = .ok (.aload_n 0, 1) := by decide +kernel
theorem dU_draw_13 : decode mU_draw.2.1 13 = .ok (.iload 6, 2) := by decide +kernel
theorem dU_draw_15 : decode mU_draw.2.1 15 = .ok (.ifCond .ne 7, 3) := by decide +kernel
theorem dU_draw_18 : decode mU_draw.2.1 18 = .ok (.iconst 0, 1) := by decide +kernel
theorem dU_draw_19 : decode mU_draw.2.1 19 = .ok (.goto 5, 3) := by decide +kernel
theorem dU_draw_22 : decode mU_draw.2.1 22 = .ok (.bipush (-2), 2) := by decide +kernel
theorem dU_draw_24 : decode mU_draw.2.1 24 = .ok (.putfield 56, 3) := by decide +kernel
theorem dU_draw_27 : decode mU_draw.2.1 27 = .ok (.iconst 1, 1) := by decide +kernel
theorem dU_draw_28 : decode mU_draw.2.1 28 = .ok (.istore 8, 2) := by decide +kernel
theorem dU_draw_30 : decode mU_draw.2.1 30 = .ok (.iload 8, 2) := by decide +kernel
theorem dU_draw_32 : decode mU_draw.2.1 32 = .ok (.iload 5, 2) := by decide +kernel
theorem dU_draw_34 : decode mU_draw.2.1 34 = .ok (.if_icmp .gt 87, 3) := by decide +kernel
theorem dU_draw_37 : decode mU_draw.2.1 37 = .ok (.iload 7, 2) := by decide +kernel
theorem dU_draw_39 : decode mU_draw.2.1 39 = .ok (.invokestatic 59, 3) := by decide +kernel
theorem dU_draw_42 : decode mU_draw.2.1 42 = .ok (.istore 7, 2) := by decide +kernel
theorem dU_draw_44 : decode mU_draw.2.1 44 = .ok (.iload 6, 2) := by decide +kernel
theorem dU_draw_46 : decode mU_draw.2.1 46 = .ok (.invokestatic 34, 3) := by decide +kernel
theorem dU_draw_49 : decode mU_draw.2.1 49 = .ok (.istore 9, 2) := by decide +kernel
theorem dU_draw_51 : decode mU_draw.2.1 51 = .ok (.iload 7, 2) := by decide +kernel
theorem dU_draw_53 : decode mU_draw.2.1 53 = .ok (.bipush 100, 2) := by decide +kernel
theorem dU_draw_55 : decode mU_draw.2.1 55 = .ok (.irem, 1) := by decide +kernel
theorem dU_draw_56 : decode mU_draw.2.1 56 = .ok (.iload_n 3, 1) := by decide +kernel
theorem dU_draw_57 : decode mU_draw.2.1 57 = .ok (.if_icmp .ge 58, 3) := by decide +kernel
theorem dU_draw_60 : decode mU_draw.2.1 60 = .ok (.iload 9, 2) := by decide +kernel
theorem dU_draw_62 : decode mU_draw.2.1 62 = .ok (.ifCond .le 53, 3) := by decide +kernel
theorem dU_draw_65 : decode mU_draw.2.1 65 = .ok (.iload 7, 2) := by decide +kernel
theorem dU_draw_67 : decode mU_draw.2.1 67 = .ok (.invokestatic 59, 3) := by decide +kernel
theorem dU_draw_70 : decode mU_draw.2.1 70 = .ok (.istore 7, 2) := by decide +kernel
theorem dU_draw_72 : decode mU_draw.2.1 72 = .ok (.aload_n 0, 1) := by decide +kernel
theorem dU_draw_73 : decode mU_draw.2.1 73 = .ok (.iload 6, 2) := by decide +kernel
theorem dU_draw_75 : decode mU_draw.2.1 75 = .ok (.iload 7, 2) := by decide +kernel
theorem dU_draw_77 : decode mU_draw.2.1 77 = .ok (.iload 9, 2) := by decide +kernel
theorem dU_draw_79 : decode mU_draw.2.1 79 = .ok (.irem, 1) := by decide +kernel
theorem dU_draw_80 : decode mU_draw.2.1 80 = .ok (.invokestatic 62, 3) := by decide +kernel
theorem dU_draw_83 : decode mU_draw.2.1 83 = .ok (.putfield 52, 3) := by decide +kernel
theorem dU_draw_86 : decode mU_draw.2.1 86 = .ok (.iload 6, 2) := by decide +kernel
theorem dU_draw_88 : decode mU_draw.2.1 88 = .ok (.iconst 1, 1) := by decide +kernel
theorem dU_draw_89 : decode mU_draw.2.1 89 = .ok (.aload_n 0, 1) := by decide +kernel
theorem dU_draw_90 : decode mU_draw.2.1 90 = .ok (.getfield 52, 3) := by decide +kernel
theorem dU_draw_93 : decode mU_draw.2.1 93 = .ok (.ishl, 1) := by decide +kernel
theorem dU_draw_94 : decode mU_draw.2.1 94 = .ok (.iconst (-1), 1) := by decide +kernel
theorem dU_draw_95 : decode mU_draw.2.1 95 = .ok (.ixor, 1) := by decide +kernel
theorem dU_draw_96 : decode mU_draw.2.1 96 = .ok (.iand, 1) := by decide +kernel
theorem dU_draw_97 : decode mU_draw.2.1 97 = .ok (.istore 6, 2) := by decide +kernel
theorem dU_draw_99 : decode mU_draw.2.1 99 = .ok (.aload_n 0, 1) := by decide +kernel
theorem dU_draw_100 : decode mU_draw.2.1 100 = .ok (.iload 6, 2) := by decide +kernel
theorem dU_draw_102 : decode mU_draw.2.1 102 = .ok (.ifCond .ne 8, 3) := by decide +kernel
theorem dU_draw_105 : decode mU_draw.2.1 105 = .ok (.iload 8, 2) := by decide +kernel
theorem dU_draw_107 : decode mU_draw.2.1 107 = .ok (.goto 5, 3) := by decide +kernel
theorem dU_draw_110 : decode mU_draw.2.1 110 = .ok (.bipush (-2), 2) := by decide +kernel
theorem dU_draw_112 : decode mU_draw.2.1 112 = .ok (.putfield 56, 3) := by decide +kernel
theorem dU_draw_115 : decode mU_draw.2.1 115 = .ok (.iinc 8 1, 3) := by decide +kernel
theorem dU_draw_118 : decode mU_draw.2.1 118 = .ok (.goto (-88), 3) := by decide +kernel
theorem dU_draw_121 : decode mU_draw.2.1 121 = .ok (.return_, 1) := by decide +kernel
theorem dU_blow_0 : decode mU_blow.2.1 0 = .ok (.aload_n 0, 1) := by decide +kernel
theorem dU_blow_1 : decode mU_blow.2.1 1 = .ok (.getfield 9, 3) := by decide +kernel
theorem dU_blow_4 : decode mU_blow.2.1 4 = .ok (.lconst 0, 1) := by decide +kernel
theorem dU_blow_5 : decode mU_blow.2.1 5 = .ok (.invokestatic 18, 3) := by decide +kernel
theorem dU_blow_8 : decode mU_blow.2.1 8 = .ok (.iload_n 1, 1) := by decide +kernel
theorem dU_blow_9 : decode mU_blow.2.1 9 = .ok (.iconst 4, 1) := by decide +kernel
theorem dU_blow_10 : decode mU_blow.2.1 10 = .ok (.imul, 1) := by decide +kernel
theorem dU_blow_11 : decode mU_blow.2.1 11 = .ok (.iload_n 2, 1) := by decide +kernel
theorem dU_blow_12 : decode mU_blow.2.1 12 = .ok (.iadd, 1) := by decide +kernel
theorem dU_blow_13 : decode mU_blow.2.1 13 = .ok (.istore 5, 2) := by decide +kernel
theorem dU_blow_15 : decode mU_blow.2.1 15 = .ok (.iload 5, 2) := by decide +kernel
theorem dU_blow_17 : decode mU_blow.2.1 17 = .ok (.ifCond .lt 21, 3) := by decide +kernel
theorem dU_blow_20 : decode mU_blow.2.1 20 = .ok (.iload 5, 2) := by decide +kernel
theorem dU_blow_22 : decode mU_blow.2.1 22 = .ok (.aload_n 0, 1) := by decide +kernel
theorem dU_blow_23 : decode mU_blow.2.1 23 = .ok (.getfield 9, 3) := by decide +kernel
theorem dU_blow_26 : decode mU_blow.2.1 26 = .ok (.arraylength, 1) := by decide +kernel
theorem dU_blow_27 : decode mU_blow.2.1 27 = .ok (.if_icmp .ge 11, 3) := by decide +kernel
theorem dU_blow_30 : decode mU_blow.2.1 30 = .ok (.aload_n 0, 1) := by decide +kernel
theorem dU_blow_31 : decode mU_blow.2.1 31 = .ok (.getfield 9, 3) := by decide +kernel
theorem dU_blow_34 : decode mU_blow.2.1 34 = .ok (.iload 5, 2) := by decide +kernel
theorem dU_blow_36 : decode mU_blow.2.1 36 = .ok (.lconst 1, 1) := by decide +kernel
theorem dU_blow_37 : decode mU_blow.2.1 37 = .ok (.lastore, 1) := by decide +kernel
theorem dU_blow_38 : decode mU_blow.2.1 38 = .ok (.aload_n 0, 1) := by decide +kernel
theorem dU_blow_39 : decode mU_blow.2.1 39 = .ok (.lconst 1, 1) := by decide +kernel
theorem dU_blow_40 : decode mU_blow.2.1 40 = .ok (.putfield 24, 3) := by decide +kernel
theorem dU_blow_43 : decode mU_blow.2.1 43 = .ok (.iconst 0, 1) := by decide +kernel
theorem dU_blow_44 : decode mU_blow.2.1 44 = .ok (.istore 6, 2) := by decide +kernel
theorem dU_blow_46 : decode mU_blow.2.1 46 = .ok (.iload 6, 2) := by decide +kernel
theorem dU_blow_48 : decode mU_blow.2.1 48 = .ok (.iload 4, 2) := by decide +kernel
theorem dU_blow_50 : decode mU_blow.2.1 50 = .ok (.if_icmp .ge 26, 3) := by decide +kernel
theorem dU_blow_53 : decode mU_blow.2.1 53 = .ok (.aload_n 0, 1) := by decide +kernel
theorem dU_blow_54 : decode mU_blow.2.1 54 = .ok (.iload_n 3, 1) := by decide +kernel
theorem dU_blow_55 : decode mU_blow.2.1 55 = .ok (.invokevirtual 28, 3) := by decide +kernel
theorem dU_blow_58 : decode mU_blow.2.1 58 = .ok (.aload_n 0, 1) := by decide +kernel
theorem dU_blow_59 : decode mU_blow.2.1 59 = .ok (.dup, 1) := by decide +kernel
theorem dU_blow_60 : decode mU_blow.2.1 60 = .ok (.getfield 24, 3) := by decide +kernel
theorem dU_blow_63 : decode mU_blow.2.1 63 = .ok (.ldc2_w 32, 3) := by decide +kernel
theorem dU_blow_66 : decode mU_blow.2.1 66 = .ok (.lmul, 1) := by decide +kernel
theorem dU_blow_67 : decode mU_blow.2.1 67 = .ok (.putfield 24, 3) := by decide +kernel
theorem dU_blow_70 : decode mU_blow.2.1 70 = .ok (.iinc 6 1, 3) := by decide +kernel
theorem dU_blow_73 : decode mU_blow.2.1 73 = .ok (.goto (-27), 3) := by decide +kernel
theorem dU_blow_76 : decode mU_blow.2.1 76 = .ok (.return_, 1) := by decide +kernel
theorem dU_blowOnce_0 : decode mU_blowOnce.2.1 0 = .ok (.aload_n 0, 1) := by decide +kernel
theorem dU_blowOnce_1 : decode mU_blowOnce.2.1 1 = .ok (.getfield 15, 3) := by decide +kernel
theorem dU_blowOnce_4 : decode mU_blowOnce.2.1 4 = .ok (.lconst 0, 1) := by decide +kernel
theorem dU_blowOnce_5 : decode mU_blowOnce.2.1 5 = .ok (.invokestatic 18, 3) := by decide +kernel
theorem dU_blowOnce_8 : decode mU_blowOnce.2.1 8 = .ok (.iconst 0, 1) := by decide +kernel
theorem dU_blowOnce_9 : decode mU_blowOnce.2.1 9 = .ok (.istore_n 2, 1) := by decide +kernel
theorem dU_blowOnce_10 : decode mU_blowOnce.2.1 10 = .ok (.iload_n 2, 1) := by decide +kernel
theorem dU_blowOnce_11 : decode mU_blowOnce.2.1 11 = .ok (.aload_n 0, 1) := by decide +kernel
theorem dU_blowOnce_12 : decode mU_blowOnce.2.1 12 = .ok (.getfield 9, 3) := by decide +kernel
theorem dU_blowOnce_15 : decode mU_blowOnce.2.1 15 = .ok (.arraylength, 1) := by decide +kernel
theorem dU_blowOnce_16 : decode mU_blowOnce.2.1 16 = .ok (.if_icmp .ge 105, 3) := by decide +kernel
theorem dU_blowOnce_19 : decode mU_blowOnce.2.1 19 = .ok (.iload_n 2, 1) := by decide +kernel
theorem dU_blowOnce_20 : decode mU_blowOnce.2.1 20 = .ok (.aload_n 0, 1) := by decide +kernel
theorem dU_blowOnce_21 : decode mU_blowOnce.2.1 21 = .ok (.getfield 15, 3) := by decide +kernel
theorem dU_blowOnce_24 : decode mU_blowOnce.2.1 24 = .ok (.arraylength, 1) := by decide +kernel
theorem dU_blowOnce_25 : decode mU_blowOnce.2.1 25 = .ok (.if_icmp .ge 96, 3) := by decide +kernel
theorem dU_blowOnce_28 : decode mU_blowOnce.2.1 28 = .ok (.iload_n 2, 1) := by decide +kernel
theorem dU_blowOnce_29 : decode mU_blowOnce.2.1 29 = .ok (.iconst 4, 1) := by decide +kernel
theorem dU_blowOnce_30 : decode mU_blowOnce.2.1 30 = .ok (.idiv, 1) := by decide +kernel
theorem dU_blowOnce_31 : decode mU_blowOnce.2.1 31 = .ok (.istore_n 3, 1) := by decide +kernel
theorem dU_blowOnce_32 : decode mU_blowOnce.2.1 32 = .ok (.iload_n 3, 1) := by decide +kernel
theorem dU_blowOnce_33 : decode mU_blowOnce.2.1 33 = .ok (.invokestatic 34, 3) := by decide +kernel
theorem dU_blowOnce_36 : decode mU_blowOnce.2.1 36 = .ok (.istore 4, 2) := by decide +kernel
theorem dU_blowOnce_38 : decode mU_blowOnce.2.1 38 = .ok (.iload 4, 2) := by decide +kernel
theorem dU_blowOnce_40 : decode mU_blowOnce.2.1 40 = .ok (.ifCond .ne 29, 3) := by decide +kernel
theorem dU_blowOnce_43 : decode mU_blowOnce.2.1 43 = .ok (.aload_n 0, 1) := by decide +kernel
theorem dU_blowOnce_44 : decode mU_blowOnce.2.1 44 = .ok (.getfield 15, 3) := by decide +kernel
theorem dU_blowOnce_47 : decode mU_blowOnce.2.1 47 = .ok (.iload_n 2, 1) := by decide +kernel
theorem dU_blowOnce_48 : decode mU_blowOnce.2.1 48 = .ok (.dup2, 1) := by decide +kernel
theorem dU_blowOnce_49 : decode mU_blowOnce.2.1 49 = .ok (.laload, 1) := by decide +kernel
theorem dU_blowOnce_50 : decode mU_blowOnce.2.1 50 = .ok (.aload_n 0, 1) := by decide +kernel
theorem dU_blowOnce_51 : decode mU_blowOnce.2.1 51 = .ok (.getfield 9, 3) := by decide +kernel
theorem dU_blowOnce_54 : decode mU_blowOnce.2.1 54 = .ok (.iload_n 2, 1) := by decide +kernel
theorem dU_blowOnce_55 : decode mU_blowOnce.2.1 55 = .ok (.laload, 1) := by decide +kernel
theorem dU_blowOnce_56 : decode mU_blowOnce.2.1 56 = .ok (.ldc2_w 40, 3) := by decide +kernel
theorem dU_blowOnce_59 : decode mU_blowOnce.2.1 59 = .ok (.lmul, 1) := by decide +kernel
theorem dU_blowOnce_60 : decode mU_blowOnce.2.1 60 = .ok (.ldc2_w 42, 3) := by decide +kernel
theorem dU_blowOnce_63 : decode mU_blowOnce.2.1 63 = .ok (.lmul, 1) := by decide +kernel
theorem dU_blowOnce_64 : decode mU_blowOnce.2.1 64 = .ok (.ladd, 1) := by decide +kernel
theorem dU_blowOnce_65 : decode mU_blowOnce.2.1 65 = .ok (.lastore, 1) := by decide +kernel
theorem dU_blowOnce_66 : decode mU_blowOnce.2.1 66 = .ok (.goto 49, 3) := by decide +kernel
theorem dU_blowOnce_69 : decode mU_blowOnce.2.1 69 = .ok (.aload_n 0, 1) := by decide +kernel
theorem dU_blowOnce_70 : decode mU_blowOnce.2.1 70 = .ok (.getfield 15, 3) := by decide +kernel
theorem dU_blowOnce_73 : decode mU_blowOnce.2.1 73 = .ok (.iload_n 2, 1) := by decide +kernel
theorem dU_blowOnce_74 : decode mU_blowOnce.2.1 74 = .ok (.dup2, 1) := by decide +kernel
theorem dU_blowOnce_75 : decode mU_blowOnce.2.1 75 = .ok (.laload, 1) := by decide +kernel
theorem dU_blowOnce_76 : decode mU_blowOnce.2.1 76 = .ok (.aload_n 0, 1) := by decide +kernel
theorem dU_blowOnce_77 : decode mU_blowOnce.2.1 77 = .ok (.getfield 9, 3) := by decide +kernel
theorem dU_blowOnce_80 : decode mU_blowOnce.2.1 80 = .ok (.iload_n 2, 1) := by decide +kernel
theorem dU_blowOnce_81 : decode mU_blowOnce.2.1 81 = .ok (.laload, 1) := by decide +kernel
theorem dU_blowOnce_82 : decode mU_blowOnce.2.1 82 = .ok (.bipush 100, 2) := by decide +kernel
theorem dU_blowOnce_84 : decode mU_blowOnce.2.1 84 = .ok (.iload_n 1, 1) := by decide +kernel
theorem dU_blowOnce_85 : decode mU_blowOnce.2.1 85 = .ok (.isub, 1) := by decide +kernel
theorem dU_blowOnce_86 : decode mU_blowOnce.2.1 86 = .ok (.i2l, 1) := by decide +kernel
theorem dU_blowOnce_87 : decode mU_blowOnce.2.1 87 = .ok (.lmul, 1) := by decide +kernel
theorem dU_blowOnce_88 : decode mU_blowOnce.2.1 88 = .ok (.ldc2_w 42, 3) := by decide +kernel
theorem dU_blowOnce_91 : decode mU_blowOnce.2.1 91 = .ok (.lmul, 1) := by decide +kernel
theorem dU_blowOnce_92 : decode mU_blowOnce.2.1 92 = .ok (.ladd, 1) := by decide +kernel
theorem dU_blowOnce_93 : decode mU_blowOnce.2.1 93 = .ok (.lastore, 1) := by decide +kernel
theorem dU_blowOnce_94 : decode mU_blowOnce.2.1 94 = .ok (.aload_n 0, 1) := by decide +kernel
theorem dU_blowOnce_95 : decode mU_blowOnce.2.1 95 = .ok (.iload_n 3, 1) := by decide +kernel
theorem dU_blowOnce_96 : decode mU_blowOnce.2.1 96 = .ok (.aload_n 0, 1) := by decide +kernel
theorem dU_blowOnce_97 : decode mU_blowOnce.2.1 97 = .ok (.getfield 9, 3) := by decide +kernel
theorem dU_blowOnce_100 : decode mU_blowOnce.2.1 100 = .ok (.iload_n 2, 1) := by decide +kernel
theorem dU_blowOnce_101 : decode mU_blowOnce.2.1 101 = .ok (.laload, 1) := by decide +kernel
theorem dU_blowOnce_102 : decode mU_blowOnce.2.1 102 = .ok (.iload_n 1, 1) := by decide +kernel
theorem dU_blowOnce_103 : decode mU_blowOnce.2.1 103 = .ok (.i2l, 1) := by decide +kernel
theorem dU_blowOnce_104 : decode mU_blowOnce.2.1 104 = .ok (.lmul, 1) := by decide +kernel
theorem dU_blowOnce_105 : decode mU_blowOnce.2.1 105 = .ok (.bipush 12, 2) := by decide +kernel
theorem dU_blowOnce_107 : decode mU_blowOnce.2.1 107 = .ok (.iload 4, 2) := by decide +kernel
theorem dU_blowOnce_109 : decode mU_blowOnce.2.1 109 = .ok (.idiv, 1) := by decide +kernel
theorem dU_blowOnce_110 : decode mU_blowOnce.2.1 110 = .ok (.i2l, 1) := by decide +kernel
theorem dU_blowOnce_111 : decode mU_blowOnce.2.1 111 = .ok (.lmul, 1) := by decide +kernel
theorem dU_blowOnce_112 : decode mU_blowOnce.2.1 112 = .ok (.invokevirtual 44, 3) := by decide +kernel
theorem dU_blowOnce_115 : decode mU_blowOnce.2.1 115 = .ok (.iinc 2 1, 3) := by decide +kernel
theorem dU_blowOnce_118 : decode mU_blowOnce.2.1 118 = .ok (.goto (-108), 3) := by decide +kernel
theorem dU_blowOnce_121 : decode mU_blowOnce.2.1 121 = .ok (.aload_n 0, 1) := by decide +kernel
theorem dU_blowOnce_122 : decode mU_blowOnce.2.1 122 = .ok (.getfield 9, 3) := by decide +kernel
theorem dU_blowOnce_125 : decode mU_blowOnce.2.1 125 = .ok (.astore_n 2, 1) := by decide +kernel
theorem dU_blowOnce_126 : decode mU_blowOnce.2.1 126 = .ok (.aload_n 0, 1) := by decide +kernel
theorem dU_blowOnce_127 : decode mU_blowOnce.2.1 127 = .ok (.aload_n 0, 1) := by decide +kernel
theorem dU_blowOnce_128 : decode mU_blowOnce.2.1 128 = .ok (.getfield 15, 3) := by decide +kernel
theorem dU_blowOnce_131 : decode mU_blowOnce.2.1 131 = .ok (.putfield 9, 3) := by decide +kernel
theorem dU_blowOnce_134 : decode mU_blowOnce.2.1 134 = .ok (.aload_n 0, 1) := by decide +kernel
theorem dU_blowOnce_135 : decode mU_blowOnce.2.1 135 = .ok (.aload_n 2, 1) := by decide +kernel
theorem dU_blowOnce_136 : decode mU_blowOnce.2.1 136 = .ok (.putfield 15, 3) := by decide +kernel
theorem dU_blowOnce_139 : decode mU_blowOnce.2.1 139 = .ok (.return_, 1) := by decide +kernel
theorem dU_shutEach_0 : decode mU_shutEach.2.1 0 = .ok (.iconst 0, 1) := by decide +kernel
theorem dU_shutEach_1 : decode mU_shutEach.2.1 1 = .ok (.istore 4, 2) := by decide +kernel
theorem dU_shutEach_3 : decode mU_shutEach.2.1 3 = .ok (.iload 4, 2) := by decide +kernel
theorem dU_shutEach_5 : decode mU_shutEach.2.1 5 = .ok (.iconst 4, 1) := by decide +kernel
theorem dU_shutEach_6 : decode mU_shutEach.2.1 6 = .ok (.if_icmp .ge 59, 3) := by decide +kernel
theorem dU_shutEach_9 : decode mU_shutEach.2.1 9 = .ok (.iload_n 1, 1) := by decide +kernel
theorem dU_shutEach_10 : decode mU_shutEach.2.1 10 = .ok (.iconst 1, 1) := by decide +kernel
theorem dU_shutEach_11 : decode mU_shutEach.2.1 11 = .ok (.iload 4, 2) := by decide +kernel
theorem dU_shutEach_13 : decode mU_shutEach.2.1 13 = .ok (.ishl, 1) := by decide +kernel
theorem dU_shutEach_14 : decode mU_shutEach.2.1 14 = .ok (.iconst (-1), 1) := by decide +kernel
theorem dU_shutEach_15 : decode mU_shutEach.2.1 15 = .ok (.ixor, 1) := by decide +kernel
theorem dU_shutEach_16 : decode mU_shutEach.2.1 16 = .ok (.iand, 1) := by decide +kernel
theorem dU_shutEach_17 : decode mU_shutEach.2.1 17 = .ok (.iconst 4, 1) := by decide +kernel
theorem dU_shutEach_18 : decode mU_shutEach.2.1 18 = .ok (.imul, 1) := by decide +kernel
theorem dU_shutEach_19 : decode mU_shutEach.2.1 19 = .ok (.iload 4, 2) := by decide +kernel
theorem dU_shutEach_21 : decode mU_shutEach.2.1 21 = .ok (.iadd, 1) := by decide +kernel
theorem dU_shutEach_22 : decode mU_shutEach.2.1 22 = .ok (.istore 5, 2) := by decide +kernel
theorem dU_shutEach_24 : decode mU_shutEach.2.1 24 = .ok (.iload_n 1, 1) := by decide +kernel
theorem dU_shutEach_25 : decode mU_shutEach.2.1 25 = .ok (.iload 4, 2) := by decide +kernel
theorem dU_shutEach_27 : decode mU_shutEach.2.1 27 = .ok (.ishr, 1) := by decide +kernel
theorem dU_shutEach_28 : decode mU_shutEach.2.1 28 = .ok (.iconst 1, 1) := by decide +kernel
theorem dU_shutEach_29 : decode mU_shutEach.2.1 29 = .ok (.iand, 1) := by decide +kernel
theorem dU_shutEach_30 : decode mU_shutEach.2.1 30 = .ok (.ifCond .eq 29, 3) := by decide +kernel
theorem dU_shutEach_33 : decode mU_shutEach.2.1 33 = .ok (.iload 5, 2) := by decide +kernel
theorem dU_shutEach_35 : decode mU_shutEach.2.1 35 = .ok (.ifCond .lt 24, 3) := by decide +kernel
theorem dU_shutEach_38 : decode mU_shutEach.2.1 38 = .ok (.iload 5, 2) := by decide +kernel
theorem dU_shutEach_40 : decode mU_shutEach.2.1 40 = .ok (.aload_n 0, 1) := by decide +kernel
theorem dU_shutEach_41 : decode mU_shutEach.2.1 41 = .ok (.getfield 15, 3) := by decide +kernel
theorem dU_shutEach_44 : decode mU_shutEach.2.1 44 = .ok (.arraylength, 1) := by decide +kernel
theorem dU_shutEach_45 : decode mU_shutEach.2.1 45 = .ok (.if_icmp .ge 14, 3) := by decide +kernel
theorem dU_shutEach_48 : decode mU_shutEach.2.1 48 = .ok (.aload_n 0, 1) := by decide +kernel
theorem dU_shutEach_49 : decode mU_shutEach.2.1 49 = .ok (.getfield 15, 3) := by decide +kernel
theorem dU_shutEach_52 : decode mU_shutEach.2.1 52 = .ok (.iload 5, 2) := by decide +kernel
theorem dU_shutEach_54 : decode mU_shutEach.2.1 54 = .ok (.dup2, 1) := by decide +kernel
theorem dU_shutEach_55 : decode mU_shutEach.2.1 55 = .ok (.laload, 1) := by decide +kernel
theorem dU_shutEach_56 : decode mU_shutEach.2.1 56 = .ok (.lload_n 2, 1) := by decide +kernel
theorem dU_shutEach_57 : decode mU_shutEach.2.1 57 = .ok (.ladd, 1) := by decide +kernel
theorem dU_shutEach_58 : decode mU_shutEach.2.1 58 = .ok (.lastore, 1) := by decide +kernel
theorem dU_shutEach_59 : decode mU_shutEach.2.1 59 = .ok (.iinc 4 1, 3) := by decide +kernel
theorem dU_shutEach_62 : decode mU_shutEach.2.1 62 = .ok (.goto (-59), 3) := by decide +kernel
theorem dU_shutEach_65 : decode mU_shutEach.2.1 65 = .ok (.return_, 1) := by decide +kernel
def opF (o : Nat) : Nat → Nat → Nat → Nat
  | 0, _, _ => 0
  | f + 1, left, d => if o.testBit d then (if left = 0 then d else opF o f (left - 1) (d + 1)) else opF o f left (d + 1)
theorem half_mod {a b : Nat} (h : b ≤ a) (h0 : 0 < b) : 2 * (a % b) ≤ a := by
  have h1 := Nat.mod_lt a h0
  have h2 := Nat.div_add_mod a b
  have h3 : 1 ≤ a / b := (Nat.one_le_div_iff h0).mpr h
  have h4 : b * 1 ≤ b * (a / b) := Nat.mul_le_mul_left b h3
  omega
section Gusts1
variable {G : GE} {V : Nat → Nat → Int} {σ : Shp} {K : Option AV → Mem → Prop}
theorem wU_nextSeed {x : Int} {n : Nat} (hx : x = n) (hn : n < 65537) (hK : K (some (vI ((75 * n + 74) % 65537 : Nat))) (V, σ)) : Wp G 0 mU_nextSeed [vI x] (V, σ) 0 0 K := by
  refine wp_intro mU_nextSeed_i.1 [some (vI x)] rfl rfl (Nat.le_of_ble_eq_true rfl) ?_
  intro X hG F C
  have hm := C.rm
  refine aw_bipush (q := 2) F dU_nextSeed_0 rfl (by decide) ?_
  refine aw_iload_0 (q := 3) F dU_nextSeed_2 rfl ?_
  refine aw_imul (q := 4) F dU_nextSeed_3 rfl (by constructor <;> omega) ?_
  refine aw_bipush (q := 6) F dU_nextSeed_4 rfl (by decide) ?_
  refine aw_iadd (q := 7) F dU_nextSeed_6 rfl (by constructor <;> omega) ?_
  refine aw_ldc (q := 9) (z := 65537) F dU_nextSeed_7 rfl kU_66 (by decide) ?_
  refine aw_irem (q := 10) F dU_nextSeed_9 rfl (by omega) (by omega) ?_
  refine aw_iret F C dU_nextSeed_10 rfl (Nat.le_refl _) (Nat.le_refl _) ?_
  exact kI hK (by omega)
theorem wU_openDoor {x y : Int} {o n : Nat} (hx : x = o) (hy : y = n) (ho : o < 16) (hn : n < 1000) (hK : K (some (vI (opF o 4 n 0))) (V, σ)) : Wp G 0 mU_openDoor [vI x, vI y] (V, σ) 0 0 K := by
  refine wp_intro mU_openDoor_i.1 [some (vI x), some (vI y), none, none] rfl rfl (Nat.le_of_ble_eq_true rfl) ?_
  intro X hG F C
  have hm := C.rm
  have loop : ∀ (j d : Nat), 4 - d = j → d ≤ 4 → ∀ (l : Nat) (z w : Int), l < 1000 → z = l → w = d → opF o (4 - d) l d = opF o 4 n 0 → AW X 4 [some (vI x), some (vI y), some (vI z), some (vI w)] [] (V, σ) 0 0 := by
    intro j
    induction j using Nat.strongRecOn with
    | ind j ih =>
      intro d hj hd l z w hl hz hw hf
      have hbit : d < 4 → zand (zshr x w) 1 = if o.testBit d then 1 else 0 := fun h => by rw [hx, hw, bit_n (by omega) (by omega), bit_tb]; split <;> rfl
      have ef : d < 4 → opF o (4 - d) l d = if o.testBit d then (if l = 0 then d else opF o (4 - (d + 1)) (l - 1) (d + 1)) else opF o (4 - (d + 1)) l (d + 1) := fun h => by rw [show 4 - d = (4 - (d + 1)) + 1 by omega]; rfl
      refine aw_iload_3 (q := 5) F dU_openDoor_4 rfl ?_
      refine aw_iconst (q := 6) F dU_openDoor_5 rfl (by decide) ?_
      refine aw_icmp_ge (q := 9) (t := 32) F dU_openDoor_6 rfl (by decide) (fun c6 => ?_) (fun c6 => ?_)
      · refine aw_iconst (q := 33) F dU_openDoor_32 rfl (by decide) ?_
        refine aw_iret F C dU_openDoor_33 rfl (Nat.le_refl _) (Nat.le_refl _) ?_
        rw [show 4 - d = 0 by omega] at hf; exact kI hK (by rw [← hf]; rfl)
      · refine aw_iload_0 (q := 10) F dU_openDoor_9 rfl ?_
        refine aw_iload_3 (q := 11) F dU_openDoor_10 rfl ?_
        refine aw_ishr (q := 12) F dU_openDoor_11 rfl ?_
        refine aw_iconst (q := 13) F dU_openDoor_12 rfl (by decide) ?_
        refine aw_iand (q := 14) F dU_openDoor_13 rfl ?_
        have ef := ef (by omega); rw [hbit (by omega)]
        refine aw_if_eq (q := 17) (t := 26) F dU_openDoor_14 rfl (by decide) (fun c14 => ?_) (fun c14 => ?_)
        · refine aw_iinc_3 (q := 29) F dU_openDoor_26 rfl trivial (by constructor <;> omega) ?_
          refine aw_goto (t := 4) F dU_openDoor_29 (by decide) ?_
          by_cases hb : o.testBit d = true
          · first
            | (rw [if_pos hb, if_neg (by omega), hf] at ef; exact ih _ (by omega) (d + 1) rfl (by omega) (l - 1) _ _ (by omega) (by omega) (by omega) ef.symm)
            | (rw [if_pos hb] at c14; exact absurd c14 (by decide))
          · first
            | (rw [if_neg hb, hf] at ef; exact ih _ (by omega) (d + 1) rfl (by omega) l _ _ hl hz (by omega) ef.symm)
            | (rw [if_neg hb] at c14; exact absurd rfl c14)
        · refine aw_iload_2 (q := 18) F dU_openDoor_17 rfl ?_
          refine aw_if_ne (q := 21) (t := 23) F dU_openDoor_18 rfl (by decide) (fun c18 => ?_) (fun c18 => ?_)
          · refine aw_iinc_2 (q := 26) F dU_openDoor_23 rfl trivial (by constructor <;> omega) ?_
            refine aw_iinc_3 (q := 29) F dU_openDoor_26 rfl trivial (by constructor <;> omega) ?_
            refine aw_goto (t := 4) F dU_openDoor_29 (by decide) ?_
            by_cases hb : o.testBit d = true
            · first
              | (rw [if_pos hb, if_neg (by omega), hf] at ef; exact ih _ (by omega) (d + 1) rfl (by omega) (l - 1) _ _ (by omega) (by omega) (by omega) ef.symm)
              | (rw [if_pos hb] at c14; exact absurd c14 (by decide))
            · first
              | (rw [if_neg hb, hf] at ef; exact ih _ (by omega) (d + 1) rfl (by omega) l _ _ hl hz (by omega) ef.symm)
              | (rw [if_neg hb] at c14; exact absurd rfl c14)
          · refine aw_iload_3 (q := 22) F dU_openDoor_21 rfl ?_
            refine aw_iret F C dU_openDoor_22 rfl (Nat.le_refl _) (Nat.le_refl _) ?_
            by_cases hb : o.testBit d = true
            · rw [if_pos hb, if_pos (by omega), hf] at ef; exact kI hK (by omega)
            · rw [if_neg hb] at c14; exact absurd rfl c14
  refine aw_iload_1 (q := 1) F dU_openDoor_0 rfl ?_
  refine aw_istore_2 (q := 2) F dU_openDoor_1 rfl trivial ?_
  refine aw_iconst (q := 3) F dU_openDoor_2 rfl (by decide) ?_
  refine aw_istore_3 (q := 4) F dU_openDoor_3 rfl trivial ?_
  exact loop _ 0 rfl (by omega) n _ _ hn hy rfl rfl
theorem wU_commonDivisor {x y : Int} {A B : Nat} (hx : x = A) (hy : y = B) (hA : A < 9223372036854775808) (hB : B < 9223372036854775808) (hK : K (some (vL (Nat.gcd A B))) (V, σ)) : Wp G 0 mU_commonDivisor [vL x, vL y] (V, σ) 0 0 K := by
  refine wp_intro mU_commonDivisor_i.1 [some (vL x), none, some (vL y), none, none, none, none, none, none, none, none] rfl rfl (Nat.le_of_ble_eq_true rfl) ?_
  intro X hG F C
  have hm := C.rm
  have loop : ∀ (j k : Nat), 200 - k = j → k ≤ 200 → ∀ (a b : Nat) (p q w : Int) (u1 u2 : Option AV), p = a → q = b → w = k → a < 9223372036854775808 → b < 9223372036854775808 → Nat.gcd a b = Nat.gcd A B → (k = 0 ∨ (b ≤ a ∧ a * b < 2 ^ (130 - k) ∧ (130 < k → b = 0))) → AW X 9 [some (vL x), none, some (vL y), none, some (vL p), none, some (vL q), none, some (vI w), u1, u2] [] (V, σ) 0 0 := by
    intro j
    induction j using Nat.strongRecOn with
    | ind j ih =>
      intro k hj hk a b p q w u1 u2 hp hq hw ha hb hg hm
      have hc0 : ycmp q 0 = 0 ↔ b = 0 := by
        unfold ycmp
        constructor
        · intro h; split at h
          · omega
          · split at h <;> omega
        · intro h; rw [show q = 0 by omega]; decide
      have e1 : b ≠ 0 → Nat.gcd b (a % b) = Nat.gcd A B := fun h => by rw [Nat.gcd_comm, ← hg, ← Nat.gcd_rec, Nat.gcd_comm]
      have em : b ≠ 0 → p % q = (a % b : Nat) := fun h => by rw [hp, hq]; simp
      have hml : b ≠ 0 → a % b < b := fun h => Nat.mod_lt a (by omega)
      have hst : b ≠ 0 → (b ≥ a % b ∧ b * (a % b) < 2 ^ (130 - (k + 1)) ∧ (130 < k + 1 → a % b = 0)) := fun h => by
        have h1 := hml h
        refine ⟨by omega, ?_, ?_⟩
        · rcases hm with h0 | ⟨h2, h3, h4⟩
          · subst h0
            have h5 : b * (a % b) ≤ 9223372036854775808 * 9223372036854775808 := Nat.mul_le_mul (by omega) (by omega)
            have h6 : 9223372036854775808 * 9223372036854775808 < 2 ^ (130 - (0 + 1)) := by decide
            omega
          · have hk130 : k ≤ 130 := by
              rcases Nat.lt_or_ge 130 k with q | q
              · exact absurd (h4 q) h
              · exact q
            have h5 := half_mod h2 (by omega)
            have h6 : b * (2 * (a % b)) ≤ b * a := Nat.mul_le_mul_left b h5
            have h7 : b * (2 * (a % b)) = 2 * (b * (a % b)) := by rw [Nat.mul_left_comm]
            rw [h7, Nat.mul_comm b a] at h6
            rcases Nat.lt_or_ge k 130 with q | q
            · rw [show 130 - k = (130 - (k + 1)) + 1 by omega, Nat.pow_succ] at h3
              omega
            · rw [show 130 - k = 0 by omega] at h3
              rw [show 130 - (k + 1) = 0 by omega]
              omega
        · intro hkk
          rcases hm with h0 | ⟨h2, h3, h4⟩
          · omega
          · have hk130 : k = 130 := by
              rcases Nat.lt_or_ge 130 k with q | q
              · exact absurd (h4 q) h
              · omega
            subst hk130
            have : 1 * 1 ≤ a * b := Nat.mul_le_mul (by omega) (by omega)
            have h8 : a * b < 1 := h3
            omega
      refine aw_iload_8 (q := 11) F dU_commonDivisor_9 rfl ?_
      refine aw_sipush (q := 14) F dU_commonDivisor_11 rfl (by decide) ?_
      refine aw_icmp_ge (q := 17) (t := 45) F dU_commonDivisor_14 rfl (by decide) (fun c14 => ?_) (fun c14 => ?_)
      · refine aw_lload_4 (q := 47) F dU_commonDivisor_45 rfl ?_
        refine aw_lret F C dU_commonDivisor_47 rfl (Nat.le_refl _) (Nat.le_refl _) ?_
        refine kL hK ?_
        have hb0 : b = 0 := by
          first
          | (rw [hc0] at c21; exact c21)
          | (rcases hm with h0 | ⟨h2, h3, h4⟩
             · omega
             · exact h4 (by omega))
        rw [hb0, Nat.gcd_zero_right] at hg
        rw [← hg, hp]
      · refine aw_lload_6 (q := 19) F dU_commonDivisor_17 rfl ?_
        refine aw_lconst (q := 20) (z := 0) F dU_commonDivisor_19 rfl rfl ?_
        refine aw_lcmp (q := 21) F dU_commonDivisor_20 rfl ?_
        refine aw_if_eq (q := 24) (t := 45) F dU_commonDivisor_21 rfl (by decide) (fun c21 => ?_) (fun c21 => ?_)
        · refine aw_lload_4 (q := 47) F dU_commonDivisor_45 rfl ?_
          refine aw_lret F C dU_commonDivisor_47 rfl (Nat.le_refl _) (Nat.le_refl _) ?_
          refine kL hK ?_
          have hb0 : b = 0 := by
            first
            | (rw [hc0] at c21; exact c21)
            | (rcases hm with h0 | ⟨h2, h3, h4⟩
               · omega
               · exact h4 (by omega))
          rw [hb0, Nat.gcd_zero_right] at hg
          rw [← hg, hp]
        · refine aw_lload_4 (q := 26) F dU_commonDivisor_24 rfl ?_
          refine aw_lload_6 (q := 28) F dU_commonDivisor_26 rfl ?_
          refine aw_lrem (q := 29) F dU_commonDivisor_28 rfl (by omega) (by omega) ?_
          rw [em (by rw [hc0] at c21; exact c21)]
          refine aw_lstore_9 (q := 31) F dU_commonDivisor_29 rfl trivial ?_
          refine aw_lload_6 (q := 33) F dU_commonDivisor_31 rfl ?_
          refine aw_lstore_4 (q := 35) F dU_commonDivisor_33 rfl trivial ?_
          refine aw_lload_9 (q := 37) F dU_commonDivisor_35 rfl ?_
          refine aw_lstore_6 (q := 39) F dU_commonDivisor_37 rfl trivial ?_
          refine aw_iinc_8 (q := 42) F dU_commonDivisor_39 rfl trivial (by constructor <;> omega) ?_
          refine aw_goto (t := 9) F dU_commonDivisor_42 (by decide) ?_
          rw [hc0] at c21; have hs := hst c21; exact ih _ (by omega) (k + 1) rfl (by omega) b (a % b) _ _ _ _ _ hq rfl (by omega) hb (Nat.lt_of_lt_of_le (hml c21) (by omega)) (e1 c21) (Or.inr hs)
  refine aw_lload_0 (q := 1) F dU_commonDivisor_0 rfl ?_
  refine aw_lstore_4 (q := 3) F dU_commonDivisor_1 rfl trivial ?_
  refine aw_lload_2 (q := 4) F dU_commonDivisor_3 rfl ?_
  refine aw_lstore_6 (q := 6) F dU_commonDivisor_4 rfl trivial ?_
  refine aw_iconst (q := 7) F dU_commonDivisor_6 rfl (by decide) ?_
  refine aw_istore_8 (q := 9) F dU_commonDivisor_7 rfl trivial ?_
  exact loop _ 0 rfl (by omega) A B _ _ _ none none hx hy rfl hA hB rfl (Or.inl rfl)
end Gusts1
