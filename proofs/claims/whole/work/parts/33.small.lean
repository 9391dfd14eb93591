theorem dL_refuse_0 : decode mL_refuse.2.1 0 = .ok (.aload_n 0, 1) := by decide +kernel
theorem dL_refuse_1 : decode mL_refuse.2.1 1 = .ok (.iload_n 1, 1) := by decide +kernel
theorem dL_refuse_2 : decode mL_refuse.2.1 2 = .ok (.putfield 99, 3) := by decide +kernel
theorem dL_refuse_5 : decode mL_refuse.2.1 5 = .ok (.iconst (-1), 1) := by decide +kernel
theorem dL_refuse_6 : decode mL_refuse.2.1 6 = .ok (.ireturn, 1) := by decide +kernel
theorem dL_passes_0 : decode mL_passes.2.1 0 = .ok (.aload_n 0, 1) := by decide +kernel
theorem dL_passes_1 : decode mL_passes.2.1 1 = .ok (.iload_n 1, 1) := by decide +kernel
theorem dL_passes_2 : decode mL_passes.2.1 2 = .ok (.ifCond .ne 7, 3) := by decide +kernel
theorem dL_passes_5 : decode mL_passes.2.1 5 = .ok (.iconst 1, 1) := by decide +kernel
theorem dL_passes_6 : decode mL_passes.2.1 6 = .ok (.goto 12, 3) := by decide +kernel
theorem dL_passes_9 : decode mL_passes.2.1 9 = .ok (.iload_n 2, 1) := by decide +kernel
theorem dL_passes_10 : decode mL_passes.2.1 10 = .ok (.ifCond .ne 7, 3) := by decide +kernel
theorem dL_passes_13 : decode mL_passes.2.1 13 = .ok (.iconst 2, 1) := by decide +kernel
theorem dL_passes_14 : decode mL_passes.2.1 14 = .ok (.goto 4, 3) := by decide +kernel
theorem dL_passes_17 : decode mL_passes.2.1 17 = .ok (.iconst 0, 1) := by decide +kernel
theorem dL_passes_18 : decode mL_passes.2.1 18 = .ok (.putfield 99, 3) := by decide +kernel
theorem dL_passes_21 : decode mL_passes.2.1 21 = .ok (.aload_n 0, 1) := by decide +kernel
theorem dL_passes_22 : decode mL_passes.2.1 22 = .ok (.getfield 99, 3) := by decide +kernel
theorem dL_passes_25 : decode mL_passes.2.1 25 = .ok (.ifCond .ne 7, 3) := by decide +kernel
theorem dL_passes_28 : decode mL_passes.2.1 28 = .ok (.iconst 1, 1) := by decide +kernel
theorem dL_passes_29 : decode mL_passes.2.1 29 = .ok (.goto 4, 3) := by decide +kernel
theorem dL_passes_32 : decode mL_passes.2.1 32 = .ok (.iconst 0, 1) := by decide +kernel
theorem dL_passes_33 : decode mL_passes.2.1 33 = .ok (.ireturn, 1) := by decide +kernel
theorem dL_mayAct_0 : decode mL_mayAct.2.1 0 = .ok (.aload_n 0, 1) := by decide +kernel
theorem dL_mayAct_1 : decode mL_mayAct.2.1 1 = .ok (.iload_n 1, 1) := by decide +kernel
theorem dL_mayAct_2 : decode mL_mayAct.2.1 2 = .ok (.ifCond .ne 7, 3) := by decide +kernel
theorem dL_mayAct_5 : decode mL_mayAct.2.1 5 = .ok (.iconst 1, 1) := by decide +kernel
theorem dL_mayAct_6 : decode mL_mayAct.2.1 6 = .ok (.goto 21, 3) := by decide +kernel
theorem dL_mayAct_9 : decode mL_mayAct.2.1 9 = .ok (.iload_n 2, 1) := by decide +kernel
theorem dL_mayAct_10 : decode mL_mayAct.2.1 10 = .ok (.ifCond .ne 7, 3) := by decide +kernel
theorem dL_mayAct_13 : decode mL_mayAct.2.1 13 = .ok (.iconst 5, 1) := by decide +kernel
theorem dL_mayAct_14 : decode mL_mayAct.2.1 14 = .ok (.goto 13, 3) := by decide +kernel
theorem dL_mayAct_17 : decode mL_mayAct.2.1 17 = .ok (.iload_n 3, 1) := by decide +kernel
theorem dL_mayAct_18 : decode mL_mayAct.2.1 18 = .ok (.ifCond .ne 8, 3) := by decide +kernel
theorem dL_mayAct_21 : decode mL_mayAct.2.1 21 = .ok (.bipush 6, 2) := by decide +kernel
theorem dL_mayAct_23 : decode mL_mayAct.2.1 23 = .ok (.goto 4, 3) := by decide +kernel
theorem dL_mayAct_26 : decode mL_mayAct.2.1 26 = .ok (.iconst 0, 1) := by decide +kernel
theorem dL_mayAct_27 : decode mL_mayAct.2.1 27 = .ok (.putfield 99, 3) := by decide +kernel
theorem dL_mayAct_30 : decode mL_mayAct.2.1 30 = .ok (.aload_n 0, 1) := by decide +kernel
theorem dL_mayAct_31 : decode mL_mayAct.2.1 31 = .ok (.getfield 99, 3) := by decide +kernel
theorem dL_mayAct_34 : decode mL_mayAct.2.1 34 = .ok (.ifCond .ne 7, 3) := by decide +kernel
theorem dL_mayAct_37 : decode mL_mayAct.2.1 37 = .ok (.iconst 1, 1) := by decide +kernel
theorem dL_mayAct_38 : decode mL_mayAct.2.1 38 = .ok (.goto 4, 3) := by decide +kernel
theorem dL_mayAct_41 : decode mL_mayAct.2.1 41 = .ok (.iconst 0, 1) := by decide +kernel
theorem dL_mayAct_42 : decode mL_mayAct.2.1 42 = .ok (.ireturn, 1) := by decide +kernel
theorem dL_hasLane_0 : decode mL_hasLane.2.1 0 = .ok (.aload_n 0, 1) := by decide +kernel
theorem dL_hasLane_1 : decode mL_hasLane.2.1 1 = .ok (.getfield 16, 3) := by decide +kernel
theorem dL_hasLane_4 : decode mL_hasLane.2.1 4 = .ok (.getfield 107, 3) := by decide +kernel
theorem dL_hasLane_7 : decode mL_hasLane.2.1 7 = .ok (.ifCond .le 7, 3) := by decide +kernel
theorem dL_hasLane_10 : decode mL_hasLane.2.1 10 = .ok (.iconst 1, 1) := by decide +kernel
theorem dL_hasLane_11 : decode mL_hasLane.2.1 11 = .ok (.goto 4, 3) := by decide +kernel
theorem dL_hasLane_14 : decode mL_hasLane.2.1 14 = .ok (.iconst 0, 1) := by decide +kernel
theorem dL_hasLane_15 : decode mL_hasLane.2.1 15 = .ok (.ireturn, 1) := by decide +kernel
theorem dL_isContest_0 : decode mL_isContest.2.1 0 = .ok (.aload_n 0, 1) := by decide +kernel
theorem dL_isContest_1 : decode mL_isContest.2.1 1 = .ok (.getfield 23, 3) := by decide +kernel
theorem dL_isContest_4 : decode mL_isContest.2.1 4 = .ok (.iload_n 1, 1) := by decide +kernel
theorem dL_isContest_5 : decode mL_isContest.2.1 5 = .ok (.invokevirtual 136, 3) := by decide +kernel
theorem dL_isContest_8 : decode mL_isContest.2.1 8 = .ok (.ifCond .eq 29, 3) := by decide +kernel
theorem dL_isContest_11 : decode mL_isContest.2.1 11 = .ok (.aload_n 0, 1) := by decide +kernel
theorem dL_isContest_12 : decode mL_isContest.2.1 12 = .ok (.getfield 23, 3) := by decide +kernel
theorem dL_isContest_15 : decode mL_isContest.2.1 15 = .ok (.iload_n 2, 1) := by decide +kernel
theorem dL_isContest_16 : decode mL_isContest.2.1 16 = .ok (.invokevirtual 110, 3) := by decide +kernel
theorem dL_isContest_19 : decode mL_isContest.2.1 19 = .ok (.ifCond .eq 18, 3) := by decide +kernel
theorem dL_isContest_22 : decode mL_isContest.2.1 22 = .ok (.aload_n 0, 1) := by decide +kernel
theorem dL_isContest_23 : decode mL_isContest.2.1 23 = .ok (.getfield 16, 3) := by decide +kernel
theorem dL_isContest_26 : decode mL_isContest.2.1 26 = .ok (.getfield 369, 3) := by decide +kernel
theorem dL_isContest_29 : decode mL_isContest.2.1 29 = .ok (.iconst 2, 1) := by decide +kernel
theorem dL_isContest_30 : decode mL_isContest.2.1 30 = .ok (.if_icmp .ne 7, 3) := by decide +kernel
theorem dL_isContest_33 : decode mL_isContest.2.1 33 = .ok (.iconst 1, 1) := by decide +kernel
theorem dL_isContest_34 : decode mL_isContest.2.1 34 = .ok (.goto 4, 3) := by decide +kernel
theorem dL_isContest_37 : decode mL_isContest.2.1 37 = .ok (.iconst 0, 1) := by decide +kernel
theorem dL_isContest_38 : decode mL_isContest.2.1 38 = .ok (.ireturn, 1) := by decide +kernel
theorem dL_isErrand_0 : decode mL_isErrand.2.1 0 = .ok (.iload_n 0, 1) := by decide +kernel
theorem dL_isErrand_1 : decode mL_isErrand.2.1 1 = .ok (.ifCond .lt 12, 3) := by decide +kernel
theorem dL_isErrand_4 : decode mL_isErrand.2.1 4 = .ok (.iload_n 0, 1) := by decide +kernel
theorem dL_isErrand_5 : decode mL_isErrand.2.1 5 = .ok (.iconst 2, 1) := by decide +kernel
theorem dL_isErrand_6 : decode mL_isErrand.2.1 6 = .ok (.if_icmp .gt 7, 3) := by decide +kernel
theorem dL_isErrand_9 : decode mL_isErrand.2.1 9 = .ok (.iconst 1, 1) := by decide +kernel
theorem dL_isErrand_10 : decode mL_isErrand.2.1 10 = .ok (.goto 4, 3) := by decide +kernel
theorem dL_isErrand_13 : decode mL_isErrand.2.1 13 = .ok (.iconst 0, 1) := by decide +kernel
theorem dL_isErrand_14 : decode mL_isErrand.2.1 14 = .ok (.ireturn, 1) := by decide +kernel
theorem dL_isRow_0 : decode mL_isRow.2.1 0 = .ok (.iload_n 0, 1) := by decide +kernel
theorem dL_isRow_1 : decode mL_isRow.2.1 1 = .ok (.ifCond .lt 13, 3) := by decide +kernel
theorem dL_isRow_4 : decode mL_isRow.2.1 4 = .ok (.iload_n 0, 1) := by decide +kernel
theorem dL_isRow_5 : decode mL_isRow.2.1 5 = .ok (.bipush 6, 2) := by decide +kernel
theorem dL_isRow_7 : decode mL_isRow.2.1 7 = .ok (.if_icmp .gt 7, 3) := by decide +kernel
theorem dL_isRow_10 : decode mL_isRow.2.1 10 = .ok (.iconst 1, 1) := by decide +kernel
theorem dL_isRow_11 : decode mL_isRow.2.1 11 = .ok (.goto 4, 3) := by decide +kernel
theorem dL_isRow_14 : decode mL_isRow.2.1 14 = .ok (.iconst 0, 1) := by decide +kernel
theorem dL_isRow_15 : decode mL_isRow.2.1 15 = .ok (.ireturn, 1) := by decide +kernel
theorem dL_isDraw_0 : decode mL_isDraw.2.1 0 = .ok (.iload_n 0, 1) := by decide +kernel
theorem dL_isDraw_1 : decode mL_isDraw.2.1 1 = .ok (.ifCond .lt 24, 3) := by decide +kernel
theorem dL_isDraw_4 : decode mL_isDraw.2.1 4 = .ok (.iload_n 0, 1) := by decide +kernel
theorem dL_isDraw_5 : decode mL_isDraw.2.1 5 = .ok (.ldc_w 382, 3) := by decide +kernel
theorem dL_isDraw_8 : decode mL_isDraw.2.1 8 = .ok (.if_icmp .ge 17, 3) := by decide +kernel
theorem dL_isDraw_11 : decode mL_isDraw.2.1 11 = .ok (.iload_n 1, 1) := by decide +kernel
theorem dL_isDraw_12 : decode mL_isDraw.2.1 12 = .ok (.ifCond .lt 13, 3) := by decide +kernel
theorem dL_isDraw_15 : decode mL_isDraw.2.1 15 = .ok (.iload_n 1, 1) := by decide +kernel
theorem dL_isDraw_16 : decode mL_isDraw.2.1 16 = .ok (.bipush 60, 2) := by decide +kernel
theorem dL_isDraw_18 : decode mL_isDraw.2.1 18 = .ok (.if_icmp .gt 7, 3) := by decide +kernel
theorem dL_isDraw_21 : decode mL_isDraw.2.1 21 = .ok (.iconst 1, 1) := by decide +kernel
theorem dL_isDraw_22 : decode mL_isDraw.2.1 22 = .ok (.goto 4, 3) := by decide +kernel
theorem dL_isDraw_25 : decode mL_isDraw.2.1 25 = .ok (.iconst 0, 1) := by decide +kernel
theorem dL_isDraw_26 : decode mL_isDraw.2.1 26 = .ok (.ireturn, 1) := by decide +kernel
theorem dL_isDraught_0 : decode mL_isDraught.2.1 0 = .ok (.iload_n 0, 1) := by decide +kernel
theorem dL_isDraught_1 : decode mL_isDraught.2.1 1 = .ok (.ifCond .lt 13, 3) := by decide +kernel
theorem dL_isDraught_4 : decode mL_isDraught.2.1 4 = .ok (.iload_n 0, 1) := by decide +kernel
theorem dL_isDraught_5 : decode mL_isDraught.2.1 5 = .ok (.bipush 9, 2) := by decide +kernel
theorem dL_isDraught_7 : decode mL_isDraught.2.1 7 = .ok (.if_icmp .gt 7, 3) := by decide +kernel
theorem dL_isDraught_10 : decode mL_isDraught.2.1 10 = .ok (.iconst 1, 1) := by decide +kernel
theorem dL_isDraught_11 : decode mL_isDraught.2.1 11 = .ok (.goto 4, 3) := by decide +kernel
theorem dL_isDraught_14 : decode mL_isDraught.2.1 14 = .ok (.iconst 0, 1) := by decide +kernel
theorem dL_isDraught_15 : decode mL_isDraught.2.1 15 = .ok (.ireturn, 1) := by decide +kernel
theorem dL_isTimes_0 : decode mL_isTimes.2.1 0 = .ok (.iload_n 0, 1) := by decide +kernel
theorem dL_isTimes_1 : decode mL_isTimes.2.1 1 = .ok (.ifCond .lt 12, 3) := by decide +kernel
theorem dL_isTimes_4 : decode mL_isTimes.2.1 4 = .ok (.iload_n 0, 1) := by decide +kernel
theorem dL_isTimes_5 : decode mL_isTimes.2.1 5 = .ok (.iconst 3, 1) := by decide +kernel
theorem dL_isTimes_6 : decode mL_isTimes.2.1 6 = .ok (.if_icmp .gt 7, 3) := by decide +kernel
theorem dL_isTimes_9 : decode mL_isTimes.2.1 9 = .ok (.iconst 1, 1) := by decide +kernel
theorem dL_isTimes_10 : decode mL_isTimes.2.1 10 = .ok (.goto 4, 3) := by decide +kernel
theorem dL_isTimes_13 : decode mL_isTimes.2.1 13 = .ok (.iconst 0, 1) := by decide +kernel
theorem dL_isTimes_14 : decode mL_isTimes.2.1 14 = .ok (.ireturn, 1) := by decide +kernel
theorem dL_fault_0 : decode mL_fault.2.1 0 = .ok (.aload_n 0, 1) := by decide +kernel
theorem dL_fault_1 : decode mL_fault.2.1 1 = .ok (.getfield 92, 3) := by decide +kernel
theorem dL_fault_4 : decode mL_fault.2.1 4 = .ok (.ireturn, 1) := by decide +kernel
theorem dL_where_0 : decode mL_where.2.1 0 = .ok (.aload_n 0, 1) := by decide +kernel
theorem dL_where_1 : decode mL_where.2.1 1 = .ok (.getfield 99, 3) := by decide +kernel
theorem dL_where_4 : decode mL_where.2.1 4 = .ok (.iconst 4, 1) := by decide +kernel
theorem dL_where_5 : decode mL_where.2.1 5 = .ok (.if_icmp .ne 10, 3) := by decide +kernel
theorem dL_where_8 : decode mL_where.2.1 8 = .ok (.aload_n 0, 1) := by decide +kernel
theorem dL_where_9 : decode mL_where.2.1 9 = .ok (.getfield 96, 3) := by decide +kernel
theorem dL_where_12 : decode mL_where.2.1 12 = .ok (.goto 4, 3) := by decide +kernel
theorem dL_where_15 : decode mL_where.2.1 15 = .ok (.iconst (-1), 1) := by decide +kernel
theorem dL_where_16 : decode mL_where.2.1 16 = .ok (.ireturn, 1) := by decide +kernel
theorem dL_trouble_0 : decode mL_trouble.2.1 0 = .ok (.aload_n 0, 1) := by decide +kernel
theorem dL_trouble_1 : decode mL_trouble.2.1 1 = .ok (.getfield 99, 3) := by decide +kernel
theorem dL_trouble_4 : decode mL_trouble.2.1 4 = .ok (.ireturn, 1) := by decide +kernel
theorem dL_last_0 : decode mL_last.2.1 0 = .ok (.aload_n 0, 1) := by decide +kernel
theorem dL_last_1 : decode mL_last.2.1 1 = .ok (.aload_n 0, 1) := by decide +kernel
theorem dL_last_2 : decode mL_last.2.1 2 = .ok (.invokevirtual 154, 3) := by decide +kernel
theorem dL_last_5 : decode mL_last.2.1 5 = .ok (.iconst 1, 1) := by decide +kernel
theorem dL_last_6 : decode mL_last.2.1 6 = .ok (.invokevirtual 114, 3) := by decide +kernel
theorem dL_last_9 : decode mL_last.2.1 9 = .ok (.ifCond .eq 13, 3) := by decide +kernel
theorem dL_last_12 : decode mL_last.2.1 12 = .ok (.aload_n 0, 1) := by decide +kernel
theorem dL_last_13 : decode mL_last.2.1 13 = .ok (.getfield 23, 3) := by decide +kernel
theorem dL_last_16 : decode mL_last.2.1 16 = .ok (.getfield 133, 3) := by decide +kernel
theorem dL_last_19 : decode mL_last.2.1 19 = .ok (.goto 4, 3) := by decide +kernel
theorem dL_last_22 : decode mL_last.2.1 22 = .ok (.iconst (-1), 1) := by decide +kernel
theorem dL_last_23 : decode mL_last.2.1 23 = .ok (.ireturn, 1) := by decide +kernel
theorem dL_choices_0 : decode mL_choices.2.1 0 = .ok (.aload_n 0, 1) := by decide +kernel
theorem dL_choices_1 : decode mL_choices.2.1 1 = .ok (.aload_n 0, 1) := by decide +kernel
theorem dL_choices_2 : decode mL_choices.2.1 2 = .ok (.invokevirtual 154, 3) := by decide +kernel
theorem dL_choices_5 : decode mL_choices.2.1 5 = .ok (.iconst 1, 1) := by decide +kernel
theorem dL_choices_6 : decode mL_choices.2.1 6 = .ok (.invokevirtual 114, 3) := by decide +kernel
theorem dL_choices_9 : decode mL_choices.2.1 9 = .ok (.ifCond .eq 13, 3) := by decide +kernel
theorem dL_choices_12 : decode mL_choices.2.1 12 = .ok (.aload_n 0, 1) := by decide +kernel
theorem dL_choices_13 : decode mL_choices.2.1 13 = .ok (.getfield 23, 3) := by decide +kernel
theorem dL_choices_16 : decode mL_choices.2.1 16 = .ok (.invokevirtual 168, 3) := by decide +kernel
theorem dL_choices_19 : decode mL_choices.2.1 19 = .ok (.goto 4, 3) := by decide +kernel
theorem dL_choices_22 : decode mL_choices.2.1 22 = .ok (.iconst (-1), 1) := by decide +kernel
theorem dL_choices_23 : decode mL_choices.2.1 23 = .ok (.ireturn, 1) := by decide +kernel
theorem dL_seen_0 : decode mL_seen.2.1 0 = .ok (.aload_n 0, 1) := by decide +kernel
theorem dL_seen_1 : decode mL_seen.2.1 1 = .ok (.aload_n 0, 1) := by decide +kernel
theorem dL_seen_2 : decode mL_seen.2.1 2 = .ok (.invokevirtual 154, 3) := by decide +kernel
theorem dL_seen_5 : decode mL_seen.2.1 5 = .ok (.iconst 1, 1) := by decide +kernel
theorem dL_seen_6 : decode mL_seen.2.1 6 = .ok (.invokevirtual 114, 3) := by decide +kernel
theorem dL_seen_9 : decode mL_seen.2.1 9 = .ok (.ifCond .eq 13, 3) := by decide +kernel
theorem dL_seen_12 : decode mL_seen.2.1 12 = .ok (.aload_n 0, 1) := by decide +kernel
theorem dL_seen_13 : decode mL_seen.2.1 13 = .ok (.getfield 23, 3) := by decide +kernel
theorem dL_seen_16 : decode mL_seen.2.1 16 = .ok (.invokevirtual 171, 3) := by decide +kernel
theorem dL_seen_19 : decode mL_seen.2.1 19 = .ok (.goto 4, 3) := by decide +kernel
theorem dL_seen_22 : decode mL_seen.2.1 22 = .ok (.iconst (-1), 1) := by decide +kernel
theorem dL_seen_23 : decode mL_seen.2.1 23 = .ok (.ireturn, 1) := by decide +kernel
theorem dL_shutIn_0 : decode mL_shutIn.2.1 0 = .ok (.aload_n 0, 1) := by decide +kernel
theorem dL_shutIn_1 : decode mL_shutIn.2.1 1 = .ok (.aload_n 0, 1) := by decide +kernel
theorem dL_shutIn_2 : decode mL_shutIn.2.1 2 = .ok (.invokevirtual 154, 3) := by decide +kernel
theorem dL_shutIn_5 : decode mL_shutIn.2.1 5 = .ok (.iconst 1, 1) := by decide +kernel
theorem dL_shutIn_6 : decode mL_shutIn.2.1 6 = .ok (.invokevirtual 114, 3) := by decide +kernel
theorem dL_shutIn_9 : decode mL_shutIn.2.1 9 = .ok (.ifCond .eq 13, 3) := by decide +kernel
theorem dL_shutIn_12 : decode mL_shutIn.2.1 12 = .ok (.aload_n 0, 1) := by decide +kernel
theorem dL_shutIn_13 : decode mL_shutIn.2.1 13 = .ok (.getfield 23, 3) := by decide +kernel
theorem dL_shutIn_16 : decode mL_shutIn.2.1 16 = .ok (.invokevirtual 174, 3) := by decide +kernel
theorem dL_shutIn_19 : decode mL_shutIn.2.1 19 = .ok (.goto 4, 3) := by decide +kernel
theorem dL_shutIn_22 : decode mL_shutIn.2.1 22 = .ok (.iconst (-1), 1) := by decide +kernel
theorem dL_shutIn_23 : decode mL_shutIn.2.1 23 = .ok (.ireturn, 1) := by decide +kernel
theorem dL_can_0 : decode mL_can.2.1 0 = .ok (.aload_n 0, 1) := by decide +kernel
theorem dL_can_1 : decode mL_can.2.1 1 = .ok (.aload_n 0, 1) := by decide +kernel
theorem dL_can_2 : decode mL_can.2.1 2 = .ok (.getfield 23, 3) := by decide +kernel
theorem dL_can_5 : decode mL_can.2.1 5 = .ok (.iload_n 1, 1) := by decide +kernel
theorem dL_can_6 : decode mL_can.2.1 6 = .ok (.invokevirtual 157, 3) := by decide +kernel
theorem dL_can_9 : decode mL_can.2.1 9 = .ok (.iconst 1, 1) := by decide +kernel
theorem dL_can_10 : decode mL_can.2.1 10 = .ok (.invokevirtual 114, 3) := by decide +kernel
theorem dL_can_13 : decode mL_can.2.1 13 = .ok (.ifCond .ne 5, 3) := by decide +kernel
theorem dL_can_16 : decode mL_can.2.1 16 = .ok (.iconst (-1), 1) := by decide +kernel
theorem dL_can_17 : decode mL_can.2.1 17 = .ok (.ireturn, 1) := by decide +kernel
theorem dL_can_18 : decode mL_can.2.1 18 = .ok (.aload_n 0, 1) := by decide +kernel
theorem dL_can_19 : decode mL_can.2.1 19 = .ok (.getfield 23, 3) := by decide +kernel
theorem dL_can_22 : decode mL_can.2.1 22 = .ok (.iload_n 1, 1) := by decide +kernel
theorem dL_can_23 : decode mL_can.2.1 23 = .ok (.aload_n 0, 1) := by decide +kernel
theorem dL_can_24 : decode mL_can.2.1 24 = .ok (.getfield 23, 3) := by decide +kernel
theorem dL_can_27 : decode mL_can.2.1 27 = .ok (.invokevirtual 160, 3) := by decide +kernel
theorem dL_can_30 : decode mL_can.2.1 30 = .ok (.invokevirtual 164, 3) := by decide +kernel
theorem dL_can_33 : decode mL_can.2.1 33 = .ok (.ifCond .eq 7, 3) := by decide +kernel
theorem dL_can_36 : decode mL_can.2.1 36 = .ok (.iconst 1, 1) := by decide +kernel
theorem dL_can_37 : decode mL_can.2.1 37 = .ok (.goto 4, 3) := by decide +kernel
theorem dL_can_40 : decode mL_can.2.1 40 = .ok (.iconst 0, 1) := by decide +kernel
theorem dL_can_41 : decode mL_can.2.1 41 = .ok (.ireturn, 1) := by decide +kernel
theorem dL_door_0 : decode mL_door.2.1 0 = .ok (.aload_n 0, 1) := by decide +kernel
theorem dL_door_1 : decode mL_door.2.1 1 = .ok (.aload_n 0, 1) := by decide +kernel
theorem dL_door_2 : decode mL_door.2.1 2 = .ok (.getfield 23, 3) := by decide +kernel
theorem dL_door_5 : decode mL_door.2.1 5 = .ok (.iload_n 1, 1) := by decide +kernel
theorem dL_door_6 : decode mL_door.2.1 6 = .ok (.invokevirtual 110, 3) := by decide +kernel
theorem dL_door_9 : decode mL_door.2.1 9 = .ok (.ifCond .eq 16, 3) := by decide +kernel
theorem dL_door_12 : decode mL_door.2.1 12 = .ok (.iload_n 2, 1) := by decide +kernel
theorem dL_door_13 : decode mL_door.2.1 13 = .ok (.ifCond .lt 12, 3) := by decide +kernel
theorem dL_door_16 : decode mL_door.2.1 16 = .ok (.iload_n 2, 1) := by decide +kernel
theorem dL_door_17 : decode mL_door.2.1 17 = .ok (.iconst 5, 1) := by decide +kernel
theorem dL_door_18 : decode mL_door.2.1 18 = .ok (.if_icmp .gt 7, 3) := by decide +kernel
theorem dL_door_21 : decode mL_door.2.1 21 = .ok (.iconst 1, 1) := by decide +kernel
theorem dL_door_22 : decode mL_door.2.1 22 = .ok (.goto 4, 3) := by decide +kernel
theorem dL_door_25 : decode mL_door.2.1 25 = .ok (.iconst 0, 1) := by decide +kernel
theorem dL_door_26 : decode mL_door.2.1 26 = .ok (.iconst 1, 1) := by decide +kernel
theorem dL_door_27 : decode mL_door.2.1 27 = .ok (.invokevirtual 114, 3) := by decide +kernel
theorem dL_door_30 : decode mL_door.2.1 30 = .ok (.ifCond .ne 5, 3) := by decide +kernel
theorem dL_door_33 : decode mL_door.2.1 33 = .ok (.iconst (-1), 1) := by decide +kernel
theorem dL_door_34 : decode mL_door.2.1 34 = .ok (.ireturn, 1) := by decide +kernel
theorem dL_door_35 : decode mL_door.2.1 35 = .ok (.iload_n 2, 1) := by decide +kernel
theorem dL_door_36 : decode mL_door.2.1 36 = .ok (.tableswitch 89 0 4 #[36, 45, 54, 66, 78], 36) := by decide +kernel
theorem dL_door_72 : decode mL_door.2.1 72 = .ok (.aload_n 0, 1) := by decide +kernel
theorem dL_door_73 : decode mL_door.2.1 73 = .ok (.getfield 23, 3) := by decide +kernel
theorem dL_door_76 : decode mL_door.2.1 76 = .ok (.iload_n 1, 1) := by decide +kernel
theorem dL_door_77 : decode mL_door.2.1 77 = .ok (.invokevirtual 118, 3) := by decide +kernel
theorem dL_door_80 : decode mL_door.2.1 80 = .ok (.ireturn, 1) := by decide +kernel
theorem dL_door_81 : decode mL_door.2.1 81 = .ok (.aload_n 0, 1) := by decide +kernel
theorem dL_door_82 : decode mL_door.2.1 82 = .ok (.getfield 23, 3) := by decide +kernel
theorem dL_door_85 : decode mL_door.2.1 85 = .ok (.iload_n 1, 1) := by decide +kernel
theorem dL_door_86 : decode mL_door.2.1 86 = .ok (.invokevirtual 121, 3) := by decide +kernel
theorem dL_door_89 : decode mL_door.2.1 89 = .ok (.ireturn, 1) := by decide +kernel
theorem dL_door_90 : decode mL_door.2.1 90 = .ok (.aload_n 0, 1) := by decide +kernel
theorem dL_door_91 : decode mL_door.2.1 91 = .ok (.getfield 16, 3) := by decide +kernel
theorem dL_door_94 : decode mL_door.2.1 94 = .ok (.getfield 124, 3) := by decide +kernel
theorem dL_door_97 : decode mL_door.2.1 97 = .ok (.iload_n 1, 1) := by decide +kernel
theorem dL_door_98 : decode mL_door.2.1 98 = .ok (.ishr, 1) := by decide +kernel
theorem dL_door_99 : decode mL_door.2.1 99 = .ok (.iconst 1, 1) := by decide +kernel
theorem dL_door_100 : decode mL_door.2.1 100 = .ok (.iand, 1) := by decide +kernel
theorem dL_door_101 : decode mL_door.2.1 101 = .ok (.ireturn, 1) := by decide +kernel
theorem dL_door_102 : decode mL_door.2.1 102 = .ok (.aload_n 0, 1) := by decide +kernel
theorem dL_door_103 : decode mL_door.2.1 103 = .ok (.getfield 23, 3) := by decide +kernel
theorem dL_door_106 : decode mL_door.2.1 106 = .ok (.getfield 127, 3) := by decide +kernel
theorem dL_door_109 : decode mL_door.2.1 109 = .ok (.iload_n 1, 1) := by decide +kernel
theorem dL_door_110 : decode mL_door.2.1 110 = .ok (.ishr, 1) := by decide +kernel
theorem dL_door_111 : decode mL_door.2.1 111 = .ok (.iconst 1, 1) := by decide +kernel
theorem dL_door_112 : decode mL_door.2.1 112 = .ok (.iand, 1) := by decide +kernel
theorem dL_door_113 : decode mL_door.2.1 113 = .ok (.ireturn, 1) := by decide +kernel
theorem dL_door_114 : decode mL_door.2.1 114 = .ok (.aload_n 0, 1) := by decide +kernel
theorem dL_door_115 : decode mL_door.2.1 115 = .ok (.getfield 23, 3) := by decide +kernel
theorem dL_door_118 : decode mL_door.2.1 118 = .ok (.iload_n 1, 1) := by decide +kernel
theorem dL_door_119 : decode mL_door.2.1 119 = .ok (.iconst 1, 1) := by decide +kernel
theorem dL_door_120 : decode mL_door.2.1 120 = .ok (.iadd, 1) := by decide +kernel
theorem dL_door_121 : decode mL_door.2.1 121 = .ok (.invokevirtual 130, 3) := by decide +kernel
theorem dL_door_124 : decode mL_door.2.1 124 = .ok (.ireturn, 1) := by decide +kernel
theorem dL_door_125 : decode mL_door.2.1 125 = .ok (.aload_n 0, 1) := by decide +kernel
theorem dL_door_126 : decode mL_door.2.1 126 = .ok (.getfield 23, 3) := by decide +kernel
theorem dL_door_129 : decode mL_door.2.1 129 = .ok (.getfield 133, 3) := by decide +kernel
theorem dL_door_132 : decode mL_door.2.1 132 = .ok (.iload_n 1, 1) := by decide +kernel
theorem dL_door_133 : decode mL_door.2.1 133 = .ok (.if_icmp .ne 7, 3) := by decide +kernel
theorem dL_door_136 : decode mL_door.2.1 136 = .ok (.iconst 1, 1) := by decide +kernel
theorem dL_door_137 : decode mL_door.2.1 137 = .ok (.goto 4, 3) := by decide +kernel
theorem dL_door_140 : decode mL_door.2.1 140 = .ok (.iconst 0, 1) := by decide +kernel
theorem dL_door_141 : decode mL_door.2.1 141 = .ok (.ireturn, 1) := by decide +kernel
theorem dL_person_0 : decode mL_person.2.1 0 = .ok (.aload_n 0, 1) := by decide +kernel
theorem dL_person_1 : decode mL_person.2.1 1 = .ok (.aload_n 0, 1) := by decide +kernel
theorem dL_person_2 : decode mL_person.2.1 2 = .ok (.getfield 23, 3) := by decide +kernel
theorem dL_person_5 : decode mL_person.2.1 5 = .ok (.iload_n 1, 1) := by decide +kernel
theorem dL_person_6 : decode mL_person.2.1 6 = .ok (.invokevirtual 136, 3) := by decide +kernel
theorem dL_person_9 : decode mL_person.2.1 9 = .ok (.ifCond .eq 16, 3) := by decide +kernel
theorem dL_person_12 : decode mL_person.2.1 12 = .ok (.iload_n 2, 1) := by decide +kernel
theorem dL_person_13 : decode mL_person.2.1 13 = .ok (.ifCond .lt 12, 3) := by decide +kernel
theorem dL_person_16 : decode mL_person.2.1 16 = .ok (.iload_n 2, 1) := by decide +kernel
theorem dL_person_17 : decode mL_person.2.1 17 = .ok (.iconst 4, 1) := by decide +kernel
theorem dL_person_18 : decode mL_person.2.1 18 = .ok (.if_icmp .gt 7, 3) := by decide +kernel
theorem dL_person_21 : decode mL_person.2.1 21 = .ok (.iconst 1, 1) := by decide +kernel
theorem dL_person_22 : decode mL_person.2.1 22 = .ok (.goto 4, 3) := by decide +kernel
theorem dL_person_25 : decode mL_person.2.1 25 = .ok (.iconst 0, 1) := by decide +kernel
theorem dL_person_26 : decode mL_person.2.1 26 = .ok (.iconst 1, 1) := by decide +kernel
theorem dL_person_27 : decode mL_person.2.1 27 = .ok (.invokevirtual 114, 3) := by decide +kernel
theorem dL_person_30 : decode mL_person.2.1 30 = .ok (.ifCond .ne 5, 3) := by decide +kernel
theorem dL_person_33 : decode mL_person.2.1 33 = .ok (.iconst (-1), 1) := by decide +kernel
theorem dL_person_34 : decode mL_person.2.1 34 = .ok (.ireturn, 1) := by decide +kernel
theorem dL_person_35 : decode mL_person.2.1 35 = .ok (.iload_n 2, 1) := by decide +kernel
theorem dL_person_36 : decode mL_person.2.1 36 = .ok (.tableswitch 73 0 3 #[32, 41, 53, 63], 32) := by decide +kernel
theorem dL_person_68 : decode mL_person.2.1 68 = .ok (.aload_n 0, 1) := by decide +kernel
theorem dL_person_69 : decode mL_person.2.1 69 = .ok (.getfield 23, 3) := by decide +kernel
theorem dL_person_72 : decode mL_person.2.1 72 = .ok (.iload_n 1, 1) := by decide +kernel
theorem dL_person_73 : decode mL_person.2.1 73 = .ok (.invokevirtual 139, 3) := by decide +kernel
theorem dL_person_76 : decode mL_person.2.1 76 = .ok (.ireturn, 1) := by decide +kernel
theorem dL_person_77 : decode mL_person.2.1 77 = .ok (.aload_n 0, 1) := by decide +kernel
theorem dL_person_78 : decode mL_person.2.1 78 = .ok (.getfield 16, 3) := by decide +kernel
theorem dL_person_81 : decode mL_person.2.1 81 = .ok (.getfield 142, 3) := by decide +kernel
theorem dL_person_84 : decode mL_person.2.1 84 = .ok (.iload_n 1, 1) := by decide +kernel
theorem dL_person_85 : decode mL_person.2.1 85 = .ok (.ishr, 1) := by decide +kernel
theorem dL_person_86 : decode mL_person.2.1 86 = .ok (.iconst 1, 1) := by decide +kernel
theorem dL_person_87 : decode mL_person.2.1 87 = .ok (.iand, 1) := by decide +kernel
theorem dL_person_88 : decode mL_person.2.1 88 = .ok (.ireturn, 1) := by decide +kernel
theorem dL_person_89 : decode mL_person.2.1 89 = .ok (.aload_n 0, 1) := by decide +kernel
theorem dL_person_90 : decode mL_person.2.1 90 = .ok (.getfield 16, 3) := by decide +kernel
theorem dL_person_93 : decode mL_person.2.1 93 = .ok (.getfield 145, 3) := by decide +kernel
theorem dL_person_96 : decode mL_person.2.1 96 = .ok (.iload_n 1, 1) := by decide +kernel
theorem dL_person_97 : decode mL_person.2.1 97 = .ok (.iaload, 1) := by decide +kernel
theorem dL_person_98 : decode mL_person.2.1 98 = .ok (.ireturn, 1) := by decide +kernel
theorem dL_person_99 : decode mL_person.2.1 99 = .ok (.aload_n 0, 1) := by decide +kernel
theorem dL_person_100 : decode mL_person.2.1 100 = .ok (.getfield 16, 3) := by decide +kernel
theorem dL_person_103 : decode mL_person.2.1 103 = .ok (.getfield 148, 3) := by decide +kernel
theorem dL_person_106 : decode mL_person.2.1 106 = .ok (.iload_n 1, 1) := by decide +kernel
theorem dL_person_107 : decode mL_person.2.1 107 = .ok (.iaload, 1) := by decide +kernel
theorem dL_person_108 : decode mL_person.2.1 108 = .ok (.ireturn, 1) := by decide +kernel
theorem dL_person_109 : decode mL_person.2.1 109 = .ok (.aload_n 0, 1) := by decide +kernel
theorem dL_person_110 : decode mL_person.2.1 110 = .ok (.getfield 16, 3) := by decide +kernel
theorem dL_person_113 : decode mL_person.2.1 113 = .ok (.getfield 151, 3) := by decide +kernel
theorem dL_person_116 : decode mL_person.2.1 116 = .ok (.iload_n 1, 1) := by decide +kernel
theorem dL_person_117 : decode mL_person.2.1 117 = .ok (.iaload, 1) := by decide +kernel
theorem dL_person_118 : decode mL_person.2.1 118 = .ok (.ireturn, 1) := by decide +kernel
theorem dL_countOther_0 : decode mL_countOther.2.1 0 = .ok (.iconst 0, 1) := by decide +kernel
theorem dL_countOther_1 : decode mL_countOther.2.1 1 = .ok (.istore_n 2, 1) := by decide +kernel
theorem dL_countOther_2 : decode mL_countOther.2.1 2 = .ok (.aload_n 0, 1) := by decide +kernel
theorem dL_countOther_3 : decode mL_countOther.2.1 3 = .ok (.astore_n 3, 1) := by decide +kernel
theorem dL_countOther_4 : decode mL_countOther.2.1 4 = .ok (.aload_n 3, 1) := by decide +kernel
theorem dL_countOther_5 : decode mL_countOther.2.1 5 = .ok (.arraylength, 1) := by decide +kernel
theorem dL_countOther_6 : decode mL_countOther.2.1 6 = .ok (.istore 4, 2) := by decide +kernel
theorem dL_countOther_8 : decode mL_countOther.2.1 8 = .ok (.iconst 0, 1) := by decide +kernel
theorem dL_countOther_9 : decode mL_countOther.2.1 9 = .ok (.istore 5, 2) := by decide +kernel
theorem dL_countOther_11 : decode mL_countOther.2.1 11 = .ok (.iload 5, 2) := by decide +kernel
theorem dL_countOther_13 : decode mL_countOther.2.1 13 = .ok (.iload 4, 2) := by decide +kernel
theorem dL_countOther_15 : decode mL_countOther.2.1 15 = .ok (.if_icmp .ge 29, 3) := by decide +kernel
theorem dL_countOther_18 : decode mL_countOther.2.1 18 = .ok (.aload_n 3, 1) := by decide +kernel
theorem dL_countOther_19 : decode mL_countOther.2.1 19 = .ok (.iload 5, 2) := by decide +kernel
theorem dL_countOther_21 : decode mL_countOther.2.1 21 = .ok (.iaload, 1) := by decide +kernel
theorem dL_countOther_22 : decode mL_countOther.2.1 22 = .ok (.istore 6, 2) := by decide +kernel
theorem dL_countOther_24 : decode mL_countOther.2.1 24 = .ok (.iload_n 2, 1) := by decide +kernel
theorem dL_countOther_25 : decode mL_countOther.2.1 25 = .ok (.iload 6, 2) := by decide +kernel
theorem dL_countOther_27 : decode mL_countOther.2.1 27 = .ok (.iload_n 1, 1) := by decide +kernel
theorem dL_countOther_28 : decode mL_countOther.2.1 28 = .ok (.if_icmp .eq 7, 3) := by decide +kernel
theorem dL_countOther_31 : decode mL_countOther.2.1 31 = .ok (.iconst 1, 1) := by decide +kernel
theorem dL_countOther_32 : decode mL_countOther.2.1 32 = .ok (.goto 4, 3) := by decide +kernel
theorem dL_countOther_35 : decode mL_countOther.2.1 35 = .ok (.iconst 0, 1) := by decide +kernel
theorem dL_countOther_36 : decode mL_countOther.2.1 36 = .ok (.iadd, 1) := by decide +kernel
theorem dL_countOther_37 : decode mL_countOther.2.1 37 = .ok (.istore_n 2, 1) := by decide +kernel
theorem dL_countOther_38 : decode mL_countOther.2.1 38 = .ok (.iinc 5 1, 3) := by decide +kernel
theorem dL_countOther_41 : decode mL_countOther.2.1 41 = .ok (.goto (-30), 3) := by decide +kernel
theorem dL_countOther_44 : decode mL_countOther.2.1 44 = .ok (.iload_n 2, 1) := by decide +kernel
theorem dL_countOther_45 : decode mL_countOther.2.1 45 = .ok (.ireturn, 1) := by decide +kernel
theorem dL_size_0 : decode mL_size.2.1 0 = .ok (.iload_n 1, 1) := by decide +kernel
theorem dL_size_1 : decode mL_size.2.1 1 = .ok (.tableswitch 191 0 12 #[67, 75, 83, 91, 102, 114, 126, 137, 150, 163, 176, 181, 186], 67) := by decide +kernel
theorem dL_size_68 : decode mL_size.2.1 68 = .ok (.aload_n 0, 1) := by decide +kernel
theorem dL_size_69 : decode mL_size.2.1 69 = .ok (.getfield 16, 3) := by decide +kernel
theorem dL_size_72 : decode mL_size.2.1 72 = .ok (.getfield 282, 3) := by decide +kernel
theorem dL_size_75 : decode mL_size.2.1 75 = .ok (.ireturn, 1) := by decide +kernel
theorem dL_size_76 : decode mL_size.2.1 76 = .ok (.aload_n 0, 1) := by decide +kernel
theorem dL_size_77 : decode mL_size.2.1 77 = .ok (.getfield 16, 3) := by decide +kernel
theorem dL_size_80 : decode mL_size.2.1 80 = .ok (.getfield 107, 3) := by decide +kernel
theorem dL_size_83 : decode mL_size.2.1 83 = .ok (.ireturn, 1) := by decide +kernel
theorem dL_size_84 : decode mL_size.2.1 84 = .ok (.aload_n 0, 1) := by decide +kernel
theorem dL_size_85 : decode mL_size.2.1 85 = .ok (.getfield 16, 3) := by decide +kernel
theorem dL_size_88 : decode mL_size.2.1 88 = .ok (.getfield 369, 3) := by decide +kernel
theorem dL_size_91 : decode mL_size.2.1 91 = .ok (.ireturn, 1) := by decide +kernel
theorem dL_size_92 : decode mL_size.2.1 92 = .ok (.aload_n 0, 1) := by decide +kernel
theorem dL_size_93 : decode mL_size.2.1 93 = .ok (.getfield 16, 3) := by decide +kernel
theorem dL_size_96 : decode mL_size.2.1 96 = .ok (.getfield 124, 3) := by decide +kernel
theorem dL_size_99 : decode mL_size.2.1 99 = .ok (.invokestatic 222, 3) := by decide +kernel
theorem dL_size_102 : decode mL_size.2.1 102 = .ok (.ireturn, 1) := by decide +kernel
theorem dL_size_103 : decode mL_size.2.1 103 = .ok (.aload_n 0, 1) := by decide +kernel
theorem dL_size_104 : decode mL_size.2.1 104 = .ok (.getfield 16, 3) := by decide +kernel
theorem dL_size_107 : decode mL_size.2.1 107 = .ok (.getfield 372, 3) := by decide +kernel
theorem dL_size_110 : decode mL_size.2.1 110 = .ok (.iconst 0, 1) := by decide +kernel
theorem dL_size_111 : decode mL_size.2.1 111 = .ok (.invokestatic 375, 3) := by decide +kernel
theorem dL_size_114 : decode mL_size.2.1 114 = .ok (.ireturn, 1) := by decide +kernel
theorem dL_size_115 : decode mL_size.2.1 115 = .ok (.aload_n 0, 1) := by decide +kernel
theorem dL_size_116 : decode mL_size.2.1 116 = .ok (.getfield 16, 3) := by decide +kernel
theorem dL_size_119 : decode mL_size.2.1 119 = .ok (.getfield 379, 3) := by decide +kernel
theorem dL_size_122 : decode mL_size.2.1 122 = .ok (.iconst 0, 1) := by decide +kernel
theorem dL_size_123 : decode mL_size.2.1 123 = .ok (.invokestatic 375, 3) := by decide +kernel
theorem dL_size_126 : decode mL_size.2.1 126 = .ok (.ireturn, 1) := by decide +kernel
theorem dL_size_127 : decode mL_size.2.1 127 = .ok (.aload_n 0, 1) := by decide +kernel
theorem dL_size_128 : decode mL_size.2.1 128 = .ok (.getfield 16, 3) := by decide +kernel
theorem dL_size_131 : decode mL_size.2.1 131 = .ok (.getfield 142, 3) := by decide +kernel
theorem dL_size_134 : decode mL_size.2.1 134 = .ok (.invokestatic 222, 3) := by decide +kernel
theorem dL_size_137 : decode mL_size.2.1 137 = .ok (.ireturn, 1) := by decide +kernel
theorem dL_size_138 : decode mL_size.2.1 138 = .ok (.aload_n 0, 1) := by decide +kernel
theorem dL_size_139 : decode mL_size.2.1 139 = .ok (.getfield 16, 3) := by decide +kernel
theorem dL_size_142 : decode mL_size.2.1 142 = .ok (.getfield 145, 3) := by decide +kernel
theorem dL_size_145 : decode mL_size.2.1 145 = .ok (.bipush (-2), 2) := by decide +kernel
theorem dL_size_147 : decode mL_size.2.1 147 = .ok (.invokestatic 375, 3) := by decide +kernel
theorem dL_size_150 : decode mL_size.2.1 150 = .ok (.ireturn, 1) := by decide +kernel
theorem dL_size_151 : decode mL_size.2.1 151 = .ok (.aload_n 0, 1) := by decide +kernel
theorem dL_size_152 : decode mL_size.2.1 152 = .ok (.getfield 16, 3) := by decide +kernel
theorem dL_size_155 : decode mL_size.2.1 155 = .ok (.getfield 148, 3) := by decide +kernel
theorem dL_size_158 : decode mL_size.2.1 158 = .ok (.bipush (-2), 2) := by decide +kernel
theorem dL_size_160 : decode mL_size.2.1 160 = .ok (.invokestatic 375, 3) := by decide +kernel
theorem dL_size_163 : decode mL_size.2.1 163 = .ok (.ireturn, 1) := by decide +kernel
theorem dL_size_164 : decode mL_size.2.1 164 = .ok (.aload_n 0, 1) := by decide +kernel
theorem dL_size_165 : decode mL_size.2.1 165 = .ok (.getfield 16, 3) := by decide +kernel
theorem dL_size_168 : decode mL_size.2.1 168 = .ok (.getfield 151, 3) := by decide +kernel
theorem dL_size_171 : decode mL_size.2.1 171 = .ok (.bipush (-2), 2) := by decide +kernel
theorem dL_size_173 : decode mL_size.2.1 173 = .ok (.invokestatic 375, 3) := by decide +kernel
theorem dL_size_176 : decode mL_size.2.1 176 = .ok (.ireturn, 1) := by decide +kernel
theorem dL_size_177 : decode mL_size.2.1 177 = .ok (.aload_n 0, 1) := by decide +kernel
theorem dL_size_178 : decode mL_size.2.1 178 = .ok (.getfield 354, 3) := by decide +kernel
theorem dL_size_181 : decode mL_size.2.1 181 = .ok (.ireturn, 1) := by decide +kernel
theorem dL_size_182 : decode mL_size.2.1 182 = .ok (.aload_n 0, 1) := by decide +kernel
theorem dL_size_183 : decode mL_size.2.1 183 = .ok (.getfield 360, 3) := by decide +kernel
theorem dL_size_186 : decode mL_size.2.1 186 = .ok (.ireturn, 1) := by decide +kernel
theorem dL_size_187 : decode mL_size.2.1 187 = .ok (.aload_n 0, 1) := by decide +kernel
theorem dL_size_188 : decode mL_size.2.1 188 = .ok (.getfield 69, 3) := by decide +kernel
theorem dL_size_191 : decode mL_size.2.1 191 = .ok (.ireturn, 1) := by decide +kernel
theorem dL_size_192 : decode mL_size.2.1 192 = .ok (.iconst (-1), 1) := by decide +kernel
theorem dL_size_193 : decode mL_size.2.1 193 = .ok (.ireturn, 1) := by decide +kernel
theorem dL_share_0 : decode mL_share.2.1 0 = .ok (.iload_n 1, 1) := by decide +kernel
theorem dL_share_1 : decode mL_share.2.1 1 = .ok (.ifCond .eq 13, 3) := by decide +kernel
theorem dL_share_4 : decode mL_share.2.1 4 = .ok (.iload_n 2, 1) := by decide +kernel
theorem dL_share_5 : decode mL_share.2.1 5 = .ok (.ifCond .eq 7, 3) := by decide +kernel
theorem dL_share_8 : decode mL_share.2.1 8 = .ok (.iconst 0, 1) := by decide +kernel
theorem dL_share_9 : decode mL_share.2.1 9 = .ok (.goto 4, 3) := by decide +kernel
theorem dL_share_12 : decode mL_share.2.1 12 = .ok (.iconst 4, 1) := by decide +kernel
theorem dL_share_13 : decode mL_share.2.1 13 = .ok (.ireturn, 1) := by decide +kernel
theorem dL_share_14 : decode mL_share.2.1 14 = .ok (.iload_n 2, 1) := by decide +kernel
theorem dL_share_15 : decode mL_share.2.1 15 = .ok (.ifCond .eq 9, 3) := by decide +kernel
theorem dL_share_18 : decode mL_share.2.1 18 = .ok (.iconst 1, 1) := by decide +kernel
theorem dL_share_19 : decode mL_share.2.1 19 = .ok (.iload_n 0, 1) := by decide +kernel
theorem dL_share_20 : decode mL_share.2.1 20 = .ok (.isub, 1) := by decide +kernel
theorem dL_share_21 : decode mL_share.2.1 21 = .ok (.goto 4, 3) := by decide +kernel
theorem dL_share_24 : decode mL_share.2.1 24 = .ok (.iconst 2, 1) := by decide +kernel
theorem dL_share_25 : decode mL_share.2.1 25 = .ok (.ireturn, 1) := by decide +kernel
theorem dL_isRest_0 : decode mL_isRest.2.1 0 = .ok (.iload_n 1, 1) := by decide +kernel
theorem dL_isRest_1 : decode mL_isRest.2.1 1 = .ok (.iconst 2, 1) := by decide +kernel
theorem dL_isRest_2 : decode mL_isRest.2.1 2 = .ok (.iand, 1) := by decide +kernel
theorem dL_isRest_3 : decode mL_isRest.2.1 3 = .ok (.ifCond .eq 7, 3) := by decide +kernel
theorem dL_isRest_6 : decode mL_isRest.2.1 6 = .ok (.iconst 1, 1) := by decide +kernel
theorem dL_isRest_7 : decode mL_isRest.2.1 7 = .ok (.goto 4, 3) := by decide +kernel
theorem dL_isRest_10 : decode mL_isRest.2.1 10 = .ok (.iconst 0, 1) := by decide +kernel
theorem dL_isRest_11 : decode mL_isRest.2.1 11 = .ok (.istore_n 2, 1) := by decide +kernel
theorem dL_isRest_12 : decode mL_isRest.2.1 12 = .ok (.iload_n 1, 1) := by decide +kernel
theorem dL_isRest_13 : decode mL_isRest.2.1 13 = .ok (.iconst 1, 1) := by decide +kernel
theorem dL_isRest_14 : decode mL_isRest.2.1 14 = .ok (.iand, 1) := by decide +kernel
theorem dL_isRest_15 : decode mL_isRest.2.1 15 = .ok (.ifCond .eq 7, 3) := by decide +kernel
theorem dL_isRest_18 : decode mL_isRest.2.1 18 = .ok (.iconst 1, 1) := by decide +kernel
theorem dL_isRest_19 : decode mL_isRest.2.1 19 = .ok (.goto 4, 3) := by decide +kernel
theorem dL_isRest_22 : decode mL_isRest.2.1 22 = .ok (.iconst 0, 1) := by decide +kernel
theorem dL_isRest_23 : decode mL_isRest.2.1 23 = .ok (.istore_n 3, 1) := by decide +kernel
theorem dL_isRest_24 : decode mL_isRest.2.1 24 = .ok (.iload_n 0, 1) := by decide +kernel
theorem dL_isRest_25 : decode mL_isRest.2.1 25 = .ok (.iload_n 2, 1) := by decide +kernel
theorem dL_isRest_26 : decode mL_isRest.2.1 26 = .ok (.iload_n 3, 1) := by decide +kernel
theorem dL_isRest_27 : decode mL_isRest.2.1 27 = .ok (.invokestatic 267, 3) := by decide +kernel
theorem dL_isRest_30 : decode mL_isRest.2.1 30 = .ok (.iload_n 0, 1) := by decide +kernel
theorem dL_isRest_31 : decode mL_isRest.2.1 31 = .ok (.iload_n 2, 1) := by decide +kernel
theorem dL_isRest_32 : decode mL_isRest.2.1 32 = .ok (.ifCond .ne 7, 3) := by decide +kernel
theorem dL_isRest_35 : decode mL_isRest.2.1 35 = .ok (.iconst 1, 1) := by decide +kernel
theorem dL_isRest_36 : decode mL_isRest.2.1 36 = .ok (.goto 4, 3) := by decide +kernel
theorem dL_isRest_39 : decode mL_isRest.2.1 39 = .ok (.iconst 0, 1) := by decide +kernel
theorem dL_isRest_40 : decode mL_isRest.2.1 40 = .ok (.iload_n 3, 1) := by decide +kernel
theorem dL_isRest_41 : decode mL_isRest.2.1 41 = .ok (.invokestatic 267, 3) := by decide +kernel
theorem dL_isRest_44 : decode mL_isRest.2.1 44 = .ok (.if_icmp .lt 30, 3) := by decide +kernel
theorem dL_isRest_47 : decode mL_isRest.2.1 47 = .ok (.iload_n 0, 1) := by decide +kernel
theorem dL_isRest_48 : decode mL_isRest.2.1 48 = .ok (.iload_n 3, 1) := by decide +kernel
theorem dL_isRest_49 : decode mL_isRest.2.1 49 = .ok (.iload_n 2, 1) := by decide +kernel
theorem dL_isRest_50 : decode mL_isRest.2.1 50 = .ok (.invokestatic 267, 3) := by decide +kernel
theorem dL_isRest_53 : decode mL_isRest.2.1 53 = .ok (.iload_n 0, 1) := by decide +kernel
theorem dL_isRest_54 : decode mL_isRest.2.1 54 = .ok (.iload_n 3, 1) := by decide +kernel
theorem dL_isRest_55 : decode mL_isRest.2.1 55 = .ok (.ifCond .ne 7, 3) := by decide +kernel
theorem dL_isRest_58 : decode mL_isRest.2.1 58 = .ok (.iconst 1, 1) := by decide +kernel
theorem dL_isRest_59 : decode mL_isRest.2.1 59 = .ok (.goto 4, 3) := by decide +kernel
theorem dL_isRest_62 : decode mL_isRest.2.1 62 = .ok (.iconst 0, 1) := by decide +kernel
theorem dL_isRest_63 : decode mL_isRest.2.1 63 = .ok (.iload_n 2, 1) := by decide +kernel
theorem dL_isRest_64 : decode mL_isRest.2.1 64 = .ok (.invokestatic 267, 3) := by decide +kernel
theorem dL_isRest_67 : decode mL_isRest.2.1 67 = .ok (.if_icmp .lt 7, 3) := by decide +kernel
theorem dL_isRest_70 : decode mL_isRest.2.1 70 = .ok (.iconst 1, 1) := by decide +kernel
theorem dL_isRest_71 : decode mL_isRest.2.1 71 = .ok (.goto 4, 3) := by decide +kernel
theorem dL_isRest_74 : decode mL_isRest.2.1 74 = .ok (.iconst 0, 1) := by decide +kernel
theorem dL_isRest_75 : decode mL_isRest.2.1 75 = .ok (.ireturn, 1) := by decide +kernel
theorem dL_slams_0 : decode mL_slams.2.1 0 = .ok (.aload_n 0, 1) := by decide +kernel
theorem dL_slams_1 : decode mL_slams.2.1 1 = .ok (.aload_n 0, 1) := by decide +kernel
theorem dL_slams_2 : decode mL_slams.2.1 2 = .ok (.invokevirtual 154, 3) := by decide +kernel
theorem dL_slams_5 : decode mL_slams.2.1 5 = .ok (.iload_n 1, 1) := by decide +kernel
theorem dL_slams_6 : decode mL_slams.2.1 6 = .ok (.invokestatic 264, 3) := by decide +kernel
theorem dL_slams_9 : decode mL_slams.2.1 9 = .ok (.invokevirtual 114, 3) := by decide +kernel
theorem dL_slams_12 : decode mL_slams.2.1 12 = .ok (.ifCond .ne 6, 3) := by decide +kernel
theorem dL_slams_15 : decode mL_slams.2.1 15 = .ok (.bipush (-100), 2) := by decide +kernel
theorem dL_slams_17 : decode mL_slams.2.1 17 = .ok (.ireturn, 1) := by decide +kernel
theorem dL_slams_18 : decode mL_slams.2.1 18 = .ok (.iload 4, 2) := by decide +kernel
theorem dL_slams_20 : decode mL_slams.2.1 20 = .ok (.ifCond .eq 12, 3) := by decide +kernel
theorem dL_slams_23 : decode mL_slams.2.1 23 = .ok (.iload_n 1, 1) := by decide +kernel
theorem dL_slams_24 : decode mL_slams.2.1 24 = .ok (.iload_n 3, 1) := by decide +kernel
theorem dL_slams_25 : decode mL_slams.2.1 25 = .ok (.iload_n 2, 1) := by decide +kernel
theorem dL_slams_26 : decode mL_slams.2.1 26 = .ok (.invokestatic 267, 3) := by decide +kernel
theorem dL_slams_29 : decode mL_slams.2.1 29 = .ok (.goto 9, 3) := by decide +kernel
theorem dL_slams_32 : decode mL_slams.2.1 32 = .ok (.iload_n 1, 1) := by decide +kernel
theorem dL_slams_33 : decode mL_slams.2.1 33 = .ok (.iload_n 2, 1) := by decide +kernel
theorem dL_slams_34 : decode mL_slams.2.1 34 = .ok (.iload_n 3, 1) := by decide +kernel
theorem dL_slams_35 : decode mL_slams.2.1 35 = .ok (.invokestatic 267, 3) := by decide +kernel
theorem dL_slams_38 : decode mL_slams.2.1 38 = .ok (.ireturn, 1) := by decide +kernel
theorem dL_rests_0 : decode mL_rests.2.1 0 = .ok (.aload_n 0, 1) := by decide +kernel
theorem dL_rests_1 : decode mL_rests.2.1 1 = .ok (.aload_n 0, 1) := by decide +kernel
theorem dL_rests_2 : decode mL_rests.2.1 2 = .ok (.invokevirtual 154, 3) := by decide +kernel
theorem dL_rests_5 : decode mL_rests.2.1 5 = .ok (.iload_n 1, 1) := by decide +kernel
theorem dL_rests_6 : decode mL_rests.2.1 6 = .ok (.invokestatic 264, 3) := by decide +kernel
theorem dL_rests_9 : decode mL_rests.2.1 9 = .ok (.invokevirtual 114, 3) := by decide +kernel
theorem dL_rests_12 : decode mL_rests.2.1 12 = .ok (.ifCond .ne 5, 3) := by decide +kernel
theorem dL_rests_15 : decode mL_rests.2.1 15 = .ok (.iconst (-1), 1) := by decide +kernel
theorem dL_rests_16 : decode mL_rests.2.1 16 = .ok (.ireturn, 1) := by decide +kernel
theorem dL_rests_17 : decode mL_rests.2.1 17 = .ok (.iconst 0, 1) := by decide +kernel
theorem dL_rests_18 : decode mL_rests.2.1 18 = .ok (.istore_n 2, 1) := by decide +kernel
theorem dL_rests_19 : decode mL_rests.2.1 19 = .ok (.iconst 0, 1) := by decide +kernel
theorem dL_rests_20 : decode mL_rests.2.1 20 = .ok (.istore_n 3, 1) := by decide +kernel
theorem dL_rests_21 : decode mL_rests.2.1 21 = .ok (.iload_n 3, 1) := by decide +kernel
theorem dL_rests_22 : decode mL_rests.2.1 22 = .ok (.iconst 4, 1) := by decide +kernel
theorem dL_rests_23 : decode mL_rests.2.1 23 = .ok (.if_icmp .ge 25, 3) := by decide +kernel
theorem dL_rests_26 : decode mL_rests.2.1 26 = .ok (.iload_n 2, 1) := by decide +kernel
theorem dL_rests_27 : decode mL_rests.2.1 27 = .ok (.iload_n 1, 1) := by decide +kernel
theorem dL_rests_28 : decode mL_rests.2.1 28 = .ok (.iload_n 3, 1) := by decide +kernel
theorem dL_rests_29 : decode mL_rests.2.1 29 = .ok (.invokestatic 271, 3) := by decide +kernel
theorem dL_rests_32 : decode mL_rests.2.1 32 = .ok (.ifCond .eq 7, 3) := by decide +kernel
theorem dL_rests_35 : decode mL_rests.2.1 35 = .ok (.iconst 1, 1) := by decide +kernel
theorem dL_rests_36 : decode mL_rests.2.1 36 = .ok (.goto 4, 3) := by decide +kernel
theorem dL_rests_39 : decode mL_rests.2.1 39 = .ok (.iconst 0, 1) := by decide +kernel
theorem dL_rests_40 : decode mL_rests.2.1 40 = .ok (.iadd, 1) := by decide +kernel
theorem dL_rests_41 : decode mL_rests.2.1 41 = .ok (.istore_n 2, 1) := by decide +kernel
theorem dL_rests_42 : decode mL_rests.2.1 42 = .ok (.iinc 3 1, 3) := by decide +kernel
theorem dL_rests_45 : decode mL_rests.2.1 45 = .ok (.goto (-24), 3) := by decide +kernel
theorem dL_rests_48 : decode mL_rests.2.1 48 = .ok (.iload_n 2, 1) := by decide +kernel
theorem dL_rests_49 : decode mL_rests.2.1 49 = .ok (.ireturn, 1) := by decide +kernel
theorem dL_rest_0 : decode mL_rest.2.1 0 = .ok (.aload_n 0, 1) := by decide +kernel
theorem dL_rest_1 : decode mL_rest.2.1 1 = .ok (.aload_n 0, 1) := by decide +kernel
theorem dL_rest_2 : decode mL_rest.2.1 2 = .ok (.invokevirtual 154, 3) := by decide +kernel
theorem dL_rest_5 : decode mL_rest.2.1 5 = .ok (.iload_n 1, 1) := by decide +kernel
theorem dL_rest_6 : decode mL_rest.2.1 6 = .ok (.invokestatic 264, 3) := by decide +kernel
theorem dL_rest_9 : decode mL_rest.2.1 9 = .ok (.invokevirtual 114, 3) := by decide +kernel
theorem dL_rest_12 : decode mL_rest.2.1 12 = .ok (.ifCond .ne 5, 3) := by decide +kernel
theorem dL_rest_15 : decode mL_rest.2.1 15 = .ok (.iconst (-1), 1) := by decide +kernel
theorem dL_rest_16 : decode mL_rest.2.1 16 = .ok (.ireturn, 1) := by decide +kernel
theorem dL_rest_17 : decode mL_rest.2.1 17 = .ok (.iconst 0, 1) := by decide +kernel
theorem dL_rest_18 : decode mL_rest.2.1 18 = .ok (.istore_n 2, 1) := by decide +kernel
theorem dL_rest_19 : decode mL_rest.2.1 19 = .ok (.iload_n 2, 1) := by decide +kernel
theorem dL_rest_20 : decode mL_rest.2.1 20 = .ok (.iconst 4, 1) := by decide +kernel
theorem dL_rest_21 : decode mL_rest.2.1 21 = .ok (.if_icmp .ge 28, 3) := by decide +kernel
theorem dL_rest_24 : decode mL_rest.2.1 24 = .ok (.iload_n 1, 1) := by decide +kernel
theorem dL_rest_25 : decode mL_rest.2.1 25 = .ok (.iload_n 2, 1) := by decide +kernel
theorem dL_rest_26 : decode mL_rest.2.1 26 = .ok (.invokestatic 271, 3) := by decide +kernel
theorem dL_rest_29 : decode mL_rest.2.1 29 = .ok (.ifCond .eq 14, 3) := by decide +kernel
theorem dL_rest_32 : decode mL_rest.2.1 32 = .ok (.iload_n 2, 1) := by decide +kernel
theorem dL_rest_33 : decode mL_rest.2.1 33 = .ok (.iconst 1, 1) := by decide +kernel
theorem dL_rest_34 : decode mL_rest.2.1 34 = .ok (.ishr, 1) := by decide +kernel
theorem dL_rest_35 : decode mL_rest.2.1 35 = .ok (.bipush 10, 2) := by decide +kernel
theorem dL_rest_37 : decode mL_rest.2.1 37 = .ok (.imul, 1) := by decide +kernel
theorem dL_rest_38 : decode mL_rest.2.1 38 = .ok (.iload_n 2, 1) := by decide +kernel
theorem dL_rest_39 : decode mL_rest.2.1 39 = .ok (.iconst 1, 1) := by decide +kernel
theorem dL_rest_40 : decode mL_rest.2.1 40 = .ok (.iand, 1) := by decide +kernel
theorem dL_rest_41 : decode mL_rest.2.1 41 = .ok (.iadd, 1) := by decide +kernel
theorem dL_rest_42 : decode mL_rest.2.1 42 = .ok (.ireturn, 1) := by decide +kernel
theorem dL_rest_43 : decode mL_rest.2.1 43 = .ok (.iinc 2 1, 3) := by decide +kernel
theorem dL_rest_46 : decode mL_rest.2.1 46 = .ok (.goto (-27), 3) := by decide +kernel
theorem dL_rest_49 : decode mL_rest.2.1 49 = .ok (.bipush (-2), 2) := by decide +kernel
theorem dL_rest_51 : decode mL_rest.2.1 51 = .ok (.ireturn, 1) := by decide +kernel
def CK (K : Option AV → Mem → Prop) (V : Nat → Nat → Int) (σ : Shp) (ow : Nat → Nat) (S : PS) (kn : Bool) (r : Option AV) : Prop := ∀ (V' : Nat → Nat → Int) (σ' : Shp) (ow' : Nat → Nat) (y' : Dy), CW V' σ' ow' y' S kn → FR V V' σ σ' ow ow' → K r (V', σ')
section CWa
variable {V : Nat → Nat → Int} {σ : Shp} {ow : Nat → Nat} {y : Dy} {S : PS} {kn : Bool}
theorem CW.cs (h : CW V σ ow y S kn) : CS σ y := h.1
theorem CW.cl (h : CW V σ ow y S kn) : CL ow y := h.2.1
theorem CW.cb (h : CW V σ ow y S kn) : CB y := h.2.2.1
theorem CW.ok (h : CW V σ ow y S kn) : okP S := h.2.2.2.1
theorem CW.cf (h : CW V σ ow y S kn) : CF V S := h.2.2.2.2.1
theorem CW.cr (h : CW V σ ow y S kn) : CR V y S kn := h.2.2.2.2.2.1
theorem CW.wk (h : CW V σ ow y S kn) : WK V y (psT S) := h.2.2.2.2.2.2
theorem CW.tv (h : CW V σ ow y S kn) : TV V (dT y) (psT S) := h.cr.2.1
theorem CW.hh (h : CW V σ ow y S kn) : HH V 10 (psC S) (psA S) := h.cr.2.2.1
theorem CW.oT (h : CW V σ ow y S kn) : okT (psT S) := h.ok.2.2.1
theorem CW.oS (h : CW V σ ow y S kn) : okS (psT S) (psS S) := h.ok.2.2.2.1
theorem CW.v0 (h : CW V σ ow y S kn) : V 10 0 = tDn (psT S) := h.hh.2.1.1
theorem CW.v1 (h : CW V σ ow y S kn) : V 10 1 = tPn (psT S) := h.hh.2.1.2.1
theorem CW.v2 (h : CW V σ ow y S kn) : V 10 2 = stN (psC S) := h.hh.2.1.2.2.1
end CWa
section Small
variable {G : GE} {V : Nat → Nat → Int} {σ : Shp} {K : Option AV → Mem → Prop} {ow : Nat → Nat} {y : Dy} {S : PS} {kn : Bool}
theorem wL_refuse {x : Int} (hW : CS σ y) (hK : K (some (vI (-1))) (up2 V 1 2 x, σ)) : Wp G 0 mL_refuse [vR 1, vI x] (V, σ) 0 0 K := by
  refine wp_intro mL_refuse_i.1 [some (vR 1), some (vI x)] rfl rfl (Nat.le_of_ble_eq_true rfl) ?_
  intro X hG F C
  have hm := C.rm
  refine aw_aload_0 (q := 1) F dL_refuse_0 rfl ?_
  refine aw_iload_1 (q := 2) F dL_refuse_1 rfl ?_
  refine av_puti (q := 5) F fL_99 dL_refuse_2 rfl rfl (wr_7_2 _) (by first | exact hW.o | exact hW.ho | exact hW.to) ?_
  refine aw_iconst (q := 6) F dL_refuse_5 rfl (by decide) ?_
  refine aw_iret F C dL_refuse_6 rfl (Nat.le_refl _) (Nat.le_refl _) ?_
  exact hK
theorem wL_passes {x z : Int} (hW : CS σ y) (h1 : ¬ x = 0 → ¬ z = 0 → K (some (vI 1)) (up2 V 1 2 0, σ)) (h2 : x = 0 → K (some (vI 0)) (up2 V 1 2 1, σ)) (h3 : ¬ x = 0 → z = 0 → K (some (vI 0)) (up2 V 1 2 2, σ)) : Wp G 0 mL_passes [vR 1, vI x, vI z] (V, σ) 0 0 K := by
  refine wp_intro mL_passes_i.1 [some (vR 1), some (vI x), some (vI z)] rfl rfl (Nat.le_of_ble_eq_true rfl) ?_
  intro X hG F C
  have hm := C.rm
  refine aw_aload_0 (q := 1) F dL_passes_0 rfl ?_
  refine aw_iload_1 (q := 2) F dL_passes_1 rfl ?_
  refine aw_if_ne (q := 5) (t := 9) F dL_passes_2 rfl (by decide) (fun c2 => ?_) (fun c2 => ?_)
  · refine aw_iload_2 (q := 10) F dL_passes_9 rfl ?_
    refine aw_if_ne (q := 13) (t := 17) F dL_passes_10 rfl (by decide) (fun c10 => ?_) (fun c10 => ?_)
    · refine aw_iconst (q := 18) F dL_passes_17 rfl (by decide) ?_
      refine av_puti (q := 21) F fL_99 dL_passes_18 rfl rfl (wr_7_2 _) (by first | exact hW.o | exact hW.ho | exact hW.to) ?_
      refine aw_aload_0 (q := 22) F dL_passes_21 rfl ?_
      refine av_geti (q := 25) F fL_99 dL_passes_22 rfl rfl (by first | exact hW.o | exact hW.ho | exact hW.to) ?_
      rw [up2_same]
      refine aw_if_ne (q := 28) (t := 32) F dL_passes_25 rfl (by decide) (fun c25 => ?_) (fun c25 => ?_)
      · refine aw_iconst (q := 33) F dL_passes_32 rfl (by decide) ?_
        refine aw_zret F C dL_passes_33 rfl (by decide) (Nat.le_refl _) (Nat.le_refl _) ?_
        first | exact h1 c2 c10 | exact h2 c2 | exact h3 c2 c10 | exact absurd rfl c25 | exact absurd c25 (by decide)
      · refine aw_iconst (q := 29) F dL_passes_28 rfl (by decide) ?_
        refine aw_goto (t := 33) F dL_passes_29 (by decide) ?_
        refine aw_zret F C dL_passes_33 rfl (by decide) (Nat.le_refl _) (Nat.le_refl _) ?_
        first | exact h1 c2 c10 | exact h2 c2 | exact h3 c2 c10 | exact absurd rfl c25 | exact absurd c25 (by decide)
    · refine aw_iconst (q := 14) F dL_passes_13 rfl (by decide) ?_
      refine aw_goto (t := 18) F dL_passes_14 (by decide) ?_
      refine av_puti (q := 21) F fL_99 dL_passes_18 rfl rfl (wr_7_2 _) (by first | exact hW.o | exact hW.ho | exact hW.to) ?_
      refine aw_aload_0 (q := 22) F dL_passes_21 rfl ?_
      refine av_geti (q := 25) F fL_99 dL_passes_22 rfl rfl (by first | exact hW.o | exact hW.ho | exact hW.to) ?_
      rw [up2_same]
      refine aw_if_ne (q := 28) (t := 32) F dL_passes_25 rfl (by decide) (fun c25 => ?_) (fun c25 => ?_)
      · refine aw_iconst (q := 33) F dL_passes_32 rfl (by decide) ?_
        refine aw_zret F C dL_passes_33 rfl (by decide) (Nat.le_refl _) (Nat.le_refl _) ?_
        first | exact h1 c2 c10 | exact h2 c2 | exact h3 c2 c10 | exact absurd rfl c25 | exact absurd c25 (by decide)
      · refine aw_iconst (q := 29) F dL_passes_28 rfl (by decide) ?_
        refine aw_goto (t := 33) F dL_passes_29 (by decide) ?_
        refine aw_zret F C dL_passes_33 rfl (by decide) (Nat.le_refl _) (Nat.le_refl _) ?_
        first | exact h1 c2 c10 | exact h2 c2 | exact h3 c2 c10 | exact absurd rfl c25 | exact absurd c25 (by decide)
  · refine aw_iconst (q := 6) F dL_passes_5 rfl (by decide) ?_
    refine aw_goto (t := 18) F dL_passes_6 (by decide) ?_
    refine av_puti (q := 21) F fL_99 dL_passes_18 rfl rfl (wr_7_2 _) (by first | exact hW.o | exact hW.ho | exact hW.to) ?_
    refine aw_aload_0 (q := 22) F dL_passes_21 rfl ?_
    refine av_geti (q := 25) F fL_99 dL_passes_22 rfl rfl (by first | exact hW.o | exact hW.ho | exact hW.to) ?_
    rw [up2_same]
    refine aw_if_ne (q := 28) (t := 32) F dL_passes_25 rfl (by decide) (fun c25 => ?_) (fun c25 => ?_)
    · refine aw_iconst (q := 33) F dL_passes_32 rfl (by decide) ?_
      refine aw_zret F C dL_passes_33 rfl (by decide) (Nat.le_refl _) (Nat.le_refl _) ?_
      first | exact h1 c2 c10 | exact h2 c2 | exact h3 c2 c10 | exact absurd rfl c25 | exact absurd c25 (by decide)
    · refine aw_iconst (q := 29) F dL_passes_28 rfl (by decide) ?_
      refine aw_goto (t := 33) F dL_passes_29 (by decide) ?_
      refine aw_zret F C dL_passes_33 rfl (by decide) (Nat.le_refl _) (Nat.le_refl _) ?_
      first | exact h1 c2 c10 | exact h2 c2 | exact h3 c2 c10 | exact absurd rfl c25 | exact absurd c25 (by decide)
theorem wL_mayAct {x z w : Int} (hW : CS σ y) (h1 : ¬ x = 0 → ¬ z = 0 → ¬ w = 0 → K (some (vI 1)) (up2 V 1 2 0, σ)) (h2 : x = 0 → K (some (vI 0)) (up2 V 1 2 1, σ)) (h3 : ¬ x = 0 → z = 0 → K (some (vI 0)) (up2 V 1 2 5, σ)) (h4 : ¬ x = 0 → ¬ z = 0 → w = 0 → K (some (vI 0)) (up2 V 1 2 6, σ)) : Wp G 0 mL_mayAct [vR 1, vI x, vI z, vI w] (V, σ) 0 0 K := by
  refine wp_intro mL_mayAct_i.1 [some (vR 1), some (vI x), some (vI z), some (vI w)] rfl rfl (Nat.le_of_ble_eq_true rfl) ?_
  intro X hG F C
  have hm := C.rm
  refine aw_aload_0 (q := 1) F dL_mayAct_0 rfl ?_
  refine aw_iload_1 (q := 2) F dL_mayAct_1 rfl ?_
  refine aw_if_ne (q := 5) (t := 9) F dL_mayAct_2 rfl (by decide) (fun c2 => ?_) (fun c2 => ?_)
  · refine aw_iload_2 (q := 10) F dL_mayAct_9 rfl ?_
    refine aw_if_ne (q := 13) (t := 17) F dL_mayAct_10 rfl (by decide) (fun c10 => ?_) (fun c10 => ?_)
    · refine aw_iload_3 (q := 18) F dL_mayAct_17 rfl ?_
      refine aw_if_ne (q := 21) (t := 26) F dL_mayAct_18 rfl (by decide) (fun c18 => ?_) (fun c18 => ?_)
      · refine aw_iconst (q := 27) F dL_mayAct_26 rfl (by decide) ?_
        refine av_puti (q := 30) F fL_99 dL_mayAct_27 rfl rfl (wr_7_2 _) (by first | exact hW.o | exact hW.ho | exact hW.to) ?_
        refine aw_aload_0 (q := 31) F dL_mayAct_30 rfl ?_
        refine av_geti (q := 34) F fL_99 dL_mayAct_31 rfl rfl (by first | exact hW.o | exact hW.ho | exact hW.to) ?_
        rw [up2_same]
        refine aw_if_ne (q := 37) (t := 41) F dL_mayAct_34 rfl (by decide) (fun c34 => ?_) (fun c34 => ?_)
        · refine aw_iconst (q := 42) F dL_mayAct_41 rfl (by decide) ?_
          refine aw_zret F C dL_mayAct_42 rfl (by decide) (Nat.le_refl _) (Nat.le_refl _) ?_
          first | exact h1 c2 c10 c18 | exact h2 c2 | exact h3 c2 c10 | exact h4 c2 c10 c18 | exact absurd rfl c34 | exact absurd c34 (by decide)
        · refine aw_iconst (q := 38) F dL_mayAct_37 rfl (by decide) ?_
          refine aw_goto (t := 42) F dL_mayAct_38 (by decide) ?_
          refine aw_zret F C dL_mayAct_42 rfl (by decide) (Nat.le_refl _) (Nat.le_refl _) ?_
          first | exact h1 c2 c10 c18 | exact h2 c2 | exact h3 c2 c10 | exact h4 c2 c10 c18 | exact absurd rfl c34 | exact absurd c34 (by decide)
      · refine aw_bipush (q := 23) F dL_mayAct_21 rfl (by decide) ?_
        refine aw_goto (t := 27) F dL_mayAct_23 (by decide) ?_
        refine av_puti (q := 30) F fL_99 dL_mayAct_27 rfl rfl (wr_7_2 _) (by first | exact hW.o | exact hW.ho | exact hW.to) ?_
        refine aw_aload_0 (q := 31) F dL_mayAct_30 rfl ?_
        refine av_geti (q := 34) F fL_99 dL_mayAct_31 rfl rfl (by first | exact hW.o | exact hW.ho | exact hW.to) ?_
        rw [up2_same]
        refine aw_if_ne (q := 37) (t := 41) F dL_mayAct_34 rfl (by decide) (fun c34 => ?_) (fun c34 => ?_)
        · refine aw_iconst (q := 42) F dL_mayAct_41 rfl (by decide) ?_
          refine aw_zret F C dL_mayAct_42 rfl (by decide) (Nat.le_refl _) (Nat.le_refl _) ?_
          first | exact h1 c2 c10 c18 | exact h2 c2 | exact h3 c2 c10 | exact h4 c2 c10 c18 | exact absurd rfl c34 | exact absurd c34 (by decide)
        · refine aw_iconst (q := 38) F dL_mayAct_37 rfl (by decide) ?_
          refine aw_goto (t := 42) F dL_mayAct_38 (by decide) ?_
          refine aw_zret F C dL_mayAct_42 rfl (by decide) (Nat.le_refl _) (Nat.le_refl _) ?_
          first | exact h1 c2 c10 c18 | exact h2 c2 | exact h3 c2 c10 | exact h4 c2 c10 c18 | exact absurd rfl c34 | exact absurd c34 (by decide)
    · refine aw_iconst (q := 14) F dL_mayAct_13 rfl (by decide) ?_
      refine aw_goto (t := 27) F dL_mayAct_14 (by decide) ?_
      refine av_puti (q := 30) F fL_99 dL_mayAct_27 rfl rfl (wr_7_2 _) (by first | exact hW.o | exact hW.ho | exact hW.to) ?_
      refine aw_aload_0 (q := 31) F dL_mayAct_30 rfl ?_
      refine av_geti (q := 34) F fL_99 dL_mayAct_31 rfl rfl (by first | exact hW.o | exact hW.ho | exact hW.to) ?_
      rw [up2_same]
      refine aw_if_ne (q := 37) (t := 41) F dL_mayAct_34 rfl (by decide) (fun c34 => ?_) (fun c34 => ?_)
      · refine aw_iconst (q := 42) F dL_mayAct_41 rfl (by decide) ?_
        refine aw_zret F C dL_mayAct_42 rfl (by decide) (Nat.le_refl _) (Nat.le_refl _) ?_
        first | exact h1 c2 c10 c18 | exact h2 c2 | exact h3 c2 c10 | exact h4 c2 c10 c18 | exact absurd rfl c34 | exact absurd c34 (by decide)
      · refine aw_iconst (q := 38) F dL_mayAct_37 rfl (by decide) ?_
        refine aw_goto (t := 42) F dL_mayAct_38 (by decide) ?_
        refine aw_zret F C dL_mayAct_42 rfl (by decide) (Nat.le_refl _) (Nat.le_refl _) ?_
        first | exact h1 c2 c10 c18 | exact h2 c2 | exact h3 c2 c10 | exact h4 c2 c10 c18 | exact absurd rfl c34 | exact absurd c34 (by decide)
  · refine aw_iconst (q := 6) F dL_mayAct_5 rfl (by decide) ?_
    refine aw_goto (t := 27) F dL_mayAct_6 (by decide) ?_
    refine av_puti (q := 30) F fL_99 dL_mayAct_27 rfl rfl (wr_7_2 _) (by first | exact hW.o | exact hW.ho | exact hW.to) ?_
    refine aw_aload_0 (q := 31) F dL_mayAct_30 rfl ?_
    refine av_geti (q := 34) F fL_99 dL_mayAct_31 rfl rfl (by first | exact hW.o | exact hW.ho | exact hW.to) ?_
    rw [up2_same]
    refine aw_if_ne (q := 37) (t := 41) F dL_mayAct_34 rfl (by decide) (fun c34 => ?_) (fun c34 => ?_)
    · refine aw_iconst (q := 42) F dL_mayAct_41 rfl (by decide) ?_
      refine aw_zret F C dL_mayAct_42 rfl (by decide) (Nat.le_refl _) (Nat.le_refl _) ?_
      first | exact h1 c2 c10 c18 | exact h2 c2 | exact h3 c2 c10 | exact h4 c2 c10 c18 | exact absurd rfl c34 | exact absurd c34 (by decide)
    · refine aw_iconst (q := 38) F dL_mayAct_37 rfl (by decide) ?_
      refine aw_goto (t := 42) F dL_mayAct_38 (by decide) ?_
      refine aw_zret F C dL_mayAct_42 rfl (by decide) (Nat.le_refl _) (Nat.le_refl _) ?_
      first | exact h1 c2 c10 c18 | exact h2 c2 | exact h3 c2 c10 | exact h4 c2 c10 c18 | exact absurd rfl c34 | exact absurd c34 (by decide)
theorem wL_hasLane (hW : CS σ y) (h1 : 0 < V (dT y) 1 → K (some (vI 1)) (V, σ)) (h0 : ¬ 0 < V (dT y) 1 → K (some (vI 0)) (V, σ)) : Wp G 0 mL_hasLane [vR 1] (V, σ) 0 0 K := by
  refine wp_intro mL_hasLane_i.1 [some (vR 1)] rfl rfl (Nat.le_of_ble_eq_true rfl) ?_
  intro X hG F C
  have hm := C.rm
  refine aw_aload_0 (q := 1) F dL_hasLane_0 rfl ?_
  refine av_getaE (q := 4) F fL_16 dL_hasLane_1 rfl rfl (by first | exact hW.o | exact hW.ho | exact hW.to) hW.p5 ?_
  refine av_geti (q := 7) F fL_107 dL_hasLane_4 rfl rfl (by first | exact hW.o | exact hW.ho | exact hW.to) ?_
  refine aw_if_le (q := 10) (t := 14) F dL_hasLane_7 rfl (by decide) (fun c7 => ?_) (fun c7 => ?_)
  · refine aw_iconst (q := 15) F dL_hasLane_14 rfl (by decide) ?_
    refine aw_zret F C dL_hasLane_15 rfl (by decide) (Nat.le_refl _) (Nat.le_refl _) ?_
    exact h0 (by omega)
  · refine aw_iconst (q := 11) F dL_hasLane_10 rfl (by decide) ?_
    refine aw_goto (t := 15) F dL_hasLane_11 (by decide) ?_
    refine aw_zret F C dL_hasLane_15 rfl (by decide) (Nat.le_refl _) (Nat.le_refl _) ?_
    exact h1 (by omega)
theorem wL_isErrand {x : Int} (h1 : 0 ≤ x ∧ x ≤ 2 → K (some (vI 1)) (V, σ)) (h0 : ¬ (0 ≤ x ∧ x ≤ 2) → K (some (vI 0)) (V, σ)) : Wp G 0 mL_isErrand [vI x] (V, σ) 0 0 K := by
  refine wp_intro mL_isErrand_i.1 [some (vI x)] rfl rfl (Nat.le_of_ble_eq_true rfl) ?_
  intro X hG F C
  have hm := C.rm
  refine aw_iload_0 (q := 1) F dL_isErrand_0 rfl ?_
  refine aw_if_lt (q := 4) (t := 13) F dL_isErrand_1 rfl (by decide) (fun c1 => ?_) (fun c1 => ?_)
  · refine aw_iconst (q := 14) F dL_isErrand_13 rfl (by decide) ?_
    refine aw_zret F C dL_isErrand_14 rfl (by decide) (Nat.le_refl _) (Nat.le_refl _) ?_
    exact h0 (by omega)
  · refine aw_iload_0 (q := 5) F dL_isErrand_4 rfl ?_
    refine aw_iconst (q := 6) F dL_isErrand_5 rfl (by decide) ?_
    refine aw_icmp_gt (q := 9) (t := 13) F dL_isErrand_6 rfl (by decide) (fun c6 => ?_) (fun c6 => ?_)
    · refine aw_iconst (q := 14) F dL_isErrand_13 rfl (by decide) ?_
      refine aw_zret F C dL_isErrand_14 rfl (by decide) (Nat.le_refl _) (Nat.le_refl _) ?_
      exact h0 (by omega)
    · refine aw_iconst (q := 10) F dL_isErrand_9 rfl (by decide) ?_
      refine aw_goto (t := 14) F dL_isErrand_10 (by decide) ?_
      refine aw_zret F C dL_isErrand_14 rfl (by decide) (Nat.le_refl _) (Nat.le_refl _) ?_
      exact h1 (by omega)
theorem wL_isRow {x : Int} (h1 : 0 ≤ x ∧ x ≤ 6 → K (some (vI 1)) (V, σ)) (h0 : ¬ (0 ≤ x ∧ x ≤ 6) → K (some (vI 0)) (V, σ)) : Wp G 0 mL_isRow [vI x] (V, σ) 0 0 K := by
  refine wp_intro mL_isRow_i.1 [some (vI x)] rfl rfl (Nat.le_of_ble_eq_true rfl) ?_
  intro X hG F C
  have hm := C.rm
  refine aw_iload_0 (q := 1) F dL_isRow_0 rfl ?_
  refine aw_if_lt (q := 4) (t := 14) F dL_isRow_1 rfl (by decide) (fun c1 => ?_) (fun c1 => ?_)
  · refine aw_iconst (q := 15) F dL_isRow_14 rfl (by decide) ?_
    refine aw_zret F C dL_isRow_15 rfl (by decide) (Nat.le_refl _) (Nat.le_refl _) ?_
    exact h0 (by omega)
  · refine aw_iload_0 (q := 5) F dL_isRow_4 rfl ?_
    refine aw_bipush (q := 7) F dL_isRow_5 rfl (by decide) ?_
    refine aw_icmp_gt (q := 10) (t := 14) F dL_isRow_7 rfl (by decide) (fun c7 => ?_) (fun c7 => ?_)
    · refine aw_iconst (q := 15) F dL_isRow_14 rfl (by decide) ?_
      refine aw_zret F C dL_isRow_15 rfl (by decide) (Nat.le_refl _) (Nat.le_refl _) ?_
      exact h0 (by omega)
    · refine aw_iconst (q := 11) F dL_isRow_10 rfl (by decide) ?_
      refine aw_goto (t := 15) F dL_isRow_11 (by decide) ?_
      refine aw_zret F C dL_isRow_15 rfl (by decide) (Nat.le_refl _) (Nat.le_refl _) ?_
      exact h1 (by omega)
theorem wL_isDraught {x : Int} (h1 : 0 ≤ x ∧ x ≤ 9 → K (some (vI 1)) (V, σ)) (h0 : ¬ (0 ≤ x ∧ x ≤ 9) → K (some (vI 0)) (V, σ)) : Wp G 0 mL_isDraught [vI x] (V, σ) 0 0 K := by
  refine wp_intro mL_isDraught_i.1 [some (vI x)] rfl rfl (Nat.le_of_ble_eq_true rfl) ?_
  intro X hG F C
  have hm := C.rm
  refine aw_iload_0 (q := 1) F dL_isDraught_0 rfl ?_
  refine aw_if_lt (q := 4) (t := 14) F dL_isDraught_1 rfl (by decide) (fun c1 => ?_) (fun c1 => ?_)
  · refine aw_iconst (q := 15) F dL_isDraught_14 rfl (by decide) ?_
    refine aw_zret F C dL_isDraught_15 rfl (by decide) (Nat.le_refl _) (Nat.le_refl _) ?_
    exact h0 (by omega)
  · refine aw_iload_0 (q := 5) F dL_isDraught_4 rfl ?_
    refine aw_bipush (q := 7) F dL_isDraught_5 rfl (by decide) ?_
    refine aw_icmp_gt (q := 10) (t := 14) F dL_isDraught_7 rfl (by decide) (fun c7 => ?_) (fun c7 => ?_)
    · refine aw_iconst (q := 15) F dL_isDraught_14 rfl (by decide) ?_
      refine aw_zret F C dL_isDraught_15 rfl (by decide) (Nat.le_refl _) (Nat.le_refl _) ?_
      exact h0 (by omega)
    · refine aw_iconst (q := 11) F dL_isDraught_10 rfl (by decide) ?_
      refine aw_goto (t := 15) F dL_isDraught_11 (by decide) ?_
      refine aw_zret F C dL_isDraught_15 rfl (by decide) (Nat.le_refl _) (Nat.le_refl _) ?_
      exact h1 (by omega)
theorem wL_isTimes {x : Int} (h1 : 0 ≤ x ∧ x ≤ 3 → K (some (vI 1)) (V, σ)) (h0 : ¬ (0 ≤ x ∧ x ≤ 3) → K (some (vI 0)) (V, σ)) : Wp G 0 mL_isTimes [vI x] (V, σ) 0 0 K := by
  refine wp_intro mL_isTimes_i.1 [some (vI x)] rfl rfl (Nat.le_of_ble_eq_true rfl) ?_
  intro X hG F C
  have hm := C.rm
  refine aw_iload_0 (q := 1) F dL_isTimes_0 rfl ?_
  refine aw_if_lt (q := 4) (t := 13) F dL_isTimes_1 rfl (by decide) (fun c1 => ?_) (fun c1 => ?_)
  · refine aw_iconst (q := 14) F dL_isTimes_13 rfl (by decide) ?_
    refine aw_zret F C dL_isTimes_14 rfl (by decide) (Nat.le_refl _) (Nat.le_refl _) ?_
    exact h0 (by omega)
  · refine aw_iload_0 (q := 5) F dL_isTimes_4 rfl ?_
    refine aw_iconst (q := 6) F dL_isTimes_5 rfl (by decide) ?_
    refine aw_icmp_gt (q := 9) (t := 13) F dL_isTimes_6 rfl (by decide) (fun c6 => ?_) (fun c6 => ?_)
    · refine aw_iconst (q := 14) F dL_isTimes_13 rfl (by decide) ?_
      refine aw_zret F C dL_isTimes_14 rfl (by decide) (Nat.le_refl _) (Nat.le_refl _) ?_
      exact h0 (by omega)
    · refine aw_iconst (q := 10) F dL_isTimes_9 rfl (by decide) ?_
      refine aw_goto (t := 14) F dL_isTimes_10 (by decide) ?_
      refine aw_zret F C dL_isTimes_14 rfl (by decide) (Nat.le_refl _) (Nat.le_refl _) ?_
      exact h1 (by omega)
theorem wL_isDraw {x z : Int} (h1 : (0 ≤ x ∧ x ≤ 65536) ∧ 0 ≤ z ∧ z ≤ 60 → K (some (vI 1)) (V, σ)) (h0 : ¬ ((0 ≤ x ∧ x ≤ 65536) ∧ 0 ≤ z ∧ z ≤ 60) → K (some (vI 0)) (V, σ)) : Wp G 0 mL_isDraw [vI x, vI z] (V, σ) 0 0 K := by
  refine wp_intro mL_isDraw_i.1 [some (vI x), some (vI z)] rfl rfl (Nat.le_of_ble_eq_true rfl) ?_
  intro X hG F C
  have hm := C.rm
  refine aw_iload_0 (q := 1) F dL_isDraw_0 rfl ?_
  refine aw_if_lt (q := 4) (t := 25) F dL_isDraw_1 rfl (by decide) (fun c1 => ?_) (fun c1 => ?_)
  · refine aw_iconst (q := 26) F dL_isDraw_25 rfl (by decide) ?_
    refine aw_zret F C dL_isDraw_26 rfl (by decide) (Nat.le_refl _) (Nat.le_refl _) ?_
    exact h0 (by omega)
  · refine aw_iload_0 (q := 5) F dL_isDraw_4 rfl ?_
    refine aw_ldcw (q := 8) (z := 65537) F dL_isDraw_5 rfl kL_382 (by decide) ?_
    refine aw_icmp_ge (q := 11) (t := 25) F dL_isDraw_8 rfl (by decide) (fun c8 => ?_) (fun c8 => ?_)
    · refine aw_iconst (q := 26) F dL_isDraw_25 rfl (by decide) ?_
      refine aw_zret F C dL_isDraw_26 rfl (by decide) (Nat.le_refl _) (Nat.le_refl _) ?_
      exact h0 (by omega)
    · refine aw_iload_1 (q := 12) F dL_isDraw_11 rfl ?_
      refine aw_if_lt (q := 15) (t := 25) F dL_isDraw_12 rfl (by decide) (fun c12 => ?_) (fun c12 => ?_)
      · refine aw_iconst (q := 26) F dL_isDraw_25 rfl (by decide) ?_
        refine aw_zret F C dL_isDraw_26 rfl (by decide) (Nat.le_refl _) (Nat.le_refl _) ?_
        exact h0 (by omega)
      · refine aw_iload_1 (q := 16) F dL_isDraw_15 rfl ?_
        refine aw_bipush (q := 18) F dL_isDraw_16 rfl (by decide) ?_
        refine aw_icmp_gt (q := 21) (t := 25) F dL_isDraw_18 rfl (by decide) (fun c18 => ?_) (fun c18 => ?_)
        · refine aw_iconst (q := 26) F dL_isDraw_25 rfl (by decide) ?_
          refine aw_zret F C dL_isDraw_26 rfl (by decide) (Nat.le_refl _) (Nat.le_refl _) ?_
          exact h0 (by omega)
        · refine aw_iconst (q := 22) F dL_isDraw_21 rfl (by decide) ?_
          refine aw_goto (t := 26) F dL_isDraw_22 (by decide) ?_
          refine aw_zret F C dL_isDraw_26 rfl (by decide) (Nat.le_refl _) (Nat.le_refl _) ?_
          exact h1 (by omega)
theorem wL_isContest {x z : Int} (hW : CS σ y) (h1 : (0 ≤ x ∧ x < V 10 1) ∧ (0 ≤ z ∧ z < V 10 0) ∧ V (dT y) 2 = 2 → K (some (vI 1)) (V, σ)) (h0 : ¬ ((0 ≤ x ∧ x < V 10 1) ∧ (0 ≤ z ∧ z < V 10 0) ∧ V (dT y) 2 = 2) → K (some (vI 0)) (V, σ)) : Wp G 1 mL_isContest [vR 1, vI x, vI z] (V, σ) 0 0 K := by
  refine wp_intro mL_isContest_i.1 [some (vR 1), some (vI x), some (vI z)] rfl rfl (Nat.le_of_ble_eq_true rfl) ?_
  intro X hG F C
  have hm := C.rm
  refine aw_aload_0 (q := 1) F dL_isContest_0 rfl ?_
  refine av_getaE (q := 4) F fL_23 dL_isContest_1 rfl rfl (by first | exact hW.o | exact hW.ho | exact hW.to) hW.p6 ?_
  refine aw_iload_1 (q := 5) F dL_isContest_4 rfl ?_
  refine av_callV1 (q := 8) (ci := 2) F hm mH_isPerson_i mH_isPerson_n lL_136 dL_isContest_5 rfl rfl rfl (by first | exact hW.o | exact hW.ho | exact hW.to) (by decide) (Nat.le_refl _) (Nat.le_refl _) (Nat.le_of_ble_eq_true rfl) (wH_isPerson hW.h (fun c5 => ?_) (fun c5 => ?_))
  · refine aw_if_eq (q := 11) (t := 37) F dL_isContest_8 rfl (by decide) (fun c8 => absurd c8 (by decide)) (fun c8 => ?_)
    refine aw_aload_0 (q := 12) F dL_isContest_11 rfl ?_
    refine av_getaE (q := 15) F fL_23 dL_isContest_12 rfl rfl (by first | exact hW.o | exact hW.ho | exact hW.to) hW.p6 ?_
    refine aw_iload_2 (q := 16) F dL_isContest_15 rfl ?_
    refine av_callV1 (q := 19) (ci := 2) F hm mH_isDoor_i mH_isDoor_n lL_110 dL_isContest_16 rfl rfl rfl (by first | exact hW.o | exact hW.ho | exact hW.to) (by decide) (Nat.le_refl _) (Nat.le_refl _) (Nat.le_of_ble_eq_true rfl) (wH_isDoor hW.h (fun c16 => ?_) (fun c16 => ?_))
    · refine aw_if_eq (q := 22) (t := 37) F dL_isContest_19 rfl (by decide) (fun c19 => absurd c19 (by decide)) (fun c19 => ?_)
      refine aw_aload_0 (q := 23) F dL_isContest_22 rfl ?_
      refine av_getaE (q := 26) F fL_16 dL_isContest_23 rfl rfl (by first | exact hW.o | exact hW.ho | exact hW.to) hW.p5 ?_
      refine av_geti (q := 29) F fL_369 dL_isContest_26 rfl rfl (by first | exact hW.o | exact hW.ho | exact hW.to) ?_
      refine aw_iconst (q := 30) F dL_isContest_29 rfl (by decide) ?_
      refine aw_icmp_ne (q := 33) (t := 37) F dL_isContest_30 rfl (by decide) (fun c30 => ?_) (fun c30 => ?_)
      · refine aw_iconst (q := 38) F dL_isContest_37 rfl (by decide) ?_
        refine aw_zret F C dL_isContest_38 rfl (by decide) (Nat.le_refl _) (Nat.le_refl _) ?_
        exact h0 (by omega)
      · refine aw_iconst (q := 34) F dL_isContest_33 rfl (by decide) ?_
        refine aw_goto (t := 38) F dL_isContest_34 (by decide) ?_
        refine aw_zret F C dL_isContest_38 rfl (by decide) (Nat.le_refl _) (Nat.le_refl _) ?_
        exact h1 (by omega)
    · refine aw_if_eq (q := 22) (t := 37) F dL_isContest_19 rfl (by decide) (fun c19 => ?_) (fun c19 => absurd c19 (by decide))
      refine aw_iconst (q := 38) F dL_isContest_37 rfl (by decide) ?_
      refine aw_zret F C dL_isContest_38 rfl (by decide) (Nat.le_refl _) (Nat.le_refl _) ?_
      exact h0 (by omega)
  · refine aw_if_eq (q := 11) (t := 37) F dL_isContest_8 rfl (by decide) (fun c8 => ?_) (fun c8 => absurd c8 (by decide))
    refine aw_iconst (q := 38) F dL_isContest_37 rfl (by decide) ?_
    refine aw_zret F C dL_isContest_38 rfl (by decide) (Nat.le_refl _) (Nat.le_refl _) ?_
    exact h0 (by omega)
-- answers
theorem wL_fault (h : CW V σ ow y S kn) (hK : CK K V σ ow S kn (some (vI (psF S)))) : Wp G 0 mL_fault [vR 1] (V, σ) 0 0 K := by
  have hW := h.cs
  have hF := h.cf
  refine wp_intro mL_fault_i.1 [some (vR 1)] rfl rfl (Nat.le_of_ble_eq_true rfl) ?_
  intro X hG F C
  have hm := C.rm
  refine aw_aload_0 (q := 1) F dL_fault_0 rfl ?_
  refine av_geti (q := 4) F fL_92 dL_fault_1 rfl rfl (by first | exact hW.o | exact hW.ho | exact hW.to) ?_
  refine aw_iret F C dL_fault_4 rfl (Nat.le_refl _) (Nat.le_refl _) ?_
  exact kI (hK V σ ow y h (FR.rf _ _ _)) hF.2.2.1.symm
theorem wL_trouble (h : CW V σ ow y S kn) (hK : CK K V σ ow S kn (some (vI (psR S)))) : Wp G 0 mL_trouble [vR 1] (V, σ) 0 0 K := by
  have hW := h.cs
  have hF := h.cf
  refine wp_intro mL_trouble_i.1 [some (vR 1)] rfl rfl (Nat.le_of_ble_eq_true rfl) ?_
  intro X hG F C
  have hm := C.rm
  refine aw_aload_0 (q := 1) F dL_trouble_0 rfl ?_
  refine av_geti (q := 4) F fL_99 dL_trouble_1 rfl rfl (by first | exact hW.o | exact hW.ho | exact hW.to) ?_
  refine aw_iret F C dL_trouble_4 rfl (Nat.le_refl _) (Nat.le_refl _) ?_
  exact kI (hK V σ ow y h (FR.rf _ _ _)) hF.2.1.symm
theorem wL_where (h : CW V σ ow y S kn) (hK : CK K V σ ow S kn (some (vI (if psR S = 4 then psL S else -1)))) : Wp G 0 mL_where [vR 1] (V, σ) 0 0 K := by
  have hW := h.cs
  have hF := h.cf
  have hF2 := hF.2.1
  have k0 := hK V σ ow y h (FR.rf _ _ _)
  refine wp_intro mL_where_i.1 [some (vR 1)] rfl rfl (Nat.le_of_ble_eq_true rfl) ?_
  intro X hG F C
  have hm := C.rm
  refine aw_aload_0 (q := 1) F dL_where_0 rfl ?_
  refine av_geti (q := 4) F fL_99 dL_where_1 rfl rfl (by first | exact hW.o | exact hW.ho | exact hW.to) ?_
  refine aw_iconst (q := 5) F dL_where_4 rfl (by decide) ?_
  refine aw_icmp_ne (q := 8) (t := 15) F dL_where_5 rfl (by decide) (fun c5 => ?_) (fun c5 => ?_)
  · refine aw_iconst (q := 16) F dL_where_15 rfl (by decide) ?_
    refine aw_iret F C dL_where_16 rfl (Nat.le_refl _) (Nat.le_refl _) ?_
    by_cases e : psR S = 4
    · rw [if_pos e] at k0; first | exact kI k0 (hF.2.2.2.1 e).symm | (exfalso; omega)
    · rw [if_neg e] at k0; first | exact k0 | (exfalso; omega)
  · refine aw_aload_0 (q := 9) F dL_where_8 rfl ?_
    refine av_geti (q := 12) F fL_96 dL_where_9 rfl rfl (by first | exact hW.o | exact hW.ho | exact hW.to) ?_
    refine aw_goto (t := 16) F dL_where_12 (by decide) ?_
    refine aw_iret F C dL_where_16 rfl (Nat.le_refl _) (Nat.le_refl _) ?_
    by_cases e : psR S = 4
    · rw [if_pos e] at k0; first | exact kI k0 (hF.2.2.2.1 e).symm | (exfalso; omega)
    · rw [if_neg e] at k0; first | exact k0 | (exfalso; omega)
/-- refused by 1 where there is no lane -/
def noL (S : PS) (r : Int) : Int := if 0 < tDn (psT S) then r else -1
def noS (S : PS) : PS := setR S (if 0 < tDn (psT S) then 0 else 1)
theorem wL_last (h : CW V σ ow y S kn) (hK : CK K V σ ow (noS S) kn (some (vI (noL S (lst (psC S) (psA S)))))) : Wp G 1 mL_last [vR 1] (V, σ) 0 0 K := by
  have hW := h.cs
  have hT1 : V (dT y) 1 = tDn (psT S) := h.tv.1.2.1
  have g := fun c : 0 < tDn (psT S) => (show CK K V σ ow (setR S 0) kn _ from by unfold noS noL at hK; rw [if_pos c, if_pos c] at hK; exact hK) _ _ _ _ (h.tr (z := 0) (by decide)) h.fr
  have r1 := fun c : ¬ 0 < tDn (psT S) => (show CK K V σ ow (setR S 1) kn (some (vI (-1))) from by unfold noS noL at hK; rw [if_neg c, if_neg c] at hK; exact hK) _ _ _ _ (h.tr (z := 1) (by decide)) h.fr
  have h2 := h.tr (z := 0) (by decide)
  refine wp_intro mL_last_i.1 [some (vR 1)] rfl rfl (Nat.le_of_ble_eq_true rfl) ?_
  intro X hG F C
  have hm := C.rm
  refine aw_aload_0 (q := 1) F dL_last_0 rfl ?_
  refine aw_aload_0 (q := 2) F dL_last_1 rfl ?_
  refine av_callV0 (q := 5) (ci := 7) F hm mL_hasLane_i mL_hasLane_n lL_154 dL_last_2 rfl rfl rfl (by first | exact hW.o | exact hW.ho | exact hW.to) (by decide) (Nat.le_refl _) (Nat.le_refl _) (Nat.le_of_ble_eq_true rfl) (wL_hasLane hW (fun c2 => ?_) (fun c2 => ?_))
  · refine aw_iconst (q := 6) F dL_last_5 rfl (by decide) ?_
    refine av_callV2 (q := 9) (ci := 7) F hm mL_passes_i mL_passes_n lL_114 dL_last_6 rfl rfl rfl (by first | exact hW.o | exact hW.ho | exact hW.to) (by decide) (Nat.le_refl _) (Nat.le_refl _) (Nat.le_of_ble_eq_true rfl) (wL_passes hW (fun c6 d6 => ?_) (fun c6 => ?_) (fun c6 d6 => ?_))
    · refine aw_if_eq (q := 12) (t := 22) F dL_last_9 rfl (by decide) (fun c9 => absurd c9 (by decide)) (fun c9 => ?_)
      refine aw_aload_0 (q := 13) F dL_last_12 rfl ?_
      refine av_getaE (q := 16) F fL_23 dL_last_13 rfl rfl (by first | exact hW.o | exact hW.ho | exact hW.to) hW.p6 ?_
      refine av_geti (q := 19) F fL_133 dL_last_16 rfl rfl (by first | exact hW.o | exact hW.ho | exact hW.to) ?_
      refine aw_goto (t := 23) F dL_last_19 (by decide) ?_
      refine aw_iret F C dL_last_23 rfl (Nat.le_refl _) (Nat.le_refl _) ?_
      first | exact kI (g (by omega)) (h2.hh.2.2.2.2.1).symm | exact r1 (by omega) | (exfalso; omega)
    · refine aw_if_eq (q := 12) (t := 22) F dL_last_9 rfl (by decide) (fun c9 => ?_) (fun c9 => absurd c9 (by decide))
      refine aw_iconst (q := 23) F dL_last_22 rfl (by decide) ?_
      refine aw_iret F C dL_last_23 rfl (Nat.le_refl _) (Nat.le_refl _) ?_
      first | exact kI (g (by omega)) (h2.hh.2.2.2.2.1).symm | exact r1 (by omega) | (exfalso; omega)
    · refine aw_if_eq (q := 12) (t := 22) F dL_last_9 rfl (by decide) (fun c9 => ?_) (fun c9 => absurd c9 (by decide))
      refine aw_iconst (q := 23) F dL_last_22 rfl (by decide) ?_
      refine aw_iret F C dL_last_23 rfl (Nat.le_refl _) (Nat.le_refl _) ?_
      first | exact kI (g (by omega)) (h2.hh.2.2.2.2.1).symm | exact r1 (by omega) | (exfalso; omega)
  · refine aw_iconst (q := 6) F dL_last_5 rfl (by decide) ?_
    refine av_callV2 (q := 9) (ci := 7) F hm mL_passes_i mL_passes_n lL_114 dL_last_6 rfl rfl rfl (by first | exact hW.o | exact hW.ho | exact hW.to) (by decide) (Nat.le_refl _) (Nat.le_refl _) (Nat.le_of_ble_eq_true rfl) (wL_passes hW (fun c6 d6 => ?_) (fun c6 => ?_) (fun c6 d6 => ?_))
    · refine aw_if_eq (q := 12) (t := 22) F dL_last_9 rfl (by decide) (fun c9 => absurd c9 (by decide)) (fun c9 => ?_)
      refine aw_aload_0 (q := 13) F dL_last_12 rfl ?_
      refine av_getaE (q := 16) F fL_23 dL_last_13 rfl rfl (by first | exact hW.o | exact hW.ho | exact hW.to) hW.p6 ?_
      refine av_geti (q := 19) F fL_133 dL_last_16 rfl rfl (by first | exact hW.o | exact hW.ho | exact hW.to) ?_
      refine aw_goto (t := 23) F dL_last_19 (by decide) ?_
      refine aw_iret F C dL_last_23 rfl (Nat.le_refl _) (Nat.le_refl _) ?_
      first | exact kI (g (by omega)) (h2.hh.2.2.2.2.1).symm | exact r1 (by omega) | (exfalso; omega)
    · refine aw_if_eq (q := 12) (t := 22) F dL_last_9 rfl (by decide) (fun c9 => ?_) (fun c9 => absurd c9 (by decide))
      refine aw_iconst (q := 23) F dL_last_22 rfl (by decide) ?_
      refine aw_iret F C dL_last_23 rfl (Nat.le_refl _) (Nat.le_refl _) ?_
      first | exact kI (g (by omega)) (h2.hh.2.2.2.2.1).symm | exact r1 (by omega) | (exfalso; omega)
    · refine aw_if_eq (q := 12) (t := 22) F dL_last_9 rfl (by decide) (fun c9 => ?_) (fun c9 => absurd c9 (by decide))
      refine aw_iconst (q := 23) F dL_last_22 rfl (by decide) ?_
      refine aw_iret F C dL_last_23 rfl (Nat.le_refl _) (Nat.le_refl _) ?_
      first | exact kI (g (by omega)) (h2.hh.2.2.2.2.1).symm | exact r1 (by omega) | (exfalso; omega)
theorem wL_choices (h : CW V σ ow y S kn) (hK : CK K V σ ow (noS S) kn (some (vI (noL S (cntB (mayN (psC S) (psA S) (allP (psC S))) (stN (psC S))))))) : Wp G 4 mL_choices [vR 1] (V, σ) 0 0 K := by
  have hW := h.cs
  have hT1 : V (dT y) 1 = tDn (psT S) := h.tv.1.2.1
  have g := fun c : 0 < tDn (psT S) => (show CK K V σ ow (setR S 0) kn _ from by unfold noS noL at hK; rw [if_pos c, if_pos c] at hK; exact hK) _ _ _ _ (h.tr (z := 0) (by decide)) h.fr
  have r1 := fun c : ¬ 0 < tDn (psT S) => (show CK K V σ ow (setR S 1) kn (some (vI (-1))) from by unfold noS noL at hK; rw [if_neg c, if_neg c] at hK; exact hK) _ _ _ _ (h.tr (z := 1) (by decide)) h.fr
  have h2 := h.tr (z := 0) (by decide)
  refine wp_intro mL_choices_i.1 [some (vR 1)] rfl rfl (Nat.le_of_ble_eq_true rfl) ?_
  intro X hG F C
  have hm := C.rm
  refine aw_aload_0 (q := 1) F dL_choices_0 rfl ?_
  refine aw_aload_0 (q := 2) F dL_choices_1 rfl ?_
  refine av_callV0 (q := 5) (ci := 7) F hm mL_hasLane_i mL_hasLane_n lL_154 dL_choices_2 rfl rfl rfl (by first | exact hW.o | exact hW.ho | exact hW.to) (by decide) (Nat.le_refl _) (Nat.le_refl _) (Nat.le_of_ble_eq_true rfl) (wL_hasLane hW (fun c2 => ?_) (fun c2 => ?_))
  · refine aw_iconst (q := 6) F dL_choices_5 rfl (by decide) ?_
    refine av_callV2 (q := 9) (ci := 7) F hm mL_passes_i mL_passes_n lL_114 dL_choices_6 rfl rfl rfl (by first | exact hW.o | exact hW.ho | exact hW.to) (by decide) (Nat.le_refl _) (Nat.le_refl _) (Nat.le_of_ble_eq_true rfl) (wL_passes hW (fun c6 d6 => ?_) (fun c6 => ?_) (fun c6 d6 => ?_))
    · refine aw_if_eq (q := 12) (t := 22) F dL_choices_9 rfl (by decide) (fun c9 => absurd c9 (by decide)) (fun c9 => ?_)
      refine aw_aload_0 (q := 13) F dL_choices_12 rfl ?_
      refine av_getaE (q := 16) F fL_23 dL_choices_13 rfl rfl (by first | exact hW.o | exact hW.ho | exact hW.to) hW.p6 ?_
      refine av_callV0 (q := 19) (ci := 2) F hm mH_countSteps_i mH_countSteps_n lL_168 dL_choices_16 rfl rfl rfl (by first | exact hW.o | exact hW.ho | exact hW.to) (by decide) (Nat.le_refl _) (Nat.le_refl _) (Nat.le_of_ble_eq_true rfl) (wH_countSteps hW.h h2.hh ?_)
      refine aw_goto (t := 23) F dL_choices_19 (by decide) ?_
      refine aw_iret F C dL_choices_23 rfl (Nat.le_refl _) (Nat.le_refl _) ?_
      first | exact g (by omega) | exact r1 (by omega) | (exfalso; omega)
    · refine aw_if_eq (q := 12) (t := 22) F dL_choices_9 rfl (by decide) (fun c9 => ?_) (fun c9 => absurd c9 (by decide))
      refine aw_iconst (q := 23) F dL_choices_22 rfl (by decide) ?_
      refine aw_iret F C dL_choices_23 rfl (Nat.le_refl _) (Nat.le_refl _) ?_
      first | exact g (by omega) | exact r1 (by omega) | (exfalso; omega)
    · refine aw_if_eq (q := 12) (t := 22) F dL_choices_9 rfl (by decide) (fun c9 => ?_) (fun c9 => absurd c9 (by decide))
      refine aw_iconst (q := 23) F dL_choices_22 rfl (by decide) ?_
      refine aw_iret F C dL_choices_23 rfl (Nat.le_refl _) (Nat.le_refl _) ?_
      first | exact g (by omega) | exact r1 (by omega) | (exfalso; omega)
  · refine aw_iconst (q := 6) F dL_choices_5 rfl (by decide) ?_
    refine av_callV2 (q := 9) (ci := 7) F hm mL_passes_i mL_passes_n lL_114 dL_choices_6 rfl rfl rfl (by first | exact hW.o | exact hW.ho | exact hW.to) (by decide) (Nat.le_refl _) (Nat.le_refl _) (Nat.le_of_ble_eq_true rfl) (wL_passes hW (fun c6 d6 => ?_) (fun c6 => ?_) (fun c6 d6 => ?_))
    · refine aw_if_eq (q := 12) (t := 22) F dL_choices_9 rfl (by decide) (fun c9 => absurd c9 (by decide)) (fun c9 => ?_)
      refine aw_aload_0 (q := 13) F dL_choices_12 rfl ?_
      refine av_getaE (q := 16) F fL_23 dL_choices_13 rfl rfl (by first | exact hW.o | exact hW.ho | exact hW.to) hW.p6 ?_
      refine av_callV0 (q := 19) (ci := 2) F hm mH_countSteps_i mH_countSteps_n lL_168 dL_choices_16 rfl rfl rfl (by first | exact hW.o | exact hW.ho | exact hW.to) (by decide) (Nat.le_refl _) (Nat.le_refl _) (Nat.le_of_ble_eq_true rfl) (wH_countSteps hW.h h2.hh ?_)
      refine aw_goto (t := 23) F dL_choices_19 (by decide) ?_
      refine aw_iret F C dL_choices_23 rfl (Nat.le_refl _) (Nat.le_refl _) ?_
      first | exact g (by omega) | exact r1 (by omega) | (exfalso; omega)
    · refine aw_if_eq (q := 12) (t := 22) F dL_choices_9 rfl (by decide) (fun c9 => ?_) (fun c9 => absurd c9 (by decide))
      refine aw_iconst (q := 23) F dL_choices_22 rfl (by decide) ?_
      refine aw_iret F C dL_choices_23 rfl (Nat.le_refl _) (Nat.le_refl _) ?_
      first | exact g (by omega) | exact r1 (by omega) | (exfalso; omega)
    · refine aw_if_eq (q := 12) (t := 22) F dL_choices_9 rfl (by decide) (fun c9 => ?_) (fun c9 => absurd c9 (by decide))
      refine aw_iconst (q := 23) F dL_choices_22 rfl (by decide) ?_
      refine aw_iret F C dL_choices_23 rfl (Nat.le_refl _) (Nat.le_refl _) ?_
      first | exact g (by omega) | exact r1 (by omega) | (exfalso; omega)
theorem wL_seen (h : CW V σ ow y S kn) (hK : CK K V σ ow (noS S) kn (some (vI (noL S (rsN (psC S) (psA S) (tDn (psT S))))))) : Wp G 1 mL_seen [vR 1] (V, σ) 0 0 K := by
  have hW := h.cs
  have hT1 : V (dT y) 1 = tDn (psT S) := h.tv.1.2.1
  have g := fun c : 0 < tDn (psT S) => (show CK K V σ ow (setR S 0) kn _ from by unfold noS noL at hK; rw [if_pos c, if_pos c] at hK; exact hK) _ _ _ _ (h.tr (z := 0) (by decide)) h.fr
  have r1 := fun c : ¬ 0 < tDn (psT S) => (show CK K V σ ow (setR S 1) kn (some (vI (-1))) from by unfold noS noL at hK; rw [if_neg c, if_neg c] at hK; exact hK) _ _ _ _ (h.tr (z := 1) (by decide)) h.fr
  have h2 := h.tr (z := 0) (by decide)
  refine wp_intro mL_seen_i.1 [some (vR 1)] rfl rfl (Nat.le_of_ble_eq_true rfl) ?_
  intro X hG F C
  have hm := C.rm
  refine aw_aload_0 (q := 1) F dL_seen_0 rfl ?_
  refine aw_aload_0 (q := 2) F dL_seen_1 rfl ?_
  refine av_callV0 (q := 5) (ci := 7) F hm mL_hasLane_i mL_hasLane_n lL_154 dL_seen_2 rfl rfl rfl (by first | exact hW.o | exact hW.ho | exact hW.to) (by decide) (Nat.le_refl _) (Nat.le_refl _) (Nat.le_of_ble_eq_true rfl) (wL_hasLane hW (fun c2 => ?_) (fun c2 => ?_))
  · refine aw_iconst (q := 6) F dL_seen_5 rfl (by decide) ?_
    refine av_callV2 (q := 9) (ci := 7) F hm mL_passes_i mL_passes_n lL_114 dL_seen_6 rfl rfl rfl (by first | exact hW.o | exact hW.ho | exact hW.to) (by decide) (Nat.le_refl _) (Nat.le_refl _) (Nat.le_of_ble_eq_true rfl) (wL_passes hW (fun c6 d6 => ?_) (fun c6 => ?_) (fun c6 d6 => ?_))
    · refine aw_if_eq (q := 12) (t := 22) F dL_seen_9 rfl (by decide) (fun c9 => absurd c9 (by decide)) (fun c9 => ?_)
      refine aw_aload_0 (q := 13) F dL_seen_12 rfl ?_
      refine av_getaE (q := 16) F fL_23 dL_seen_13 rfl rfl (by first | exact hW.o | exact hW.ho | exact hW.to) hW.p6 ?_
      refine av_callV0 (q := 19) (ci := 2) F hm mH_roomsSeen_i mH_roomsSeen_n lL_171 dL_seen_16 rfl rfl rfl (by first | exact hW.o | exact hW.ho | exact hW.to) (by decide) (Nat.le_refl _) (Nat.le_refl _) (Nat.le_of_ble_eq_true rfl) (wH_roomsSeen hW.h h2.hh ?_)
      refine aw_goto (t := 23) F dL_seen_19 (by decide) ?_
      refine aw_iret F C dL_seen_23 rfl (Nat.le_refl _) (Nat.le_refl _) ?_
      first | exact g (by omega) | exact r1 (by omega) | (exfalso; omega)
    · refine aw_if_eq (q := 12) (t := 22) F dL_seen_9 rfl (by decide) (fun c9 => ?_) (fun c9 => absurd c9 (by decide))
      refine aw_iconst (q := 23) F dL_seen_22 rfl (by decide) ?_
      refine aw_iret F C dL_seen_23 rfl (Nat.le_refl _) (Nat.le_refl _) ?_
      first | exact g (by omega) | exact r1 (by omega) | (exfalso; omega)
    · refine aw_if_eq (q := 12) (t := 22) F dL_seen_9 rfl (by decide) (fun c9 => ?_) (fun c9 => absurd c9 (by decide))
      refine aw_iconst (q := 23) F dL_seen_22 rfl (by decide) ?_
      refine aw_iret F C dL_seen_23 rfl (Nat.le_refl _) (Nat.le_refl _) ?_
      first | exact g (by omega) | exact r1 (by omega) | (exfalso; omega)
  · refine aw_iconst (q := 6) F dL_seen_5 rfl (by decide) ?_
    refine av_callV2 (q := 9) (ci := 7) F hm mL_passes_i mL_passes_n lL_114 dL_seen_6 rfl rfl rfl (by first | exact hW.o | exact hW.ho | exact hW.to) (by decide) (Nat.le_refl _) (Nat.le_refl _) (Nat.le_of_ble_eq_true rfl) (wL_passes hW (fun c6 d6 => ?_) (fun c6 => ?_) (fun c6 d6 => ?_))
    · refine aw_if_eq (q := 12) (t := 22) F dL_seen_9 rfl (by decide) (fun c9 => absurd c9 (by decide)) (fun c9 => ?_)
      refine aw_aload_0 (q := 13) F dL_seen_12 rfl ?_
      refine av_getaE (q := 16) F fL_23 dL_seen_13 rfl rfl (by first | exact hW.o | exact hW.ho | exact hW.to) hW.p6 ?_
      refine av_callV0 (q := 19) (ci := 2) F hm mH_roomsSeen_i mH_roomsSeen_n lL_171 dL_seen_16 rfl rfl rfl (by first | exact hW.o | exact hW.ho | exact hW.to) (by decide) (Nat.le_refl _) (Nat.le_refl _) (Nat.le_of_ble_eq_true rfl) (wH_roomsSeen hW.h h2.hh ?_)
      refine aw_goto (t := 23) F dL_seen_19 (by decide) ?_
      refine aw_iret F C dL_seen_23 rfl (Nat.le_refl _) (Nat.le_refl _) ?_
      first | exact g (by omega) | exact r1 (by omega) | (exfalso; omega)
    · refine aw_if_eq (q := 12) (t := 22) F dL_seen_9 rfl (by decide) (fun c9 => ?_) (fun c9 => absurd c9 (by decide))
      refine aw_iconst (q := 23) F dL_seen_22 rfl (by decide) ?_
      refine aw_iret F C dL_seen_23 rfl (Nat.le_refl _) (Nat.le_refl _) ?_
      first | exact g (by omega) | exact r1 (by omega) | (exfalso; omega)
    · refine aw_if_eq (q := 12) (t := 22) F dL_seen_9 rfl (by decide) (fun c9 => ?_) (fun c9 => absurd c9 (by decide))
      refine aw_iconst (q := 23) F dL_seen_22 rfl (by decide) ?_
      refine aw_iret F C dL_seen_23 rfl (Nat.le_refl _) (Nat.le_refl _) ?_
      first | exact g (by omega) | exact r1 (by omega) | (exfalso; omega)
theorem wL_shutIn (h : CW V σ ow y S kn) (hK : CK K V σ ow (noS S) kn (some (vI (noL S (shutN (psC S) (psA S)))))) : Wp G 2 mL_shutIn [vR 1] (V, σ) 0 0 K := by
  have hW := h.cs
  have hT1 : V (dT y) 1 = tDn (psT S) := h.tv.1.2.1
  have g := fun c : 0 < tDn (psT S) => (show CK K V σ ow (setR S 0) kn _ from by unfold noS noL at hK; rw [if_pos c, if_pos c] at hK; exact hK) _ _ _ _ (h.tr (z := 0) (by decide)) h.fr
  have r1 := fun c : ¬ 0 < tDn (psT S) => (show CK K V σ ow (setR S 1) kn (some (vI (-1))) from by unfold noS noL at hK; rw [if_neg c, if_neg c] at hK; exact hK) _ _ _ _ (h.tr (z := 1) (by decide)) h.fr
  have h2 := h.tr (z := 0) (by decide)
  refine wp_intro mL_shutIn_i.1 [some (vR 1)] rfl rfl (Nat.le_of_ble_eq_true rfl) ?_
  intro X hG F C
  have hm := C.rm
  refine aw_aload_0 (q := 1) F dL_shutIn_0 rfl ?_
  refine aw_aload_0 (q := 2) F dL_shutIn_1 rfl ?_
  refine av_callV0 (q := 5) (ci := 7) F hm mL_hasLane_i mL_hasLane_n lL_154 dL_shutIn_2 rfl rfl rfl (by first | exact hW.o | exact hW.ho | exact hW.to) (by decide) (Nat.le_refl _) (Nat.le_refl _) (Nat.le_of_ble_eq_true rfl) (wL_hasLane hW (fun c2 => ?_) (fun c2 => ?_))
  · refine aw_iconst (q := 6) F dL_shutIn_5 rfl (by decide) ?_
    refine av_callV2 (q := 9) (ci := 7) F hm mL_passes_i mL_passes_n lL_114 dL_shutIn_6 rfl rfl rfl (by first | exact hW.o | exact hW.ho | exact hW.to) (by decide) (Nat.le_refl _) (Nat.le_refl _) (Nat.le_of_ble_eq_true rfl) (wL_passes hW (fun c6 d6 => ?_) (fun c6 => ?_) (fun c6 d6 => ?_))
    · refine aw_if_eq (q := 12) (t := 22) F dL_shutIn_9 rfl (by decide) (fun c9 => absurd c9 (by decide)) (fun c9 => ?_)
      refine aw_aload_0 (q := 13) F dL_shutIn_12 rfl ?_
      refine av_getaE (q := 16) F fL_23 dL_shutIn_13 rfl rfl (by first | exact hW.o | exact hW.ho | exact hW.to) hW.p6 ?_
      refine av_callV0 (q := 19) (ci := 2) F hm mH_peopleShutIn_i mH_peopleShutIn_n lL_174 dL_shutIn_16 rfl rfl rfl (by first | exact hW.o | exact hW.ho | exact hW.to) (by decide) (Nat.le_refl _) (Nat.le_refl _) (Nat.le_of_ble_eq_true rfl) (wH_peopleShutIn hW.h h2.hh ?_)
      refine aw_goto (t := 23) F dL_shutIn_19 (by decide) ?_
      refine aw_iret F C dL_shutIn_23 rfl (Nat.le_refl _) (Nat.le_refl _) ?_
      first | exact g (by omega) | exact r1 (by omega) | (exfalso; omega)
    · refine aw_if_eq (q := 12) (t := 22) F dL_shutIn_9 rfl (by decide) (fun c9 => ?_) (fun c9 => absurd c9 (by decide))
      refine aw_iconst (q := 23) F dL_shutIn_22 rfl (by decide) ?_
      refine aw_iret F C dL_shutIn_23 rfl (Nat.le_refl _) (Nat.le_refl _) ?_
      first | exact g (by omega) | exact r1 (by omega) | (exfalso; omega)
    · refine aw_if_eq (q := 12) (t := 22) F dL_shutIn_9 rfl (by decide) (fun c9 => ?_) (fun c9 => absurd c9 (by decide))
      refine aw_iconst (q := 23) F dL_shutIn_22 rfl (by decide) ?_
      refine aw_iret F C dL_shutIn_23 rfl (Nat.le_refl _) (Nat.le_refl _) ?_
      first | exact g (by omega) | exact r1 (by omega) | (exfalso; omega)
  · refine aw_iconst (q := 6) F dL_shutIn_5 rfl (by decide) ?_
    refine av_callV2 (q := 9) (ci := 7) F hm mL_passes_i mL_passes_n lL_114 dL_shutIn_6 rfl rfl rfl (by first | exact hW.o | exact hW.ho | exact hW.to) (by decide) (Nat.le_refl _) (Nat.le_refl _) (Nat.le_of_ble_eq_true rfl) (wL_passes hW (fun c6 d6 => ?_) (fun c6 => ?_) (fun c6 d6 => ?_))
    · refine aw_if_eq (q := 12) (t := 22) F dL_shutIn_9 rfl (by decide) (fun c9 => absurd c9 (by decide)) (fun c9 => ?_)
      refine aw_aload_0 (q := 13) F dL_shutIn_12 rfl ?_
      refine av_getaE (q := 16) F fL_23 dL_shutIn_13 rfl rfl (by first | exact hW.o | exact hW.ho | exact hW.to) hW.p6 ?_
      refine av_callV0 (q := 19) (ci := 2) F hm mH_peopleShutIn_i mH_peopleShutIn_n lL_174 dL_shutIn_16 rfl rfl rfl (by first | exact hW.o | exact hW.ho | exact hW.to) (by decide) (Nat.le_refl _) (Nat.le_refl _) (Nat.le_of_ble_eq_true rfl) (wH_peopleShutIn hW.h h2.hh ?_)
      refine aw_goto (t := 23) F dL_shutIn_19 (by decide) ?_
      refine aw_iret F C dL_shutIn_23 rfl (Nat.le_refl _) (Nat.le_refl _) ?_
      first | exact g (by omega) | exact r1 (by omega) | (exfalso; omega)
    · refine aw_if_eq (q := 12) (t := 22) F dL_shutIn_9 rfl (by decide) (fun c9 => ?_) (fun c9 => absurd c9 (by decide))
      refine aw_iconst (q := 23) F dL_shutIn_22 rfl (by decide) ?_
      refine aw_iret F C dL_shutIn_23 rfl (Nat.le_refl _) (Nat.le_refl _) ?_
      first | exact g (by omega) | exact r1 (by omega) | (exfalso; omega)
    · refine aw_if_eq (q := 12) (t := 22) F dL_shutIn_9 rfl (by decide) (fun c9 => ?_) (fun c9 => absurd c9 (by decide))
      refine aw_iconst (q := 23) F dL_shutIn_22 rfl (by decide) ?_
      refine aw_iret F C dL_shutIn_23 rfl (Nat.le_refl _) (Nat.le_refl _) ?_
      first | exact g (by omega) | exact r1 (by omega) | (exfalso; omega)
end Small
