theorem dM_slammed_0 : decode mM_slammed.2.1 0 = .ok (.iload_n 1, 1) := by decide +kernel
theorem dM_slammed_1 : decode mM_slammed.2.1 1 = .ok (.ifCond .eq 15, 3) := by decide +kernel
theorem dM_slammed_4 : decode mM_slammed.2.1 4 = .ok (.iload_n 2, 1) := by decide +kernel
theorem dM_slammed_5 : decode mM_slammed.2.1 5 = .ok (.ifCond .eq 7, 3) := by decide +kernel
theorem dM_slammed_8 : decode mM_slammed.2.1 8 = .ok (.iconst 0, 1) := by decide +kernel
theorem dM_slammed_9 : decode mM_slammed.2.1 9 = .ok (.goto 18, 3) := by decide +kernel
theorem dM_slammed_12 : decode mM_slammed.2.1 12 = .ok (.iconst 4, 1) := by decide +kernel
theorem dM_slammed_13 : decode mM_slammed.2.1 13 = .ok (.goto 14, 3) := by decide +kernel
theorem dM_slammed_16 : decode mM_slammed.2.1 16 = .ok (.iload_n 2, 1) := by decide +kernel
theorem dM_slammed_17 : decode mM_slammed.2.1 17 = .ok (.ifCond .eq 9, 3) := by decide +kernel
theorem dM_slammed_20 : decode mM_slammed.2.1 20 = .ok (.iconst 1, 1) := by decide +kernel
theorem dM_slammed_21 : decode mM_slammed.2.1 21 = .ok (.iload_n 0, 1) := by decide +kernel
theorem dM_slammed_22 : decode mM_slammed.2.1 22 = .ok (.isub, 1) := by decide +kernel
theorem dM_slammed_23 : decode mM_slammed.2.1 23 = .ok (.goto 4, 3) := by decide +kernel
theorem dM_slammed_26 : decode mM_slammed.2.1 26 = .ok (.iconst 2, 1) := by decide +kernel
theorem dM_slammed_27 : decode mM_slammed.2.1 27 = .ok (.ireturn, 1) := by decide +kernel
theorem dM_refusesDraught_0 : decode mM_refusesDraught.2.1 0 = .ok (.aload_n 0, 1) := by decide +kernel
theorem dM_refusesDraught_1 : decode mM_refusesDraught.2.1 1 = .ok (.getfield 281, 3) := by decide +kernel
theorem dM_refusesDraught_4 : decode mM_refusesDraught.2.1 4 = .ok (.ifnonnull 7, 3) := by decide +kernel
theorem dM_refusesDraught_7 : decode mM_refusesDraught.2.1 7 = .ok (.iconst 1, 1) := by decide +kernel
theorem dM_refusesDraught_8 : decode mM_refusesDraught.2.1 8 = .ok (.goto 18, 3) := by decide +kernel
theorem dM_refusesDraught_11 : decode mM_refusesDraught.2.1 11 = .ok (.iload_n 1, 1) := by decide +kernel
theorem dM_refusesDraught_12 : decode mM_refusesDraught.2.1 12 = .ok (.iconst 0, 1) := by decide +kernel
theorem dM_refusesDraught_13 : decode mM_refusesDraught.2.1 13 = .ok (.bipush 9, 2) := by decide +kernel
theorem dM_refusesDraught_15 : decode mM_refusesDraught.2.1 15 = .ok (.invokestatic 357, 3) := by decide +kernel
theorem dM_refusesDraught_18 : decode mM_refusesDraught.2.1 18 = .ok (.ifCond .eq 7, 3) := by decide +kernel
theorem dM_refusesDraught_21 : decode mM_refusesDraught.2.1 21 = .ok (.iconst 0, 1) := by decide +kernel
theorem dM_refusesDraught_22 : decode mM_refusesDraught.2.1 22 = .ok (.goto 4, 3) := by decide +kernel
theorem dM_refusesDraught_25 : decode mM_refusesDraught.2.1 25 = .ok (.iconst 2, 1) := by decide +kernel
theorem dM_refusesDraught_26 : decode mM_refusesDraught.2.1 26 = .ok (.ireturn, 1) := by decide +kernel
theorem dM_slams_0 : decode mM_slams.2.1 0 = .ok (.aload_n 0, 1) := by decide +kernel
theorem dM_slams_1 : decode mM_slams.2.1 1 = .ok (.iconst 0, 1) := by decide +kernel
theorem dM_slams_2 : decode mM_slams.2.1 2 = .ok (.putfield 46, 3) := by decide +kernel
theorem dM_slams_5 : decode mM_slams.2.1 5 = .ok (.aload_n 0, 1) := by decide +kernel
theorem dM_slams_6 : decode mM_slams.2.1 6 = .ok (.iload_n 1, 1) := by decide +kernel
theorem dM_slams_7 : decode mM_slams.2.1 7 = .ok (.invokevirtual 431, 3) := by decide +kernel
theorem dM_slams_10 : decode mM_slams.2.1 10 = .ok (.istore 5, 2) := by decide +kernel
theorem dM_slams_12 : decode mM_slams.2.1 12 = .ok (.iload 5, 2) := by decide +kernel
theorem dM_slams_14 : decode mM_slams.2.1 14 = .ok (.ifCond .le 12, 3) := by decide +kernel
theorem dM_slams_17 : decode mM_slams.2.1 17 = .ok (.aload_n 0, 1) := by decide +kernel
theorem dM_slams_18 : decode mM_slams.2.1 18 = .ok (.iload 5, 2) := by decide +kernel
theorem dM_slams_20 : decode mM_slams.2.1 20 = .ok (.invokevirtual 434, 3) := by decide +kernel
theorem dM_slams_23 : decode mM_slams.2.1 23 = .ok (.goto 27, 3) := by decide +kernel
theorem dM_slams_26 : decode mM_slams.2.1 26 = .ok (.aload_n 0, 1) := by decide +kernel
theorem dM_slams_27 : decode mM_slams.2.1 27 = .ok (.iload 4, 2) := by decide +kernel
theorem dM_slams_29 : decode mM_slams.2.1 29 = .ok (.ifCond .eq 12, 3) := by decide +kernel
theorem dM_slams_32 : decode mM_slams.2.1 32 = .ok (.iload_n 1, 1) := by decide +kernel
theorem dM_slams_33 : decode mM_slams.2.1 33 = .ok (.iload_n 3, 1) := by decide +kernel
theorem dM_slams_34 : decode mM_slams.2.1 34 = .ok (.iload_n 2, 1) := by decide +kernel
theorem dM_slams_35 : decode mM_slams.2.1 35 = .ok (.invokestatic 437, 3) := by decide +kernel
theorem dM_slams_38 : decode mM_slams.2.1 38 = .ok (.goto 9, 3) := by decide +kernel
theorem dM_slams_41 : decode mM_slams.2.1 41 = .ok (.iload_n 1, 1) := by decide +kernel
theorem dM_slams_42 : decode mM_slams.2.1 42 = .ok (.iload_n 2, 1) := by decide +kernel
theorem dM_slams_43 : decode mM_slams.2.1 43 = .ok (.iload_n 3, 1) := by decide +kernel
theorem dM_slams_44 : decode mM_slams.2.1 44 = .ok (.invokestatic 437, 3) := by decide +kernel
theorem dM_slams_47 : decode mM_slams.2.1 47 = .ok (.invokevirtual 56, 3) := by decide +kernel
theorem dM_slams_50 : decode mM_slams.2.1 50 = .ok (.ireturn, 1) := by decide +kernel
theorem dM_isRest_0 : decode mM_isRest.2.1 0 = .ok (.iload_n 1, 1) := by decide +kernel
theorem dM_isRest_1 : decode mM_isRest.2.1 1 = .ok (.iconst 1, 1) := by decide +kernel
theorem dM_isRest_2 : decode mM_isRest.2.1 2 = .ok (.if_icmp .le 7, 3) := by decide +kernel
theorem dM_isRest_5 : decode mM_isRest.2.1 5 = .ok (.iconst 1, 1) := by decide +kernel
theorem dM_isRest_6 : decode mM_isRest.2.1 6 = .ok (.goto 4, 3) := by decide +kernel
theorem dM_isRest_9 : decode mM_isRest.2.1 9 = .ok (.iconst 0, 1) := by decide +kernel
theorem dM_isRest_10 : decode mM_isRest.2.1 10 = .ok (.istore_n 2, 1) := by decide +kernel
theorem dM_isRest_11 : decode mM_isRest.2.1 11 = .ok (.iload_n 1, 1) := by decide +kernel
theorem dM_isRest_12 : decode mM_isRest.2.1 12 = .ok (.iconst 2, 1) := by decide +kernel
theorem dM_isRest_13 : decode mM_isRest.2.1 13 = .ok (.irem, 1) := by decide +kernel
theorem dM_isRest_14 : decode mM_isRest.2.1 14 = .ok (.iconst 1, 1) := by decide +kernel
theorem dM_isRest_15 : decode mM_isRest.2.1 15 = .ok (.if_icmp .ne 7, 3) := by decide +kernel
theorem dM_isRest_18 : decode mM_isRest.2.1 18 = .ok (.iconst 1, 1) := by decide +kernel
theorem dM_isRest_19 : decode mM_isRest.2.1 19 = .ok (.goto 4, 3) := by decide +kernel
theorem dM_isRest_22 : decode mM_isRest.2.1 22 = .ok (.iconst 0, 1) := by decide +kernel
theorem dM_isRest_23 : decode mM_isRest.2.1 23 = .ok (.istore_n 3, 1) := by decide +kernel
theorem dM_isRest_24 : decode mM_isRest.2.1 24 = .ok (.iload_n 0, 1) := by decide +kernel
theorem dM_isRest_25 : decode mM_isRest.2.1 25 = .ok (.iload_n 2, 1) := by decide +kernel
theorem dM_isRest_26 : decode mM_isRest.2.1 26 = .ok (.ifCond .ne 7, 3) := by decide +kernel
theorem dM_isRest_29 : decode mM_isRest.2.1 29 = .ok (.iconst 1, 1) := by decide +kernel
theorem dM_isRest_30 : decode mM_isRest.2.1 30 = .ok (.goto 4, 3) := by decide +kernel
theorem dM_isRest_33 : decode mM_isRest.2.1 33 = .ok (.iconst 0, 1) := by decide +kernel
theorem dM_isRest_34 : decode mM_isRest.2.1 34 = .ok (.iload_n 3, 1) := by decide +kernel
theorem dM_isRest_35 : decode mM_isRest.2.1 35 = .ok (.invokestatic 437, 3) := by decide +kernel
theorem dM_isRest_38 : decode mM_isRest.2.1 38 = .ok (.iload_n 0, 1) := by decide +kernel
theorem dM_isRest_39 : decode mM_isRest.2.1 39 = .ok (.iload_n 2, 1) := by decide +kernel
theorem dM_isRest_40 : decode mM_isRest.2.1 40 = .ok (.iload_n 3, 1) := by decide +kernel
theorem dM_isRest_41 : decode mM_isRest.2.1 41 = .ok (.invokestatic 437, 3) := by decide +kernel
theorem dM_isRest_44 : decode mM_isRest.2.1 44 = .ok (.if_icmp .gt 30, 3) := by decide +kernel
theorem dM_isRest_47 : decode mM_isRest.2.1 47 = .ok (.iload_n 0, 1) := by decide +kernel
theorem dM_isRest_48 : decode mM_isRest.2.1 48 = .ok (.iload_n 3, 1) := by decide +kernel
theorem dM_isRest_49 : decode mM_isRest.2.1 49 = .ok (.ifCond .ne 7, 3) := by decide +kernel
theorem dM_isRest_52 : decode mM_isRest.2.1 52 = .ok (.iconst 1, 1) := by decide +kernel
theorem dM_isRest_53 : decode mM_isRest.2.1 53 = .ok (.goto 4, 3) := by decide +kernel
theorem dM_isRest_56 : decode mM_isRest.2.1 56 = .ok (.iconst 0, 1) := by decide +kernel
theorem dM_isRest_57 : decode mM_isRest.2.1 57 = .ok (.iload_n 2, 1) := by decide +kernel
theorem dM_isRest_58 : decode mM_isRest.2.1 58 = .ok (.invokestatic 437, 3) := by decide +kernel
theorem dM_isRest_61 : decode mM_isRest.2.1 61 = .ok (.iload_n 0, 1) := by decide +kernel
theorem dM_isRest_62 : decode mM_isRest.2.1 62 = .ok (.iload_n 3, 1) := by decide +kernel
theorem dM_isRest_63 : decode mM_isRest.2.1 63 = .ok (.iload_n 2, 1) := by decide +kernel
theorem dM_isRest_64 : decode mM_isRest.2.1 64 = .ok (.invokestatic 437, 3) := by decide +kernel
theorem dM_isRest_67 : decode mM_isRest.2.1 67 = .ok (.if_icmp .gt 7, 3) := by decide +kernel
theorem dM_isRest_70 : decode mM_isRest.2.1 70 = .ok (.iconst 1, 1) := by decide +kernel
theorem dM_isRest_71 : decode mM_isRest.2.1 71 = .ok (.goto 4, 3) := by decide +kernel
theorem dM_isRest_74 : decode mM_isRest.2.1 74 = .ok (.iconst 0, 1) := by decide +kernel
theorem dM_isRest_75 : decode mM_isRest.2.1 75 = .ok (.ireturn, 1) := by decide +kernel
theorem dM_rests_0 : decode mM_rests.2.1 0 = .ok (.aload_n 0, 1) := by decide +kernel
theorem dM_rests_1 : decode mM_rests.2.1 1 = .ok (.iconst 0, 1) := by decide +kernel
theorem dM_rests_2 : decode mM_rests.2.1 2 = .ok (.putfield 46, 3) := by decide +kernel
theorem dM_rests_5 : decode mM_rests.2.1 5 = .ok (.aload_n 0, 1) := by decide +kernel
theorem dM_rests_6 : decode mM_rests.2.1 6 = .ok (.iload_n 1, 1) := by decide +kernel
theorem dM_rests_7 : decode mM_rests.2.1 7 = .ok (.invokevirtual 431, 3) := by decide +kernel
theorem dM_rests_10 : decode mM_rests.2.1 10 = .ok (.istore_n 2, 1) := by decide +kernel
theorem dM_rests_11 : decode mM_rests.2.1 11 = .ok (.iload_n 2, 1) := by decide +kernel
theorem dM_rests_12 : decode mM_rests.2.1 12 = .ok (.ifCond .le 9, 3) := by decide +kernel
theorem dM_rests_15 : decode mM_rests.2.1 15 = .ok (.aload_n 0, 1) := by decide +kernel
theorem dM_rests_16 : decode mM_rests.2.1 16 = .ok (.iload_n 2, 1) := by decide +kernel
theorem dM_rests_17 : decode mM_rests.2.1 17 = .ok (.invokevirtual 52, 3) := by decide +kernel
theorem dM_rests_20 : decode mM_rests.2.1 20 = .ok (.ireturn, 1) := by decide +kernel
theorem dM_rests_21 : decode mM_rests.2.1 21 = .ok (.iconst 0, 1) := by decide +kernel
theorem dM_rests_22 : decode mM_rests.2.1 22 = .ok (.istore_n 3, 1) := by decide +kernel
theorem dM_rests_23 : decode mM_rests.2.1 23 = .ok (.iconst 0, 1) := by decide +kernel
theorem dM_rests_24 : decode mM_rests.2.1 24 = .ok (.istore 4, 2) := by decide +kernel
theorem dM_rests_26 : decode mM_rests.2.1 26 = .ok (.iload 4, 2) := by decide +kernel
theorem dM_rests_28 : decode mM_rests.2.1 28 = .ok (.iconst 4, 1) := by decide +kernel
theorem dM_rests_29 : decode mM_rests.2.1 29 = .ok (.if_icmp .ge 26, 3) := by decide +kernel
theorem dM_rests_32 : decode mM_rests.2.1 32 = .ok (.iload_n 3, 1) := by decide +kernel
theorem dM_rests_33 : decode mM_rests.2.1 33 = .ok (.iload_n 1, 1) := by decide +kernel
theorem dM_rests_34 : decode mM_rests.2.1 34 = .ok (.iload 4, 2) := by decide +kernel
theorem dM_rests_36 : decode mM_rests.2.1 36 = .ok (.invokestatic 441, 3) := by decide +kernel
theorem dM_rests_39 : decode mM_rests.2.1 39 = .ok (.ifCond .eq 7, 3) := by decide +kernel
theorem dM_rests_42 : decode mM_rests.2.1 42 = .ok (.iconst 1, 1) := by decide +kernel
theorem dM_rests_43 : decode mM_rests.2.1 43 = .ok (.goto 4, 3) := by decide +kernel
theorem dM_rests_46 : decode mM_rests.2.1 46 = .ok (.iconst 0, 1) := by decide +kernel
theorem dM_rests_47 : decode mM_rests.2.1 47 = .ok (.iadd, 1) := by decide +kernel
theorem dM_rests_48 : decode mM_rests.2.1 48 = .ok (.istore_n 3, 1) := by decide +kernel
theorem dM_rests_49 : decode mM_rests.2.1 49 = .ok (.iinc 4 1, 3) := by decide +kernel
theorem dM_rests_52 : decode mM_rests.2.1 52 = .ok (.goto (-26), 3) := by decide +kernel
theorem dM_rests_55 : decode mM_rests.2.1 55 = .ok (.aload_n 0, 1) := by decide +kernel
theorem dM_rests_56 : decode mM_rests.2.1 56 = .ok (.iload_n 3, 1) := by decide +kernel
theorem dM_rests_57 : decode mM_rests.2.1 57 = .ok (.invokevirtual 56, 3) := by decide +kernel
theorem dM_rests_60 : decode mM_rests.2.1 60 = .ok (.ireturn, 1) := by decide +kernel
theorem dM_rest_0 : decode mM_rest.2.1 0 = .ok (.aload_n 0, 1) := by decide +kernel
theorem dM_rest_1 : decode mM_rest.2.1 1 = .ok (.iconst 0, 1) := by decide +kernel
theorem dM_rest_2 : decode mM_rest.2.1 2 = .ok (.putfield 46, 3) := by decide +kernel
theorem dM_rest_5 : decode mM_rest.2.1 5 = .ok (.aload_n 0, 1) := by decide +kernel
theorem dM_rest_6 : decode mM_rest.2.1 6 = .ok (.iload_n 1, 1) := by decide +kernel
theorem dM_rest_7 : decode mM_rest.2.1 7 = .ok (.invokevirtual 431, 3) := by decide +kernel
theorem dM_rest_10 : decode mM_rest.2.1 10 = .ok (.istore_n 2, 1) := by decide +kernel
theorem dM_rest_11 : decode mM_rest.2.1 11 = .ok (.iload_n 2, 1) := by decide +kernel
theorem dM_rest_12 : decode mM_rest.2.1 12 = .ok (.ifCond .le 9, 3) := by decide +kernel
theorem dM_rest_15 : decode mM_rest.2.1 15 = .ok (.aload_n 0, 1) := by decide +kernel
theorem dM_rest_16 : decode mM_rest.2.1 16 = .ok (.iload_n 2, 1) := by decide +kernel
theorem dM_rest_17 : decode mM_rest.2.1 17 = .ok (.invokevirtual 52, 3) := by decide +kernel
theorem dM_rest_20 : decode mM_rest.2.1 20 = .ok (.ireturn, 1) := by decide +kernel
theorem dM_rest_21 : decode mM_rest.2.1 21 = .ok (.iconst 0, 1) := by decide +kernel
theorem dM_rest_22 : decode mM_rest.2.1 22 = .ok (.istore_n 3, 1) := by decide +kernel
theorem dM_rest_23 : decode mM_rest.2.1 23 = .ok (.iload_n 3, 1) := by decide +kernel
theorem dM_rest_24 : decode mM_rest.2.1 24 = .ok (.iconst 4, 1) := by decide +kernel
theorem dM_rest_25 : decode mM_rest.2.1 25 = .ok (.if_icmp .ge 32, 3) := by decide +kernel
theorem dM_rest_28 : decode mM_rest.2.1 28 = .ok (.iload_n 1, 1) := by decide +kernel
theorem dM_rest_29 : decode mM_rest.2.1 29 = .ok (.iload_n 3, 1) := by decide +kernel
theorem dM_rest_30 : decode mM_rest.2.1 30 = .ok (.invokestatic 441, 3) := by decide +kernel
theorem dM_rest_33 : decode mM_rest.2.1 33 = .ok (.ifCond .eq 18, 3) := by decide +kernel
theorem dM_rest_36 : decode mM_rest.2.1 36 = .ok (.aload_n 0, 1) := by decide +kernel
theorem dM_rest_37 : decode mM_rest.2.1 37 = .ok (.bipush 10, 2) := by decide +kernel
theorem dM_rest_39 : decode mM_rest.2.1 39 = .ok (.iload_n 3, 1) := by decide +kernel
theorem dM_rest_40 : decode mM_rest.2.1 40 = .ok (.iconst 2, 1) := by decide +kernel
theorem dM_rest_41 : decode mM_rest.2.1 41 = .ok (.idiv, 1) := by decide +kernel
theorem dM_rest_42 : decode mM_rest.2.1 42 = .ok (.imul, 1) := by decide +kernel
theorem dM_rest_43 : decode mM_rest.2.1 43 = .ok (.iload_n 3, 1) := by decide +kernel
theorem dM_rest_44 : decode mM_rest.2.1 44 = .ok (.iconst 2, 1) := by decide +kernel
theorem dM_rest_45 : decode mM_rest.2.1 45 = .ok (.irem, 1) := by decide +kernel
theorem dM_rest_46 : decode mM_rest.2.1 46 = .ok (.iadd, 1) := by decide +kernel
theorem dM_rest_47 : decode mM_rest.2.1 47 = .ok (.invokevirtual 56, 3) := by decide +kernel
theorem dM_rest_50 : decode mM_rest.2.1 50 = .ok (.ireturn, 1) := by decide +kernel
theorem dM_rest_51 : decode mM_rest.2.1 51 = .ok (.iinc 3 1, 3) := by decide +kernel
theorem dM_rest_54 : decode mM_rest.2.1 54 = .ok (.goto (-31), 3) := by decide +kernel
theorem dM_rest_57 : decode mM_rest.2.1 57 = .ok (.aload_n 0, 1) := by decide +kernel
theorem dM_rest_58 : decode mM_rest.2.1 58 = .ok (.bipush (-2), 2) := by decide +kernel
theorem dM_rest_60 : decode mM_rest.2.1 60 = .ok (.invokevirtual 56, 3) := by decide +kernel
theorem dM_rest_63 : decode mM_rest.2.1 63 = .ok (.ireturn, 1) := by decide +kernel
theorem dM_feed_0 : decode mM_feed.2.1 0 = .ok (.aload_n 0, 1) := by decide +kernel
theorem dM_feed_1 : decode mM_feed.2.1 1 = .ok (.iconst 0, 1) := by decide +kernel
theorem dM_feed_2 : decode mM_feed.2.1 2 = .ok (.putfield 46, 3) := by decide +kernel
theorem dM_feed_5 : decode mM_feed.2.1 5 = .ok (.aload_n 0, 1) := by decide +kernel
theorem dM_feed_6 : decode mM_feed.2.1 6 = .ok (.getfield 274, 3) := by decide +kernel
theorem dM_feed_9 : decode mM_feed.2.1 9 = .ok (.bipush 20, 2) := by decide +kernel
theorem dM_feed_11 : decode mM_feed.2.1 11 = .ok (.iadd, 1) := by decide +kernel
theorem dM_feed_12 : decode mM_feed.2.1 12 = .ok (.sipush 800, 3) := by decide +kernel
theorem dM_feed_15 : decode mM_feed.2.1 15 = .ok (.if_icmp .le 5, 3) := by decide +kernel
theorem dM_feed_18 : decode mM_feed.2.1 18 = .ok (.iconst (-1), 1) := by decide +kernel
theorem dM_feed_19 : decode mM_feed.2.1 19 = .ok (.ireturn, 1) := by decide +kernel
theorem dM_feed_20 : decode mM_feed.2.1 20 = .ok (.iconst 0, 1) := by decide +kernel
theorem dM_feed_21 : decode mM_feed.2.1 21 = .ok (.istore 6, 2) := by decide +kernel
theorem dM_feed_23 : decode mM_feed.2.1 23 = .ok (.iload 6, 2) := by decide +kernel
theorem dM_feed_25 : decode mM_feed.2.1 25 = .ok (.bipush 20, 2) := by decide +kernel
theorem dM_feed_27 : decode mM_feed.2.1 27 = .ok (.if_icmp .ge 90, 3) := by decide +kernel
theorem dM_feed_30 : decode mM_feed.2.1 30 = .ok (.iload 6, 2) := by decide +kernel
theorem dM_feed_32 : decode mM_feed.2.1 32 = .ok (.iconst 4, 1) := by decide +kernel
theorem dM_feed_33 : decode mM_feed.2.1 33 = .ok (.if_icmp .ge 7, 3) := by decide +kernel
theorem dM_feed_36 : decode mM_feed.2.1 36 = .ok (.iload_n 1, 1) := by decide +kernel
theorem dM_feed_37 : decode mM_feed.2.1 37 = .ok (.goto 39, 3) := by decide +kernel
theorem dM_feed_40 : decode mM_feed.2.1 40 = .ok (.iload 6, 2) := by decide +kernel
theorem dM_feed_42 : decode mM_feed.2.1 42 = .ok (.bipush 8, 2) := by decide +kernel
theorem dM_feed_44 : decode mM_feed.2.1 44 = .ok (.if_icmp .ge 7, 3) := by decide +kernel
theorem dM_feed_47 : decode mM_feed.2.1 47 = .ok (.iload_n 2, 1) := by decide +kernel
theorem dM_feed_48 : decode mM_feed.2.1 48 = .ok (.goto 28, 3) := by decide +kernel
theorem dM_feed_51 : decode mM_feed.2.1 51 = .ok (.iload 6, 2) := by decide +kernel
theorem dM_feed_53 : decode mM_feed.2.1 53 = .ok (.bipush 12, 2) := by decide +kernel
theorem dM_feed_55 : decode mM_feed.2.1 55 = .ok (.if_icmp .ge 7, 3) := by decide +kernel
theorem dM_feed_58 : decode mM_feed.2.1 58 = .ok (.iload_n 3, 1) := by decide +kernel
theorem dM_feed_59 : decode mM_feed.2.1 59 = .ok (.goto 17, 3) := by decide +kernel
theorem dM_feed_62 : decode mM_feed.2.1 62 = .ok (.iload 6, 2) := by decide +kernel
theorem dM_feed_64 : decode mM_feed.2.1 64 = .ok (.bipush 16, 2) := by decide +kernel
theorem dM_feed_66 : decode mM_feed.2.1 66 = .ok (.if_icmp .ge 8, 3) := by decide +kernel
theorem dM_feed_69 : decode mM_feed.2.1 69 = .ok (.iload 4, 2) := by decide +kernel
theorem dM_feed_71 : decode mM_feed.2.1 71 = .ok (.goto 5, 3) := by decide +kernel
theorem dM_feed_74 : decode mM_feed.2.1 74 = .ok (.iload 5, 2) := by decide +kernel
theorem dM_feed_76 : decode mM_feed.2.1 76 = .ok (.istore 7, 2) := by decide +kernel
theorem dM_feed_78 : decode mM_feed.2.1 78 = .ok (.aload_n 0, 1) := by decide +kernel
theorem dM_feed_79 : decode mM_feed.2.1 79 = .ok (.getfield 13, 3) := by decide +kernel
theorem dM_feed_82 : decode mM_feed.2.1 82 = .ok (.aload_n 0, 1) := by decide +kernel
theorem dM_feed_83 : decode mM_feed.2.1 83 = .ok (.getfield 274, 3) := by decide +kernel
theorem dM_feed_86 : decode mM_feed.2.1 86 = .ok (.iload 7, 2) := by decide +kernel
theorem dM_feed_88 : decode mM_feed.2.1 88 = .ok (.bipush 24, 2) := by decide +kernel
theorem dM_feed_90 : decode mM_feed.2.1 90 = .ok (.bipush 8, 2) := by decide +kernel
theorem dM_feed_92 : decode mM_feed.2.1 92 = .ok (.iload 6, 2) := by decide +kernel
theorem dM_feed_94 : decode mM_feed.2.1 94 = .ok (.iconst 4, 1) := by decide +kernel
theorem dM_feed_95 : decode mM_feed.2.1 95 = .ok (.irem, 1) := by decide +kernel
theorem dM_feed_96 : decode mM_feed.2.1 96 = .ok (.imul, 1) := by decide +kernel
theorem dM_feed_97 : decode mM_feed.2.1 97 = .ok (.isub, 1) := by decide +kernel
theorem dM_feed_98 : decode mM_feed.2.1 98 = .ok (.ishr, 1) := by decide +kernel
theorem dM_feed_99 : decode mM_feed.2.1 99 = .ok (.i2b, 1) := by decide +kernel
theorem dM_feed_100 : decode mM_feed.2.1 100 = .ok (.bastore, 1) := by decide +kernel
theorem dM_feed_101 : decode mM_feed.2.1 101 = .ok (.aload_n 0, 1) := by decide +kernel
theorem dM_feed_102 : decode mM_feed.2.1 102 = .ok (.dup, 1) := by decide +kernel
theorem dM_feed_103 : decode mM_feed.2.1 103 = .ok (.getfield 274, 3) := by decide +kernel
theorem dM_feed_106 : decode mM_feed.2.1 106 = .ok (.iconst 1, 1) := by decide +kernel
theorem dM_feed_107 : decode mM_feed.2.1 107 = .ok (.iadd, 1) := by decide +kernel
theorem dM_feed_108 : decode mM_feed.2.1 108 = .ok (.putfield 274, 3) := by decide +kernel
theorem dM_feed_111 : decode mM_feed.2.1 111 = .ok (.iinc 6 1, 3) := by decide +kernel
theorem dM_feed_114 : decode mM_feed.2.1 114 = .ok (.goto (-91), 3) := by decide +kernel
theorem dM_feed_117 : decode mM_feed.2.1 117 = .ok (.aload_n 0, 1) := by decide +kernel
theorem dM_feed_118 : decode mM_feed.2.1 118 = .ok (.getfield 274, 3) := by decide +kernel
theorem dM_feed_121 : decode mM_feed.2.1 121 = .ok (.ireturn, 1) := by decide +kernel
theorem dM_led_0 : decode mM_led.2.1 0 = .ok (.aload_n 0, 1) := by decide +kernel
theorem dM_led_1 : decode mM_led.2.1 1 = .ok (.iconst 0, 1) := by decide +kernel
theorem dM_led_2 : decode mM_led.2.1 2 = .ok (.putfield 46, 3) := by decide +kernel
theorem dM_led_5 : decode mM_led.2.1 5 = .ok (.iconst 0, 1) := by decide +kernel
theorem dM_led_6 : decode mM_led.2.1 6 = .ok (.istore_n 2, 1) := by decide +kernel
theorem dM_led_7 : decode mM_led.2.1 7 = .ok (.aload_n 0, 1) := by decide +kernel
theorem dM_led_8 : decode mM_led.2.1 8 = .ok (.getfield 281, 3) := by decide +kernel
theorem dM_led_11 : decode mM_led.2.1 11 = .ok (.ifnull 7, 3) := by decide +kernel
theorem dM_led_14 : decode mM_led.2.1 14 = .ok (.aload_n 0, 1) := by decide +kernel
theorem dM_led_15 : decode mM_led.2.1 15 = .ok (.invokevirtual 348, 3) := by decide +kernel
theorem dM_led_18 : decode mM_led.2.1 18 = .ok (.iconst 0, 1) := by decide +kernel
theorem dM_led_19 : decode mM_led.2.1 19 = .ok (.istore_n 3, 1) := by decide +kernel
theorem dM_led_20 : decode mM_led.2.1 20 = .ok (.aload_n 0, 1) := by decide +kernel
theorem dM_led_21 : decode mM_led.2.1 21 = .ok (.getfield 281, 3) := by decide +kernel
theorem dM_led_24 : decode mM_led.2.1 24 = .ok (.ifnull 38, 3) := by decide +kernel
theorem dM_led_27 : decode mM_led.2.1 27 = .ok (.iload_n 3, 1) := by decide +kernel
theorem dM_led_28 : decode mM_led.2.1 28 = .ok (.aload_n 0, 1) := by decide +kernel
theorem dM_led_29 : decode mM_led.2.1 29 = .ok (.invokevirtual 336, 3) := by decide +kernel
theorem dM_led_32 : decode mM_led.2.1 32 = .ok (.if_icmp .ge 30, 3) := by decide +kernel
theorem dM_led_35 : decode mM_led.2.1 35 = .ok (.aload_n 0, 1) := by decide +kernel
theorem dM_led_36 : decode mM_led.2.1 36 = .ok (.iload_n 3, 1) := by decide +kernel
theorem dM_led_37 : decode mM_led.2.1 37 = .ok (.invokevirtual 342, 3) := by decide +kernel
theorem dM_led_40 : decode mM_led.2.1 40 = .ok (.ifCond .ne 6, 3) := by decide +kernel
theorem dM_led_43 : decode mM_led.2.1 43 = .ok (.goto 13, 3) := by decide +kernel
theorem dM_led_46 : decode mM_led.2.1 46 = .ok (.iload_n 2, 1) := by decide +kernel
theorem dM_led_47 : decode mM_led.2.1 47 = .ok (.iload_n 1, 1) := by decide +kernel
theorem dM_led_48 : decode mM_led.2.1 48 = .ok (.if_icmp .ne 5, 3) := by decide +kernel
theorem dM_led_51 : decode mM_led.2.1 51 = .ok (.iload_n 3, 1) := by decide +kernel
theorem dM_led_52 : decode mM_led.2.1 52 = .ok (.ireturn, 1) := by decide +kernel
theorem dM_led_53 : decode mM_led.2.1 53 = .ok (.iinc 2 1, 3) := by decide +kernel
theorem dM_led_56 : decode mM_led.2.1 56 = .ok (.iinc 3 1, 3) := by decide +kernel
theorem dM_led_59 : decode mM_led.2.1 59 = .ok (.goto (-39), 3) := by decide +kernel
theorem dM_led_62 : decode mM_led.2.1 62 = .ok (.aload_n 0, 1) := by decide +kernel
theorem dM_led_63 : decode mM_led.2.1 63 = .ok (.iconst 1, 1) := by decide +kernel
theorem dM_led_64 : decode mM_led.2.1 64 = .ok (.putfield 46, 3) := by decide +kernel
theorem dM_led_67 : decode mM_led.2.1 67 = .ok (.iconst 0, 1) := by decide +kernel
theorem dM_led_68 : decode mM_led.2.1 68 = .ok (.ireturn, 1) := by decide +kernel
section Mod24
variable {G : GE} {V V' V1 V2 : Nat → Nat → Int} {σ : Shp} {K : Option AV → Mem → Prop} {l : Nat} {c : Cfg} {n : Nat} {S : PS}
theorem wM_slammed {q x z : Int} (hq : 0 ≤ q ∧ q ≤ 9) (hK : K (some (vI (shr q x z))) (V, σ)) : Wp G 0 mM_slammed [vI q, vI x, vI z] (V, σ) 0 0 K := by
  refine wp_intro mM_slammed_i.1 [some (vI q), some (vI x), some (vI z)] rfl rfl (Nat.le_of_ble_eq_true rfl) ?_
  intro X hG F C
  have hm := C.rm
  refine aw_iload_1 (q := 1) F dM_slammed_0 rfl ?_
  refine aw_if_eq (q := 4) (t := 16) F dM_slammed_1 rfl (by decide) (fun c1 => ?_) (fun c1 => ?_)
  · refine aw_iload_2 (q := 17) F dM_slammed_16 rfl ?_
    refine aw_if_eq (q := 20) (t := 26) F dM_slammed_17 rfl (by decide) (fun c17 => ?_) (fun c17 => ?_)
    · refine aw_iconst (q := 27) F dM_slammed_26 rfl (by decide) ?_
      refine aw_iret F C dM_slammed_27 rfl (Nat.le_refl _) (Nat.le_refl _) ?_
      refine kI hK ?_; unfold shr; first | (rw [if_pos (by omega), if_pos (by omega)]) | (rw [if_pos (by omega), if_neg (by omega)]) | (rw [if_neg (by omega), if_pos (by omega)]) | (rw [if_neg (by omega), if_neg (by omega)])
    · refine aw_iconst (q := 21) F dM_slammed_20 rfl (by decide) ?_
      refine aw_iload_0 (q := 22) F dM_slammed_21 rfl ?_
      refine aw_isub (q := 23) F dM_slammed_22 rfl (by constructor <;> omega) ?_
      refine aw_goto (t := 27) F dM_slammed_23 (by decide) ?_
      refine aw_iret F C dM_slammed_27 rfl (Nat.le_refl _) (Nat.le_refl _) ?_
      refine kI hK ?_; unfold shr; first | (rw [if_pos (by omega), if_pos (by omega)]) | (rw [if_pos (by omega), if_neg (by omega)]) | (rw [if_neg (by omega), if_pos (by omega)]) | (rw [if_neg (by omega), if_neg (by omega)])
  · refine aw_iload_2 (q := 5) F dM_slammed_4 rfl ?_
    refine aw_if_eq (q := 8) (t := 12) F dM_slammed_5 rfl (by decide) (fun c5 => ?_) (fun c5 => ?_)
    · refine aw_iconst (q := 13) F dM_slammed_12 rfl (by decide) ?_
      refine aw_goto (t := 27) F dM_slammed_13 (by decide) ?_
      refine aw_iret F C dM_slammed_27 rfl (Nat.le_refl _) (Nat.le_refl _) ?_
      refine kI hK ?_; unfold shr; first | (rw [if_pos (by omega), if_pos (by omega)]) | (rw [if_pos (by omega), if_neg (by omega)]) | (rw [if_neg (by omega), if_pos (by omega)]) | (rw [if_neg (by omega), if_neg (by omega)])
    · refine aw_iconst (q := 9) F dM_slammed_8 rfl (by decide) ?_
      refine aw_goto (t := 27) F dM_slammed_9 (by decide) ?_
      refine aw_iret F C dM_slammed_27 rfl (Nat.le_refl _) (Nat.le_refl _) ?_
      refine kI hK ?_; unfold shr; first | (rw [if_pos (by omega), if_pos (by omega)]) | (rw [if_pos (by omega), if_neg (by omega)]) | (rw [if_neg (by omega), if_pos (by omega)]) | (rw [if_neg (by omega), if_neg (by omega)])
theorem wM_refusesDraught {x : Int} (h : MW V σ l S) (h0 : 0 < tDn (psT S) → 0 ≤ x ∧ x ≤ 9 → K (some (vI 0)) (V, σ)) (h1 : ¬ 0 < tDn (psT S) → K (some (vI 1)) (V, σ)) (h2 : 0 < tDn (psT S) → ¬ (0 ≤ x ∧ x ≤ 9) → K (some (vI 2)) (V, σ)) : Wp G 1 mM_refusesDraught [vR 53, vI x] (V, σ) 0 0 K := by
  have hM := h.mo
  refine wp_intro mM_refusesDraught_i.1 [some (vR 53), some (vI x)] rfl rfl (Nat.le_of_ble_eq_true rfl) ?_
  intro X hG F C
  have hm := C.rm
  refine aw_aload_0 (q := 1) F dM_refusesDraught_0 rfl ?_
  refine av_getaE (q := 4) F fM_281 dM_refusesDraught_1 rfl rfl (by first | exact hM.o | exact hl.o | exact hM.a54 | exact hM.a55 | exact hM.a56 | exact hM.a57 | exact hM.a58) hM.p3 ?_
  refine aw_ifnonnull (q := 7) (t := 11) F dM_refusesDraught_4 rfl (by decide) (fun c4 => ?_) (fun c4 => ?_)
  · refine aw_iload_1 (q := 12) F dM_refusesDraught_11 rfl ?_
    refine aw_iconst (q := 13) F dM_refusesDraught_12 rfl (by decide) ?_
    refine aw_bipush (q := 15) F dM_refusesDraught_13 rfl (by decide) ?_
    refine av_callS3 (q := 18) F hm mM_in_i mM_in_n lM_357 dM_refusesDraught_15 rfl (by decide) (Nat.le_refl _) (Nat.le_refl _) (Nat.le_of_ble_eq_true rfl) (wM_in (fun c15 => ?_) (fun c15 => ?_))
    · refine aw_if_eq (q := 21) (t := 25) F dM_refusesDraught_18 rfl (by decide) (fun c18 => absurd c18 (by decide)) (fun c18 => ?_)
      refine aw_iconst (q := 22) F dM_refusesDraught_21 rfl (by decide) ?_
      refine aw_goto (t := 26) F dM_refusesDraught_22 (by decide) ?_
      refine aw_iret F C dM_refusesDraught_26 rfl (Nat.le_refl _) (Nat.le_refl _) ?_
      exact h0 (h.pos c4) c15
    · refine aw_if_eq (q := 21) (t := 25) F dM_refusesDraught_18 rfl (by decide) (fun c18 => ?_) (fun c18 => absurd c18 (by decide))
      refine aw_iconst (q := 26) F dM_refusesDraught_25 rfl (by decide) ?_
      refine aw_iret F C dM_refusesDraught_26 rfl (Nat.le_refl _) (Nat.le_refl _) ?_
      exact h2 (h.pos c4) c15
  · refine aw_iconst (q := 8) F dM_refusesDraught_7 rfl (by decide) ?_
    refine aw_goto (t := 26) F dM_refusesDraught_8 (by decide) ?_
    refine aw_iret F C dM_refusesDraught_26 rfl (Nat.le_refl _) (Nat.le_refl _) ?_
    exact h1 (by rw [h.zer c4]; decide)
theorem wM_slams {q x z w : Int} (hw : w = 0 ∨ w = 1) (h : MW V σ l S) (hK : MK K V σ l (setR S (wy (0 < tDn (psT S)) (0 ≤ q ∧ q ≤ 9))) (some (vI (rfD (wy (0 < tDn (psT S)) (0 ≤ q ∧ q ≤ 9)) (if w = 0 then shr q x z else shr q z x) (-100))))) : Wp G 2 mM_slams [vR 53, vI q, vI x, vI z, vI w] (V, σ) 0 0 K := by
  obtain ⟨g, r1, r2⟩ := m3 vI hK
  have hM := h.mo
  refine wp_intro mM_slams_i.1 [some (vR 53), some (vI q), some (vI x), some (vI z), some (vI w), none] rfl rfl (Nat.le_of_ble_eq_true rfl) ?_
  intro X hG F C
  have hm := C.rm
  refine aw_aload_0 (q := 1) F dM_slams_0 rfl ?_
  refine aw_iconst (q := 2) F dM_slams_1 rfl (by decide) ?_
  refine av_puti (q := 5) F fM_46 dM_slams_2 rfl rfl (wr_9_0 _) (by first | exact hM.o | exact hl.o | exact hM.a54 | exact hM.a55 | exact hM.a56 | exact hM.a57 | exact hM.a58) ?_
  refine aw_aload_0 (q := 6) F dM_slams_5 rfl ?_
  refine aw_iload_1 (q := 7) F dM_slams_6 rfl ?_
  refine av_callV1 (q := 10) (ci := 9) F hm mM_refusesDraught_i mM_refusesDraught_n lM_431 dM_slams_7 rfl rfl rfl (by first | exact hM.o | exact hl.o | exact hM.a54 | exact hM.a55 | exact hM.a56 | exact hM.a57 | exact hM.a58) (by decide) (Nat.le_refl _) (Nat.le_refl _) (Nat.le_of_ble_eq_true rfl) (wM_refusesDraught h.th (fun d7 w7 => ?_) (fun d7 => ?_) (fun d7 w7 => ?_))
  · refine aw_istore_5 (q := 12) F dM_slams_10 rfl trivial ?_
    refine aw_iload_5 (q := 14) F dM_slams_12 rfl ?_
    refine aw_if_le (q := 17) (t := 26) F dM_slams_14 rfl (by decide) (fun c14 => ?_) (fun c14 => absurd c14 (by decide))
    refine aw_aload_0 (q := 27) F dM_slams_26 rfl ?_
    refine aw_iload_4 (q := 29) F dM_slams_27 rfl ?_
    refine aw_if_eq (q := 32) (t := 41) F dM_slams_29 rfl (by decide) (fun c29 => ?_) (fun c29 => ?_)
    · refine aw_iload_1 (q := 42) F dM_slams_41 rfl ?_
      refine aw_iload_2 (q := 43) F dM_slams_42 rfl ?_
      refine aw_iload_3 (q := 44) F dM_slams_43 rfl ?_
      refine av_callS3 (q := 47) F hm mM_slammed_i mM_slammed_n lM_437 dM_slams_44 rfl (by decide) (Nat.le_refl _) (Nat.le_refl _) (Nat.le_of_ble_eq_true rfl) (wM_slammed w7 ?_)
      refine av_callV1 (q := 50) (ci := 9) F hm mM_good_i mM_good_n lM_56 dM_slams_47 rfl rfl rfl (by first | exact hM.o | exact hl.o | exact hM.a54 | exact hM.a55 | exact hM.a56 | exact hM.a57 | exact hM.a58) (by decide) (Nat.le_refl _) (Nat.le_refl _) (Nat.le_of_ble_eq_true rfl) (wM_good hM ?_)
      refine aw_iret F C dM_slams_50 rfl (Nat.le_refl _) (Nat.le_refl _) ?_
      first
      | exact MK.fin0 (r1 d7) h (by decide)
      | exact MK.fin0 (r2 d7 w7) h (by decide)
      | (have g' := g d7 w7; rw [if_pos (by omega)] at g'; exact MK.fin0 g' h (by decide))
      | (have g' := g d7 w7; rw [if_neg (by omega)] at g'; exact MK.fin0 g' h (by decide))
    · refine aw_iload_1 (q := 33) F dM_slams_32 rfl ?_
      refine aw_iload_3 (q := 34) F dM_slams_33 rfl ?_
      refine aw_iload_2 (q := 35) F dM_slams_34 rfl ?_
      refine av_callS3 (q := 38) F hm mM_slammed_i mM_slammed_n lM_437 dM_slams_35 rfl (by decide) (Nat.le_refl _) (Nat.le_refl _) (Nat.le_of_ble_eq_true rfl) (wM_slammed w7 ?_)
      refine aw_goto (t := 47) F dM_slams_38 (by decide) ?_
      refine av_callV1 (q := 50) (ci := 9) F hm mM_good_i mM_good_n lM_56 dM_slams_47 rfl rfl rfl (by first | exact hM.o | exact hl.o | exact hM.a54 | exact hM.a55 | exact hM.a56 | exact hM.a57 | exact hM.a58) (by decide) (Nat.le_refl _) (Nat.le_refl _) (Nat.le_of_ble_eq_true rfl) (wM_good hM ?_)
      refine aw_iret F C dM_slams_50 rfl (Nat.le_refl _) (Nat.le_refl _) ?_
      first
      | exact MK.fin0 (r1 d7) h (by decide)
      | exact MK.fin0 (r2 d7 w7) h (by decide)
      | (have g' := g d7 w7; rw [if_pos (by omega)] at g'; exact MK.fin0 g' h (by decide))
      | (have g' := g d7 w7; rw [if_neg (by omega)] at g'; exact MK.fin0 g' h (by decide))
  · refine aw_istore_5 (q := 12) F dM_slams_10 rfl trivial ?_
    refine aw_iload_5 (q := 14) F dM_slams_12 rfl ?_
    refine aw_if_le (q := 17) (t := 26) F dM_slams_14 rfl (by decide) (fun c14 => absurd c14 (by decide)) (fun c14 => ?_)
    refine aw_aload_0 (q := 18) F dM_slams_17 rfl ?_
    refine aw_iload_5 (q := 20) F dM_slams_18 rfl ?_
    refine av_callV1 (q := 23) (ci := 9) F hm mM_lost_i mM_lost_n lM_434 dM_slams_20 rfl rfl rfl (by first | exact hM.o | exact hl.o | exact hM.a54 | exact hM.a55 | exact hM.a56 | exact hM.a57 | exact hM.a58) (by decide) (Nat.le_refl _) (Nat.le_refl _) (Nat.le_of_ble_eq_true rfl) (wM_lost hM ?_)
    refine aw_goto (t := 50) F dM_slams_23 (by decide) ?_
    refine aw_iret F C dM_slams_50 rfl (Nat.le_refl _) (Nat.le_refl _) ?_
    first
    | exact MK.fin0 (r1 d7) h (by decide)
    | exact MK.fin0 (r2 d7 w7) h (by decide)
    | (have g' := g d7 w7; rw [if_pos (by omega)] at g'; exact MK.fin0 g' h (by decide))
    | (have g' := g d7 w7; rw [if_neg (by omega)] at g'; exact MK.fin0 g' h (by decide))
  · refine aw_istore_5 (q := 12) F dM_slams_10 rfl trivial ?_
    refine aw_iload_5 (q := 14) F dM_slams_12 rfl ?_
    refine aw_if_le (q := 17) (t := 26) F dM_slams_14 rfl (by decide) (fun c14 => absurd c14 (by decide)) (fun c14 => ?_)
    refine aw_aload_0 (q := 18) F dM_slams_17 rfl ?_
    refine aw_iload_5 (q := 20) F dM_slams_18 rfl ?_
    refine av_callV1 (q := 23) (ci := 9) F hm mM_lost_i mM_lost_n lM_434 dM_slams_20 rfl rfl rfl (by first | exact hM.o | exact hl.o | exact hM.a54 | exact hM.a55 | exact hM.a56 | exact hM.a57 | exact hM.a58) (by decide) (Nat.le_refl _) (Nat.le_refl _) (Nat.le_of_ble_eq_true rfl) (wM_lost hM ?_)
    refine aw_goto (t := 50) F dM_slams_23 (by decide) ?_
    refine aw_iret F C dM_slams_50 rfl (Nat.le_refl _) (Nat.le_refl _) ?_
    first
    | exact MK.fin0 (r1 d7) h (by decide)
    | exact MK.fin0 (r2 d7 w7) h (by decide)
    | (have g' := g d7 w7; rw [if_pos (by omega)] at g'; exact MK.fin0 g' h (by decide))
    | (have g' := g d7 w7; rw [if_neg (by omega)] at g'; exact MK.fin0 g' h (by decide))
theorem wM_isRest {q x : Int} {k : Nat} (hq : 0 ≤ q ∧ q ≤ 9) (hx : x = k) (hk : k < 4) (h1 : rstB q (k / 2 : Nat) (k % 2 : Nat) = true → K (some (vI 1)) (V, σ)) (h0 : rstB q (k / 2 : Nat) (k % 2 : Nat) = false → K (some (vI 0)) (V, σ)) : Wp G 1 mM_isRest [vI q, vI x] (V, σ) 0 0 K := by
  have e1 : ∀ a a' b b' : Int, a = (k / 2 : Nat) → a' = 1 - a → b = (k % 2 : Nat) → b' = 1 - b → (shr q a' b ≤ shr q a b ∧ shr q b' a ≤ shr q b a → K (some (vI 1)) (V, σ)) ∧ (¬ (shr q a' b ≤ shr q a b ∧ shr q b' a ≤ shr q b a) → K (some (vI 0)) (V, σ)) := fun a a' b b' ha ha' hb hb' => by
    rw [← ha, ← hb] at h1 h0
    unfold rstB at h1 h0
    rw [ha', hb']
    exact ⟨fun h => h1 (by rw [decide_eq_true h.1, decide_eq_true h.2]; rfl), fun h => h0 (by
      by_cases u : shr q (1 - a) b ≤ shr q a b
      · rw [decide_eq_false (fun v => h ⟨u, v⟩), Bool.and_false]
      · rw [decide_eq_false u, Bool.false_and])⟩
  refine wp_intro mM_isRest_i.1 [some (vI q), some (vI x), none, none] rfl rfl (Nat.le_of_ble_eq_true rfl) ?_
  intro X hG F C
  have hm := C.rm
  refine aw_iload_1 (q := 1) F dM_isRest_0 rfl ?_
  refine aw_iconst (q := 2) F dM_isRest_1 rfl (by decide) ?_
  refine aw_icmp_le (q := 5) (t := 9) F dM_isRest_2 rfl (by decide) (fun c2 => ?_) (fun c2 => ?_)
  · refine aw_iconst (q := 10) F dM_isRest_9 rfl (by decide) ?_
    refine aw_istore_2 (q := 11) F dM_isRest_10 rfl trivial ?_
    refine aw_iload_1 (q := 12) F dM_isRest_11 rfl ?_
    refine aw_iconst (q := 13) F dM_isRest_12 rfl (by decide) ?_
    refine aw_irem (q := 14) F dM_isRest_13 rfl (by omega) (by omega) ?_
    refine aw_iconst (q := 15) F dM_isRest_14 rfl (by decide) ?_
    refine aw_icmp_ne (q := 18) (t := 22) F dM_isRest_15 rfl (by decide) (fun c15 => ?_) (fun c15 => ?_)
    · refine aw_iconst (q := 23) F dM_isRest_22 rfl (by decide) ?_
      refine aw_istore_3 (q := 24) F dM_isRest_23 rfl trivial ?_
      refine aw_iload_0 (q := 25) F dM_isRest_24 rfl ?_
      refine aw_iload_2 (q := 26) F dM_isRest_25 rfl ?_
      refine aw_if_ne (q := 29) (t := 33) F dM_isRest_26 rfl (by decide) (fun c26 => absurd c26 (by decide)) (fun c26 => ?_)
      refine aw_iconst (q := 30) F dM_isRest_29 rfl (by decide) ?_
      refine aw_goto (t := 34) F dM_isRest_30 (by decide) ?_
      refine aw_iload_3 (q := 35) F dM_isRest_34 rfl ?_
      refine av_callS3 (q := 38) F hm mM_slammed_i mM_slammed_n lM_437 dM_isRest_35 rfl (by decide) (Nat.le_refl _) (Nat.le_refl _) (Nat.le_of_ble_eq_true rfl) (wM_slammed hq ?_)
      refine aw_iload_0 (q := 39) F dM_isRest_38 rfl ?_
      refine aw_iload_2 (q := 40) F dM_isRest_39 rfl ?_
      refine aw_iload_3 (q := 41) F dM_isRest_40 rfl ?_
      refine av_callS3 (q := 44) F hm mM_slammed_i mM_slammed_n lM_437 dM_isRest_41 rfl (by decide) (Nat.le_refl _) (Nat.le_refl _) (Nat.le_of_ble_eq_true rfl) (wM_slammed hq ?_)
      refine aw_icmp_gt (q := 47) (t := 74) F dM_isRest_44 rfl (by decide) (fun c44 => ?_) (fun c44 => ?_)
      · refine aw_iconst (q := 75) F dM_isRest_74 rfl (by decide) ?_
        refine aw_zret F C dM_isRest_75 rfl (by decide) (Nat.le_refl _) (Nat.le_refl _) ?_
        first
        | exact (e1 1 0 1 0 (by omega) rfl (by omega) rfl).2 (fun z => by have z1 := z.1; have z2 := z.2; omega)
        | exact (e1 1 0 0 1 (by omega) rfl (by omega) rfl).2 (fun z => by have z1 := z.1; have z2 := z.2; omega)
        | exact (e1 0 1 1 0 (by omega) rfl (by omega) rfl).2 (fun z => by have z1 := z.1; have z2 := z.2; omega)
        | exact (e1 0 1 0 1 (by omega) rfl (by omega) rfl).2 (fun z => by have z1 := z.1; have z2 := z.2; omega)
      · refine aw_iload_0 (q := 48) F dM_isRest_47 rfl ?_
        refine aw_iload_3 (q := 49) F dM_isRest_48 rfl ?_
        refine aw_if_ne (q := 52) (t := 56) F dM_isRest_49 rfl (by decide) (fun c49 => absurd c49 (by decide)) (fun c49 => ?_)
        refine aw_iconst (q := 53) F dM_isRest_52 rfl (by decide) ?_
        refine aw_goto (t := 57) F dM_isRest_53 (by decide) ?_
        refine aw_iload_2 (q := 58) F dM_isRest_57 rfl ?_
        refine av_callS3 (q := 61) F hm mM_slammed_i mM_slammed_n lM_437 dM_isRest_58 rfl (by decide) (Nat.le_refl _) (Nat.le_refl _) (Nat.le_of_ble_eq_true rfl) (wM_slammed hq ?_)
        refine aw_iload_0 (q := 62) F dM_isRest_61 rfl ?_
        refine aw_iload_3 (q := 63) F dM_isRest_62 rfl ?_
        refine aw_iload_2 (q := 64) F dM_isRest_63 rfl ?_
        refine av_callS3 (q := 67) F hm mM_slammed_i mM_slammed_n lM_437 dM_isRest_64 rfl (by decide) (Nat.le_refl _) (Nat.le_refl _) (Nat.le_of_ble_eq_true rfl) (wM_slammed hq ?_)
        refine aw_icmp_gt (q := 70) (t := 74) F dM_isRest_67 rfl (by decide) (fun c67 => ?_) (fun c67 => ?_)
        · refine aw_iconst (q := 75) F dM_isRest_74 rfl (by decide) ?_
          refine aw_zret F C dM_isRest_75 rfl (by decide) (Nat.le_refl _) (Nat.le_refl _) ?_
          first
          | exact (e1 1 0 1 0 (by omega) rfl (by omega) rfl).2 (fun z => by have z1 := z.1; have z2 := z.2; omega)
          | exact (e1 1 0 0 1 (by omega) rfl (by omega) rfl).2 (fun z => by have z1 := z.1; have z2 := z.2; omega)
          | exact (e1 0 1 1 0 (by omega) rfl (by omega) rfl).2 (fun z => by have z1 := z.1; have z2 := z.2; omega)
          | exact (e1 0 1 0 1 (by omega) rfl (by omega) rfl).2 (fun z => by have z1 := z.1; have z2 := z.2; omega)
        · refine aw_iconst (q := 71) F dM_isRest_70 rfl (by decide) ?_
          refine aw_goto (t := 75) F dM_isRest_71 (by decide) ?_
          refine aw_zret F C dM_isRest_75 rfl (by decide) (Nat.le_refl _) (Nat.le_refl _) ?_
          first
          | exact (e1 1 0 1 0 (by omega) rfl (by omega) rfl).1 ⟨by omega, by omega⟩
          | exact (e1 1 0 0 1 (by omega) rfl (by omega) rfl).1 ⟨by omega, by omega⟩
          | exact (e1 0 1 1 0 (by omega) rfl (by omega) rfl).1 ⟨by omega, by omega⟩
          | exact (e1 0 1 0 1 (by omega) rfl (by omega) rfl).1 ⟨by omega, by omega⟩
    · refine aw_iconst (q := 19) F dM_isRest_18 rfl (by decide) ?_
      refine aw_goto (t := 23) F dM_isRest_19 (by decide) ?_
      refine aw_istore_3 (q := 24) F dM_isRest_23 rfl trivial ?_
      refine aw_iload_0 (q := 25) F dM_isRest_24 rfl ?_
      refine aw_iload_2 (q := 26) F dM_isRest_25 rfl ?_
      refine aw_if_ne (q := 29) (t := 33) F dM_isRest_26 rfl (by decide) (fun c26 => absurd c26 (by decide)) (fun c26 => ?_)
      refine aw_iconst (q := 30) F dM_isRest_29 rfl (by decide) ?_
      refine aw_goto (t := 34) F dM_isRest_30 (by decide) ?_
      refine aw_iload_3 (q := 35) F dM_isRest_34 rfl ?_
      refine av_callS3 (q := 38) F hm mM_slammed_i mM_slammed_n lM_437 dM_isRest_35 rfl (by decide) (Nat.le_refl _) (Nat.le_refl _) (Nat.le_of_ble_eq_true rfl) (wM_slammed hq ?_)
      refine aw_iload_0 (q := 39) F dM_isRest_38 rfl ?_
      refine aw_iload_2 (q := 40) F dM_isRest_39 rfl ?_
      refine aw_iload_3 (q := 41) F dM_isRest_40 rfl ?_
      refine av_callS3 (q := 44) F hm mM_slammed_i mM_slammed_n lM_437 dM_isRest_41 rfl (by decide) (Nat.le_refl _) (Nat.le_refl _) (Nat.le_of_ble_eq_true rfl) (wM_slammed hq ?_)
      refine aw_icmp_gt (q := 47) (t := 74) F dM_isRest_44 rfl (by decide) (fun c44 => ?_) (fun c44 => ?_)
      · refine aw_iconst (q := 75) F dM_isRest_74 rfl (by decide) ?_
        refine aw_zret F C dM_isRest_75 rfl (by decide) (Nat.le_refl _) (Nat.le_refl _) ?_
        first
        | exact (e1 1 0 1 0 (by omega) rfl (by omega) rfl).2 (fun z => by have z1 := z.1; have z2 := z.2; omega)
        | exact (e1 1 0 0 1 (by omega) rfl (by omega) rfl).2 (fun z => by have z1 := z.1; have z2 := z.2; omega)
        | exact (e1 0 1 1 0 (by omega) rfl (by omega) rfl).2 (fun z => by have z1 := z.1; have z2 := z.2; omega)
        | exact (e1 0 1 0 1 (by omega) rfl (by omega) rfl).2 (fun z => by have z1 := z.1; have z2 := z.2; omega)
      · refine aw_iload_0 (q := 48) F dM_isRest_47 rfl ?_
        refine aw_iload_3 (q := 49) F dM_isRest_48 rfl ?_
        refine aw_if_ne (q := 52) (t := 56) F dM_isRest_49 rfl (by decide) (fun c49 => ?_) (fun c49 => absurd c49 (by decide))
        refine aw_iconst (q := 57) F dM_isRest_56 rfl (by decide) ?_
        refine aw_iload_2 (q := 58) F dM_isRest_57 rfl ?_
        refine av_callS3 (q := 61) F hm mM_slammed_i mM_slammed_n lM_437 dM_isRest_58 rfl (by decide) (Nat.le_refl _) (Nat.le_refl _) (Nat.le_of_ble_eq_true rfl) (wM_slammed hq ?_)
        refine aw_iload_0 (q := 62) F dM_isRest_61 rfl ?_
        refine aw_iload_3 (q := 63) F dM_isRest_62 rfl ?_
        refine aw_iload_2 (q := 64) F dM_isRest_63 rfl ?_
        refine av_callS3 (q := 67) F hm mM_slammed_i mM_slammed_n lM_437 dM_isRest_64 rfl (by decide) (Nat.le_refl _) (Nat.le_refl _) (Nat.le_of_ble_eq_true rfl) (wM_slammed hq ?_)
        refine aw_icmp_gt (q := 70) (t := 74) F dM_isRest_67 rfl (by decide) (fun c67 => ?_) (fun c67 => ?_)
        · refine aw_iconst (q := 75) F dM_isRest_74 rfl (by decide) ?_
          refine aw_zret F C dM_isRest_75 rfl (by decide) (Nat.le_refl _) (Nat.le_refl _) ?_
          first
          | exact (e1 1 0 1 0 (by omega) rfl (by omega) rfl).2 (fun z => by have z1 := z.1; have z2 := z.2; omega)
          | exact (e1 1 0 0 1 (by omega) rfl (by omega) rfl).2 (fun z => by have z1 := z.1; have z2 := z.2; omega)
          | exact (e1 0 1 1 0 (by omega) rfl (by omega) rfl).2 (fun z => by have z1 := z.1; have z2 := z.2; omega)
          | exact (e1 0 1 0 1 (by omega) rfl (by omega) rfl).2 (fun z => by have z1 := z.1; have z2 := z.2; omega)
        · refine aw_iconst (q := 71) F dM_isRest_70 rfl (by decide) ?_
          refine aw_goto (t := 75) F dM_isRest_71 (by decide) ?_
          refine aw_zret F C dM_isRest_75 rfl (by decide) (Nat.le_refl _) (Nat.le_refl _) ?_
          first
          | exact (e1 1 0 1 0 (by omega) rfl (by omega) rfl).1 ⟨by omega, by omega⟩
          | exact (e1 1 0 0 1 (by omega) rfl (by omega) rfl).1 ⟨by omega, by omega⟩
          | exact (e1 0 1 1 0 (by omega) rfl (by omega) rfl).1 ⟨by omega, by omega⟩
          | exact (e1 0 1 0 1 (by omega) rfl (by omega) rfl).1 ⟨by omega, by omega⟩
  · refine aw_iconst (q := 6) F dM_isRest_5 rfl (by decide) ?_
    refine aw_goto (t := 10) F dM_isRest_6 (by decide) ?_
    refine aw_istore_2 (q := 11) F dM_isRest_10 rfl trivial ?_
    refine aw_iload_1 (q := 12) F dM_isRest_11 rfl ?_
    refine aw_iconst (q := 13) F dM_isRest_12 rfl (by decide) ?_
    refine aw_irem (q := 14) F dM_isRest_13 rfl (by omega) (by omega) ?_
    refine aw_iconst (q := 15) F dM_isRest_14 rfl (by decide) ?_
    refine aw_icmp_ne (q := 18) (t := 22) F dM_isRest_15 rfl (by decide) (fun c15 => ?_) (fun c15 => ?_)
    · refine aw_iconst (q := 23) F dM_isRest_22 rfl (by decide) ?_
      refine aw_istore_3 (q := 24) F dM_isRest_23 rfl trivial ?_
      refine aw_iload_0 (q := 25) F dM_isRest_24 rfl ?_
      refine aw_iload_2 (q := 26) F dM_isRest_25 rfl ?_
      refine aw_if_ne (q := 29) (t := 33) F dM_isRest_26 rfl (by decide) (fun c26 => ?_) (fun c26 => absurd c26 (by decide))
      refine aw_iconst (q := 34) F dM_isRest_33 rfl (by decide) ?_
      refine aw_iload_3 (q := 35) F dM_isRest_34 rfl ?_
      refine av_callS3 (q := 38) F hm mM_slammed_i mM_slammed_n lM_437 dM_isRest_35 rfl (by decide) (Nat.le_refl _) (Nat.le_refl _) (Nat.le_of_ble_eq_true rfl) (wM_slammed hq ?_)
      refine aw_iload_0 (q := 39) F dM_isRest_38 rfl ?_
      refine aw_iload_2 (q := 40) F dM_isRest_39 rfl ?_
      refine aw_iload_3 (q := 41) F dM_isRest_40 rfl ?_
      refine av_callS3 (q := 44) F hm mM_slammed_i mM_slammed_n lM_437 dM_isRest_41 rfl (by decide) (Nat.le_refl _) (Nat.le_refl _) (Nat.le_of_ble_eq_true rfl) (wM_slammed hq ?_)
      refine aw_icmp_gt (q := 47) (t := 74) F dM_isRest_44 rfl (by decide) (fun c44 => ?_) (fun c44 => ?_)
      · refine aw_iconst (q := 75) F dM_isRest_74 rfl (by decide) ?_
        refine aw_zret F C dM_isRest_75 rfl (by decide) (Nat.le_refl _) (Nat.le_refl _) ?_
        first
        | exact (e1 1 0 1 0 (by omega) rfl (by omega) rfl).2 (fun z => by have z1 := z.1; have z2 := z.2; omega)
        | exact (e1 1 0 0 1 (by omega) rfl (by omega) rfl).2 (fun z => by have z1 := z.1; have z2 := z.2; omega)
        | exact (e1 0 1 1 0 (by omega) rfl (by omega) rfl).2 (fun z => by have z1 := z.1; have z2 := z.2; omega)
        | exact (e1 0 1 0 1 (by omega) rfl (by omega) rfl).2 (fun z => by have z1 := z.1; have z2 := z.2; omega)
      · refine aw_iload_0 (q := 48) F dM_isRest_47 rfl ?_
        refine aw_iload_3 (q := 49) F dM_isRest_48 rfl ?_
        refine aw_if_ne (q := 52) (t := 56) F dM_isRest_49 rfl (by decide) (fun c49 => absurd c49 (by decide)) (fun c49 => ?_)
        refine aw_iconst (q := 53) F dM_isRest_52 rfl (by decide) ?_
        refine aw_goto (t := 57) F dM_isRest_53 (by decide) ?_
        refine aw_iload_2 (q := 58) F dM_isRest_57 rfl ?_
        refine av_callS3 (q := 61) F hm mM_slammed_i mM_slammed_n lM_437 dM_isRest_58 rfl (by decide) (Nat.le_refl _) (Nat.le_refl _) (Nat.le_of_ble_eq_true rfl) (wM_slammed hq ?_)
        refine aw_iload_0 (q := 62) F dM_isRest_61 rfl ?_
        refine aw_iload_3 (q := 63) F dM_isRest_62 rfl ?_
        refine aw_iload_2 (q := 64) F dM_isRest_63 rfl ?_
        refine av_callS3 (q := 67) F hm mM_slammed_i mM_slammed_n lM_437 dM_isRest_64 rfl (by decide) (Nat.le_refl _) (Nat.le_refl _) (Nat.le_of_ble_eq_true rfl) (wM_slammed hq ?_)
        refine aw_icmp_gt (q := 70) (t := 74) F dM_isRest_67 rfl (by decide) (fun c67 => ?_) (fun c67 => ?_)
        · refine aw_iconst (q := 75) F dM_isRest_74 rfl (by decide) ?_
          refine aw_zret F C dM_isRest_75 rfl (by decide) (Nat.le_refl _) (Nat.le_refl _) ?_
          first
          | exact (e1 1 0 1 0 (by omega) rfl (by omega) rfl).2 (fun z => by have z1 := z.1; have z2 := z.2; omega)
          | exact (e1 1 0 0 1 (by omega) rfl (by omega) rfl).2 (fun z => by have z1 := z.1; have z2 := z.2; omega)
          | exact (e1 0 1 1 0 (by omega) rfl (by omega) rfl).2 (fun z => by have z1 := z.1; have z2 := z.2; omega)
          | exact (e1 0 1 0 1 (by omega) rfl (by omega) rfl).2 (fun z => by have z1 := z.1; have z2 := z.2; omega)
        · refine aw_iconst (q := 71) F dM_isRest_70 rfl (by decide) ?_
          refine aw_goto (t := 75) F dM_isRest_71 (by decide) ?_
          refine aw_zret F C dM_isRest_75 rfl (by decide) (Nat.le_refl _) (Nat.le_refl _) ?_
          first
          | exact (e1 1 0 1 0 (by omega) rfl (by omega) rfl).1 ⟨by omega, by omega⟩
          | exact (e1 1 0 0 1 (by omega) rfl (by omega) rfl).1 ⟨by omega, by omega⟩
          | exact (e1 0 1 1 0 (by omega) rfl (by omega) rfl).1 ⟨by omega, by omega⟩
          | exact (e1 0 1 0 1 (by omega) rfl (by omega) rfl).1 ⟨by omega, by omega⟩
    · refine aw_iconst (q := 19) F dM_isRest_18 rfl (by decide) ?_
      refine aw_goto (t := 23) F dM_isRest_19 (by decide) ?_
      refine aw_istore_3 (q := 24) F dM_isRest_23 rfl trivial ?_
      refine aw_iload_0 (q := 25) F dM_isRest_24 rfl ?_
      refine aw_iload_2 (q := 26) F dM_isRest_25 rfl ?_
      refine aw_if_ne (q := 29) (t := 33) F dM_isRest_26 rfl (by decide) (fun c26 => ?_) (fun c26 => absurd c26 (by decide))
      refine aw_iconst (q := 34) F dM_isRest_33 rfl (by decide) ?_
      refine aw_iload_3 (q := 35) F dM_isRest_34 rfl ?_
      refine av_callS3 (q := 38) F hm mM_slammed_i mM_slammed_n lM_437 dM_isRest_35 rfl (by decide) (Nat.le_refl _) (Nat.le_refl _) (Nat.le_of_ble_eq_true rfl) (wM_slammed hq ?_)
      refine aw_iload_0 (q := 39) F dM_isRest_38 rfl ?_
      refine aw_iload_2 (q := 40) F dM_isRest_39 rfl ?_
      refine aw_iload_3 (q := 41) F dM_isRest_40 rfl ?_
      refine av_callS3 (q := 44) F hm mM_slammed_i mM_slammed_n lM_437 dM_isRest_41 rfl (by decide) (Nat.le_refl _) (Nat.le_refl _) (Nat.le_of_ble_eq_true rfl) (wM_slammed hq ?_)
      refine aw_icmp_gt (q := 47) (t := 74) F dM_isRest_44 rfl (by decide) (fun c44 => ?_) (fun c44 => ?_)
      · refine aw_iconst (q := 75) F dM_isRest_74 rfl (by decide) ?_
        refine aw_zret F C dM_isRest_75 rfl (by decide) (Nat.le_refl _) (Nat.le_refl _) ?_
        first
        | exact (e1 1 0 1 0 (by omega) rfl (by omega) rfl).2 (fun z => by have z1 := z.1; have z2 := z.2; omega)
        | exact (e1 1 0 0 1 (by omega) rfl (by omega) rfl).2 (fun z => by have z1 := z.1; have z2 := z.2; omega)
        | exact (e1 0 1 1 0 (by omega) rfl (by omega) rfl).2 (fun z => by have z1 := z.1; have z2 := z.2; omega)
        | exact (e1 0 1 0 1 (by omega) rfl (by omega) rfl).2 (fun z => by have z1 := z.1; have z2 := z.2; omega)
      · refine aw_iload_0 (q := 48) F dM_isRest_47 rfl ?_
        refine aw_iload_3 (q := 49) F dM_isRest_48 rfl ?_
        refine aw_if_ne (q := 52) (t := 56) F dM_isRest_49 rfl (by decide) (fun c49 => ?_) (fun c49 => absurd c49 (by decide))
        refine aw_iconst (q := 57) F dM_isRest_56 rfl (by decide) ?_
        refine aw_iload_2 (q := 58) F dM_isRest_57 rfl ?_
        refine av_callS3 (q := 61) F hm mM_slammed_i mM_slammed_n lM_437 dM_isRest_58 rfl (by decide) (Nat.le_refl _) (Nat.le_refl _) (Nat.le_of_ble_eq_true rfl) (wM_slammed hq ?_)
        refine aw_iload_0 (q := 62) F dM_isRest_61 rfl ?_
        refine aw_iload_3 (q := 63) F dM_isRest_62 rfl ?_
        refine aw_iload_2 (q := 64) F dM_isRest_63 rfl ?_
        refine av_callS3 (q := 67) F hm mM_slammed_i mM_slammed_n lM_437 dM_isRest_64 rfl (by decide) (Nat.le_refl _) (Nat.le_refl _) (Nat.le_of_ble_eq_true rfl) (wM_slammed hq ?_)
        refine aw_icmp_gt (q := 70) (t := 74) F dM_isRest_67 rfl (by decide) (fun c67 => ?_) (fun c67 => ?_)
        · refine aw_iconst (q := 75) F dM_isRest_74 rfl (by decide) ?_
          refine aw_zret F C dM_isRest_75 rfl (by decide) (Nat.le_refl _) (Nat.le_refl _) ?_
          first
          | exact (e1 1 0 1 0 (by omega) rfl (by omega) rfl).2 (fun z => by have z1 := z.1; have z2 := z.2; omega)
          | exact (e1 1 0 0 1 (by omega) rfl (by omega) rfl).2 (fun z => by have z1 := z.1; have z2 := z.2; omega)
          | exact (e1 0 1 1 0 (by omega) rfl (by omega) rfl).2 (fun z => by have z1 := z.1; have z2 := z.2; omega)
          | exact (e1 0 1 0 1 (by omega) rfl (by omega) rfl).2 (fun z => by have z1 := z.1; have z2 := z.2; omega)
        · refine aw_iconst (q := 71) F dM_isRest_70 rfl (by decide) ?_
          refine aw_goto (t := 75) F dM_isRest_71 (by decide) ?_
          refine aw_zret F C dM_isRest_75 rfl (by decide) (Nat.le_refl _) (Nat.le_refl _) ?_
          first
          | exact (e1 1 0 1 0 (by omega) rfl (by omega) rfl).1 ⟨by omega, by omega⟩
          | exact (e1 1 0 0 1 (by omega) rfl (by omega) rfl).1 ⟨by omega, by omega⟩
          | exact (e1 0 1 1 0 (by omega) rfl (by omega) rfl).1 ⟨by omega, by omega⟩
          | exact (e1 0 1 0 1 (by omega) rfl (by omega) rfl).1 ⟨by omega, by omega⟩
theorem wM_rests {q : Int} (h : MW V σ l S) (hK : MK K V σ l (setR S (wy (0 < tDn (psT S)) (0 ≤ q ∧ q ≤ 9))) (some (vI (rfD (wy (0 < tDn (psT S)) (0 ≤ q ∧ q ≤ 9)) (cntB (fun k => rstB q (k / 2 : Nat) (k % 2 : Nat)) 4) (-1))))) : Wp G 2 mM_rests [vR 53, vI q] (V, σ) 0 0 K := by
  obtain ⟨g, r1, r2⟩ := m3 vI hK
  have hM := h.mo
  refine wp_intro mM_rests_i.1 [some (vR 53), some (vI q), none, none, none] rfl rfl (Nat.le_of_ble_eq_true rfl) ?_
  intro X hG F C
  have hm := C.rm
  have go : 0 < tDn (psT S) → 0 ≤ q ∧ q ≤ 9 → ∀ (j k : Nat), k + j = 4 → ∀ (y z : Int) (u : Int), y = cntB (fun k => rstB q (k / 2 : Nat) (k % 2 : Nat)) k → z = k → AW X 26 [some (vR 53), some (vI q), some (vI u), some (vI y), some (vI z)] [] (up2 V 53 0 0, σ) 0 0 := by
    intro hd hq j
    induction j with
    | zero =>
      intro k hk y z u hy hz
      refine aw_iload_4 (q := 28) F dM_rests_26 rfl ?_
      refine aw_iconst (q := 29) F dM_rests_28 rfl (by decide) ?_
      refine aw_icmp_ge (q := 32) (t := 55) F dM_rests_29 rfl (by decide) (fun c29 => ?_) (fun c29 => by omega)
      refine aw_aload_0 (q := 56) F dM_rests_55 rfl ?_
      refine aw_iload_3 (q := 57) F dM_rests_56 rfl ?_
      refine av_callV1 (q := 60) (ci := 9) F hm mM_good_i mM_good_n lM_56 dM_rests_57 rfl rfl rfl (by first | exact hM.o | exact hl.o | exact hM.a54 | exact hM.a55 | exact hM.a56 | exact hM.a57 | exact hM.a58) (by decide) (Nat.le_refl _) (Nat.le_refl _) (Nat.le_of_ble_eq_true rfl) (wM_good hM ?_)
      refine aw_iret F C dM_rests_60 rfl (Nat.le_refl _) (Nat.le_refl _) ?_
      rw [hy, show k = 4 by omega]; exact MK.fin0 (g hd hq) h (by decide)
    | succ j ih =>
      intro k hk y z u hy hz
      have hle := cntB_le (fun k => rstB q (k / 2 : Nat) (k % 2 : Nat)) k
      refine aw_iload_4 (q := 28) F dM_rests_26 rfl ?_
      refine aw_iconst (q := 29) F dM_rests_28 rfl (by decide) ?_
      refine aw_icmp_ge (q := 32) (t := 55) F dM_rests_29 rfl (by decide) (fun c29 => by omega) (fun c29 => ?_)
      refine aw_iload_3 (q := 33) F dM_rests_32 rfl ?_
      refine aw_iload_1 (q := 34) F dM_rests_33 rfl ?_
      refine aw_iload_4 (q := 36) F dM_rests_34 rfl ?_
      refine av_callS2 (q := 39) F hm mM_isRest_i mM_isRest_n lM_441 dM_rests_36 rfl (by decide) (Nat.le_refl _) (Nat.le_refl _) (Nat.le_of_ble_eq_true rfl) (wM_isRest (k := k) hq hz (by omega) (fun c36 => ?_) (fun c36 => ?_))
      · refine aw_if_eq (q := 42) (t := 46) F dM_rests_39 rfl (by decide) (fun c39 => absurd c39 (by decide)) (fun c39 => ?_)
        refine aw_iconst (q := 43) F dM_rests_42 rfl (by decide) ?_
        refine aw_goto (t := 47) F dM_rests_43 (by decide) ?_
        refine aw_iadd (q := 48) F dM_rests_47 rfl (by constructor <;> omega) ?_
        refine aw_istore_3 (q := 49) F dM_rests_48 rfl trivial ?_
        refine aw_iinc_4 (q := 52) F dM_rests_49 rfl trivial (by constructor <;> omega) ?_
        refine aw_goto (t := 26) F dM_rests_52 (by decide) ?_
        first | exact ih (k + 1) (by omega) _ _ _ (by rw [cntB_1 c36]; omega) (by omega) | exact ih (k + 1) (by omega) _ _ _ (by rw [cntB_0 c36]; omega) (by omega)
      · refine aw_if_eq (q := 42) (t := 46) F dM_rests_39 rfl (by decide) (fun c39 => ?_) (fun c39 => absurd c39 (by decide))
        refine aw_iconst (q := 47) F dM_rests_46 rfl (by decide) ?_
        refine aw_iadd (q := 48) F dM_rests_47 rfl (by constructor <;> omega) ?_
        refine aw_istore_3 (q := 49) F dM_rests_48 rfl trivial ?_
        refine aw_iinc_4 (q := 52) F dM_rests_49 rfl trivial (by constructor <;> omega) ?_
        refine aw_goto (t := 26) F dM_rests_52 (by decide) ?_
        first | exact ih (k + 1) (by omega) _ _ _ (by rw [cntB_1 c36]; omega) (by omega) | exact ih (k + 1) (by omega) _ _ _ (by rw [cntB_0 c36]; omega) (by omega)
  refine aw_aload_0 (q := 1) F dM_rests_0 rfl ?_
  refine aw_iconst (q := 2) F dM_rests_1 rfl (by decide) ?_
  refine av_puti (q := 5) F fM_46 dM_rests_2 rfl rfl (wr_9_0 _) (by first | exact hM.o | exact hl.o | exact hM.a54 | exact hM.a55 | exact hM.a56 | exact hM.a57 | exact hM.a58) ?_
  refine aw_aload_0 (q := 6) F dM_rests_5 rfl ?_
  refine aw_iload_1 (q := 7) F dM_rests_6 rfl ?_
  refine av_callV1 (q := 10) (ci := 9) F hm mM_refusesDraught_i mM_refusesDraught_n lM_431 dM_rests_7 rfl rfl rfl (by first | exact hM.o | exact hl.o | exact hM.a54 | exact hM.a55 | exact hM.a56 | exact hM.a57 | exact hM.a58) (by decide) (Nat.le_refl _) (Nat.le_refl _) (Nat.le_of_ble_eq_true rfl) (wM_refusesDraught h.th (fun d7 w7 => ?_) (fun d7 => ?_) (fun d7 w7 => ?_))
  · refine aw_istore_2 (q := 11) F dM_rests_10 rfl trivial ?_
    refine aw_iload_2 (q := 12) F dM_rests_11 rfl ?_
    refine aw_if_le (q := 15) (t := 21) F dM_rests_12 rfl (by decide) (fun c12 => ?_) (fun c12 => absurd c12 (by decide))
    refine aw_iconst (q := 22) F dM_rests_21 rfl (by decide) ?_
    refine aw_istore_3 (q := 23) F dM_rests_22 rfl trivial ?_
    refine aw_iconst (q := 24) F dM_rests_23 rfl (by decide) ?_
    refine aw_istore_4 (q := 26) F dM_rests_24 rfl trivial ?_
    exact go d7 w7 4 0 rfl _ _ _ rfl rfl
  · refine aw_istore_2 (q := 11) F dM_rests_10 rfl trivial ?_
    refine aw_iload_2 (q := 12) F dM_rests_11 rfl ?_
    refine aw_if_le (q := 15) (t := 21) F dM_rests_12 rfl (by decide) (fun c12 => absurd c12 (by decide)) (fun c12 => ?_)
    refine aw_aload_0 (q := 16) F dM_rests_15 rfl ?_
    refine aw_iload_2 (q := 17) F dM_rests_16 rfl ?_
    refine av_callV1 (q := 20) (ci := 9) F hm mM_refused_i mM_refused_n lM_52 dM_rests_17 rfl rfl rfl (by first | exact hM.o | exact hl.o | exact hM.a54 | exact hM.a55 | exact hM.a56 | exact hM.a57 | exact hM.a58) (by decide) (Nat.le_refl _) (Nat.le_refl _) (Nat.le_of_ble_eq_true rfl) (wM_refused hM ?_)
    refine aw_iret F C dM_rests_20 rfl (Nat.le_refl _) (Nat.le_refl _) ?_
    first | exact MK.fin0 (r1 d7) h (by decide) | exact MK.fin0 (r2 d7 w7) h (by decide)
  · refine aw_istore_2 (q := 11) F dM_rests_10 rfl trivial ?_
    refine aw_iload_2 (q := 12) F dM_rests_11 rfl ?_
    refine aw_if_le (q := 15) (t := 21) F dM_rests_12 rfl (by decide) (fun c12 => absurd c12 (by decide)) (fun c12 => ?_)
    refine aw_aload_0 (q := 16) F dM_rests_15 rfl ?_
    refine aw_iload_2 (q := 17) F dM_rests_16 rfl ?_
    refine av_callV1 (q := 20) (ci := 9) F hm mM_refused_i mM_refused_n lM_52 dM_rests_17 rfl rfl rfl (by first | exact hM.o | exact hl.o | exact hM.a54 | exact hM.a55 | exact hM.a56 | exact hM.a57 | exact hM.a58) (by decide) (Nat.le_refl _) (Nat.le_refl _) (Nat.le_of_ble_eq_true rfl) (wM_refused hM ?_)
    refine aw_iret F C dM_rests_20 rfl (Nat.le_refl _) (Nat.le_refl _) ?_
    first | exact MK.fin0 (r1 d7) h (by decide) | exact MK.fin0 (r2 d7 w7) h (by decide)
theorem wM_rest {q : Int} (h : MW V σ l S) (hK : MK K V σ l (setR S (wy (0 < tDn (psT S)) (0 ≤ q ∧ q ≤ 9))) (some (vI (rfD (wy (0 < tDn (psT S)) (0 ≤ q ∧ q ≤ 9)) (rsF q 4 0) (-1))))) : Wp G 2 mM_rest [vR 53, vI q] (V, σ) 0 0 K := by
  obtain ⟨g, r1, r2⟩ := m3 vI hK
  have hM := h.mo
  refine wp_intro mM_rest_i.1 [some (vR 53), some (vI q), none, none] rfl rfl (Nat.le_of_ble_eq_true rfl) ?_
  intro X hG F C
  have hm := C.rm
  have go : 0 < tDn (psT S) → 0 ≤ q ∧ q ≤ 9 → ∀ (j k : Nat), k + j = 4 → ∀ (z : Int) (u : Int), rsF q j k = rsF q 4 0 → z = k → AW X 23 [some (vR 53), some (vI q), some (vI u), some (vI z)] [] (up2 V 53 0 0, σ) 0 0 := by
    intro hd hq j
    have g' := g hd hq
    induction j with
    | zero =>
      intro k hk z u hy hz
      refine aw_iload_3 (q := 24) F dM_rest_23 rfl ?_
      refine aw_iconst (q := 25) F dM_rest_24 rfl (by decide) ?_
      refine aw_icmp_ge (q := 28) (t := 57) F dM_rest_25 rfl (by decide) (fun c25 => ?_) (fun c25 => by omega)
      refine aw_aload_0 (q := 58) F dM_rest_57 rfl ?_
      refine aw_bipush (q := 60) F dM_rest_58 rfl (by decide) ?_
      refine av_callV1 (q := 63) (ci := 9) F hm mM_good_i mM_good_n lM_56 dM_rest_60 rfl rfl rfl (by first | exact hM.o | exact hl.o | exact hM.a54 | exact hM.a55 | exact hM.a56 | exact hM.a57 | exact hM.a58) (by decide) (Nat.le_refl _) (Nat.le_refl _) (Nat.le_of_ble_eq_true rfl) (wM_good hM ?_)
      refine aw_iret F C dM_rest_63 rfl (Nat.le_refl _) (Nat.le_refl _) ?_
      rw [← hy] at g'; exact MK.fin0 g' h (by decide)
    | succ j ih =>
      intro k hk z u hy hz
      have es : rsF q (j + 1) k = if rstB q (k / 2 : Nat) (k % 2 : Nat) then ((k / 2 * 10 + k % 2 : Nat) : Int) else rsF q j (k + 1) := rfl
      have ev : 10 * (z / 2) + z % 2 = ((k / 2 * 10 + k % 2 : Nat) : Int) := by omega
      refine aw_iload_3 (q := 24) F dM_rest_23 rfl ?_
      refine aw_iconst (q := 25) F dM_rest_24 rfl (by decide) ?_
      refine aw_icmp_ge (q := 28) (t := 57) F dM_rest_25 rfl (by decide) (fun c25 => by omega) (fun c25 => ?_)
      refine aw_iload_1 (q := 29) F dM_rest_28 rfl ?_
      refine aw_iload_3 (q := 30) F dM_rest_29 rfl ?_
      refine av_callS2 (q := 33) F hm mM_isRest_i mM_isRest_n lM_441 dM_rest_30 rfl (by decide) (Nat.le_refl _) (Nat.le_refl _) (Nat.le_of_ble_eq_true rfl) (wM_isRest (k := k) hq hz (by omega) (fun c30 => ?_) (fun c30 => ?_))
      · refine aw_if_eq (q := 36) (t := 51) F dM_rest_33 rfl (by decide) (fun c33 => absurd c33 (by decide)) (fun c33 => ?_)
        refine aw_aload_0 (q := 37) F dM_rest_36 rfl ?_
        refine aw_bipush (q := 39) F dM_rest_37 rfl (by decide) ?_
        refine aw_iload_3 (q := 40) F dM_rest_39 rfl ?_
        refine aw_iconst (q := 41) F dM_rest_40 rfl (by decide) ?_
        refine aw_idiv (q := 42) F dM_rest_41 rfl (by omega) (by omega) ?_
        refine aw_imul (q := 43) F dM_rest_42 rfl (by constructor <;> omega) ?_
        refine aw_iload_3 (q := 44) F dM_rest_43 rfl ?_
        refine aw_iconst (q := 45) F dM_rest_44 rfl (by decide) ?_
        refine aw_irem (q := 46) F dM_rest_45 rfl (by omega) (by omega) ?_
        refine aw_iadd (q := 47) F dM_rest_46 rfl (by constructor <;> omega) ?_
        refine av_callV1 (q := 50) (ci := 9) F hm mM_good_i mM_good_n lM_56 dM_rest_47 rfl rfl rfl (by first | exact hM.o | exact hl.o | exact hM.a54 | exact hM.a55 | exact hM.a56 | exact hM.a57 | exact hM.a58) (by decide) (Nat.le_refl _) (Nat.le_refl _) (Nat.le_of_ble_eq_true rfl) (wM_good hM ?_)
        refine aw_iret F C dM_rest_50 rfl (Nat.le_refl _) (Nat.le_refl _) ?_
        rw [← hy, es, if_pos c30, ← ev] at g'; exact MK.fin0 g' h (by decide)
      · refine aw_if_eq (q := 36) (t := 51) F dM_rest_33 rfl (by decide) (fun c33 => ?_) (fun c33 => absurd c33 (by decide))
        refine aw_iinc_3 (q := 54) F dM_rest_51 rfl trivial (by constructor <;> omega) ?_
        refine aw_goto (t := 23) F dM_rest_54 (by decide) ?_
        refine ih (k + 1) (by omega) _ _ ?_ (by omega)
        rw [es, if_neg (by rw [c30]; decide)] at hy
        exact hy
  refine aw_aload_0 (q := 1) F dM_rest_0 rfl ?_
  refine aw_iconst (q := 2) F dM_rest_1 rfl (by decide) ?_
  refine av_puti (q := 5) F fM_46 dM_rest_2 rfl rfl (wr_9_0 _) (by first | exact hM.o | exact hl.o | exact hM.a54 | exact hM.a55 | exact hM.a56 | exact hM.a57 | exact hM.a58) ?_
  refine aw_aload_0 (q := 6) F dM_rest_5 rfl ?_
  refine aw_iload_1 (q := 7) F dM_rest_6 rfl ?_
  refine av_callV1 (q := 10) (ci := 9) F hm mM_refusesDraught_i mM_refusesDraught_n lM_431 dM_rest_7 rfl rfl rfl (by first | exact hM.o | exact hl.o | exact hM.a54 | exact hM.a55 | exact hM.a56 | exact hM.a57 | exact hM.a58) (by decide) (Nat.le_refl _) (Nat.le_refl _) (Nat.le_of_ble_eq_true rfl) (wM_refusesDraught h.th (fun d7 w7 => ?_) (fun d7 => ?_) (fun d7 w7 => ?_))
  · refine aw_istore_2 (q := 11) F dM_rest_10 rfl trivial ?_
    refine aw_iload_2 (q := 12) F dM_rest_11 rfl ?_
    refine aw_if_le (q := 15) (t := 21) F dM_rest_12 rfl (by decide) (fun c12 => ?_) (fun c12 => absurd c12 (by decide))
    refine aw_iconst (q := 22) F dM_rest_21 rfl (by decide) ?_
    refine aw_istore_3 (q := 23) F dM_rest_22 rfl trivial ?_
    exact go d7 w7 4 0 rfl _ _ rfl rfl
  · refine aw_istore_2 (q := 11) F dM_rest_10 rfl trivial ?_
    refine aw_iload_2 (q := 12) F dM_rest_11 rfl ?_
    refine aw_if_le (q := 15) (t := 21) F dM_rest_12 rfl (by decide) (fun c12 => absurd c12 (by decide)) (fun c12 => ?_)
    refine aw_aload_0 (q := 16) F dM_rest_15 rfl ?_
    refine aw_iload_2 (q := 17) F dM_rest_16 rfl ?_
    refine av_callV1 (q := 20) (ci := 9) F hm mM_refused_i mM_refused_n lM_52 dM_rest_17 rfl rfl rfl (by first | exact hM.o | exact hl.o | exact hM.a54 | exact hM.a55 | exact hM.a56 | exact hM.a57 | exact hM.a58) (by decide) (Nat.le_refl _) (Nat.le_refl _) (Nat.le_of_ble_eq_true rfl) (wM_refused hM ?_)
    refine aw_iret F C dM_rest_20 rfl (Nat.le_refl _) (Nat.le_refl _) ?_
    first | exact MK.fin0 (r1 d7) h (by decide) | exact MK.fin0 (r2 d7 w7) h (by decide)
  · refine aw_istore_2 (q := 11) F dM_rest_10 rfl trivial ?_
    refine aw_iload_2 (q := 12) F dM_rest_11 rfl ?_
    refine aw_if_le (q := 15) (t := 21) F dM_rest_12 rfl (by decide) (fun c12 => absurd c12 (by decide)) (fun c12 => ?_)
    refine aw_aload_0 (q := 16) F dM_rest_15 rfl ?_
    refine aw_iload_2 (q := 17) F dM_rest_16 rfl ?_
    refine av_callV1 (q := 20) (ci := 9) F hm mM_refused_i mM_refused_n lM_52 dM_rest_17 rfl rfl rfl (by first | exact hM.o | exact hl.o | exact hM.a54 | exact hM.a55 | exact hM.a56 | exact hM.a57 | exact hM.a58) (by decide) (Nat.le_refl _) (Nat.le_refl _) (Nat.le_of_ble_eq_true rfl) (wM_refused hM ?_)
    refine aw_iret F C dM_rest_20 rfl (Nat.le_refl _) (Nat.le_refl _) ?_
    first | exact MK.fin0 (r1 d7) h (by decide) | exact MK.fin0 (r2 d7 w7) h (by decide)
def fdA (a b c d e : Int) (k : Nat) : Int := if k < 4 then a else if k < 8 then b else if k < 12 then c else if k < 16 then d else e
theorem fdB_lo {a b c d e : Int} {j : Nat} (h : j < psN S) : fdB S a b c d e j = psB S j := by
  unfold fdB wrI
  rw [if_neg (by omega), if_neg (by omega), if_neg (by omega), if_neg (by omega), if_neg (by omega)]
theorem fdB_at {a b c d e : Int} {k : Nat} (h : k < 20) : fdB S a b c d e (psN S + k) = zb (zshr (fdA a b c d e k) (24 - 8 * ((k % 4 : Nat) : Int))) := by
  unfold fdB wrI fdA
  rcases (show k < 4 ∨ (4 ≤ k ∧ k < 8) ∨ (8 ≤ k ∧ k < 12) ∨ (12 ≤ k ∧ k < 16) ∨ (16 ≤ k ∧ k < 20) by omega) with q | q | q | q | q
  · rw [if_neg (by omega), if_neg (by omega), if_neg (by omega), if_neg (by omega), if_pos (by omega), if_pos q, show psN S + k - psN S = k % 4 by omega]
  · rw [if_neg (by omega), if_neg (by omega), if_neg (by omega), if_pos (by omega), if_neg (by omega), if_pos q.2, show psN S + k - (psN S + 4) = k % 4 by omega]
  · rw [if_neg (by omega), if_neg (by omega), if_pos (by omega), if_neg (by omega), if_neg (by omega), if_pos q.2, show psN S + k - (psN S + 8) = k % 4 by omega]
  · rw [if_neg (by omega), if_pos (by omega), if_neg (by omega), if_neg (by omega), if_neg (by omega), if_pos q.2, show psN S + k - (psN S + 12) = k % 4 by omega]
  · rw [if_pos (by omega), if_neg (by omega), if_neg (by omega), if_neg (by omega), if_neg (by omega), show psN S + k - (psN S + 16) = k % 4 by omega]
theorem wM_feed {a b c d e : Int} (h : MW V σ l S) (hok : okP (if psN S + 20 ≤ 800 then tpS S (fdB S a b c d e) (psN S + 20) else S)) (hK : MK K V σ l (if psN S + 20 ≤ 800 then tpS S (fdB S a b c d e) (psN S + 20) else S) (some (vI (if psN S + 20 ≤ 800 then ((psN S + 20 : Nat) : Int) else -1)))) : Wp G 0 mM_feed [vR 53, vI a, vI b, vI c, vI d, vI e] (V, σ) 0 0 K := by
  have hM := h.mo
  have hn8 : psN S ≤ 800 := h.1.1
  have e6 : up2 V 53 0 0 53 6 = psN S := h.th.f.2.2.1
  refine wp_intro mM_feed_i.1 [some (vR 53), some (vI a), some (vI b), some (vI c), some (vI d), some (vI e), none, none] rfl rfl (Nat.le_of_ble_eq_true rfl) ?_
  intro X hG F C
  have hm := C.rm
  have go : psN S + 20 ≤ 800 → ∀ (j k : Nat), k + j = 20 → ∀ (V1 : Nat → Nat → Int) (z : Int) (x7 : Option AV), z = k → (∀ b, b ≠ 53 → b ≠ 54 → V1 b = V b) → (∀ j, j ≠ 0 → j ≠ 6 → V1 53 j = V 53 j) → V1 53 6 = (psN S + k : Nat) → (∀ i, i < psN S + k → V1 54 i = fdB S a b c d e i) → AW X 23 [some (vR 53), some (vI a), some (vI b), some (vI c), some (vI d), some (vI e), some (vI z), x7] [] (V1, σ) 0 0 := by
    intro h8 j
    rw [if_pos h8] at hok
    rw [if_pos h8, if_pos h8] at hK
    induction j with
    | zero =>
      intro k hk V1 z x7 hz f1 f2 f3 f4
      refine aw_iload_6 (q := 25) F dM_feed_23 rfl ?_
      refine aw_bipush (q := 27) F dM_feed_25 rfl (by decide) ?_
      refine aw_icmp_ge (q := 30) (t := 117) F dM_feed_27 rfl (by decide) (fun c27 => ?_) (fun c27 => by omega)
      refine aw_aload_0 (q := 118) F dM_feed_117 rfl ?_
      refine av_geti (q := 121) F fM_274 dM_feed_118 rfl rfl (by first | exact hM.o | exact hl.o | exact hM.a54 | exact hM.a55 | exact hM.a56 | exact hM.a57 | exact hM.a58) ?_
      refine aw_iret F C dM_feed_121 rfl (Nat.le_refl _) (Nat.le_refl _) ?_
      rw [f3, show k = 20 by omega]
      obtain ⟨h1, h2, h3, h4, h5, h6, h7⟩ := h
      refine hK _ ⟨hok, h2, h3, fun hd => ?_, fun i hi => ?_, ?_, ?_⟩ (fun b hb => f1 b (by omega) (by omega))
      · obtain ⟨a1, a2, a3⟩ := h4 hd
        exact ⟨a1, a2, MWa.same (S := S) a3 (f1 _ (by decide) (by decide)) (f1 _ (by decide) (by decide)) (f1 _ (by decide) (by decide)) (fun i hi => f1 _ (by omega) (by omega))⟩
      · have hi : i < psN S + 20 := hi
        exact f4 i (by omega)
      · unfold MWf
        rw [f2 1 (by decide) (by decide), f2 2 (by decide) (by decide), f2 12 (by decide) (by decide), f2 19 (by decide) (by decide), f2 20 (by decide) (by decide), f3, show k = 20 by omega]
        exact ⟨h6.1, h6.2.1, rfl, h6.2.2.2⟩
      · exact MWq.fl (S := S) h7 (f2 _ (by decide) (by decide)) (f2 _ (by decide) (by decide)) (f1 _ (by decide) (by decide)) (f1 _ (by decide) (by decide)) (f1 _ (by decide) (by decide))
    | succ j ih =>
      intro k hk V1 z x7 hz f1 f2 f3 f4
      have nx : ∀ (x : Int), x = fdA a b c d e k → AW X 23 [some (vR 53), some (vI a), some (vI b), some (vI c), some (vI d), some (vI e), some (vI (z + 1)), some (vI x)] [] (up2 (up2 V1 54 (V1 53 6).toNat (zb (zshr x (24 - 8 * (z % 4))))) 53 6 (V1 53 6 + 1), σ) 0 0 := fun x hx => by
        refine ih (k + 1) (by omega) _ _ _ (by omega) (fun b h1 h2 => by rw [up2_nea _ _ h1, up2_nea _ _ h2]; exact f1 b h1 h2) (fun j h1 h2 => by rw [up2_nek _ _ h2, up2_nea _ _ (by decide)]; exact f2 j h1 h2) (by rw [up2_same, f3]; omega) (fun i hi => ?_)
        rw [up2_nea _ _ (by decide), f3, show ((psN S + k : Nat) : Int).toNat = psN S + k from Int.toNat_natCast _]
        by_cases q : i = psN S + k
        · rw [q, up2_same, fdB_at (by omega), hx, show z % 4 = ((k % 4 : Nat) : Int) by omega]
        · rw [up2_nek _ _ q]; exact f4 i (by omega)
      have i0 : (0 : Int) ≤ V1 53 6 := by omega
      have i1 : V1 53 6 < 800 := by omega
      refine aw_iload_6 (q := 25) F dM_feed_23 rfl ?_
      refine aw_bipush (q := 27) F dM_feed_25 rfl (by decide) ?_
      refine aw_icmp_ge (q := 30) (t := 117) F dM_feed_27 rfl (by decide) (fun c27 => by omega) (fun c27 => ?_)
      refine aw_iload_6 (q := 32) F dM_feed_30 rfl ?_
      refine aw_iconst (q := 33) F dM_feed_32 rfl (by decide) ?_
      refine aw_icmp_ge (q := 36) (t := 40) F dM_feed_33 rfl (by decide) (fun c33 => ?_) (fun c33 => ?_)
      · refine aw_iload_6 (q := 42) F dM_feed_40 rfl ?_
        refine aw_bipush (q := 44) F dM_feed_42 rfl (by decide) ?_
        refine aw_icmp_ge (q := 47) (t := 51) F dM_feed_44 rfl (by decide) (fun c44 => ?_) (fun c44 => ?_)
        · refine aw_iload_6 (q := 53) F dM_feed_51 rfl ?_
          refine aw_bipush (q := 55) F dM_feed_53 rfl (by decide) ?_
          refine aw_icmp_ge (q := 58) (t := 62) F dM_feed_55 rfl (by decide) (fun c55 => ?_) (fun c55 => ?_)
          · refine aw_iload_6 (q := 64) F dM_feed_62 rfl ?_
            refine aw_bipush (q := 66) F dM_feed_64 rfl (by decide) ?_
            refine aw_icmp_ge (q := 69) (t := 74) F dM_feed_66 rfl (by decide) (fun c66 => ?_) (fun c66 => ?_)
            · refine aw_iload_5 (q := 76) F dM_feed_74 rfl ?_
              refine aw_istore_7 (q := 78) F dM_feed_76 rfl trivial ?_
              refine aw_aload_0 (q := 79) F dM_feed_78 rfl ?_
              refine av_getaE (q := 82) F fM_13 dM_feed_79 rfl rfl (by first | exact hM.o | exact hl.o | exact hM.a54 | exact hM.a55 | exact hM.a56 | exact hM.a57 | exact hM.a58) hM.p5 ?_
              refine aw_aload_0 (q := 83) F dM_feed_82 rfl ?_
              refine av_geti (q := 86) F fM_274 dM_feed_83 rfl rfl (by first | exact hM.o | exact hl.o | exact hM.a54 | exact hM.a55 | exact hM.a56 | exact hM.a57 | exact hM.a58) ?_
              refine aw_iload_7 (q := 88) F dM_feed_86 rfl ?_
              refine aw_bipush (q := 90) F dM_feed_88 rfl (by decide) ?_
              refine aw_bipush (q := 92) F dM_feed_90 rfl (by decide) ?_
              refine aw_iload_6 (q := 94) F dM_feed_92 rfl ?_
              refine aw_iconst (q := 95) F dM_feed_94 rfl (by decide) ?_
              refine aw_irem (q := 96) F dM_feed_95 rfl (by omega) (by omega) ?_
              refine aw_imul (q := 97) F dM_feed_96 rfl (by constructor <;> omega) ?_
              refine aw_isub (q := 98) F dM_feed_97 rfl (by constructor <;> omega) ?_
              refine aw_ishr (q := 99) F dM_feed_98 rfl ?_
              refine aw_i2b (q := 100) F dM_feed_99 rfl ?_
              refine av_bastore (q := 101) F dM_feed_100 rfl (by first | exact hM.o | exact hl.o | exact hM.a54 | exact hM.a55 | exact hM.a56 | exact hM.a57 | exact hM.a58) (by omega) (by omega) (zb_ok _) ?_
              refine aw_aload_0 (q := 102) F dM_feed_101 rfl ?_
              refine aw_dup (q := 103) F dM_feed_102 rfl trivial ?_
              refine av_geti (q := 106) F fM_274 dM_feed_103 rfl rfl (by first | exact hM.o | exact hl.o | exact hM.a54 | exact hM.a55 | exact hM.a56 | exact hM.a57 | exact hM.a58) ?_
              rw [up2_nea _ _ (by decide)]
              refine aw_iconst (q := 107) F dM_feed_106 rfl (by decide) ?_
              refine aw_iadd (q := 108) F dM_feed_107 rfl (by constructor <;> omega) ?_
              refine av_puti (q := 111) F fM_274 dM_feed_108 rfl rfl (wr_9_6 _) (by first | exact hM.o | exact hl.o | exact hM.a54 | exact hM.a55 | exact hM.a56 | exact hM.a57 | exact hM.a58) ?_
              refine aw_iinc_6 (q := 114) F dM_feed_111 rfl trivial (by constructor <;> omega) ?_
              refine aw_goto (t := 23) F dM_feed_114 (by decide) ?_
              exact nx _ (by unfold fdA; first | (rw [if_pos (by omega)]) | (rw [if_neg (by omega), if_pos (by omega)]) | (rw [if_neg (by omega), if_neg (by omega), if_pos (by omega)]) | (rw [if_neg (by omega), if_neg (by omega), if_neg (by omega), if_pos (by omega)]) | (rw [if_neg (by omega), if_neg (by omega), if_neg (by omega), if_neg (by omega)]))
            · refine aw_iload_4 (q := 71) F dM_feed_69 rfl ?_
              refine aw_goto (t := 76) F dM_feed_71 (by decide) ?_
              refine aw_istore_7 (q := 78) F dM_feed_76 rfl trivial ?_
              refine aw_aload_0 (q := 79) F dM_feed_78 rfl ?_
              refine av_getaE (q := 82) F fM_13 dM_feed_79 rfl rfl (by first | exact hM.o | exact hl.o | exact hM.a54 | exact hM.a55 | exact hM.a56 | exact hM.a57 | exact hM.a58) hM.p5 ?_
              refine aw_aload_0 (q := 83) F dM_feed_82 rfl ?_
              refine av_geti (q := 86) F fM_274 dM_feed_83 rfl rfl (by first | exact hM.o | exact hl.o | exact hM.a54 | exact hM.a55 | exact hM.a56 | exact hM.a57 | exact hM.a58) ?_
              refine aw_iload_7 (q := 88) F dM_feed_86 rfl ?_
              refine aw_bipush (q := 90) F dM_feed_88 rfl (by decide) ?_
              refine aw_bipush (q := 92) F dM_feed_90 rfl (by decide) ?_
              refine aw_iload_6 (q := 94) F dM_feed_92 rfl ?_
              refine aw_iconst (q := 95) F dM_feed_94 rfl (by decide) ?_
              refine aw_irem (q := 96) F dM_feed_95 rfl (by omega) (by omega) ?_
              refine aw_imul (q := 97) F dM_feed_96 rfl (by constructor <;> omega) ?_
              refine aw_isub (q := 98) F dM_feed_97 rfl (by constructor <;> omega) ?_
              refine aw_ishr (q := 99) F dM_feed_98 rfl ?_
              refine aw_i2b (q := 100) F dM_feed_99 rfl ?_
              refine av_bastore (q := 101) F dM_feed_100 rfl (by first | exact hM.o | exact hl.o | exact hM.a54 | exact hM.a55 | exact hM.a56 | exact hM.a57 | exact hM.a58) (by omega) (by omega) (zb_ok _) ?_
              refine aw_aload_0 (q := 102) F dM_feed_101 rfl ?_
              refine aw_dup (q := 103) F dM_feed_102 rfl trivial ?_
              refine av_geti (q := 106) F fM_274 dM_feed_103 rfl rfl (by first | exact hM.o | exact hl.o | exact hM.a54 | exact hM.a55 | exact hM.a56 | exact hM.a57 | exact hM.a58) ?_
              rw [up2_nea _ _ (by decide)]
              refine aw_iconst (q := 107) F dM_feed_106 rfl (by decide) ?_
              refine aw_iadd (q := 108) F dM_feed_107 rfl (by constructor <;> omega) ?_
              refine av_puti (q := 111) F fM_274 dM_feed_108 rfl rfl (wr_9_6 _) (by first | exact hM.o | exact hl.o | exact hM.a54 | exact hM.a55 | exact hM.a56 | exact hM.a57 | exact hM.a58) ?_
              refine aw_iinc_6 (q := 114) F dM_feed_111 rfl trivial (by constructor <;> omega) ?_
              refine aw_goto (t := 23) F dM_feed_114 (by decide) ?_
              exact nx _ (by unfold fdA; first | (rw [if_pos (by omega)]) | (rw [if_neg (by omega), if_pos (by omega)]) | (rw [if_neg (by omega), if_neg (by omega), if_pos (by omega)]) | (rw [if_neg (by omega), if_neg (by omega), if_neg (by omega), if_pos (by omega)]) | (rw [if_neg (by omega), if_neg (by omega), if_neg (by omega), if_neg (by omega)]))
          · refine aw_iload_3 (q := 59) F dM_feed_58 rfl ?_
            refine aw_goto (t := 76) F dM_feed_59 (by decide) ?_
            refine aw_istore_7 (q := 78) F dM_feed_76 rfl trivial ?_
            refine aw_aload_0 (q := 79) F dM_feed_78 rfl ?_
            refine av_getaE (q := 82) F fM_13 dM_feed_79 rfl rfl (by first | exact hM.o | exact hl.o | exact hM.a54 | exact hM.a55 | exact hM.a56 | exact hM.a57 | exact hM.a58) hM.p5 ?_
            refine aw_aload_0 (q := 83) F dM_feed_82 rfl ?_
            refine av_geti (q := 86) F fM_274 dM_feed_83 rfl rfl (by first | exact hM.o | exact hl.o | exact hM.a54 | exact hM.a55 | exact hM.a56 | exact hM.a57 | exact hM.a58) ?_
            refine aw_iload_7 (q := 88) F dM_feed_86 rfl ?_
            refine aw_bipush (q := 90) F dM_feed_88 rfl (by decide) ?_
            refine aw_bipush (q := 92) F dM_feed_90 rfl (by decide) ?_
            refine aw_iload_6 (q := 94) F dM_feed_92 rfl ?_
            refine aw_iconst (q := 95) F dM_feed_94 rfl (by decide) ?_
            refine aw_irem (q := 96) F dM_feed_95 rfl (by omega) (by omega) ?_
            refine aw_imul (q := 97) F dM_feed_96 rfl (by constructor <;> omega) ?_
            refine aw_isub (q := 98) F dM_feed_97 rfl (by constructor <;> omega) ?_
            refine aw_ishr (q := 99) F dM_feed_98 rfl ?_
            refine aw_i2b (q := 100) F dM_feed_99 rfl ?_
            refine av_bastore (q := 101) F dM_feed_100 rfl (by first | exact hM.o | exact hl.o | exact hM.a54 | exact hM.a55 | exact hM.a56 | exact hM.a57 | exact hM.a58) (by omega) (by omega) (zb_ok _) ?_
            refine aw_aload_0 (q := 102) F dM_feed_101 rfl ?_
            refine aw_dup (q := 103) F dM_feed_102 rfl trivial ?_
            refine av_geti (q := 106) F fM_274 dM_feed_103 rfl rfl (by first | exact hM.o | exact hl.o | exact hM.a54 | exact hM.a55 | exact hM.a56 | exact hM.a57 | exact hM.a58) ?_
            rw [up2_nea _ _ (by decide)]
            refine aw_iconst (q := 107) F dM_feed_106 rfl (by decide) ?_
            refine aw_iadd (q := 108) F dM_feed_107 rfl (by constructor <;> omega) ?_
            refine av_puti (q := 111) F fM_274 dM_feed_108 rfl rfl (wr_9_6 _) (by first | exact hM.o | exact hl.o | exact hM.a54 | exact hM.a55 | exact hM.a56 | exact hM.a57 | exact hM.a58) ?_
            refine aw_iinc_6 (q := 114) F dM_feed_111 rfl trivial (by constructor <;> omega) ?_
            refine aw_goto (t := 23) F dM_feed_114 (by decide) ?_
            exact nx _ (by unfold fdA; first | (rw [if_pos (by omega)]) | (rw [if_neg (by omega), if_pos (by omega)]) | (rw [if_neg (by omega), if_neg (by omega), if_pos (by omega)]) | (rw [if_neg (by omega), if_neg (by omega), if_neg (by omega), if_pos (by omega)]) | (rw [if_neg (by omega), if_neg (by omega), if_neg (by omega), if_neg (by omega)]))
        · refine aw_iload_2 (q := 48) F dM_feed_47 rfl ?_
          refine aw_goto (t := 76) F dM_feed_48 (by decide) ?_
          refine aw_istore_7 (q := 78) F dM_feed_76 rfl trivial ?_
          refine aw_aload_0 (q := 79) F dM_feed_78 rfl ?_
          refine av_getaE (q := 82) F fM_13 dM_feed_79 rfl rfl (by first | exact hM.o | exact hl.o | exact hM.a54 | exact hM.a55 | exact hM.a56 | exact hM.a57 | exact hM.a58) hM.p5 ?_
          refine aw_aload_0 (q := 83) F dM_feed_82 rfl ?_
          refine av_geti (q := 86) F fM_274 dM_feed_83 rfl rfl (by first | exact hM.o | exact hl.o | exact hM.a54 | exact hM.a55 | exact hM.a56 | exact hM.a57 | exact hM.a58) ?_
          refine aw_iload_7 (q := 88) F dM_feed_86 rfl ?_
          refine aw_bipush (q := 90) F dM_feed_88 rfl (by decide) ?_
          refine aw_bipush (q := 92) F dM_feed_90 rfl (by decide) ?_
          refine aw_iload_6 (q := 94) F dM_feed_92 rfl ?_
          refine aw_iconst (q := 95) F dM_feed_94 rfl (by decide) ?_
          refine aw_irem (q := 96) F dM_feed_95 rfl (by omega) (by omega) ?_
          refine aw_imul (q := 97) F dM_feed_96 rfl (by constructor <;> omega) ?_
          refine aw_isub (q := 98) F dM_feed_97 rfl (by constructor <;> omega) ?_
          refine aw_ishr (q := 99) F dM_feed_98 rfl ?_
          refine aw_i2b (q := 100) F dM_feed_99 rfl ?_
          refine av_bastore (q := 101) F dM_feed_100 rfl (by first | exact hM.o | exact hl.o | exact hM.a54 | exact hM.a55 | exact hM.a56 | exact hM.a57 | exact hM.a58) (by omega) (by omega) (zb_ok _) ?_
          refine aw_aload_0 (q := 102) F dM_feed_101 rfl ?_
          refine aw_dup (q := 103) F dM_feed_102 rfl trivial ?_
          refine av_geti (q := 106) F fM_274 dM_feed_103 rfl rfl (by first | exact hM.o | exact hl.o | exact hM.a54 | exact hM.a55 | exact hM.a56 | exact hM.a57 | exact hM.a58) ?_
          rw [up2_nea _ _ (by decide)]
          refine aw_iconst (q := 107) F dM_feed_106 rfl (by decide) ?_
          refine aw_iadd (q := 108) F dM_feed_107 rfl (by constructor <;> omega) ?_
          refine av_puti (q := 111) F fM_274 dM_feed_108 rfl rfl (wr_9_6 _) (by first | exact hM.o | exact hl.o | exact hM.a54 | exact hM.a55 | exact hM.a56 | exact hM.a57 | exact hM.a58) ?_
          refine aw_iinc_6 (q := 114) F dM_feed_111 rfl trivial (by constructor <;> omega) ?_
          refine aw_goto (t := 23) F dM_feed_114 (by decide) ?_
          exact nx _ (by unfold fdA; first | (rw [if_pos (by omega)]) | (rw [if_neg (by omega), if_pos (by omega)]) | (rw [if_neg (by omega), if_neg (by omega), if_pos (by omega)]) | (rw [if_neg (by omega), if_neg (by omega), if_neg (by omega), if_pos (by omega)]) | (rw [if_neg (by omega), if_neg (by omega), if_neg (by omega), if_neg (by omega)]))
      · refine aw_iload_1 (q := 37) F dM_feed_36 rfl ?_
        refine aw_goto (t := 76) F dM_feed_37 (by decide) ?_
        refine aw_istore_7 (q := 78) F dM_feed_76 rfl trivial ?_
        refine aw_aload_0 (q := 79) F dM_feed_78 rfl ?_
        refine av_getaE (q := 82) F fM_13 dM_feed_79 rfl rfl (by first | exact hM.o | exact hl.o | exact hM.a54 | exact hM.a55 | exact hM.a56 | exact hM.a57 | exact hM.a58) hM.p5 ?_
        refine aw_aload_0 (q := 83) F dM_feed_82 rfl ?_
        refine av_geti (q := 86) F fM_274 dM_feed_83 rfl rfl (by first | exact hM.o | exact hl.o | exact hM.a54 | exact hM.a55 | exact hM.a56 | exact hM.a57 | exact hM.a58) ?_
        refine aw_iload_7 (q := 88) F dM_feed_86 rfl ?_
        refine aw_bipush (q := 90) F dM_feed_88 rfl (by decide) ?_
        refine aw_bipush (q := 92) F dM_feed_90 rfl (by decide) ?_
        refine aw_iload_6 (q := 94) F dM_feed_92 rfl ?_
        refine aw_iconst (q := 95) F dM_feed_94 rfl (by decide) ?_
        refine aw_irem (q := 96) F dM_feed_95 rfl (by omega) (by omega) ?_
        refine aw_imul (q := 97) F dM_feed_96 rfl (by constructor <;> omega) ?_
        refine aw_isub (q := 98) F dM_feed_97 rfl (by constructor <;> omega) ?_
        refine aw_ishr (q := 99) F dM_feed_98 rfl ?_
        refine aw_i2b (q := 100) F dM_feed_99 rfl ?_
        refine av_bastore (q := 101) F dM_feed_100 rfl (by first | exact hM.o | exact hl.o | exact hM.a54 | exact hM.a55 | exact hM.a56 | exact hM.a57 | exact hM.a58) (by omega) (by omega) (zb_ok _) ?_
        refine aw_aload_0 (q := 102) F dM_feed_101 rfl ?_
        refine aw_dup (q := 103) F dM_feed_102 rfl trivial ?_
        refine av_geti (q := 106) F fM_274 dM_feed_103 rfl rfl (by first | exact hM.o | exact hl.o | exact hM.a54 | exact hM.a55 | exact hM.a56 | exact hM.a57 | exact hM.a58) ?_
        rw [up2_nea _ _ (by decide)]
        refine aw_iconst (q := 107) F dM_feed_106 rfl (by decide) ?_
        refine aw_iadd (q := 108) F dM_feed_107 rfl (by constructor <;> omega) ?_
        refine av_puti (q := 111) F fM_274 dM_feed_108 rfl rfl (wr_9_6 _) (by first | exact hM.o | exact hl.o | exact hM.a54 | exact hM.a55 | exact hM.a56 | exact hM.a57 | exact hM.a58) ?_
        refine aw_iinc_6 (q := 114) F dM_feed_111 rfl trivial (by constructor <;> omega) ?_
        refine aw_goto (t := 23) F dM_feed_114 (by decide) ?_
        exact nx _ (by unfold fdA; first | (rw [if_pos (by omega)]) | (rw [if_neg (by omega), if_pos (by omega)]) | (rw [if_neg (by omega), if_neg (by omega), if_pos (by omega)]) | (rw [if_neg (by omega), if_neg (by omega), if_neg (by omega), if_pos (by omega)]) | (rw [if_neg (by omega), if_neg (by omega), if_neg (by omega), if_neg (by omega)]))
  refine aw_aload_0 (q := 1) F dM_feed_0 rfl ?_
  refine aw_iconst (q := 2) F dM_feed_1 rfl (by decide) ?_
  refine av_puti (q := 5) F fM_46 dM_feed_2 rfl rfl (wr_9_0 _) (by first | exact hM.o | exact hl.o | exact hM.a54 | exact hM.a55 | exact hM.a56 | exact hM.a57 | exact hM.a58) ?_
  refine aw_aload_0 (q := 6) F dM_feed_5 rfl ?_
  refine av_geti (q := 9) F fM_274 dM_feed_6 rfl rfl (by first | exact hM.o | exact hl.o | exact hM.a54 | exact hM.a55 | exact hM.a56 | exact hM.a57 | exact hM.a58) ?_
  rw [e6]
  refine aw_bipush (q := 11) F dM_feed_9 rfl (by decide) ?_
  refine aw_iadd (q := 12) F dM_feed_11 rfl (by constructor <;> omega) ?_
  refine aw_sipush (q := 15) F dM_feed_12 rfl (by decide) ?_
  refine aw_icmp_le (q := 18) (t := 20) F dM_feed_15 rfl (by decide) (fun c15 => ?_) (fun c15 => ?_)
  · refine aw_iconst (q := 21) F dM_feed_20 rfl (by decide) ?_
    refine aw_istore_6 (q := 23) F dM_feed_21 rfl trivial ?_
    refine go (by omega) 20 0 rfl _ _ _ rfl (fun b h1 _ => up2_nea _ _ h1) (fun j h1 _ => up2_nek _ _ h1) e6 (fun i hi => ?_)
    rw [up2_nea _ _ (by decide), fdB_lo (by omega)]
    exact h.2.2.2.2.1 i (by omega)
  · refine aw_iconst (q := 19) F dM_feed_18 rfl (by decide) ?_
    refine aw_iret F C dM_feed_19 rfl (Nat.le_refl _) (Nat.le_refl _) ?_
    rw [if_neg (by omega), if_neg (by omega)] at hK; exact hK.same h
theorem wM_led {i : Int} (h : MW V σ l S) (h1 : ∀ V' s, MW V' σ l S → MR V V' → V' 53 0 = 0 → s < stN (psC S) → mayN (psC S) (psA S) (allP (psC S)) s = true → i = cntB (mayN (psC S) (psA S) (allP (psC S))) s → K (some (vI (s : Nat))) (V', σ)) (h0 : ∀ V', MW V' σ l S → MR V V' → V' 53 0 = 1 → (∀ s, s < stN (psC S) → mayN (psC S) (psA S) (allP (psC S)) s = true → i ≠ cntB (mayN (psC S) (psA S) (allP (psC S))) s) → K (some (vI 0)) (V', σ)) : Wp G 3 mM_led [vR 53, vI i] (V, σ) 0 0 K := by
  have hM := h.mo
  have hst := stN_le h.hc
  refine wp_intro mM_led_i.1 [some (vR 53), some (vI i), none, none] rfl rfl (Nat.le_of_ble_eq_true rfl) ?_
  intro X hG F C
  have hm := C.rm
  have go : ∀ (hl0 : l ≠ 0) (V1 : Nat → Nat → Int), XF (up2 V 53 0 0) V1 → AR (V1 56) (psC S) (psA S) → ∀ (j s : Nat), s + j = stN (psC S) → ∀ (y z : Int), y = cntB (mayN (psC S) (psA S) (allP (psC S))) s → z = s → (∀ s', s' < s → mayN (psC S) (psA S) (allP (psC S)) s' = true → i ≠ cntB (mayN (psC S) (psA S) (allP (psC S))) s') → AW X 20 [some (vR 53), some (vI i), some (vI y), some (vI z)] [] (V1, σ) 0 0 := by
    intro hl0 V1 hX hA j
    have hd := h.pos hl0
    have hl := h.la hd
    have hC := hX.lc (h.h64 hd) (h.th.lc hd)
    have hW1 := h.th.xf hX
    have hR1 : MR V V1 := (MR.f53 (V := V) (k := 0) (z := 0) (fun _ _ => rfl)).tr ((MF.rf _).xf hX).mr
    induction j with
    | zero =>
      intro s hs y z hy hz hI
      refine aw_aload_0 (q := 21) F dM_led_20 rfl ?_
      refine av_getaE (q := 24) F fM_281 dM_led_21 rfl rfl (by first | exact hM.o | exact hl.o | exact hM.a54 | exact hM.a55 | exact hM.a56 | exact hM.a57 | exact hM.a58) hM.p3 ?_
      refine aw_ifnull (q := 27) (t := 62) F dM_led_24 rfl (by decide) (fun c24 => by exact absurd c24 hl0) (fun c24 => ?_)
      refine aw_iload_3 (q := 28) F dM_led_27 rfl ?_
      refine aw_aload_0 (q := 29) F dM_led_28 rfl ?_
      refine av_callV0 (q := 32) (ci := 9) F hm mM_stepsMany_i mM_stepsMany_n lM_336 dM_led_29 rfl rfl rfl (by first | exact hM.o | exact hl.o | exact hM.a54 | exact hM.a55 | exact hM.a56 | exact hM.a57 | exact hM.a58) (by decide) (Nat.le_refl _) (Nat.le_refl _) (Nat.le_of_ble_eq_true rfl) (wM_stepsMany hM hl hC h.hc ?_)
      refine aw_icmp_ge (q := 35) (t := 62) F dM_led_32 rfl (by decide) (fun c32 => ?_) (fun c32 => by omega)
      refine aw_aload_0 (q := 63) F dM_led_62 rfl ?_
      refine aw_iconst (q := 64) F dM_led_63 rfl (by decide) ?_
      refine av_puti (q := 67) F fM_46 dM_led_64 rfl rfl (wr_9_0 _) (by first | exact hM.o | exact hl.o | exact hM.a54 | exact hM.a55 | exact hM.a56 | exact hM.a57 | exact hM.a58) ?_
      refine aw_iconst (q := 68) F dM_led_67 rfl (by decide) ?_
      refine aw_iret F C dM_led_68 rfl (Nat.le_refl _) (Nat.le_refl _) ?_
      exact h0 _ hW1.th hR1.f53 (up2_same _ _ _ _) (fun s' hs' => hI s' (by omega))
    | succ j ih =>
      intro s hs y z hy hz hI
      have hle := cntB_le (mayN (psC S) (psA S) (allP (psC S))) s
      refine aw_aload_0 (q := 21) F dM_led_20 rfl ?_
      refine av_getaE (q := 24) F fM_281 dM_led_21 rfl rfl (by first | exact hM.o | exact hl.o | exact hM.a54 | exact hM.a55 | exact hM.a56 | exact hM.a57 | exact hM.a58) hM.p3 ?_
      refine aw_ifnull (q := 27) (t := 62) F dM_led_24 rfl (by decide) (fun c24 => by exact absurd c24 hl0) (fun c24 => ?_)
      refine aw_iload_3 (q := 28) F dM_led_27 rfl ?_
      refine aw_aload_0 (q := 29) F dM_led_28 rfl ?_
      refine av_callV0 (q := 32) (ci := 9) F hm mM_stepsMany_i mM_stepsMany_n lM_336 dM_led_29 rfl rfl rfl (by first | exact hM.o | exact hl.o | exact hM.a54 | exact hM.a55 | exact hM.a56 | exact hM.a57 | exact hM.a58) (by decide) (Nat.le_refl _) (Nat.le_refl _) (Nat.le_of_ble_eq_true rfl) (wM_stepsMany hM hl hC h.hc ?_)
      refine aw_icmp_ge (q := 35) (t := 62) F dM_led_32 rfl (by decide) (fun c32 => by omega) (fun c32 => ?_)
      refine aw_aload_0 (q := 36) F dM_led_35 rfl ?_
      refine aw_iload_3 (q := 37) F dM_led_36 rfl ?_
      refine av_callV1 (q := 40) (ci := 9) F hm mM_canStep_i mM_canStep_n lM_342 dM_led_37 rfl rfl rfl (by first | exact hM.o | exact hl.o | exact hM.a54 | exact hM.a55 | exact hM.a56 | exact hM.a57 | exact hM.a58) (by decide) (Nat.le_refl _) (Nat.le_refl _) (Nat.le_of_ble_eq_true rfl) (wM_canStep (s := s) hz (by omega) hM hl hC hA h.hc (fun c37 => ?_) (fun c37 => ?_))
      · refine aw_if_ne (q := 43) (t := 46) F dM_led_40 rfl (by decide) (fun c40 => ?_) (fun c40 => absurd c40 (by decide))
        refine aw_iload_2 (q := 47) F dM_led_46 rfl ?_
        refine aw_iload_1 (q := 48) F dM_led_47 rfl ?_
        refine aw_icmp_ne (q := 51) (t := 53) F dM_led_48 rfl (by decide) (fun c48 => ?_) (fun c48 => ?_)
        · refine aw_iinc_2 (q := 56) F dM_led_53 rfl trivial (by constructor <;> omega) ?_
          refine aw_iinc_3 (q := 59) F dM_led_56 rfl trivial (by constructor <;> omega) ?_
          refine aw_goto (t := 20) F dM_led_59 (by decide) ?_
          refine ih (s + 1) (by omega) _ _ ?_ (by omega) (fun s' hs' hm' => ?_)
          · first | (rw [cntB_1 c37]; omega) | (rw [cntB_0 c37]; omega)
          · by_cases q : s' = s
            · rw [q] at hm' ⊢; first | omega | (rw [c37] at hm'; cases hm')
            · exact hI s' (by omega) hm'
        · refine aw_iload_3 (q := 52) F dM_led_51 rfl ?_
          refine aw_iret F C dM_led_52 rfl (Nat.le_refl _) (Nat.le_refl _) ?_
          rw [hz]; exact h1 V1 s hW1 hR1 (by rw [hX 53 (by decide)]; exact up2_same _ _ _ _) (by omega) c37 (by omega)
      · refine aw_if_ne (q := 43) (t := 46) F dM_led_40 rfl (by decide) (fun c40 => absurd c40 (by decide)) (fun c40 => ?_)
        refine aw_goto (t := 56) F dM_led_43 (by decide) ?_
        refine aw_iinc_3 (q := 59) F dM_led_56 rfl trivial (by constructor <;> omega) ?_
        refine aw_goto (t := 20) F dM_led_59 (by decide) ?_
        refine ih (s + 1) (by omega) _ _ ?_ (by omega) (fun s' hs' hm' => ?_)
        · first | (rw [cntB_1 c37]; omega) | (rw [cntB_0 c37]; omega)
        · by_cases q : s' = s
          · rw [q] at hm' ⊢; first | omega | (rw [c37] at hm'; cases hm')
          · exact hI s' (by omega) hm'
  have go0 : l = 0 → ∀ (y z : Int), AW X 20 [some (vR 53), some (vI i), some (vI y), some (vI z)] [] (up2 V 53 0 0, σ) 0 0 := by
    intro e0 y z
    refine aw_aload_0 (q := 21) F dM_led_20 rfl ?_
    refine av_getaE (q := 24) F fM_281 dM_led_21 rfl rfl (by first | exact hM.o | exact hl.o | exact hM.a54 | exact hM.a55 | exact hM.a56 | exact hM.a57 | exact hM.a58) hM.p3 ?_
    refine aw_ifnull (q := 27) (t := 62) F dM_led_24 rfl (by decide) (fun c24 => ?_) (fun c24 => by exact absurd e0 c24)
    refine aw_aload_0 (q := 63) F dM_led_62 rfl ?_
    refine aw_iconst (q := 64) F dM_led_63 rfl (by decide) ?_
    refine av_puti (q := 67) F fM_46 dM_led_64 rfl rfl (wr_9_0 _) (by first | exact hM.o | exact hl.o | exact hM.a54 | exact hM.a55 | exact hM.a56 | exact hM.a57 | exact hM.a58) ?_
    refine aw_iconst (q := 68) F dM_led_67 rfl (by decide) ?_
    refine aw_iret F C dM_led_68 rfl (Nat.le_refl _) (Nat.le_refl _) ?_
    exact h0 _ (h.th.th) ((MR.f53 (V := V) (k := 0) (z := 0) (fun _ _ => rfl)).f53) (up2_same _ _ _ _) (fun s' hs' => absurd hs' (by have hs0 : stN (psC S) = 0 := (by show tDn (psT S) * (2 + tPn (psT S)) = 0; rw [h.zer e0, Nat.zero_mul]); omega))
  refine aw_aload_0 (q := 1) F dM_led_0 rfl ?_
  refine aw_iconst (q := 2) F dM_led_1 rfl (by decide) ?_
  refine av_puti (q := 5) F fM_46 dM_led_2 rfl rfl (wr_9_0 _) (by first | exact hM.o | exact hl.o | exact hM.a54 | exact hM.a55 | exact hM.a56 | exact hM.a57 | exact hM.a58) ?_
  refine aw_iconst (q := 6) F dM_led_5 rfl (by decide) ?_
  refine aw_istore_2 (q := 7) F dM_led_6 rfl trivial ?_
  refine aw_aload_0 (q := 8) F dM_led_7 rfl ?_
  refine av_getaE (q := 11) F fM_281 dM_led_8 rfl rfl (by first | exact hM.o | exact hl.o | exact hM.a54 | exact hM.a55 | exact hM.a56 | exact hM.a57 | exact hM.a58) hM.p3 ?_
  refine aw_ifnull (q := 14) (t := 18) F dM_led_11 rfl (by decide) (fun c11 => ?_) (fun c11 => ?_)
  · refine aw_iconst (q := 19) F dM_led_18 rfl (by decide) ?_
    refine aw_istore_3 (q := 20) F dM_led_19 rfl trivial ?_
    first | exact go0 c11 _ _ | exact go c11 V2 f15 (AR.now h.th (h.pos c11) g15) _ 0 (Nat.zero_add _) _ _ rfl rfl (fun s' hs' => absurd hs' (by omega))
  · refine aw_aload_0 (q := 15) F dM_led_14 rfl ?_
    refine av_callV0 (q := 18) (ci := 9) F hm mM_works_i mM_works_n lM_348 dM_led_15 rfl rfl rfl (by first | exact hM.o | exact hl.o | exact hM.a54 | exact hM.a55 | exact hM.a56 | exact hM.a57 | exact hM.a58) (by decide) (Nat.le_refl _) (Nat.le_refl _) (Nat.le_of_ble_eq_true rfl) (wM_works hM (fun V2 f15 g15 => ?_))
    refine aw_iconst (q := 19) F dM_led_18 rfl (by decide) ?_
    refine aw_istore_3 (q := 20) F dM_led_19 rfl trivial ?_
    first | exact go0 c11 _ _ | exact go c11 V2 f15 (AR.now h.th (h.pos c11) g15) _ 0 (Nat.zero_add _) _ _ rfl rfl (fun s' hs' => absurd hs' (by omega))
end Mod24
