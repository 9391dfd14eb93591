theorem dM_remembers_0 : decode mM_remembers.2.1 0 = .ok (.aload_n 0, 1) := by decide +kernel
theorem dM_remembers_1 : decode mM_remembers.2.1 1 = .ok (.iconst 0, 1) := by decide +kernel
theorem dM_remembers_2 : decode mM_remembers.2.1 2 = .ok (.putfield 286, 3) := by decide +kernel
theorem dM_remembers_5 : decode mM_remembers.2.1 5 = .ok (.aload_n 0, 1) := by decide +kernel
theorem dM_remembers_6 : decode mM_remembers.2.1 6 = .ok (.getfield 290, 3) := by decide +kernel
theorem dM_remembers_9 : decode mM_remembers.2.1 9 = .ok (.bipush 16, 2) := by decide +kernel
theorem dM_remembers_11 : decode mM_remembers.2.1 11 = .ok (.if_icmp .ne 43, 3) := by decide +kernel
theorem dM_remembers_14 : decode mM_remembers.2.1 14 = .ok (.iconst 0, 1) := by decide +kernel
theorem dM_remembers_15 : decode mM_remembers.2.1 15 = .ok (.istore_n 1, 1) := by decide +kernel
theorem dM_remembers_16 : decode mM_remembers.2.1 16 = .ok (.iload_n 1, 1) := by decide +kernel
theorem dM_remembers_17 : decode mM_remembers.2.1 17 = .ok (.sipush 180, 3) := by decide +kernel
theorem dM_remembers_20 : decode mM_remembers.2.1 20 = .ok (.if_icmp .ge 24, 3) := by decide +kernel
theorem dM_remembers_23 : decode mM_remembers.2.1 23 = .ok (.aload_n 0, 1) := by decide +kernel
theorem dM_remembers_24 : decode mM_remembers.2.1 24 = .ok (.getfield 24, 3) := by decide +kernel
theorem dM_remembers_27 : decode mM_remembers.2.1 27 = .ok (.iload_n 1, 1) := by decide +kernel
theorem dM_remembers_28 : decode mM_remembers.2.1 28 = .ok (.aload_n 0, 1) := by decide +kernel
theorem dM_remembers_29 : decode mM_remembers.2.1 29 = .ok (.getfield 24, 3) := by decide +kernel
theorem dM_remembers_32 : decode mM_remembers.2.1 32 = .ok (.iload_n 1, 1) := by decide +kernel
theorem dM_remembers_33 : decode mM_remembers.2.1 33 = .ok (.bipush 12, 2) := by decide +kernel
theorem dM_remembers_35 : decode mM_remembers.2.1 35 = .ok (.iadd, 1) := by decide +kernel
theorem dM_remembers_36 : decode mM_remembers.2.1 36 = .ok (.iaload, 1) := by decide +kernel
theorem dM_remembers_37 : decode mM_remembers.2.1 37 = .ok (.iastore, 1) := by decide +kernel
theorem dM_remembers_38 : decode mM_remembers.2.1 38 = .ok (.iinc 1 1, 3) := by decide +kernel
theorem dM_remembers_41 : decode mM_remembers.2.1 41 = .ok (.goto (-25), 3) := by decide +kernel
theorem dM_remembers_44 : decode mM_remembers.2.1 44 = .ok (.aload_n 0, 1) := by decide +kernel
theorem dM_remembers_45 : decode mM_remembers.2.1 45 = .ok (.dup, 1) := by decide +kernel
theorem dM_remembers_46 : decode mM_remembers.2.1 46 = .ok (.getfield 290, 3) := by decide +kernel
theorem dM_remembers_49 : decode mM_remembers.2.1 49 = .ok (.iconst 1, 1) := by decide +kernel
theorem dM_remembers_50 : decode mM_remembers.2.1 50 = .ok (.isub, 1) := by decide +kernel
theorem dM_remembers_51 : decode mM_remembers.2.1 51 = .ok (.putfield 290, 3) := by decide +kernel
theorem dM_remembers_54 : decode mM_remembers.2.1 54 = .ok (.iconst 0, 1) := by decide +kernel
theorem dM_remembers_55 : decode mM_remembers.2.1 55 = .ok (.istore_n 1, 1) := by decide +kernel
theorem dM_remembers_56 : decode mM_remembers.2.1 56 = .ok (.iload_n 1, 1) := by decide +kernel
theorem dM_remembers_57 : decode mM_remembers.2.1 57 = .ok (.bipush 12, 2) := by decide +kernel
theorem dM_remembers_59 : decode mM_remembers.2.1 59 = .ok (.if_icmp .ge 29, 3) := by decide +kernel
theorem dM_remembers_62 : decode mM_remembers.2.1 62 = .ok (.aload_n 0, 1) := by decide +kernel
theorem dM_remembers_63 : decode mM_remembers.2.1 63 = .ok (.getfield 24, 3) := by decide +kernel
theorem dM_remembers_66 : decode mM_remembers.2.1 66 = .ok (.bipush 12, 2) := by decide +kernel
theorem dM_remembers_68 : decode mM_remembers.2.1 68 = .ok (.aload_n 0, 1) := by decide +kernel
theorem dM_remembers_69 : decode mM_remembers.2.1 69 = .ok (.getfield 290, 3) := by decide +kernel
theorem dM_remembers_72 : decode mM_remembers.2.1 72 = .ok (.imul, 1) := by decide +kernel
theorem dM_remembers_73 : decode mM_remembers.2.1 73 = .ok (.iload_n 1, 1) := by decide +kernel
theorem dM_remembers_74 : decode mM_remembers.2.1 74 = .ok (.iadd, 1) := by decide +kernel
theorem dM_remembers_75 : decode mM_remembers.2.1 75 = .ok (.aload_n 0, 1) := by decide +kernel
theorem dM_remembers_76 : decode mM_remembers.2.1 76 = .ok (.getfield 17, 3) := by decide +kernel
theorem dM_remembers_79 : decode mM_remembers.2.1 79 = .ok (.iload_n 1, 1) := by decide +kernel
theorem dM_remembers_80 : decode mM_remembers.2.1 80 = .ok (.iaload, 1) := by decide +kernel
theorem dM_remembers_81 : decode mM_remembers.2.1 81 = .ok (.iastore, 1) := by decide +kernel
theorem dM_remembers_82 : decode mM_remembers.2.1 82 = .ok (.iinc 1 1, 3) := by decide +kernel
theorem dM_remembers_85 : decode mM_remembers.2.1 85 = .ok (.goto (-29), 3) := by decide +kernel
theorem dM_remembers_88 : decode mM_remembers.2.1 88 = .ok (.aload_n 0, 1) := by decide +kernel
theorem dM_remembers_89 : decode mM_remembers.2.1 89 = .ok (.dup, 1) := by decide +kernel
theorem dM_remembers_90 : decode mM_remembers.2.1 90 = .ok (.getfield 290, 3) := by decide +kernel
theorem dM_remembers_93 : decode mM_remembers.2.1 93 = .ok (.iconst 1, 1) := by decide +kernel
theorem dM_remembers_94 : decode mM_remembers.2.1 94 = .ok (.iadd, 1) := by decide +kernel
theorem dM_remembers_95 : decode mM_remembers.2.1 95 = .ok (.putfield 290, 3) := by decide +kernel
theorem dM_remembers_98 : decode mM_remembers.2.1 98 = .ok (.return_, 1) := by decide +kernel
theorem dM_does_0 : decode mM_does.2.1 0 = .ok (.aload_n 0, 1) := by decide +kernel
theorem dM_does_1 : decode mM_does.2.1 1 = .ok (.invokevirtual 496, 3) := by decide +kernel
theorem dM_does_4 : decode mM_does.2.1 4 = .ok (.aload_n 0, 1) := by decide +kernel
theorem dM_does_5 : decode mM_does.2.1 5 = .ok (.invokevirtual 348, 3) := by decide +kernel
theorem dM_does_8 : decode mM_does.2.1 8 = .ok (.aload_n 0, 1) := by decide +kernel
theorem dM_does_9 : decode mM_does.2.1 9 = .ok (.iload_n 1, 1) := by decide +kernel
theorem dM_does_10 : decode mM_does.2.1 10 = .ok (.invokevirtual 345, 3) := by decide +kernel
theorem dM_does_13 : decode mM_does.2.1 13 = .ok (.pop, 1) := by decide +kernel
theorem dM_does_14 : decode mM_does.2.1 14 = .ok (.iconst 0, 1) := by decide +kernel
theorem dM_does_15 : decode mM_does.2.1 15 = .ok (.istore_n 2, 1) := by decide +kernel
theorem dM_does_16 : decode mM_does.2.1 16 = .ok (.iload_n 2, 1) := by decide +kernel
theorem dM_does_17 : decode mM_does.2.1 17 = .ok (.bipush 12, 2) := by decide +kernel
theorem dM_does_19 : decode mM_does.2.1 19 = .ok (.if_icmp .ge 21, 3) := by decide +kernel
theorem dM_does_22 : decode mM_does.2.1 22 = .ok (.aload_n 0, 1) := by decide +kernel
theorem dM_does_23 : decode mM_does.2.1 23 = .ok (.getfield 17, 3) := by decide +kernel
theorem dM_does_26 : decode mM_does.2.1 26 = .ok (.iload_n 2, 1) := by decide +kernel
theorem dM_does_27 : decode mM_does.2.1 27 = .ok (.aload_n 0, 1) := by decide +kernel
theorem dM_does_28 : decode mM_does.2.1 28 = .ok (.getfield 21, 3) := by decide +kernel
theorem dM_does_31 : decode mM_does.2.1 31 = .ok (.iload_n 2, 1) := by decide +kernel
theorem dM_does_32 : decode mM_does.2.1 32 = .ok (.iaload, 1) := by decide +kernel
theorem dM_does_33 : decode mM_does.2.1 33 = .ok (.iastore, 1) := by decide +kernel
theorem dM_does_34 : decode mM_does.2.1 34 = .ok (.iinc 2 1, 3) := by decide +kernel
theorem dM_does_37 : decode mM_does.2.1 37 = .ok (.goto (-21), 3) := by decide +kernel
theorem dM_does_40 : decode mM_does.2.1 40 = .ok (.return_, 1) := by decide +kernel
theorem dM_canNow_0 : decode mM_canNow.2.1 0 = .ok (.aload_n 0, 1) := by decide +kernel
theorem dM_canNow_1 : decode mM_canNow.2.1 1 = .ok (.invokevirtual 348, 3) := by decide +kernel
theorem dM_canNow_4 : decode mM_canNow.2.1 4 = .ok (.aload_n 0, 1) := by decide +kernel
theorem dM_canNow_5 : decode mM_canNow.2.1 5 = .ok (.iload_n 1, 1) := by decide +kernel
theorem dM_canNow_6 : decode mM_canNow.2.1 6 = .ok (.invokevirtual 342, 3) := by decide +kernel
theorem dM_canNow_9 : decode mM_canNow.2.1 9 = .ok (.ireturn, 1) := by decide +kernel
theorem dM_open_0 : decode mM_open.2.1 0 = .ok (.aload_n 0, 1) := by decide +kernel
theorem dM_open_1 : decode mM_open.2.1 1 = .ok (.iconst 0, 1) := by decide +kernel
theorem dM_open_2 : decode mM_open.2.1 2 = .ok (.putfield 46, 3) := by decide +kernel
theorem dM_open_5 : decode mM_open.2.1 5 = .ok (.aload_n 0, 1) := by decide +kernel
theorem dM_open_6 : decode mM_open.2.1 6 = .ok (.iload_n 1, 1) := by decide +kernel
theorem dM_open_7 : decode mM_open.2.1 7 = .ok (.invokevirtual 354, 3) := by decide +kernel
theorem dM_open_10 : decode mM_open.2.1 10 = .ok (.ifCond .ne 9, 3) := by decide +kernel
theorem dM_open_13 : decode mM_open.2.1 13 = .ok (.aload_n 0, 1) := by decide +kernel
theorem dM_open_14 : decode mM_open.2.1 14 = .ok (.iconst 1, 1) := by decide +kernel
theorem dM_open_15 : decode mM_open.2.1 15 = .ok (.invokevirtual 52, 3) := by decide +kernel
theorem dM_open_18 : decode mM_open.2.1 18 = .ok (.ireturn, 1) := by decide +kernel
theorem dM_open_19 : decode mM_open.2.1 19 = .ok (.aload_n 0, 1) := by decide +kernel
theorem dM_open_20 : decode mM_open.2.1 20 = .ok (.getfield 17, 3) := by decide +kernel
theorem dM_open_23 : decode mM_open.2.1 23 = .ok (.iconst 2, 1) := by decide +kernel
theorem dM_open_24 : decode mM_open.2.1 24 = .ok (.iload_n 1, 1) := by decide +kernel
theorem dM_open_25 : decode mM_open.2.1 25 = .ok (.iadd, 1) := by decide +kernel
theorem dM_open_26 : decode mM_open.2.1 26 = .ok (.iaload, 1) := by decide +kernel
theorem dM_open_27 : decode mM_open.2.1 27 = .ok (.ifCond .le 9, 3) := by decide +kernel
theorem dM_open_30 : decode mM_open.2.1 30 = .ok (.aload_n 0, 1) := by decide +kernel
theorem dM_open_31 : decode mM_open.2.1 31 = .ok (.iconst 5, 1) := by decide +kernel
theorem dM_open_32 : decode mM_open.2.1 32 = .ok (.invokevirtual 52, 3) := by decide +kernel
theorem dM_open_35 : decode mM_open.2.1 35 = .ok (.ireturn, 1) := by decide +kernel
theorem dM_open_36 : decode mM_open.2.1 36 = .ok (.aload_n 0, 1) := by decide +kernel
theorem dM_open_37 : decode mM_open.2.1 37 = .ok (.iload_n 1, 1) := by decide +kernel
theorem dM_open_38 : decode mM_open.2.1 38 = .ok (.invokevirtual 499, 3) := by decide +kernel
theorem dM_open_41 : decode mM_open.2.1 41 = .ok (.ifCond .ne 10, 3) := by decide +kernel
theorem dM_open_44 : decode mM_open.2.1 44 = .ok (.aload_n 0, 1) := by decide +kernel
theorem dM_open_45 : decode mM_open.2.1 45 = .ok (.bipush 6, 2) := by decide +kernel
theorem dM_open_47 : decode mM_open.2.1 47 = .ok (.invokevirtual 52, 3) := by decide +kernel
theorem dM_open_50 : decode mM_open.2.1 50 = .ok (.ireturn, 1) := by decide +kernel
theorem dM_open_51 : decode mM_open.2.1 51 = .ok (.aload_n 0, 1) := by decide +kernel
theorem dM_open_52 : decode mM_open.2.1 52 = .ok (.iload_n 1, 1) := by decide +kernel
theorem dM_open_53 : decode mM_open.2.1 53 = .ok (.invokevirtual 502, 3) := by decide +kernel
theorem dM_open_56 : decode mM_open.2.1 56 = .ok (.aload_n 0, 1) := by decide +kernel
theorem dM_open_57 : decode mM_open.2.1 57 = .ok (.aload_n 0, 1) := by decide +kernel
theorem dM_open_58 : decode mM_open.2.1 58 = .ok (.getfield 17, 3) := by decide +kernel
theorem dM_open_61 : decode mM_open.2.1 61 = .ok (.iconst 2, 1) := by decide +kernel
theorem dM_open_62 : decode mM_open.2.1 62 = .ok (.iload_n 1, 1) := by decide +kernel
theorem dM_open_63 : decode mM_open.2.1 63 = .ok (.iadd, 1) := by decide +kernel
theorem dM_open_64 : decode mM_open.2.1 64 = .ok (.iaload, 1) := by decide +kernel
theorem dM_open_65 : decode mM_open.2.1 65 = .ok (.invokevirtual 56, 3) := by decide +kernel
theorem dM_open_68 : decode mM_open.2.1 68 = .ok (.ireturn, 1) := by decide +kernel
theorem dM_shut_0 : decode mM_shut.2.1 0 = .ok (.aload_n 0, 1) := by decide +kernel
theorem dM_shut_1 : decode mM_shut.2.1 1 = .ok (.iconst 0, 1) := by decide +kernel
theorem dM_shut_2 : decode mM_shut.2.1 2 = .ok (.putfield 46, 3) := by decide +kernel
theorem dM_shut_5 : decode mM_shut.2.1 5 = .ok (.aload_n 0, 1) := by decide +kernel
theorem dM_shut_6 : decode mM_shut.2.1 6 = .ok (.iload_n 1, 1) := by decide +kernel
theorem dM_shut_7 : decode mM_shut.2.1 7 = .ok (.invokevirtual 354, 3) := by decide +kernel
theorem dM_shut_10 : decode mM_shut.2.1 10 = .ok (.ifCond .ne 9, 3) := by decide +kernel
theorem dM_shut_13 : decode mM_shut.2.1 13 = .ok (.aload_n 0, 1) := by decide +kernel
theorem dM_shut_14 : decode mM_shut.2.1 14 = .ok (.iconst 1, 1) := by decide +kernel
theorem dM_shut_15 : decode mM_shut.2.1 15 = .ok (.invokevirtual 505, 3) := by decide +kernel
theorem dM_shut_18 : decode mM_shut.2.1 18 = .ok (.ireturn, 1) := by decide +kernel
theorem dM_shut_19 : decode mM_shut.2.1 19 = .ok (.aload_n 0, 1) := by decide +kernel
theorem dM_shut_20 : decode mM_shut.2.1 20 = .ok (.getfield 17, 3) := by decide +kernel
theorem dM_shut_23 : decode mM_shut.2.1 23 = .ok (.iconst 2, 1) := by decide +kernel
theorem dM_shut_24 : decode mM_shut.2.1 24 = .ok (.iload_n 1, 1) := by decide +kernel
theorem dM_shut_25 : decode mM_shut.2.1 25 = .ok (.iadd, 1) := by decide +kernel
theorem dM_shut_26 : decode mM_shut.2.1 26 = .ok (.iaload, 1) := by decide +kernel
theorem dM_shut_27 : decode mM_shut.2.1 27 = .ok (.ifCond .ne 9, 3) := by decide +kernel
theorem dM_shut_30 : decode mM_shut.2.1 30 = .ok (.aload_n 0, 1) := by decide +kernel
theorem dM_shut_31 : decode mM_shut.2.1 31 = .ok (.iconst 5, 1) := by decide +kernel
theorem dM_shut_32 : decode mM_shut.2.1 32 = .ok (.invokevirtual 505, 3) := by decide +kernel
theorem dM_shut_35 : decode mM_shut.2.1 35 = .ok (.ireturn, 1) := by decide +kernel
theorem dM_shut_36 : decode mM_shut.2.1 36 = .ok (.aload_n 0, 1) := by decide +kernel
theorem dM_shut_37 : decode mM_shut.2.1 37 = .ok (.aload_n 0, 1) := by decide +kernel
theorem dM_shut_38 : decode mM_shut.2.1 38 = .ok (.getfield 281, 3) := by decide +kernel
theorem dM_shut_41 : decode mM_shut.2.1 41 = .ok (.getfield 183, 3) := by decide +kernel
theorem dM_shut_44 : decode mM_shut.2.1 44 = .ok (.iload_n 1, 1) := by decide +kernel
theorem dM_shut_45 : decode mM_shut.2.1 45 = .ok (.iadd, 1) := by decide +kernel
theorem dM_shut_46 : decode mM_shut.2.1 46 = .ok (.invokevirtual 499, 3) := by decide +kernel
theorem dM_shut_49 : decode mM_shut.2.1 49 = .ok (.ifCond .ne 10, 3) := by decide +kernel
theorem dM_shut_52 : decode mM_shut.2.1 52 = .ok (.aload_n 0, 1) := by decide +kernel
theorem dM_shut_53 : decode mM_shut.2.1 53 = .ok (.bipush 6, 2) := by decide +kernel
theorem dM_shut_55 : decode mM_shut.2.1 55 = .ok (.invokevirtual 505, 3) := by decide +kernel
theorem dM_shut_58 : decode mM_shut.2.1 58 = .ok (.ireturn, 1) := by decide +kernel
theorem dM_shut_59 : decode mM_shut.2.1 59 = .ok (.aload_n 0, 1) := by decide +kernel
theorem dM_shut_60 : decode mM_shut.2.1 60 = .ok (.aload_n 0, 1) := by decide +kernel
theorem dM_shut_61 : decode mM_shut.2.1 61 = .ok (.getfield 281, 3) := by decide +kernel
theorem dM_shut_64 : decode mM_shut.2.1 64 = .ok (.getfield 183, 3) := by decide +kernel
theorem dM_shut_67 : decode mM_shut.2.1 67 = .ok (.iload_n 1, 1) := by decide +kernel
theorem dM_shut_68 : decode mM_shut.2.1 68 = .ok (.iadd, 1) := by decide +kernel
theorem dM_shut_69 : decode mM_shut.2.1 69 = .ok (.invokevirtual 502, 3) := by decide +kernel
theorem dM_shut_72 : decode mM_shut.2.1 72 = .ok (.aload_n 0, 1) := by decide +kernel
theorem dM_shut_73 : decode mM_shut.2.1 73 = .ok (.invokevirtual 508, 3) := by decide +kernel
theorem dM_shut_76 : decode mM_shut.2.1 76 = .ok (.ireturn, 1) := by decide +kernel
theorem dM_go_0 : decode mM_go.2.1 0 = .ok (.aload_n 0, 1) := by decide +kernel
theorem dM_go_1 : decode mM_go.2.1 1 = .ok (.iconst 0, 1) := by decide +kernel
theorem dM_go_2 : decode mM_go.2.1 2 = .ok (.putfield 46, 3) := by decide +kernel
theorem dM_go_5 : decode mM_go.2.1 5 = .ok (.aload_n 0, 1) := by decide +kernel
theorem dM_go_6 : decode mM_go.2.1 6 = .ok (.iload_n 1, 1) := by decide +kernel
theorem dM_go_7 : decode mM_go.2.1 7 = .ok (.invokevirtual 361, 3) := by decide +kernel
theorem dM_go_10 : decode mM_go.2.1 10 = .ok (.ifCond .eq 11, 3) := by decide +kernel
theorem dM_go_13 : decode mM_go.2.1 13 = .ok (.aload_n 0, 1) := by decide +kernel
theorem dM_go_14 : decode mM_go.2.1 14 = .ok (.iload_n 2, 1) := by decide +kernel
theorem dM_go_15 : decode mM_go.2.1 15 = .ok (.invokevirtual 354, 3) := by decide +kernel
theorem dM_go_18 : decode mM_go.2.1 18 = .ok (.ifCond .ne 9, 3) := by decide +kernel
theorem dM_go_21 : decode mM_go.2.1 21 = .ok (.aload_n 0, 1) := by decide +kernel
theorem dM_go_22 : decode mM_go.2.1 22 = .ok (.iconst 1, 1) := by decide +kernel
theorem dM_go_23 : decode mM_go.2.1 23 = .ok (.invokevirtual 52, 3) := by decide +kernel
theorem dM_go_26 : decode mM_go.2.1 26 = .ok (.ireturn, 1) := by decide +kernel
theorem dM_go_27 : decode mM_go.2.1 27 = .ok (.aload_n 0, 1) := by decide +kernel
theorem dM_go_28 : decode mM_go.2.1 28 = .ok (.getfield 17, 3) := by decide +kernel
theorem dM_go_31 : decode mM_go.2.1 31 = .ok (.iconst 2, 1) := by decide +kernel
theorem dM_go_32 : decode mM_go.2.1 32 = .ok (.iload_n 2, 1) := by decide +kernel
theorem dM_go_33 : decode mM_go.2.1 33 = .ok (.iadd, 1) := by decide +kernel
theorem dM_go_34 : decode mM_go.2.1 34 = .ok (.iaload, 1) := by decide +kernel
theorem dM_go_35 : decode mM_go.2.1 35 = .ok (.ifCond .ne 9, 3) := by decide +kernel
theorem dM_go_38 : decode mM_go.2.1 38 = .ok (.aload_n 0, 1) := by decide +kernel
theorem dM_go_39 : decode mM_go.2.1 39 = .ok (.iconst 5, 1) := by decide +kernel
theorem dM_go_40 : decode mM_go.2.1 40 = .ok (.invokevirtual 52, 3) := by decide +kernel
theorem dM_go_43 : decode mM_go.2.1 43 = .ok (.ireturn, 1) := by decide +kernel
theorem dM_go_44 : decode mM_go.2.1 44 = .ok (.iconst 2, 1) := by decide +kernel
theorem dM_go_45 : decode mM_go.2.1 45 = .ok (.iload_n 1, 1) := by decide +kernel
theorem dM_go_46 : decode mM_go.2.1 46 = .ok (.iadd, 1) := by decide +kernel
theorem dM_go_47 : decode mM_go.2.1 47 = .ok (.aload_n 0, 1) := by decide +kernel
theorem dM_go_48 : decode mM_go.2.1 48 = .ok (.getfield 281, 3) := by decide +kernel
theorem dM_go_51 : decode mM_go.2.1 51 = .ok (.getfield 183, 3) := by decide +kernel
theorem dM_go_54 : decode mM_go.2.1 54 = .ok (.imul, 1) := by decide +kernel
theorem dM_go_55 : decode mM_go.2.1 55 = .ok (.iload_n 2, 1) := by decide +kernel
theorem dM_go_56 : decode mM_go.2.1 56 = .ok (.iadd, 1) := by decide +kernel
theorem dM_go_57 : decode mM_go.2.1 57 = .ok (.istore_n 3, 1) := by decide +kernel
theorem dM_go_58 : decode mM_go.2.1 58 = .ok (.aload_n 0, 1) := by decide +kernel
theorem dM_go_59 : decode mM_go.2.1 59 = .ok (.iload_n 3, 1) := by decide +kernel
theorem dM_go_60 : decode mM_go.2.1 60 = .ok (.invokevirtual 499, 3) := by decide +kernel
theorem dM_go_63 : decode mM_go.2.1 63 = .ok (.ifCond .ne 10, 3) := by decide +kernel
theorem dM_go_66 : decode mM_go.2.1 66 = .ok (.aload_n 0, 1) := by decide +kernel
theorem dM_go_67 : decode mM_go.2.1 67 = .ok (.bipush 6, 2) := by decide +kernel
theorem dM_go_69 : decode mM_go.2.1 69 = .ok (.invokevirtual 52, 3) := by decide +kernel
theorem dM_go_72 : decode mM_go.2.1 72 = .ok (.ireturn, 1) := by decide +kernel
theorem dM_go_73 : decode mM_go.2.1 73 = .ok (.aload_n 0, 1) := by decide +kernel
theorem dM_go_74 : decode mM_go.2.1 74 = .ok (.iload_n 3, 1) := by decide +kernel
theorem dM_go_75 : decode mM_go.2.1 75 = .ok (.invokevirtual 502, 3) := by decide +kernel
theorem dM_go_78 : decode mM_go.2.1 78 = .ok (.aload_n 0, 1) := by decide +kernel
theorem dM_go_79 : decode mM_go.2.1 79 = .ok (.aload_n 0, 1) := by decide +kernel
theorem dM_go_80 : decode mM_go.2.1 80 = .ok (.getfield 17, 3) := by decide +kernel
theorem dM_go_83 : decode mM_go.2.1 83 = .ok (.iload_n 1, 1) := by decide +kernel
theorem dM_go_84 : decode mM_go.2.1 84 = .ok (.iaload, 1) := by decide +kernel
theorem dM_go_85 : decode mM_go.2.1 85 = .ok (.invokevirtual 56, 3) := by decide +kernel
theorem dM_go_88 : decode mM_go.2.1 88 = .ok (.ireturn, 1) := by decide +kernel
theorem dM_nail_0 : decode mM_nail.2.1 0 = .ok (.aload_n 0, 1) := by decide +kernel
theorem dM_nail_1 : decode mM_nail.2.1 1 = .ok (.iconst 0, 1) := by decide +kernel
theorem dM_nail_2 : decode mM_nail.2.1 2 = .ok (.putfield 46, 3) := by decide +kernel
theorem dM_nail_5 : decode mM_nail.2.1 5 = .ok (.aload_n 0, 1) := by decide +kernel
theorem dM_nail_6 : decode mM_nail.2.1 6 = .ok (.iload_n 1, 1) := by decide +kernel
theorem dM_nail_7 : decode mM_nail.2.1 7 = .ok (.invokevirtual 354, 3) := by decide +kernel
theorem dM_nail_10 : decode mM_nail.2.1 10 = .ok (.ifCond .ne 9, 3) := by decide +kernel
theorem dM_nail_13 : decode mM_nail.2.1 13 = .ok (.aload_n 0, 1) := by decide +kernel
theorem dM_nail_14 : decode mM_nail.2.1 14 = .ok (.iconst 1, 1) := by decide +kernel
theorem dM_nail_15 : decode mM_nail.2.1 15 = .ok (.invokevirtual 505, 3) := by decide +kernel
theorem dM_nail_18 : decode mM_nail.2.1 18 = .ok (.ireturn, 1) := by decide +kernel
theorem dM_nail_19 : decode mM_nail.2.1 19 = .ok (.aload_n 0, 1) := by decide +kernel
theorem dM_nail_20 : decode mM_nail.2.1 20 = .ok (.getfield 17, 3) := by decide +kernel
theorem dM_nail_23 : decode mM_nail.2.1 23 = .ok (.bipush 11, 2) := by decide +kernel
theorem dM_nail_25 : decode mM_nail.2.1 25 = .ok (.iaload, 1) := by decide +kernel
theorem dM_nail_26 : decode mM_nail.2.1 26 = .ok (.iload_n 1, 1) := by decide +kernel
theorem dM_nail_27 : decode mM_nail.2.1 27 = .ok (.invokestatic 241, 3) := by decide +kernel
theorem dM_nail_30 : decode mM_nail.2.1 30 = .ok (.ifCond .eq 9, 3) := by decide +kernel
theorem dM_nail_33 : decode mM_nail.2.1 33 = .ok (.aload_n 0, 1) := by decide +kernel
theorem dM_nail_34 : decode mM_nail.2.1 34 = .ok (.iconst 5, 1) := by decide +kernel
theorem dM_nail_35 : decode mM_nail.2.1 35 = .ok (.invokevirtual 505, 3) := by decide +kernel
theorem dM_nail_38 : decode mM_nail.2.1 38 = .ok (.ireturn, 1) := by decide +kernel
theorem dM_nail_39 : decode mM_nail.2.1 39 = .ok (.aload_n 0, 1) := by decide +kernel
theorem dM_nail_40 : decode mM_nail.2.1 40 = .ok (.getfield 17, 3) := by decide +kernel
theorem dM_nail_43 : decode mM_nail.2.1 43 = .ok (.iconst 2, 1) := by decide +kernel
theorem dM_nail_44 : decode mM_nail.2.1 44 = .ok (.iload_n 1, 1) := by decide +kernel
theorem dM_nail_45 : decode mM_nail.2.1 45 = .ok (.iadd, 1) := by decide +kernel
theorem dM_nail_46 : decode mM_nail.2.1 46 = .ok (.iaload, 1) := by decide +kernel
theorem dM_nail_47 : decode mM_nail.2.1 47 = .ok (.ifCond .le 10, 3) := by decide +kernel
theorem dM_nail_50 : decode mM_nail.2.1 50 = .ok (.aload_n 0, 1) := by decide +kernel
theorem dM_nail_51 : decode mM_nail.2.1 51 = .ok (.bipush 6, 2) := by decide +kernel
theorem dM_nail_53 : decode mM_nail.2.1 53 = .ok (.invokevirtual 505, 3) := by decide +kernel
theorem dM_nail_56 : decode mM_nail.2.1 56 = .ok (.ireturn, 1) := by decide +kernel
theorem dM_nail_57 : decode mM_nail.2.1 57 = .ok (.aload_n 0, 1) := by decide +kernel
theorem dM_nail_58 : decode mM_nail.2.1 58 = .ok (.invokevirtual 496, 3) := by decide +kernel
theorem dM_nail_61 : decode mM_nail.2.1 61 = .ok (.aload_n 0, 1) := by decide +kernel
theorem dM_nail_62 : decode mM_nail.2.1 62 = .ok (.getfield 17, 3) := by decide +kernel
theorem dM_nail_65 : decode mM_nail.2.1 65 = .ok (.bipush 11, 2) := by decide +kernel
theorem dM_nail_67 : decode mM_nail.2.1 67 = .ok (.dup2, 1) := by decide +kernel
theorem dM_nail_68 : decode mM_nail.2.1 68 = .ok (.iaload, 1) := by decide +kernel
theorem dM_nail_69 : decode mM_nail.2.1 69 = .ok (.iconst 1, 1) := by decide +kernel
theorem dM_nail_70 : decode mM_nail.2.1 70 = .ok (.iload_n 1, 1) := by decide +kernel
theorem dM_nail_71 : decode mM_nail.2.1 71 = .ok (.ishl, 1) := by decide +kernel
theorem dM_nail_72 : decode mM_nail.2.1 72 = .ok (.ior, 1) := by decide +kernel
theorem dM_nail_73 : decode mM_nail.2.1 73 = .ok (.iastore, 1) := by decide +kernel
theorem dM_nail_74 : decode mM_nail.2.1 74 = .ok (.aload_n 0, 1) := by decide +kernel
theorem dM_nail_75 : decode mM_nail.2.1 75 = .ok (.invokevirtual 508, 3) := by decide +kernel
theorem dM_nail_78 : decode mM_nail.2.1 78 = .ok (.ireturn, 1) := by decide +kernel
theorem dM_spring_0 : decode mM_spring.2.1 0 = .ok (.aload_n 0, 1) := by decide +kernel
theorem dM_spring_1 : decode mM_spring.2.1 1 = .ok (.iconst 0, 1) := by decide +kernel
theorem dM_spring_2 : decode mM_spring.2.1 2 = .ok (.putfield 46, 3) := by decide +kernel
theorem dM_spring_5 : decode mM_spring.2.1 5 = .ok (.aload_n 0, 1) := by decide +kernel
theorem dM_spring_6 : decode mM_spring.2.1 6 = .ok (.iload_n 1, 1) := by decide +kernel
theorem dM_spring_7 : decode mM_spring.2.1 7 = .ok (.invokevirtual 354, 3) := by decide +kernel
theorem dM_spring_10 : decode mM_spring.2.1 10 = .ok (.ifCond .ne 9, 3) := by decide +kernel
theorem dM_spring_13 : decode mM_spring.2.1 13 = .ok (.aload_n 0, 1) := by decide +kernel
theorem dM_spring_14 : decode mM_spring.2.1 14 = .ok (.iconst 1, 1) := by decide +kernel
theorem dM_spring_15 : decode mM_spring.2.1 15 = .ok (.invokevirtual 52, 3) := by decide +kernel
theorem dM_spring_18 : decode mM_spring.2.1 18 = .ok (.ireturn, 1) := by decide +kernel
theorem dM_spring_19 : decode mM_spring.2.1 19 = .ok (.aload_n 0, 1) := by decide +kernel
theorem dM_spring_20 : decode mM_spring.2.1 20 = .ok (.getfield 17, 3) := by decide +kernel
theorem dM_spring_23 : decode mM_spring.2.1 23 = .ok (.bipush 7, 2) := by decide +kernel
theorem dM_spring_25 : decode mM_spring.2.1 25 = .ok (.iload_n 1, 1) := by decide +kernel
theorem dM_spring_26 : decode mM_spring.2.1 26 = .ok (.iadd, 1) := by decide +kernel
theorem dM_spring_27 : decode mM_spring.2.1 27 = .ok (.iaload, 1) := by decide +kernel
theorem dM_spring_28 : decode mM_spring.2.1 28 = .ok (.iconst 1, 1) := by decide +kernel
theorem dM_spring_29 : decode mM_spring.2.1 29 = .ok (.if_icmp .le 9, 3) := by decide +kernel
theorem dM_spring_32 : decode mM_spring.2.1 32 = .ok (.aload_n 0, 1) := by decide +kernel
theorem dM_spring_33 : decode mM_spring.2.1 33 = .ok (.iconst 5, 1) := by decide +kernel
theorem dM_spring_34 : decode mM_spring.2.1 34 = .ok (.invokevirtual 52, 3) := by decide +kernel
theorem dM_spring_37 : decode mM_spring.2.1 37 = .ok (.ireturn, 1) := by decide +kernel
theorem dM_spring_38 : decode mM_spring.2.1 38 = .ok (.aload_n 0, 1) := by decide +kernel
theorem dM_spring_39 : decode mM_spring.2.1 39 = .ok (.invokevirtual 496, 3) := by decide +kernel
theorem dM_spring_42 : decode mM_spring.2.1 42 = .ok (.aload_n 0, 1) := by decide +kernel
theorem dM_spring_43 : decode mM_spring.2.1 43 = .ok (.getfield 17, 3) := by decide +kernel
theorem dM_spring_46 : decode mM_spring.2.1 46 = .ok (.bipush 7, 2) := by decide +kernel
theorem dM_spring_48 : decode mM_spring.2.1 48 = .ok (.iload_n 1, 1) := by decide +kernel
theorem dM_spring_49 : decode mM_spring.2.1 49 = .ok (.iadd, 1) := by decide +kernel
theorem dM_spring_50 : decode mM_spring.2.1 50 = .ok (.iconst 1, 1) := by decide +kernel
theorem dM_spring_51 : decode mM_spring.2.1 51 = .ok (.aload_n 0, 1) := by decide +kernel
theorem dM_spring_52 : decode mM_spring.2.1 52 = .ok (.getfield 17, 3) := by decide +kernel
theorem dM_spring_55 : decode mM_spring.2.1 55 = .ok (.bipush 7, 2) := by decide +kernel
theorem dM_spring_57 : decode mM_spring.2.1 57 = .ok (.iload_n 1, 1) := by decide +kernel
theorem dM_spring_58 : decode mM_spring.2.1 58 = .ok (.iadd, 1) := by decide +kernel
theorem dM_spring_59 : decode mM_spring.2.1 59 = .ok (.iaload, 1) := by decide +kernel
theorem dM_spring_60 : decode mM_spring.2.1 60 = .ok (.isub, 1) := by decide +kernel
theorem dM_spring_61 : decode mM_spring.2.1 61 = .ok (.iastore, 1) := by decide +kernel
theorem dM_spring_62 : decode mM_spring.2.1 62 = .ok (.aload_n 0, 1) := by decide +kernel
theorem dM_spring_63 : decode mM_spring.2.1 63 = .ok (.aload_n 0, 1) := by decide +kernel
theorem dM_spring_64 : decode mM_spring.2.1 64 = .ok (.getfield 17, 3) := by decide +kernel
theorem dM_spring_67 : decode mM_spring.2.1 67 = .ok (.bipush 7, 2) := by decide +kernel
theorem dM_spring_69 : decode mM_spring.2.1 69 = .ok (.iload_n 1, 1) := by decide +kernel
theorem dM_spring_70 : decode mM_spring.2.1 70 = .ok (.iadd, 1) := by decide +kernel
theorem dM_spring_71 : decode mM_spring.2.1 71 = .ok (.iaload, 1) := by decide +kernel
theorem dM_spring_72 : decode mM_spring.2.1 72 = .ok (.invokevirtual 56, 3) := by decide +kernel
theorem dM_spring_75 : decode mM_spring.2.1 75 = .ok (.ireturn, 1) := by decide +kernel
theorem dM_undo_0 : decode mM_undo.2.1 0 = .ok (.aload_n 0, 1) := by decide +kernel
theorem dM_undo_1 : decode mM_undo.2.1 1 = .ok (.iconst 0, 1) := by decide +kernel
theorem dM_undo_2 : decode mM_undo.2.1 2 = .ok (.putfield 46, 3) := by decide +kernel
theorem dM_undo_5 : decode mM_undo.2.1 5 = .ok (.aload_n 0, 1) := by decide +kernel
theorem dM_undo_6 : decode mM_undo.2.1 6 = .ok (.getfield 281, 3) := by decide +kernel
theorem dM_undo_9 : decode mM_undo.2.1 9 = .ok (.ifnull 10, 3) := by decide +kernel
theorem dM_undo_12 : decode mM_undo.2.1 12 = .ok (.aload_n 0, 1) := by decide +kernel
theorem dM_undo_13 : decode mM_undo.2.1 13 = .ok (.getfield 290, 3) := by decide +kernel
theorem dM_undo_16 : decode mM_undo.2.1 16 = .ok (.ifCond .ne 10, 3) := by decide +kernel
theorem dM_undo_19 : decode mM_undo.2.1 19 = .ok (.aload_n 0, 1) := by decide +kernel
theorem dM_undo_20 : decode mM_undo.2.1 20 = .ok (.bipush 6, 2) := by decide +kernel
theorem dM_undo_22 : decode mM_undo.2.1 22 = .ok (.invokevirtual 505, 3) := by decide +kernel
theorem dM_undo_25 : decode mM_undo.2.1 25 = .ok (.ireturn, 1) := by decide +kernel
theorem dM_undo_26 : decode mM_undo.2.1 26 = .ok (.aload_n 0, 1) := by decide +kernel
theorem dM_undo_27 : decode mM_undo.2.1 27 = .ok (.dup, 1) := by decide +kernel
theorem dM_undo_28 : decode mM_undo.2.1 28 = .ok (.getfield 290, 3) := by decide +kernel
theorem dM_undo_31 : decode mM_undo.2.1 31 = .ok (.iconst 1, 1) := by decide +kernel
theorem dM_undo_32 : decode mM_undo.2.1 32 = .ok (.isub, 1) := by decide +kernel
theorem dM_undo_33 : decode mM_undo.2.1 33 = .ok (.putfield 290, 3) := by decide +kernel
theorem dM_undo_36 : decode mM_undo.2.1 36 = .ok (.aload_n 0, 1) := by decide +kernel
theorem dM_undo_37 : decode mM_undo.2.1 37 = .ok (.iconst 0, 1) := by decide +kernel
theorem dM_undo_38 : decode mM_undo.2.1 38 = .ok (.putfield 286, 3) := by decide +kernel
theorem dM_undo_41 : decode mM_undo.2.1 41 = .ok (.iconst 0, 1) := by decide +kernel
theorem dM_undo_42 : decode mM_undo.2.1 42 = .ok (.istore_n 1, 1) := by decide +kernel
theorem dM_undo_43 : decode mM_undo.2.1 43 = .ok (.iload_n 1, 1) := by decide +kernel
theorem dM_undo_44 : decode mM_undo.2.1 44 = .ok (.bipush 12, 2) := by decide +kernel
theorem dM_undo_46 : decode mM_undo.2.1 46 = .ok (.if_icmp .ge 29, 3) := by decide +kernel
theorem dM_undo_49 : decode mM_undo.2.1 49 = .ok (.aload_n 0, 1) := by decide +kernel
theorem dM_undo_50 : decode mM_undo.2.1 50 = .ok (.getfield 17, 3) := by decide +kernel
theorem dM_undo_53 : decode mM_undo.2.1 53 = .ok (.iload_n 1, 1) := by decide +kernel
theorem dM_undo_54 : decode mM_undo.2.1 54 = .ok (.aload_n 0, 1) := by decide +kernel
theorem dM_undo_55 : decode mM_undo.2.1 55 = .ok (.getfield 24, 3) := by decide +kernel
theorem dM_undo_58 : decode mM_undo.2.1 58 = .ok (.bipush 12, 2) := by decide +kernel
theorem dM_undo_60 : decode mM_undo.2.1 60 = .ok (.aload_n 0, 1) := by decide +kernel
theorem dM_undo_61 : decode mM_undo.2.1 61 = .ok (.getfield 290, 3) := by decide +kernel
theorem dM_undo_64 : decode mM_undo.2.1 64 = .ok (.imul, 1) := by decide +kernel
theorem dM_undo_65 : decode mM_undo.2.1 65 = .ok (.iload_n 1, 1) := by decide +kernel
theorem dM_undo_66 : decode mM_undo.2.1 66 = .ok (.iadd, 1) := by decide +kernel
theorem dM_undo_67 : decode mM_undo.2.1 67 = .ok (.iaload, 1) := by decide +kernel
theorem dM_undo_68 : decode mM_undo.2.1 68 = .ok (.iastore, 1) := by decide +kernel
theorem dM_undo_69 : decode mM_undo.2.1 69 = .ok (.iinc 1 1, 3) := by decide +kernel
theorem dM_undo_72 : decode mM_undo.2.1 72 = .ok (.goto (-29), 3) := by decide +kernel
theorem dM_undo_75 : decode mM_undo.2.1 75 = .ok (.aload_n 0, 1) := by decide +kernel
theorem dM_undo_76 : decode mM_undo.2.1 76 = .ok (.invokevirtual 508, 3) := by decide +kernel
theorem dM_undo_79 : decode mM_undo.2.1 79 = .ok (.ireturn, 1) := by decide +kernel
theorem dM_image_0 : decode mM_image.2.1 0 = .ok (.aload_n 0, 1) := by decide +kernel
theorem dM_image_1 : decode mM_image.2.1 1 = .ok (.iconst 0, 1) := by decide +kernel
theorem dM_image_2 : decode mM_image.2.1 2 = .ok (.putfield 46, 3) := by decide +kernel
theorem dM_image_5 : decode mM_image.2.1 5 = .ok (.aload_n 0, 1) := by decide +kernel
theorem dM_image_6 : decode mM_image.2.1 6 = .ok (.getfield 281, 3) := by decide +kernel
theorem dM_image_9 : decode mM_image.2.1 9 = .ok (.ifnonnull 9, 3) := by decide +kernel
theorem dM_image_12 : decode mM_image.2.1 12 = .ok (.aload_n 0, 1) := by decide +kernel
theorem dM_image_13 : decode mM_image.2.1 13 = .ok (.iconst 1, 1) := by decide +kernel
theorem dM_image_14 : decode mM_image.2.1 14 = .ok (.invokevirtual 52, 3) := by decide +kernel
theorem dM_image_17 : decode mM_image.2.1 17 = .ok (.ireturn, 1) := by decide +kernel
theorem dM_image_18 : decode mM_image.2.1 18 = .ok (.aload_n 0, 1) := by decide +kernel
theorem dM_image_19 : decode mM_image.2.1 19 = .ok (.getfield 293, 3) := by decide +kernel
theorem dM_image_22 : decode mM_image.2.1 22 = .ok (.iconst 3, 1) := by decide +kernel
theorem dM_image_23 : decode mM_image.2.1 23 = .ok (.if_icmp .ne 9, 3) := by decide +kernel
theorem dM_image_26 : decode mM_image.2.1 26 = .ok (.aload_n 0, 1) := by decide +kernel
theorem dM_image_27 : decode mM_image.2.1 27 = .ok (.iconst 3, 1) := by decide +kernel
theorem dM_image_28 : decode mM_image.2.1 28 = .ok (.invokevirtual 52, 3) := by decide +kernel
theorem dM_image_31 : decode mM_image.2.1 31 = .ok (.ireturn, 1) := by decide +kernel
theorem dM_image_32 : decode mM_image.2.1 32 = .ok (.iconst 0, 1) := by decide +kernel
theorem dM_image_33 : decode mM_image.2.1 33 = .ok (.istore_n 1, 1) := by decide +kernel
theorem dM_image_34 : decode mM_image.2.1 34 = .ok (.iload_n 1, 1) := by decide +kernel
theorem dM_image_35 : decode mM_image.2.1 35 = .ok (.bipush 12, 2) := by decide +kernel
theorem dM_image_37 : decode mM_image.2.1 37 = .ok (.if_icmp .ge 29, 3) := by decide +kernel
theorem dM_image_40 : decode mM_image.2.1 40 = .ok (.aload_n 0, 1) := by decide +kernel
theorem dM_image_41 : decode mM_image.2.1 41 = .ok (.getfield 27, 3) := by decide +kernel
theorem dM_image_44 : decode mM_image.2.1 44 = .ok (.bipush 12, 2) := by decide +kernel
theorem dM_image_46 : decode mM_image.2.1 46 = .ok (.aload_n 0, 1) := by decide +kernel
theorem dM_image_47 : decode mM_image.2.1 47 = .ok (.getfield 293, 3) := by decide +kernel
theorem dM_image_50 : decode mM_image.2.1 50 = .ok (.imul, 1) := by decide +kernel
theorem dM_image_51 : decode mM_image.2.1 51 = .ok (.iload_n 1, 1) := by decide +kernel
theorem dM_image_52 : decode mM_image.2.1 52 = .ok (.iadd, 1) := by decide +kernel
theorem dM_image_53 : decode mM_image.2.1 53 = .ok (.aload_n 0, 1) := by decide +kernel
theorem dM_image_54 : decode mM_image.2.1 54 = .ok (.getfield 17, 3) := by decide +kernel
theorem dM_image_57 : decode mM_image.2.1 57 = .ok (.iload_n 1, 1) := by decide +kernel
theorem dM_image_58 : decode mM_image.2.1 58 = .ok (.iaload, 1) := by decide +kernel
theorem dM_image_59 : decode mM_image.2.1 59 = .ok (.iastore, 1) := by decide +kernel
theorem dM_image_60 : decode mM_image.2.1 60 = .ok (.iinc 1 1, 3) := by decide +kernel
theorem dM_image_63 : decode mM_image.2.1 63 = .ok (.goto (-29), 3) := by decide +kernel
theorem dM_image_66 : decode mM_image.2.1 66 = .ok (.aload_n 0, 1) := by decide +kernel
theorem dM_image_67 : decode mM_image.2.1 67 = .ok (.dup, 1) := by decide +kernel
theorem dM_image_68 : decode mM_image.2.1 68 = .ok (.getfield 293, 3) := by decide +kernel
theorem dM_image_71 : decode mM_image.2.1 71 = .ok (.iconst 1, 1) := by decide +kernel
theorem dM_image_72 : decode mM_image.2.1 72 = .ok (.iadd, 1) := by decide +kernel
theorem dM_image_73 : decode mM_image.2.1 73 = .ok (.putfield 293, 3) := by decide +kernel
theorem dM_image_76 : decode mM_image.2.1 76 = .ok (.aload_n 0, 1) := by decide +kernel
theorem dM_image_77 : decode mM_image.2.1 77 = .ok (.aload_n 0, 1) := by decide +kernel
theorem dM_image_78 : decode mM_image.2.1 78 = .ok (.getfield 293, 3) := by decide +kernel
theorem dM_image_81 : decode mM_image.2.1 81 = .ok (.iconst 1, 1) := by decide +kernel
theorem dM_image_82 : decode mM_image.2.1 82 = .ok (.isub, 1) := by decide +kernel
theorem dM_image_83 : decode mM_image.2.1 83 = .ok (.invokevirtual 56, 3) := by decide +kernel
theorem dM_image_86 : decode mM_image.2.1 86 = .ok (.ireturn, 1) := by decide +kernel
theorem dM_back_0 : decode mM_back.2.1 0 = .ok (.aload_n 0, 1) := by decide +kernel
theorem dM_back_1 : decode mM_back.2.1 1 = .ok (.iconst 0, 1) := by decide +kernel
theorem dM_back_2 : decode mM_back.2.1 2 = .ok (.putfield 46, 3) := by decide +kernel
theorem dM_back_5 : decode mM_back.2.1 5 = .ok (.aload_n 0, 1) := by decide +kernel
theorem dM_back_6 : decode mM_back.2.1 6 = .ok (.getfield 281, 3) := by decide +kernel
theorem dM_back_9 : decode mM_back.2.1 9 = .ok (.ifnull 15, 3) := by decide +kernel
theorem dM_back_12 : decode mM_back.2.1 12 = .ok (.iload_n 1, 1) := by decide +kernel
theorem dM_back_13 : decode mM_back.2.1 13 = .ok (.ifCond .lt 11, 3) := by decide +kernel
theorem dM_back_16 : decode mM_back.2.1 16 = .ok (.iload_n 1, 1) := by decide +kernel
theorem dM_back_17 : decode mM_back.2.1 17 = .ok (.aload_n 0, 1) := by decide +kernel
theorem dM_back_18 : decode mM_back.2.1 18 = .ok (.getfield 293, 3) := by decide +kernel
theorem dM_back_21 : decode mM_back.2.1 21 = .ok (.if_icmp .lt 9, 3) := by decide +kernel
theorem dM_back_24 : decode mM_back.2.1 24 = .ok (.aload_n 0, 1) := by decide +kernel
theorem dM_back_25 : decode mM_back.2.1 25 = .ok (.iconst 1, 1) := by decide +kernel
theorem dM_back_26 : decode mM_back.2.1 26 = .ok (.invokevirtual 505, 3) := by decide +kernel
theorem dM_back_29 : decode mM_back.2.1 29 = .ok (.ireturn, 1) := by decide +kernel
theorem dM_back_30 : decode mM_back.2.1 30 = .ok (.iconst 0, 1) := by decide +kernel
theorem dM_back_31 : decode mM_back.2.1 31 = .ok (.istore_n 2, 1) := by decide +kernel
theorem dM_back_32 : decode mM_back.2.1 32 = .ok (.iload_n 2, 1) := by decide +kernel
theorem dM_back_33 : decode mM_back.2.1 33 = .ok (.bipush 12, 2) := by decide +kernel
theorem dM_back_35 : decode mM_back.2.1 35 = .ok (.if_icmp .ge 26, 3) := by decide +kernel
theorem dM_back_38 : decode mM_back.2.1 38 = .ok (.aload_n 0, 1) := by decide +kernel
theorem dM_back_39 : decode mM_back.2.1 39 = .ok (.getfield 17, 3) := by decide +kernel
theorem dM_back_42 : decode mM_back.2.1 42 = .ok (.iload_n 2, 1) := by decide +kernel
theorem dM_back_43 : decode mM_back.2.1 43 = .ok (.aload_n 0, 1) := by decide +kernel
theorem dM_back_44 : decode mM_back.2.1 44 = .ok (.getfield 27, 3) := by decide +kernel
theorem dM_back_47 : decode mM_back.2.1 47 = .ok (.bipush 12, 2) := by decide +kernel
theorem dM_back_49 : decode mM_back.2.1 49 = .ok (.iload_n 1, 1) := by decide +kernel
theorem dM_back_50 : decode mM_back.2.1 50 = .ok (.imul, 1) := by decide +kernel
theorem dM_back_51 : decode mM_back.2.1 51 = .ok (.iload_n 2, 1) := by decide +kernel
theorem dM_back_52 : decode mM_back.2.1 52 = .ok (.iadd, 1) := by decide +kernel
theorem dM_back_53 : decode mM_back.2.1 53 = .ok (.iaload, 1) := by decide +kernel
theorem dM_back_54 : decode mM_back.2.1 54 = .ok (.iastore, 1) := by decide +kernel
theorem dM_back_55 : decode mM_back.2.1 55 = .ok (.iinc 2 1, 3) := by decide +kernel
theorem dM_back_58 : decode mM_back.2.1 58 = .ok (.goto (-26), 3) := by decide +kernel
theorem dM_back_61 : decode mM_back.2.1 61 = .ok (.aload_n 0, 1) := by decide +kernel
theorem dM_back_62 : decode mM_back.2.1 62 = .ok (.iconst 0, 1) := by decide +kernel
theorem dM_back_63 : decode mM_back.2.1 63 = .ok (.putfield 290, 3) := by decide +kernel
theorem dM_back_66 : decode mM_back.2.1 66 = .ok (.aload_n 0, 1) := by decide +kernel
theorem dM_back_67 : decode mM_back.2.1 67 = .ok (.iconst 0, 1) := by decide +kernel
theorem dM_back_68 : decode mM_back.2.1 68 = .ok (.putfield 286, 3) := by decide +kernel
theorem dM_back_71 : decode mM_back.2.1 71 = .ok (.aload_n 0, 1) := by decide +kernel
theorem dM_back_72 : decode mM_back.2.1 72 = .ok (.invokevirtual 508, 3) := by decide +kernel
theorem dM_back_75 : decode mM_back.2.1 75 = .ok (.ireturn, 1) := by decide +kernel
/-- what is kept: how many lie there already -/
def kpN (n : Nat) : Nat := if n < 16 then n else 15
def kpO (n i : Nat) : Nat := if n < 16 then i else i + 1
def PK (V V' : Nat → Nat → Int) (n : Nat) : Prop := (∀ b, b ≠ 53 → b ≠ 57 → V' b = V b) ∧ (∀ j, j ≠ 19 → j ≠ 26 → V' 53 j = V 53 j) ∧ V' 53 26 = 0 ∧ V' 53 19 = (kpN n + 1 : Nat) ∧ (∀ k, k < 12 → V' 57 (12 * kpN n + k) = V 55 k) ∧ ∀ i k, i < kpN n → k < 12 → V' 57 (12 * i + k) = V 57 (12 * kpO n i + k)
theorem kpP_len {L : List Sc} {s : Sc} (h : L.length ≤ 16) : (kpP L s).length = kpN L.length + 1 := by
  unfold kpP kpN
  rw [List.length_append, List.length_singleton]
  by_cases q : L.length < 16
  · rw [if_pos q, if_pos q]
  · rw [if_neg q, if_neg q, List.length_drop]; omega
theorem kpP_get {L : List Sc} {s x : Sc} {i : Nat} (h : L.length ≤ 16) (hi : (kpP L s)[i]? = some x) : (i < kpN L.length ∧ L[kpO L.length i]? = some x) ∨ (i = kpN L.length ∧ x = s) := by
  have hlt := (List.getElem?_eq_some_iff.mp hi).1
  rw [kpP_len h] at hlt
  unfold kpP at hi
  unfold kpN kpO at *
  by_cases q : L.length < 16
  · rw [if_pos q] at hi hlt ⊢
    rw [if_pos q]
    by_cases e : i < L.length
    · rw [List.getElem?_append_left e] at hi; exact Or.inl ⟨e, hi⟩
    · have e' : i = L.length := by omega
      subst e'
      rw [List.getElem?_append_right (Nat.le_refl _), Nat.sub_self] at hi
      cases hi
      exact Or.inr ⟨rfl, rfl⟩
  · rw [if_neg q] at hi hlt ⊢
    rw [if_neg q]
    have hl : (L.drop 1).length = 15 := by rw [List.length_drop]; omega
    by_cases e : i < 15
    · rw [List.getElem?_append_left (by omega), List.getElem?_drop, Nat.add_comm] at hi; exact Or.inl ⟨e, hi⟩
    · have e' : i = 15 := by omega
      subst e'
      rw [List.getElem?_append_right (by omega), hl, Nat.sub_self] at hi
      cases hi
      exact Or.inr ⟨rfl, rfl⟩
section Mod21
variable {G : GE} {V V' V1 V2 : Nat → Nat → Int} {σ : Shp} {K : Option AV → Mem → Prop} {l : Nat} {c : Cfg} {n : Nat} {S : PS}
theorem MW.xf (h : MW V σ l S) (hX : XF V V2) : MW V2 σ l S := h.mf ((MF.rf V).xf hX) (h.q.xf hX)
theorem wM_remembers (hM : moS σ l) (h19 : V 53 19 = n) (hn : n ≤ 16) (hK : ∀ V', PK V V' n → K none (V', σ)) : Wp G 0 mM_remembers [vR 53] (V, σ) 0 0 K := by
  refine wp_intro mM_remembers_i.1 [some (vR 53), none] rfl rfl (Nat.le_of_ble_eq_true rfl) ?_
  intro X hG F C
  have hm := C.rm
  have lay : ∀ (Vb : Nat → Nat → Int) (m : Nat), m ≤ 15 → m = kpN n → (∀ b, b ≠ 53 → b ≠ 57 → Vb b = V b) → (∀ j, j ≠ 19 → j ≠ 26 → Vb 53 j = V 53 j) → Vb 53 26 = 0 → Vb 53 19 = m → (∀ i k, i < m → k < 12 → Vb 57 (12 * i + k) = V 57 (12 * kpO n i + k)) → ∀ (j k : Nat), k + j = 12 → ∀ (V1 : Nat → Nat → Int) (w : Int), w = k → (∀ b, b ≠ 57 → V1 b = Vb b) → (∀ i, i < 12 * m → V1 57 i = Vb 57 i) → (∀ i, i < k → V1 57 (12 * m + i) = V 55 i) → AW X 56 [some (vR 53), some (vI w)] [] (V1, σ) 0 0 := by
    intro Vb m hm hmk b1 b2 b3 b4 b5 j
    induction j with
    | zero =>
      intro k hk V1 w hw f1 f2 f3
      have e19 : V1 53 19 = m := by rw [f1 53 (by decide)]; exact b4
      refine aw_iload_1 (q := 57) F dM_remembers_56 rfl ?_
      refine aw_bipush (q := 59) F dM_remembers_57 rfl (by decide) ?_
      refine aw_icmp_ge (q := 62) (t := 88) F dM_remembers_59 rfl (by decide) (fun c59 => ?_) (fun c59 => by omega)
      refine aw_aload_0 (q := 89) F dM_remembers_88 rfl ?_
      refine aw_dup (q := 90) F dM_remembers_89 rfl trivial ?_
      refine av_geti (q := 93) F fM_290 dM_remembers_90 rfl rfl (by first | exact hM.o | exact hl.o | exact hM.a55 | exact hM.a56 | exact hM.a57 | exact hM.a58) ?_
      rw [e19]
      refine aw_iconst (q := 94) F dM_remembers_93 rfl (by decide) ?_
      refine aw_iadd (q := 95) F dM_remembers_94 rfl (by constructor <;> omega) ?_
      refine av_puti (q := 98) F fM_290 dM_remembers_95 rfl rfl (wr_9_19 _) (by first | exact hM.o | exact hl.o | exact hM.a55 | exact hM.a56 | exact hM.a57 | exact hM.a58) ?_
      refine aw_vret F C dM_remembers_98 rfl (Nat.le_refl _) (Nat.le_refl _) ?_
      refine hK _ ⟨fun b h1 h2 => ?_, fun j h1 h2 => ?_, ?_, ?_, fun i hi => ?_, fun i j hi hj => ?_⟩
      · rw [up2_nea _ _ h1, f1 b h2]; exact b1 b h1 h2
      · rw [up2_nek _ _ h1, f1 53 (by decide)]; exact b2 j h1 h2
      · rw [up2_nek _ _ (by decide), f1 53 (by decide)]; exact b3
      · rw [up2_same, ← hmk]; rfl
      · rw [up2_nea _ _ (by decide), ← hmk]; exact f3 i (by omega)
      · rw [up2_nea _ _ (by decide), f2 _ (by rw [← hmk] at hi; omega)]; exact b5 i j (by omega) hj
    | succ j ih =>
      intro k hk V1 w hw f1 f2 f3
      have e19 : V1 53 19 = m := by rw [f1 53 (by decide)]; exact b4
      have e55 : V1 55 = V 55 := by rw [f1 55 (by decide)]; exact b1 55 (by decide) (by decide)
      refine aw_iload_1 (q := 57) F dM_remembers_56 rfl ?_
      refine aw_bipush (q := 59) F dM_remembers_57 rfl (by decide) ?_
      refine aw_icmp_ge (q := 62) (t := 88) F dM_remembers_59 rfl (by decide) (fun c59 => by omega) (fun c59 => ?_)
      refine aw_aload_0 (q := 63) F dM_remembers_62 rfl ?_
      refine av_getaE (q := 66) F fM_24 dM_remembers_63 rfl rfl (by first | exact hM.o | exact hl.o | exact hM.a55 | exact hM.a56 | exact hM.a57 | exact hM.a58) hM.p17 ?_
      refine aw_bipush (q := 68) F dM_remembers_66 rfl (by decide) ?_
      refine aw_aload_0 (q := 69) F dM_remembers_68 rfl ?_
      refine av_geti (q := 72) F fM_290 dM_remembers_69 rfl rfl (by first | exact hM.o | exact hl.o | exact hM.a55 | exact hM.a56 | exact hM.a57 | exact hM.a58) ?_
      rw [e19]
      refine aw_imul (q := 73) F dM_remembers_72 rfl (by constructor <;> omega) ?_
      refine aw_iload_1 (q := 74) F dM_remembers_73 rfl ?_
      refine aw_iadd (q := 75) F dM_remembers_74 rfl (by constructor <;> omega) ?_
      refine aw_aload_0 (q := 76) F dM_remembers_75 rfl ?_
      refine av_getaE (q := 79) F fM_17 dM_remembers_76 rfl rfl (by first | exact hM.o | exact hl.o | exact hM.a55 | exact hM.a56 | exact hM.a57 | exact hM.a58) hM.p15 ?_
      refine aw_iload_1 (q := 80) F dM_remembers_79 rfl ?_
      refine av_iaload (q := 81) F dM_remembers_80 rfl (by first | exact hM.o | exact hl.o | exact hM.a55 | exact hM.a56 | exact hM.a57 | exact hM.a58) (by omega) (by omega) ?_
      rw [e55]
      refine av_iastore (q := 82) F dM_remembers_81 rfl (by first | exact hM.o | exact hl.o | exact hM.a55 | exact hM.a56 | exact hM.a57 | exact hM.a58) (by omega) (by omega) ?_
      refine aw_iinc_1 (q := 85) F dM_remembers_82 rfl trivial (by constructor <;> omega) ?_
      refine aw_goto (t := 56) F dM_remembers_85 (by decide) ?_
      refine ih (k + 1) (by omega) _ _ (by omega) (fun b hb => by rw [up2_nea _ _ hb]; exact f1 b hb) (fun i hi => ?_) (fun i hi => ?_)
      · rw [show (12 * (m : Int) + w).toNat = 12 * m + k by omega, up2_nek _ _ (by omega)]; exact f2 i hi
      · rw [show (12 * (m : Int) + w).toNat = 12 * m + k by omega, show w.toNat = k by omega]
        by_cases q : i = k
        · rw [q, up2_same]
        · rw [up2_nek _ _ (by omega)]; exact f3 i (by omega)
  have shift : n = 16 → ∀ (j i : Nat), i + j = 180 → ∀ (V1 : Nat → Nat → Int) (w : Int), w = i → (∀ b, b ≠ 53 → b ≠ 57 → V1 b = V b) → (∀ j, j ≠ 26 → V1 53 j = V 53 j) → V1 53 26 = 0 → (∀ x, x < i → V1 57 x = V 57 (x + 12)) → (∀ x, i ≤ x → V1 57 x = V 57 x) → AW X 16 [some (vR 53), some (vI w)] [] (V1, σ) 0 0 := by
    intro h16 j
    induction j with
    | zero =>
      intro i hi V1 w hw f1 f2 f3 f4 f5
      have e19 : V1 53 19 = 16 := by rw [f2 19 (by decide), h19, h16]; rfl
      refine aw_iload_1 (q := 17) F dM_remembers_16 rfl ?_
      refine aw_sipush (q := 20) F dM_remembers_17 rfl (by decide) ?_
      refine aw_icmp_ge (q := 23) (t := 44) F dM_remembers_20 rfl (by decide) (fun c20 => ?_) (fun c20 => by omega)
      refine aw_aload_0 (q := 45) F dM_remembers_44 rfl ?_
      refine aw_dup (q := 46) F dM_remembers_45 rfl trivial ?_
      refine av_geti (q := 49) F fM_290 dM_remembers_46 rfl rfl (by first | exact hM.o | exact hl.o | exact hM.a55 | exact hM.a56 | exact hM.a57 | exact hM.a58) ?_
      rw [e19]
      refine aw_iconst (q := 50) F dM_remembers_49 rfl (by decide) ?_
      refine aw_isub (q := 51) F dM_remembers_50 rfl (by constructor <;> omega) ?_
      refine av_puti (q := 54) F fM_290 dM_remembers_51 rfl rfl (wr_9_19 _) (by first | exact hM.o | exact hl.o | exact hM.a55 | exact hM.a56 | exact hM.a57 | exact hM.a58) ?_
      refine aw_iconst (q := 55) F dM_remembers_54 rfl (by decide) ?_
      refine aw_istore_1 (q := 56) F dM_remembers_55 rfl trivial ?_
      refine lay _ 15 (by decide) (by rw [h16]; rfl) (fun b h1 h2 => ?_) (fun j h1 h2 => ?_) ?_ ?_ (fun i k hi hk => ?_) 12 0 rfl _ _ rfl (fun _ _ => rfl) (fun _ _ => rfl) (fun i hi => absurd hi (by omega))
      · rw [up2_nea _ _ h1]; exact f1 b h1 h2
      · rw [up2_nek _ _ h1]; exact f2 j h2
      · rw [up2_nek _ _ (by decide)]; exact f3
      · rw [up2_same]; rfl
      · rw [up2_nea _ _ (by decide), f4 _ (by omega)]
        unfold kpO
        rw [if_neg (by omega)]
        congr 1
        omega
    | succ j ih =>
      intro i hi V1 w hw f1 f2 f3 f4 f5
      refine aw_iload_1 (q := 17) F dM_remembers_16 rfl ?_
      refine aw_sipush (q := 20) F dM_remembers_17 rfl (by decide) ?_
      refine aw_icmp_ge (q := 23) (t := 44) F dM_remembers_20 rfl (by decide) (fun c20 => by omega) (fun c20 => ?_)
      refine aw_aload_0 (q := 24) F dM_remembers_23 rfl ?_
      refine av_getaE (q := 27) F fM_24 dM_remembers_24 rfl rfl (by first | exact hM.o | exact hl.o | exact hM.a55 | exact hM.a56 | exact hM.a57 | exact hM.a58) hM.p17 ?_
      refine aw_iload_1 (q := 28) F dM_remembers_27 rfl ?_
      refine aw_aload_0 (q := 29) F dM_remembers_28 rfl ?_
      refine av_getaE (q := 32) F fM_24 dM_remembers_29 rfl rfl (by first | exact hM.o | exact hl.o | exact hM.a55 | exact hM.a56 | exact hM.a57 | exact hM.a58) hM.p17 ?_
      refine aw_iload_1 (q := 33) F dM_remembers_32 rfl ?_
      refine aw_bipush (q := 35) F dM_remembers_33 rfl (by decide) ?_
      refine aw_iadd (q := 36) F dM_remembers_35 rfl (by constructor <;> omega) ?_
      refine av_iaload (q := 37) F dM_remembers_36 rfl (by first | exact hM.o | exact hl.o | exact hM.a55 | exact hM.a56 | exact hM.a57 | exact hM.a58) (by omega) (by omega) ?_
      rw [show (w + 12).toNat = i + 12 by omega, f5 _ (by omega)]
      refine av_iastore (q := 38) F dM_remembers_37 rfl (by first | exact hM.o | exact hl.o | exact hM.a55 | exact hM.a56 | exact hM.a57 | exact hM.a58) (by omega) (by omega) ?_
      refine aw_iinc_1 (q := 41) F dM_remembers_38 rfl trivial (by constructor <;> omega) ?_
      refine aw_goto (t := 16) F dM_remembers_41 (by decide) ?_
      refine ih (i + 1) (by omega) _ _ (by omega) (fun b h1 h2 => ?_) (fun j h1 => ?_) ?_ (fun x hx => ?_) (fun x hx => ?_)
      · rw [up2_nea _ _ h2]; exact f1 b h1 h2
      · rw [up2_nea _ _ (by decide)]; exact f2 j h1
      · rw [up2_nea _ _ (by decide)]; exact f3
      · rw [show w.toNat = i by omega]
        by_cases q : x = i
        · rw [q, up2_same]
        · rw [up2_nek _ _ q]; exact f4 x (by omega)
      · rw [show w.toNat = i by omega, up2_nek _ _ (by omega)]; exact f5 x (by omega)
  have e19 : up2 V 53 26 0 53 19 = n := by rw [up2_nek _ _ (by decide)]; exact h19
  refine aw_aload_0 (q := 1) F dM_remembers_0 rfl ?_
  refine aw_iconst (q := 2) F dM_remembers_1 rfl (by decide) ?_
  refine av_putz (q := 5) F fM_286 dM_remembers_2 rfl rfl (wr_9_26 _) (by first | exact hM.o | exact hl.o | exact hM.a55 | exact hM.a56 | exact hM.a57 | exact hM.a58) (by first | exact Or.inl rfl | exact Or.inr rfl | omega) ?_
  refine aw_aload_0 (q := 6) F dM_remembers_5 rfl ?_
  refine av_geti (q := 9) F fM_290 dM_remembers_6 rfl rfl (by first | exact hM.o | exact hl.o | exact hM.a55 | exact hM.a56 | exact hM.a57 | exact hM.a58) ?_
  rw [e19]
  refine aw_bipush (q := 11) F dM_remembers_9 rfl (by decide) ?_
  refine aw_icmp_ne (q := 14) (t := 54) F dM_remembers_11 rfl (by decide) (fun c11 => ?_) (fun c11 => ?_)
  · refine aw_iconst (q := 55) F dM_remembers_54 rfl (by decide) ?_
    refine aw_istore_1 (q := 56) F dM_remembers_55 rfl trivial ?_
    refine lay _ n (by omega) (by unfold kpN; rw [if_pos (by omega)]) (fun b h1 h2 => up2_nea _ _ h1) (fun j h1 h2 => up2_nek _ _ h2) (up2_same _ _ _ _) e19 (fun i k hi hk => ?_) 12 0 rfl _ _ rfl (fun _ _ => rfl) (fun _ _ => rfl) (fun i hi => absurd hi (by omega))
    rw [up2_nea _ _ (by decide)]
    unfold kpO
    rw [if_pos (by omega)]
  · refine aw_iconst (q := 15) F dM_remembers_14 rfl (by decide) ?_
    refine aw_istore_1 (q := 16) F dM_remembers_15 rfl trivial ?_
    exact shift (by omega) 180 0 rfl _ _ rfl (fun b h1 _ => up2_nea _ _ h1) (fun j h1 => up2_nek _ _ h1) (up2_same _ _ _ _) (fun x hx => absurd hx (by omega)) (fun x _ => by rw [up2_nea _ _ (by decide)])
theorem wM_canNow {w : Int} {s : Nat} (hw : w = s) (hs : s < stN (psC S)) (h : MW V σ l S) (hd : 0 < tDn (psT S)) (h1 : ∀ V', XF V V' → mayN (psC S) (psA S) (allP (psC S)) s = true → K (some (vI 1)) (V', σ)) (h0 : ∀ V', XF V V' → mayN (psC S) (psA S) (allP (psC S)) s = false → K (some (vI 0)) (V', σ)) : Wp G 3 mM_canNow [vR 53, vI w] (V, σ) 0 0 K := by
  have hM := h.mo
  have hl := h.la hd
  refine wp_intro mM_canNow_i.1 [some (vR 53), some (vI w)] rfl rfl (Nat.le_of_ble_eq_true rfl) ?_
  intro X hG F C
  have hm := C.rm
  refine aw_aload_0 (q := 1) F dM_canNow_0 rfl ?_
  refine av_callV0 (q := 4) (ci := 9) F hm mM_works_i mM_works_n lM_348 dM_canNow_1 rfl rfl rfl (by first | exact hM.o | exact hl.o | exact hM.a55 | exact hM.a56 | exact hM.a57 | exact hM.a58) (by decide) (Nat.le_refl _) (Nat.le_refl _) (Nat.le_of_ble_eq_true rfl) (wM_works hM (fun V2 f1 g1 => ?_))
  have hX : XF V V2 := f1
  refine aw_aload_0 (q := 5) F dM_canNow_4 rfl ?_
  refine aw_iload_1 (q := 6) F dM_canNow_5 rfl ?_
  refine av_callV1 (q := 9) (ci := 9) F hm mM_canStep_i mM_canStep_n lM_342 dM_canNow_6 rfl rfl rfl (by first | exact hM.o | exact hl.o | exact hM.a55 | exact hM.a56 | exact hM.a57 | exact hM.a58) (by decide) (Nat.le_refl _) (Nat.le_refl _) (Nat.le_of_ble_eq_true rfl) (wM_canStep (s := s) hw hs hM hl (hX.lc (h.h64 hd) (h.lc hd)) (AR.now h hd g1) h.hc (fun c6 => ?_) (fun c6 => ?_))
  · refine aw_zret F C dM_canNow_9 rfl (by decide) (Nat.le_refl _) (Nat.le_refl _) ?_
    exact h1 V2 hX c6
  · refine aw_zret F C dM_canNow_9 rfl (by decide) (Nat.le_refl _) (Nat.le_refl _) ?_
    exact h0 V2 hX c6
theorem wM_does {w : Int} {s : Nat} (hw : w = s) (hs : s < stN (psC S)) (h : MW V σ l S) (hd : 0 < tDn (psT S)) (hm0 : mayN (psC S) (psA S) (allP (psC S)) s = true) (hK : ∀ V1 V2, PK V V1 (psP S).length → (∀ b, b ≠ 55 → b ≠ 56 → V2 b = V1 b) → AR (V2 55) (psC S) (aftN (psC S) (psA S) s) → K none (V2, σ)) : Wp G 3 mM_does [vR 53, vI w] (V, σ) 0 0 K := by
  have hM := h.mo
  have hl := h.la hd
  have h64 := h.h64 hd
  refine wp_intro mM_does_i.1 [some (vR 53), some (vI w), none] rfl rfl (Nat.le_of_ble_eq_true rfl) ?_
  intro X hG F C
  have hm := C.rm
  have copy : ∀ (V1 Vb : Nat → Nat → Int), PK V V1 (psP S).length → (∀ b, b ≠ 56 → Vb b = V1 b) → AR (Vb 56) (psC S) (aftN (psC S) (psA S) s) → ∀ (j k : Nat), k + j = 12 → ∀ (V2 : Nat → Nat → Int) (z : Int), z = k → (∀ b, b ≠ 55 → V2 b = Vb b) → (∀ i, i < k → V2 55 i = Vb 56 i) → AW X 16 [some (vR 53), some (vI w), some (vI z)] [] (V2, σ) 0 0 := by
    intro V1 Vb hP hb hA j
    induction j with
    | zero =>
      intro k hk V2 z hz f1 f2
      refine aw_iload_2 (q := 17) F dM_does_16 rfl ?_
      refine aw_bipush (q := 19) F dM_does_17 rfl (by decide) ?_
      refine aw_icmp_ge (q := 22) (t := 40) F dM_does_19 rfl (by decide) (fun c19 => ?_) (fun c19 => by omega)
      refine aw_vret F C dM_does_40 rfl (Nat.le_refl _) (Nat.le_refl _) ?_
      exact hK V1 V2 hP (fun b h1 h2 => (f1 b h1).trans (hb b h2)) (hA.same fun i hi => f2 i (by omega))
    | succ j ih =>
      intro k hk V2 z hz f1 f2
      refine aw_iload_2 (q := 17) F dM_does_16 rfl ?_
      refine aw_bipush (q := 19) F dM_does_17 rfl (by decide) ?_
      refine aw_icmp_ge (q := 22) (t := 40) F dM_does_19 rfl (by decide) (fun c19 => by omega) (fun c19 => ?_)
      refine aw_aload_0 (q := 23) F dM_does_22 rfl ?_
      refine av_getaE (q := 26) F fM_17 dM_does_23 rfl rfl (by first | exact hM.o | exact hl.o | exact hM.a55 | exact hM.a56 | exact hM.a57 | exact hM.a58) hM.p15 ?_
      refine aw_iload_2 (q := 27) F dM_does_26 rfl ?_
      refine aw_aload_0 (q := 28) F dM_does_27 rfl ?_
      refine av_getaE (q := 31) F fM_21 dM_does_28 rfl rfl (by first | exact hM.o | exact hl.o | exact hM.a55 | exact hM.a56 | exact hM.a57 | exact hM.a58) hM.p16 ?_
      refine aw_iload_2 (q := 32) F dM_does_31 rfl ?_
      refine av_iaload (q := 33) F dM_does_32 rfl (by first | exact hM.o | exact hl.o | exact hM.a55 | exact hM.a56 | exact hM.a57 | exact hM.a58) (by omega) (by omega) ?_
      rw [f1 56 (by decide), show z.toNat = k by omega]
      refine av_iastore (q := 34) F dM_does_33 rfl (by first | exact hM.o | exact hl.o | exact hM.a55 | exact hM.a56 | exact hM.a57 | exact hM.a58) (by omega) (by omega) ?_
      refine aw_iinc_2 (q := 37) F dM_does_34 rfl trivial (by constructor <;> omega) ?_
      refine aw_goto (t := 16) F dM_does_37 (by decide) ?_
      refine ih (k + 1) (by omega) _ _ (by omega) (fun b hb => by rw [up2_nea _ _ hb]; exact f1 b hb) (fun i hi => ?_)
      rw [show z.toNat = k by omega]
      by_cases q : i = k
      · rw [q, up2_same]
      · rw [up2_nek _ _ q]; exact f2 i (by omega)
  refine aw_aload_0 (q := 1) F dM_does_0 rfl ?_
  refine av_callV0 (q := 4) (ci := 9) F hm mM_remembers_i mM_remembers_n lM_496 dM_does_1 rfl rfl rfl (by first | exact hM.o | exact hl.o | exact hM.a55 | exact hM.a56 | exact hM.a57 | exact hM.a58) (by decide) (Nat.le_refl _) (Nat.le_refl _) (Nat.le_of_ble_eq_true rfl) (wM_remembers (n := (psP S).length) hM h.f.2.2.2.2.1 h.1.2.2.2.2.1 (fun V1 p1 => ?_))
  refine aw_aload_0 (q := 5) F dM_does_4 rfl ?_
  refine av_callV0 (q := 8) (ci := 9) F hm mM_works_i mM_works_n lM_348 dM_does_5 rfl rfl rfl (by first | exact hM.o | exact hl.o | exact hM.a55 | exact hM.a56 | exact hM.a57 | exact hM.a58) (by decide) (Nat.le_refl _) (Nat.le_refl _) (Nat.le_of_ble_eq_true rfl) (wM_works hM (fun V2 f5 g5 => ?_))
  have hX : XF V1 V2 := f5
  have hA2 : AR (V2 56) (psC S) (psA S) := (h.wa hd).1.same fun k hk => by rw [g5 k hk, p1.1 55 (by decide) (by decide)]
  have hC1 : LC V1 l (psC S) := by unfold LC; rw [p1.1 l (by omega) (by omega)]; exact h.lc hd
  refine aw_aload_0 (q := 9) F dM_does_8 rfl ?_
  refine aw_iload_1 (q := 10) F dM_does_9 rfl ?_
  refine av_callV1 (q := 13) (ci := 9) F hm mM_steps_i mM_steps_n lM_345 dM_does_10 rfl rfl rfl (by first | exact hM.o | exact hl.o | exact hM.a55 | exact hM.a56 | exact hM.a57 | exact hM.a58) (by decide) (Nat.le_refl _) (Nat.le_refl _) (Nat.le_of_ble_eq_true rfl) (wM_stepsD (s := s) hw hs (h.hn hd) hm0 hM hl (hX.lc h64 hC1) hA2 h.hc (fun r10 V3 f10 g10 => ?_))
  refine aw_pop (q := 14) F dM_does_13 rfl trivial ?_
  refine aw_iconst (q := 15) F dM_does_14 rfl (by decide) ?_
  refine aw_istore_2 (q := 16) F dM_does_15 rfl trivial ?_
  exact copy V1 V3 p1 (hX.trans f10) g10 12 0 rfl V3 _ rfl (fun _ _ => rfl) (fun i hi => absurd hi (by omega))
/-- an act is done -/
theorem MW.act {s' : Sc} (h : MW V σ l S) (hd : 0 < tDn (psT S)) (hok : okP (actS S s')) (p : PK V V1 (psP S).length) (e : ∀ b, b ≠ 55 → b ≠ 56 → V2 b = V1 b) (hA : AR (V2 55) (cfS (psT S) s') s'.2.2) : MW (up2 (up2 V2 53 1 0) 53 2 (-1)) σ l (actS S s') ∧ MR V (up2 (up2 V2 53 1 0) 53 2 (-1)) := by
  have hlen : (psP S).length ≤ 16 := h.1.2.2.2.2.1
  obtain ⟨p1, p2, p3, p4, p5, p6⟩ := p
  have ee : ∀ b, b ≠ 53 → b ≠ 55 → b ≠ 56 → b ≠ 57 → up2 (up2 V2 53 1 0) 53 2 (-1) b = V b := fun b h1 h2 h3 h4 => by rw [up2_nea _ _ h1, up2_nea _ _ h1, e b h2 h3, p1 b h1 h4]
  have ef : ∀ j, j ≠ 1 → j ≠ 2 → j ≠ 19 → j ≠ 26 → up2 (up2 V2 53 1 0) 53 2 (-1) 53 j = V 53 j := fun j h1 h2 h3 h4 => by rw [up2_nek _ _ h2, up2_nek _ _ h1, e 53 (by decide) (by decide), p2 j h3 h4]
  have e55 : up2 (up2 V2 53 1 0) 53 2 (-1) 55 = V2 55 := by rw [up2_nea _ _ (by decide), up2_nea _ _ (by decide)]
  have e57 : up2 (up2 V2 53 1 0) 53 2 (-1) 57 = V1 57 := by rw [up2_nea _ _ (by decide), up2_nea _ _ (by decide), e 57 (by decide) (by decide)]
  obtain ⟨h1, h2, h3, h4, h5, h6, h7⟩ := h
  refine ⟨⟨hok, h2, h3, fun _ => ?_, ?_, ?_, ?_⟩, fun b hb => ee b (by omega) (by omega) (by omega) (by omega)⟩
  · obtain ⟨a1, a2, a3, a4, a5, a6⟩ := h4 hd
    refine ⟨a1, a2, by rw [e55]; exact hA, a4.same (fun i hi => ee _ (by omega) (by omega) (by omega) (by omega)), fun i s hs => ?_, fun i s hs => by rw [ee 58 (by decide) (by decide) (by decide) (by decide)]; exact a6 i s hs⟩
    rw [e57]
    rcases kpP_get hlen (show (kpP (psP S) (psS S))[i]? = some s from hs) with ⟨q1, q2⟩ | ⟨q1, q2⟩
    · exact (a5 _ s q2).same fun k hk => p6 i k q1 hk
    · rw [q1, q2]
      exact a3.same fun k hk => p5 k hk
  · rw [ee 54 (by decide) (by decide) (by decide) (by decide)]; exact h5
  · unfold MWf
    rw [ef 6 (by decide) (by decide) (by decide) (by decide), ef 12 (by decide) (by decide) (by decide) (by decide), ef 20 (by decide) (by decide) (by decide) (by decide)]
    refine ⟨by rw [up2_nek _ _ (by decide), up2_same]; rfl, by rw [up2_same]; rfl, h6.2.2.1, h6.2.2.2.1, ?_, h6.2.2.2.2.2⟩
    rw [up2_nek _ _ (by decide), up2_nek _ _ (by decide), e 53 (by decide) (by decide), p4]
    exact congrArg Nat.cast (kpP_len hlen).symm
  · left
    rw [up2_nek _ _ (by decide), up2_nek _ _ (by decide), e 53 (by decide) (by decide)]
    exact p3
end Mod21
