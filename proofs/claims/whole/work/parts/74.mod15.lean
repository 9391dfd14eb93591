theorem dM_errandAt_0 : decode mM_errandAt.2.1 0 = .ok (.aload_n 0, 1) := by decide +kernel
theorem dM_errandAt_1 : decode mM_errandAt.2.1 1 = .ok (.iconst 0, 1) := by decide +kernel
theorem dM_errandAt_2 : decode mM_errandAt.2.1 2 = .ok (.putfield 46, 3) := by decide +kernel
theorem dM_errandAt_5 : decode mM_errandAt.2.1 5 = .ok (.aload_n 0, 1) := by decide +kernel
theorem dM_errandAt_6 : decode mM_errandAt.2.1 6 = .ok (.iload_n 1, 1) := by decide +kernel
theorem dM_errandAt_7 : decode mM_errandAt.2.1 7 = .ok (.invokevirtual 379, 3) := by decide +kernel
theorem dM_errandAt_10 : decode mM_errandAt.2.1 10 = .ok (.istore_n 3, 1) := by decide +kernel
theorem dM_errandAt_11 : decode mM_errandAt.2.1 11 = .ok (.iload_n 3, 1) := by decide +kernel
theorem dM_errandAt_12 : decode mM_errandAt.2.1 12 = .ok (.ifCond .le 9, 3) := by decide +kernel
theorem dM_errandAt_15 : decode mM_errandAt.2.1 15 = .ok (.aload_n 0, 1) := by decide +kernel
theorem dM_errandAt_16 : decode mM_errandAt.2.1 16 = .ok (.iload_n 3, 1) := by decide +kernel
theorem dM_errandAt_17 : decode mM_errandAt.2.1 17 = .ok (.invokevirtual 52, 3) := by decide +kernel
theorem dM_errandAt_20 : decode mM_errandAt.2.1 20 = .ok (.ireturn, 1) := by decide +kernel
theorem dM_errandAt_21 : decode mM_errandAt.2.1 21 = .ok (.aload_n 0, 1) := by decide +kernel
theorem dM_errandAt_22 : decode mM_errandAt.2.1 22 = .ok (.iload_n 1, 1) := by decide +kernel
theorem dM_errandAt_23 : decode mM_errandAt.2.1 23 = .ok (.invokevirtual 382, 3) := by decide +kernel
theorem dM_errandAt_26 : decode mM_errandAt.2.1 26 = .ok (.istore 4, 2) := by decide +kernel
theorem dM_errandAt_28 : decode mM_errandAt.2.1 28 = .ok (.iload 4, 2) := by decide +kernel
theorem dM_errandAt_30 : decode mM_errandAt.2.1 30 = .ok (.iconst (-1), 1) := by decide +kernel
theorem dM_errandAt_31 : decode mM_errandAt.2.1 31 = .ok (.if_icmp .eq 18, 3) := by decide +kernel
theorem dM_errandAt_34 : decode mM_errandAt.2.1 34 = .ok (.iload_n 2, 1) := by decide +kernel
theorem dM_errandAt_35 : decode mM_errandAt.2.1 35 = .ok (.ifCond .lt 14, 3) := by decide +kernel
theorem dM_errandAt_38 : decode mM_errandAt.2.1 38 = .ok (.iload_n 2, 1) := by decide +kernel
theorem dM_errandAt_39 : decode mM_errandAt.2.1 39 = .ok (.aload_n 0, 1) := by decide +kernel
theorem dM_errandAt_40 : decode mM_errandAt.2.1 40 = .ok (.getfield 31, 3) := by decide +kernel
theorem dM_errandAt_43 : decode mM_errandAt.2.1 43 = .ok (.iload 4, 2) := by decide +kernel
theorem dM_errandAt_45 : decode mM_errandAt.2.1 45 = .ok (.iaload, 1) := by decide +kernel
theorem dM_errandAt_46 : decode mM_errandAt.2.1 46 = .ok (.if_icmp .lt 9, 3) := by decide +kernel
theorem dM_errandAt_49 : decode mM_errandAt.2.1 49 = .ok (.aload_n 0, 1) := by decide +kernel
theorem dM_errandAt_50 : decode mM_errandAt.2.1 50 = .ok (.iconst 1, 1) := by decide +kernel
theorem dM_errandAt_51 : decode mM_errandAt.2.1 51 = .ok (.invokevirtual 52, 3) := by decide +kernel
theorem dM_errandAt_54 : decode mM_errandAt.2.1 54 = .ok (.ireturn, 1) := by decide +kernel
theorem dM_errandAt_55 : decode mM_errandAt.2.1 55 = .ok (.aload_n 0, 1) := by decide +kernel
theorem dM_errandAt_56 : decode mM_errandAt.2.1 56 = .ok (.getfield 31, 3) := by decide +kernel
theorem dM_errandAt_59 : decode mM_errandAt.2.1 59 = .ok (.iload 4, 2) := by decide +kernel
theorem dM_errandAt_61 : decode mM_errandAt.2.1 61 = .ok (.iaload, 1) := by decide +kernel
theorem dM_errandAt_62 : decode mM_errandAt.2.1 62 = .ok (.iload_n 2, 1) := by decide +kernel
theorem dM_errandAt_63 : decode mM_errandAt.2.1 63 = .ok (.iconst 1, 1) := by decide +kernel
theorem dM_errandAt_64 : decode mM_errandAt.2.1 64 = .ok (.iadd, 1) := by decide +kernel
theorem dM_errandAt_65 : decode mM_errandAt.2.1 65 = .ok (.if_icmp .le 20, 3) := by decide +kernel
theorem dM_errandAt_68 : decode mM_errandAt.2.1 68 = .ok (.aload_n 0, 1) := by decide +kernel
theorem dM_errandAt_69 : decode mM_errandAt.2.1 69 = .ok (.getfield 34, 3) := by decide +kernel
theorem dM_errandAt_72 : decode mM_errandAt.2.1 72 = .ok (.iload 4, 2) := by decide +kernel
theorem dM_errandAt_74 : decode mM_errandAt.2.1 74 = .ok (.iaload, 1) := by decide +kernel
theorem dM_errandAt_75 : decode mM_errandAt.2.1 75 = .ok (.aload_n 0, 1) := by decide +kernel
theorem dM_errandAt_76 : decode mM_errandAt.2.1 76 = .ok (.invokevirtual 336, 3) := by decide +kernel
theorem dM_errandAt_79 : decode mM_errandAt.2.1 79 = .ok (.idiv, 1) := by decide +kernel
theorem dM_errandAt_80 : decode mM_errandAt.2.1 80 = .ok (.istore 4, 2) := by decide +kernel
theorem dM_errandAt_82 : decode mM_errandAt.2.1 82 = .ok (.goto (-27), 3) := by decide +kernel
theorem dM_errandAt_85 : decode mM_errandAt.2.1 85 = .ok (.aload_n 0, 1) := by decide +kernel
theorem dM_errandAt_86 : decode mM_errandAt.2.1 86 = .ok (.aload_n 0, 1) := by decide +kernel
theorem dM_errandAt_87 : decode mM_errandAt.2.1 87 = .ok (.getfield 34, 3) := by decide +kernel
theorem dM_errandAt_90 : decode mM_errandAt.2.1 90 = .ok (.iload 4, 2) := by decide +kernel
theorem dM_errandAt_92 : decode mM_errandAt.2.1 92 = .ok (.iaload, 1) := by decide +kernel
theorem dM_errandAt_93 : decode mM_errandAt.2.1 93 = .ok (.aload_n 0, 1) := by decide +kernel
theorem dM_errandAt_94 : decode mM_errandAt.2.1 94 = .ok (.invokevirtual 336, 3) := by decide +kernel
theorem dM_errandAt_97 : decode mM_errandAt.2.1 97 = .ok (.irem, 1) := by decide +kernel
theorem dM_errandAt_98 : decode mM_errandAt.2.1 98 = .ok (.invokevirtual 56, 3) := by decide +kernel
theorem dM_errandAt_101 : decode mM_errandAt.2.1 101 = .ok (.ireturn, 1) := by decide +kernel
theorem dM_wayTo_0 : decode mM_wayTo.2.1 0 = .ok (.aload_n 0, 1) := by decide +kernel
theorem dM_wayTo_1 : decode mM_wayTo.2.1 1 = .ok (.iconst 0, 1) := by decide +kernel
theorem dM_wayTo_2 : decode mM_wayTo.2.1 2 = .ok (.putfield 46, 3) := by decide +kernel
theorem dM_wayTo_5 : decode mM_wayTo.2.1 5 = .ok (.aload_n 0, 1) := by decide +kernel
theorem dM_wayTo_6 : decode mM_wayTo.2.1 6 = .ok (.iload_n 1, 1) := by decide +kernel
theorem dM_wayTo_7 : decode mM_wayTo.2.1 7 = .ok (.invokevirtual 361, 3) := by decide +kernel
theorem dM_wayTo_10 : decode mM_wayTo.2.1 10 = .ok (.ifCond .eq 18, 3) := by decide +kernel
theorem dM_wayTo_13 : decode mM_wayTo.2.1 13 = .ok (.iload_n 2, 1) := by decide +kernel
theorem dM_wayTo_14 : decode mM_wayTo.2.1 14 = .ok (.ifCond .lt 14, 3) := by decide +kernel
theorem dM_wayTo_17 : decode mM_wayTo.2.1 17 = .ok (.iload_n 2, 1) := by decide +kernel
theorem dM_wayTo_18 : decode mM_wayTo.2.1 18 = .ok (.aload_n 0, 1) := by decide +kernel
theorem dM_wayTo_19 : decode mM_wayTo.2.1 19 = .ok (.getfield 281, 3) := by decide +kernel
theorem dM_wayTo_22 : decode mM_wayTo.2.1 22 = .ok (.getfield 183, 3) := by decide +kernel
theorem dM_wayTo_25 : decode mM_wayTo.2.1 25 = .ok (.if_icmp .le 9, 3) := by decide +kernel
theorem dM_wayTo_28 : decode mM_wayTo.2.1 28 = .ok (.aload_n 0, 1) := by decide +kernel
theorem dM_wayTo_29 : decode mM_wayTo.2.1 29 = .ok (.iconst 1, 1) := by decide +kernel
theorem dM_wayTo_30 : decode mM_wayTo.2.1 30 = .ok (.invokevirtual 52, 3) := by decide +kernel
theorem dM_wayTo_33 : decode mM_wayTo.2.1 33 = .ok (.ireturn, 1) := by decide +kernel
theorem dM_wayTo_34 : decode mM_wayTo.2.1 34 = .ok (.aload_n 0, 1) := by decide +kernel
theorem dM_wayTo_35 : decode mM_wayTo.2.1 35 = .ok (.invokevirtual 373, 3) := by decide +kernel
theorem dM_wayTo_38 : decode mM_wayTo.2.1 38 = .ok (.iconst 0, 1) := by decide +kernel
theorem dM_wayTo_39 : decode mM_wayTo.2.1 39 = .ok (.istore_n 3, 1) := by decide +kernel
theorem dM_wayTo_40 : decode mM_wayTo.2.1 40 = .ok (.iload_n 3, 1) := by decide +kernel
theorem dM_wayTo_41 : decode mM_wayTo.2.1 41 = .ok (.aload_n 0, 1) := by decide +kernel
theorem dM_wayTo_42 : decode mM_wayTo.2.1 42 = .ok (.getfield 333, 3) := by decide +kernel
theorem dM_wayTo_45 : decode mM_wayTo.2.1 45 = .ok (.if_icmp .ge 45, 3) := by decide +kernel
theorem dM_wayTo_48 : decode mM_wayTo.2.1 48 = .ok (.aload_n 0, 1) := by decide +kernel
theorem dM_wayTo_49 : decode mM_wayTo.2.1 49 = .ok (.aload_n 0, 1) := by decide +kernel
theorem dM_wayTo_50 : decode mM_wayTo.2.1 50 = .ok (.getfield 37, 3) := by decide +kernel
theorem dM_wayTo_53 : decode mM_wayTo.2.1 53 = .ok (.iload_n 3, 1) := by decide +kernel
theorem dM_wayTo_54 : decode mM_wayTo.2.1 54 = .ok (.iaload, 1) := by decide +kernel
theorem dM_wayTo_55 : decode mM_wayTo.2.1 55 = .ok (.invokevirtual 339, 3) := by decide +kernel
theorem dM_wayTo_58 : decode mM_wayTo.2.1 58 = .ok (.aload_n 0, 1) := by decide +kernel
theorem dM_wayTo_59 : decode mM_wayTo.2.1 59 = .ok (.getfield 21, 3) := by decide +kernel
theorem dM_wayTo_62 : decode mM_wayTo.2.1 62 = .ok (.iload_n 1, 1) := by decide +kernel
theorem dM_wayTo_63 : decode mM_wayTo.2.1 63 = .ok (.iaload, 1) := by decide +kernel
theorem dM_wayTo_64 : decode mM_wayTo.2.1 64 = .ok (.iload_n 2, 1) := by decide +kernel
theorem dM_wayTo_65 : decode mM_wayTo.2.1 65 = .ok (.if_icmp .ne 19, 3) := by decide +kernel
theorem dM_wayTo_68 : decode mM_wayTo.2.1 68 = .ok (.aload_n 0, 1) := by decide +kernel
theorem dM_wayTo_69 : decode mM_wayTo.2.1 69 = .ok (.aload_n 0, 1) := by decide +kernel
theorem dM_wayTo_70 : decode mM_wayTo.2.1 70 = .ok (.getfield 31, 3) := by decide +kernel
theorem dM_wayTo_73 : decode mM_wayTo.2.1 73 = .ok (.aload_n 0, 1) := by decide +kernel
theorem dM_wayTo_74 : decode mM_wayTo.2.1 74 = .ok (.getfield 37, 3) := by decide +kernel
theorem dM_wayTo_77 : decode mM_wayTo.2.1 77 = .ok (.iload_n 3, 1) := by decide +kernel
theorem dM_wayTo_78 : decode mM_wayTo.2.1 78 = .ok (.iaload, 1) := by decide +kernel
theorem dM_wayTo_79 : decode mM_wayTo.2.1 79 = .ok (.iaload, 1) := by decide +kernel
theorem dM_wayTo_80 : decode mM_wayTo.2.1 80 = .ok (.invokevirtual 56, 3) := by decide +kernel
theorem dM_wayTo_83 : decode mM_wayTo.2.1 83 = .ok (.ireturn, 1) := by decide +kernel
theorem dM_wayTo_84 : decode mM_wayTo.2.1 84 = .ok (.iinc 3 1, 3) := by decide +kernel
theorem dM_wayTo_87 : decode mM_wayTo.2.1 87 = .ok (.goto (-47), 3) := by decide +kernel
theorem dM_wayTo_90 : decode mM_wayTo.2.1 90 = .ok (.aload_n 0, 1) := by decide +kernel
theorem dM_wayTo_91 : decode mM_wayTo.2.1 91 = .ok (.bipush (-2), 2) := by decide +kernel
theorem dM_wayTo_93 : decode mM_wayTo.2.1 93 = .ok (.invokevirtual 56, 3) := by decide +kernel
theorem dM_wayTo_96 : decode mM_wayTo.2.1 96 = .ok (.ireturn, 1) := by decide +kernel
theorem dM_comes_0 : decode mM_comes.2.1 0 = .ok (.aload_n 0, 1) := by decide +kernel
theorem dM_comes_1 : decode mM_comes.2.1 1 = .ok (.iconst 0, 1) := by decide +kernel
theorem dM_comes_2 : decode mM_comes.2.1 2 = .ok (.putfield 46, 3) := by decide +kernel
theorem dM_comes_5 : decode mM_comes.2.1 5 = .ok (.aload_n 0, 1) := by decide +kernel
theorem dM_comes_6 : decode mM_comes.2.1 6 = .ok (.iload_n 1, 1) := by decide +kernel
theorem dM_comes_7 : decode mM_comes.2.1 7 = .ok (.invokevirtual 361, 3) := by decide +kernel
theorem dM_comes_10 : decode mM_comes.2.1 10 = .ok (.ifCond .ne 9, 3) := by decide +kernel
theorem dM_comes_13 : decode mM_comes.2.1 13 = .ok (.aload_n 0, 1) := by decide +kernel
theorem dM_comes_14 : decode mM_comes.2.1 14 = .ok (.iconst 1, 1) := by decide +kernel
theorem dM_comes_15 : decode mM_comes.2.1 15 = .ok (.invokevirtual 52, 3) := by decide +kernel
theorem dM_comes_18 : decode mM_comes.2.1 18 = .ok (.ireturn, 1) := by decide +kernel
theorem dM_comes_19 : decode mM_comes.2.1 19 = .ok (.aload_n 0, 1) := by decide +kernel
theorem dM_comes_20 : decode mM_comes.2.1 20 = .ok (.invokevirtual 373, 3) := by decide +kernel
theorem dM_comes_23 : decode mM_comes.2.1 23 = .ok (.iconst 0, 1) := by decide +kernel
theorem dM_comes_24 : decode mM_comes.2.1 24 = .ok (.istore_n 2, 1) := by decide +kernel
theorem dM_comes_25 : decode mM_comes.2.1 25 = .ok (.iconst 0, 1) := by decide +kernel
theorem dM_comes_26 : decode mM_comes.2.1 26 = .ok (.istore_n 3, 1) := by decide +kernel
theorem dM_comes_27 : decode mM_comes.2.1 27 = .ok (.iload_n 3, 1) := by decide +kernel
theorem dM_comes_28 : decode mM_comes.2.1 28 = .ok (.aload_n 0, 1) := by decide +kernel
theorem dM_comes_29 : decode mM_comes.2.1 29 = .ok (.getfield 333, 3) := by decide +kernel
theorem dM_comes_32 : decode mM_comes.2.1 32 = .ok (.if_icmp .ge 30, 3) := by decide +kernel
theorem dM_comes_35 : decode mM_comes.2.1 35 = .ok (.aload_n 0, 1) := by decide +kernel
theorem dM_comes_36 : decode mM_comes.2.1 36 = .ok (.aload_n 0, 1) := by decide +kernel
theorem dM_comes_37 : decode mM_comes.2.1 37 = .ok (.getfield 37, 3) := by decide +kernel
theorem dM_comes_40 : decode mM_comes.2.1 40 = .ok (.iload_n 3, 1) := by decide +kernel
theorem dM_comes_41 : decode mM_comes.2.1 41 = .ok (.iaload, 1) := by decide +kernel
theorem dM_comes_42 : decode mM_comes.2.1 42 = .ok (.invokevirtual 339, 3) := by decide +kernel
theorem dM_comes_45 : decode mM_comes.2.1 45 = .ok (.iload_n 2, 1) := by decide +kernel
theorem dM_comes_46 : decode mM_comes.2.1 46 = .ok (.iconst 1, 1) := by decide +kernel
theorem dM_comes_47 : decode mM_comes.2.1 47 = .ok (.aload_n 0, 1) := by decide +kernel
theorem dM_comes_48 : decode mM_comes.2.1 48 = .ok (.getfield 21, 3) := by decide +kernel
theorem dM_comes_51 : decode mM_comes.2.1 51 = .ok (.iload_n 1, 1) := by decide +kernel
theorem dM_comes_52 : decode mM_comes.2.1 52 = .ok (.iaload, 1) := by decide +kernel
theorem dM_comes_53 : decode mM_comes.2.1 53 = .ok (.ishl, 1) := by decide +kernel
theorem dM_comes_54 : decode mM_comes.2.1 54 = .ok (.ior, 1) := by decide +kernel
theorem dM_comes_55 : decode mM_comes.2.1 55 = .ok (.istore_n 2, 1) := by decide +kernel
theorem dM_comes_56 : decode mM_comes.2.1 56 = .ok (.iinc 3 1, 3) := by decide +kernel
theorem dM_comes_59 : decode mM_comes.2.1 59 = .ok (.goto (-32), 3) := by decide +kernel
theorem dM_comes_62 : decode mM_comes.2.1 62 = .ok (.aload_n 0, 1) := by decide +kernel
theorem dM_comes_63 : decode mM_comes.2.1 63 = .ok (.iload_n 2, 1) := by decide +kernel
theorem dM_comes_64 : decode mM_comes.2.1 64 = .ok (.invokevirtual 56, 3) := by decide +kernel
theorem dM_comes_67 : decode mM_comes.2.1 67 = .ok (.ireturn, 1) := by decide +kernel
theorem dM_reach_0 : decode mM_reach.2.1 0 = .ok (.aload_n 0, 1) := by decide +kernel
theorem dM_reach_1 : decode mM_reach.2.1 1 = .ok (.iconst 0, 1) := by decide +kernel
theorem dM_reach_2 : decode mM_reach.2.1 2 = .ok (.putfield 46, 3) := by decide +kernel
theorem dM_reach_5 : decode mM_reach.2.1 5 = .ok (.aload_n 0, 1) := by decide +kernel
theorem dM_reach_6 : decode mM_reach.2.1 6 = .ok (.getfield 281, 3) := by decide +kernel
theorem dM_reach_9 : decode mM_reach.2.1 9 = .ok (.ifnonnull 9, 3) := by decide +kernel
theorem dM_reach_12 : decode mM_reach.2.1 12 = .ok (.aload_n 0, 1) := by decide +kernel
theorem dM_reach_13 : decode mM_reach.2.1 13 = .ok (.iconst 1, 1) := by decide +kernel
theorem dM_reach_14 : decode mM_reach.2.1 14 = .ok (.invokevirtual 52, 3) := by decide +kernel
theorem dM_reach_17 : decode mM_reach.2.1 17 = .ok (.ireturn, 1) := by decide +kernel
theorem dM_reach_18 : decode mM_reach.2.1 18 = .ok (.aload_n 0, 1) := by decide +kernel
theorem dM_reach_19 : decode mM_reach.2.1 19 = .ok (.invokevirtual 373, 3) := by decide +kernel
theorem dM_reach_22 : decode mM_reach.2.1 22 = .ok (.aload_n 0, 1) := by decide +kernel
theorem dM_reach_23 : decode mM_reach.2.1 23 = .ok (.aload_n 0, 1) := by decide +kernel
theorem dM_reach_24 : decode mM_reach.2.1 24 = .ok (.getfield 333, 3) := by decide +kernel
theorem dM_reach_27 : decode mM_reach.2.1 27 = .ok (.invokevirtual 56, 3) := by decide +kernel
theorem dM_reach_30 : decode mM_reach.2.1 30 = .ok (.ireturn, 1) := by decide +kernel
theorem dM_deepest_0 : decode mM_deepest.2.1 0 = .ok (.aload_n 0, 1) := by decide +kernel
theorem dM_deepest_1 : decode mM_deepest.2.1 1 = .ok (.iconst 0, 1) := by decide +kernel
theorem dM_deepest_2 : decode mM_deepest.2.1 2 = .ok (.putfield 46, 3) := by decide +kernel
theorem dM_deepest_5 : decode mM_deepest.2.1 5 = .ok (.aload_n 0, 1) := by decide +kernel
theorem dM_deepest_6 : decode mM_deepest.2.1 6 = .ok (.getfield 281, 3) := by decide +kernel
theorem dM_deepest_9 : decode mM_deepest.2.1 9 = .ok (.ifnonnull 9, 3) := by decide +kernel
theorem dM_deepest_12 : decode mM_deepest.2.1 12 = .ok (.aload_n 0, 1) := by decide +kernel
theorem dM_deepest_13 : decode mM_deepest.2.1 13 = .ok (.iconst 1, 1) := by decide +kernel
theorem dM_deepest_14 : decode mM_deepest.2.1 14 = .ok (.invokevirtual 52, 3) := by decide +kernel
theorem dM_deepest_17 : decode mM_deepest.2.1 17 = .ok (.ireturn, 1) := by decide +kernel
theorem dM_deepest_18 : decode mM_deepest.2.1 18 = .ok (.aload_n 0, 1) := by decide +kernel
theorem dM_deepest_19 : decode mM_deepest.2.1 19 = .ok (.invokevirtual 373, 3) := by decide +kernel
theorem dM_deepest_22 : decode mM_deepest.2.1 22 = .ok (.aload_n 0, 1) := by decide +kernel
theorem dM_deepest_23 : decode mM_deepest.2.1 23 = .ok (.aload_n 0, 1) := by decide +kernel
theorem dM_deepest_24 : decode mM_deepest.2.1 24 = .ok (.getfield 31, 3) := by decide +kernel
theorem dM_deepest_27 : decode mM_deepest.2.1 27 = .ok (.aload_n 0, 1) := by decide +kernel
theorem dM_deepest_28 : decode mM_deepest.2.1 28 = .ok (.getfield 37, 3) := by decide +kernel
theorem dM_deepest_31 : decode mM_deepest.2.1 31 = .ok (.aload_n 0, 1) := by decide +kernel
theorem dM_deepest_32 : decode mM_deepest.2.1 32 = .ok (.getfield 333, 3) := by decide +kernel
theorem dM_deepest_35 : decode mM_deepest.2.1 35 = .ok (.iconst 1, 1) := by decide +kernel
theorem dM_deepest_36 : decode mM_deepest.2.1 36 = .ok (.isub, 1) := by decide +kernel
theorem dM_deepest_37 : decode mM_deepest.2.1 37 = .ok (.iaload, 1) := by decide +kernel
theorem dM_deepest_38 : decode mM_deepest.2.1 38 = .ok (.iaload, 1) := by decide +kernel
theorem dM_deepest_39 : decode mM_deepest.2.1 39 = .ok (.invokevirtual 56, 3) := by decide +kernel
theorem dM_deepest_42 : decode mM_deepest.2.1 42 = .ok (.ireturn, 1) := by decide +kernel
theorem m3 {K : Option AV → Mem → Prop} {V : Nat → Nat → Int} {σ : Shp} {l : Nat} {S : PS} {s n : Prop} [Decidable s] [Decidable n] {r d : Int} (f : Int → AV) (hK : MK K V σ l (setR S (wy s n)) (some (f (rfD (wy s n) r d)))) : (s → n → MK K V σ l (setR S 0) (some (f r))) ∧ (¬ s → MK K V σ l (setR S 1) (some (f d))) ∧ (s → ¬ n → MK K V σ l (setR S 2) (some (f d))) :=
  ⟨fun a b => by rw [wy_1 a b] at hK; exact hK, fun a => by rw [wy_2 a] at hK; exact hK, fun a b => by rw [wy_3 a b] at hK; exact hK⟩
theorem bsum_all {f : Nat → Bool} : ∀ {k : Nat}, (∀ p, p < k → f p = true) → bsum f k = 2 ^ k - 1
  | 0, _ => rfl
  | k + 1, h => by
    have h1 := bsum_all (k := k) (fun p hp => h p (by omega))
    have h2 : 0 < 2 ^ k := Nat.pow_pos (by decide)
    rw [bsum, h1, if_pos (h k (by omega)), Nat.pow_succ]
    omega
theorem inP_all_iff {c : Cfg} {n : Nat} : inP c n 0 = allP c ↔ ∀ p, p < pN c → pl c n p = 0 := by
  constructor
  · intro h p hp
    have h1 : (inP c n 0).testBit p = (allP c).testBit p := by rw [h]
    rw [allP_bit hp] at h1
    unfold inP at h1
    rw [bsum_tb, decide_eq_true hp, Bool.true_and] at h1
    exact beq_iff_eq.mp h1
  · intro h
    exact bsum_all fun p hp => beq_iff_eq.mpr (h p hp)
/-- where somebody must be -/
def muP (T : TL) (w : Int) (p : Nat) : Int := if w = 2 then 0 else if w = 1 then tHo T p else tWi T p
theorem all2 {k : Nat} (hk : k ≤ 2) {Q : Nat → Prop} : ((0 < k → Q 0) ∧ (1 < k → Q 1)) ↔ ∀ p, p < k → Q p :=
  ⟨fun h p hp => by
    rcases (show p = 0 ∨ p = 1 by omega) with e | e
    · subst e; exact h.1 hp
    · subst e; exact h.2 hp, fun h => ⟨h 0, h 1⟩⟩
theorem goN_iff {S : PS} {w : Int} {q : Nat × Nat} (hc : okC (psC S)) : fitP (psC S) (goN S w) q = true ↔ ∀ p, p < pN (psC S) → muP (psT S) w p = -2 ∨ (pl (psC S) q.1 p : Int) = muP (psT S) w p :=
  (fitP_iff (c := psC S) hc).trans (all2 (Q := fun p => muP (psT S) w p = -2 ∨ (pl (psC S) q.1 p : Int) = muP (psT S) w p) hc.2.1)
theorem plW_iff {S : PS} {p r : Nat} {q : Nat × Nat} (hc : okC (psC S)) (hp : p < pN (psC S)) : fitP (psC S) (plW S p r) q = (pl (psC S) q.1 p == r) := by
  have h2 : pN (psC S) ≤ 2 := hc.2.1
  have h := fitP_iff (c := psC S) (f := if (p : Int) = 0 then (r : Int) else -2) (s := if (p : Int) = 1 then (r : Int) else -2) (q := q) hc
  have h' : fitP (psC S) (plW S p r) q = true ↔ pl (psC S) q.1 p = r := by
    refine h.trans ?_
    rcases (show p = 0 ∨ p = 1 by omega) with e | e
    · subst e
      rw [if_pos (show ((0 : Nat) : Int) = 0 from rfl), if_neg (show ¬ ((0 : Nat) : Int) = 1 by decide)]
      exact ⟨fun a => by rcases a.1 hp with b | b <;> omega, fun a => ⟨fun _ => Or.inr (by omega), fun _ => Or.inl rfl⟩⟩
    · subst e
      rw [if_neg (show ¬ ((1 : Nat) : Int) = 0 by decide), if_pos (show ((1 : Nat) : Int) = 1 from rfl)]
      exact ⟨fun a => by rcases a.2 hp with b | b <;> omega, fun a => ⟨fun _ => Or.inl rfl, fun _ => Or.inr (by omega)⟩⟩
  by_cases e : pl (psC S) q.1 p = r
  · rw [h'.mpr e, beq_iff_eq.mpr e]
  · rw [Bool.eq_false_iff.mpr (fun a => e (h'.mp a)), beq_eq_false_iff_ne.mpr e]
theorem RQ.dp {V : Nat → Nat → Int} {c : Cfg} {L : List (Nat × Nat)} (h : RQ V c L) (ho : okQ c L) : ∀ (i : Nat) (q : Nat × Nat), L[i]? = some q → V 59 (mnN c q.1) = dpE L i := by
  intro i
  induction i using Nat.strongRecOn with
  | ind i ih =>
    intro q hq
    have hl := (List.getElem?_eq_some_iff.mp hq).1
    obtain ⟨-, r2, -, r4⟩ := h.2.2 i q hq
    unfold dpE
    obtain ⟨f, hf⟩ : ∃ f, L.length = f + 1 := ⟨L.length - 1, by omega⟩
    rw [hf]
    show _ = ((if i = 0 then 0 else dpL L f (parL L i) + 1 : Nat) : Int)
    by_cases e : i = 0
    · rw [if_pos e, r2 e]; rfl
    · rw [if_neg e, parL_some hq]
      obtain ⟨q0, k, s1, s2, -⟩ := r4 (by omega)
      have hlt := (ho.2.2 i q hq).2 (by omega)
      rw [s2, ih q.2 hlt q0 s1]
      unfold dpE
      rw [dpL_fuel ho.2.2 L.length f q.2 (by omega) (by omega) (by omega)]
      rfl
theorem erF_s {c : Cfg} {n P i : Nat} (h : ffO c P (fuS c n).1 = some i) : erF c n P = dpE (fuS c n).1 i := by unfold erF; rw [h]
theorem erF_n {c : Cfg} {n P : Nat} (h : ffO c P (fuS c n).1 = none) : erF c n P = -2 := by unfold erF; rw [h]
theorem ffO_all {c : Cfg} {P : Nat} {L : List (Nat × Nat)} (h : ∀ (j : Nat) q, L[j]? = some q → fitP c P q = false) : ffO c P L = none := ffO_none (List.any_eq_false.mpr fun q hq => by
  obtain ⟨i, hi⟩ := List.mem_iff_getElem?.mp hq
  rw [h i q hi]
  exact Bool.false_ne_true)
theorem fu_len {c : Cfg} {n : Nat} (hn : n < spc c) : 0 < (fuS c n).1.length := by
  obtain ⟨M, hM⟩ := it_pre hn 0
  rw [hM, List.length_append]
  show 0 < 1 + M.length
  omega
section Mod15
variable {G : GE} {V : Nat → Nat → Int} {σ : Shp} {K : Option AV → Mem → Prop} {l : Nat} {c : Cfg} {n : Nat} {S : PS}
theorem wM_isDone {w : Int} (hw : 0 ≤ w ∧ w ≤ 2) (hM : moS σ l) (hl : laS σ l) (hC : LC V l (psC S)) (hL : LV V l (psT S)) (hA : AR (V 56) (psC S) n) (hc : okC (psC S)) (h1 : fitP (psC S) (goN S w) (n, 0) = true → K (some (vI 1)) (V, σ)) (h0 : fitP (psC S) (goN S w) (n, 0) = false → K (some (vI 0)) (V, σ)) : Wp G 1 mM_isDone [vR 53, vI w] (V, σ) 0 0 K := by
  have g1 : (∀ p, p < pN (psC S) → muP (psT S) w p = -2 ∨ (pl (psC S) n p : Int) = muP (psT S) w p) → K (some (vI 1)) (V, σ) := fun a => h1 ((goN_iff (q := (n, 0)) hc).mpr a)
  have g0 : ¬ (∀ p, p < pN (psC S) → muP (psT S) w p = -2 ∨ (pl (psC S) n p : Int) = muP (psT S) w p) → K (some (vI 0)) (V, σ) := fun a => h0 (Bool.eq_false_iff.mpr fun b => a ((goN_iff (q := (n, 0)) hc).mp b))
  have hal := inP_all_iff (c := psC S) (n := n)
  have e2 : w = 2 → ((∀ p, p < pN (psC S) → muP (psT S) w p = -2 ∨ (pl (psC S) n p : Int) = muP (psT S) w p) ↔ ∀ p, p < pN (psC S) → pl (psC S) n p = 0) := fun e => by
    have ez : ∀ p, muP (psT S) w p = 0 := fun p => by unfold muP; rw [if_pos e]
    simp only [ez]
    exact ⟨fun a p hp => by rcases a p hp with b | b <;> omega, fun a p hp => Or.inr (by rw [a p hp]; rfl)⟩
  have e1 : w = 1 → muP (psT S) w = plS 0 (psT S) := fun e => by funext p; unfold muP plS; rw [if_neg (by omega), if_pos e, if_pos rfl]
  have e0 : w = 0 → muP (psT S) w = plS 1 (psT S) := fun e => by funext p; unfold muP plS; rw [if_neg (by omega), if_neg (by omega), if_neg (by decide), if_pos rfl]
  refine wp_intro mM_isDone_i.1 [some (vR 53), some (vI w)] rfl rfl (Nat.le_of_ble_eq_true rfl) ?_
  intro X hG F C
  have hm := C.rm
  refine aw_iload_1 (q := 1) F dM_isDone_0 rfl ?_
  refine aw_iconst (q := 2) F dM_isDone_1 rfl (by decide) ?_
  refine aw_icmp_ne (q := 5) (t := 24) F dM_isDone_2 rfl (by decide) (fun c2 => ?_) (fun c2 => ?_)
  · refine aw_aload_0 (q := 25) F dM_isDone_24 rfl ?_
    refine aw_iload_1 (q := 26) F dM_isDone_25 rfl ?_
    refine aw_if_ne (q := 29) (t := 33) F dM_isDone_26 rfl (by decide) (fun c26 => ?_) (fun c26 => ?_)
    · refine aw_iconst (q := 34) F dM_isDone_33 rfl (by decide) ?_
      refine av_callV1 (q := 37) (ci := 9) F hm mM_areThere_i mM_areThere_n lM_370 dM_isDone_34 rfl rfl rfl (by first | exact hM.o | exact hl.o | exact hM.a55 | exact hM.a56 | exact hM.a59 | exact hM.a60 | exact hM.a61 | exact hM.a62 | exact hl.a4) (by decide) (Nat.le_refl _) (Nat.le_refl _) (Nat.le_of_ble_eq_true rfl) (wM_areThere (s := (0)) rfl (by decide) hM hl hC hA hc (P := muP (psT S) w) (fun p hp => by first | (rw [e0 (by omega)]; exact hL.2.2.2.1 1 p (by decide) hp) | (rw [e1 (by omega)]; exact hL.2.2.2.1 0 p (by decide) hp)) (fun c34 => ?_) (fun c34 => ?_))
      · refine aw_zret F C dM_isDone_37 rfl (by decide) (Nat.le_refl _) (Nat.le_refl _) ?_
        first | exact g1 c34 | exact g1 ((e2 (by omega)).mpr (hal.mp (by omega)))
      · refine aw_zret F C dM_isDone_37 rfl (by decide) (Nat.le_refl _) (Nat.le_refl _) ?_
        first | exact g0 c34 | exact g0 (fun a => c13 (by rw [hal.mpr ((e2 (by omega)).mp a)]))
    · refine aw_iconst (q := 30) F dM_isDone_29 rfl (by decide) ?_
      refine aw_goto (t := 34) F dM_isDone_30 (by decide) ?_
      refine av_callV1 (q := 37) (ci := 9) F hm mM_areThere_i mM_areThere_n lM_370 dM_isDone_34 rfl rfl rfl (by first | exact hM.o | exact hl.o | exact hM.a55 | exact hM.a56 | exact hM.a59 | exact hM.a60 | exact hM.a61 | exact hM.a62 | exact hl.a4) (by decide) (Nat.le_refl _) (Nat.le_refl _) (Nat.le_of_ble_eq_true rfl) (wM_areThere (s := (1)) rfl (by decide) hM hl hC hA hc (P := muP (psT S) w) (fun p hp => by first | (rw [e0 (by omega)]; exact hL.2.2.2.1 1 p (by decide) hp) | (rw [e1 (by omega)]; exact hL.2.2.2.1 0 p (by decide) hp)) (fun c34 => ?_) (fun c34 => ?_))
      · refine aw_zret F C dM_isDone_37 rfl (by decide) (Nat.le_refl _) (Nat.le_refl _) ?_
        first | exact g1 c34 | exact g1 ((e2 (by omega)).mpr (hal.mp (by omega)))
      · refine aw_zret F C dM_isDone_37 rfl (by decide) (Nat.le_refl _) (Nat.le_refl _) ?_
        first | exact g0 c34 | exact g0 (fun a => c13 (by rw [hal.mpr ((e2 (by omega)).mp a)]))
  · refine aw_aload_0 (q := 6) F dM_isDone_5 rfl ?_
    refine av_callV0 (q := 9) (ci := 9) F hm mM_inLane_i mM_inLane_n lM_299 dM_isDone_6 rfl rfl rfl (by first | exact hM.o | exact hl.o | exact hM.a55 | exact hM.a56 | exact hM.a59 | exact hM.a60 | exact hM.a61 | exact hM.a62 | exact hl.a4) (by decide) (Nat.le_refl _) (Nat.le_refl _) (Nat.le_of_ble_eq_true rfl) (wM_inLane hM hl hC hA hc ?_)
    refine aw_aload_0 (q := 10) F dM_isDone_9 rfl ?_
    refine av_callV0 (q := 13) (ci := 9) F hm mM_all_i mM_all_n lM_308 dM_isDone_10 rfl rfl rfl (by first | exact hM.o | exact hl.o | exact hM.a55 | exact hM.a56 | exact hM.a59 | exact hM.a60 | exact hM.a61 | exact hM.a62 | exact hl.a4) (by decide) (Nat.le_refl _) (Nat.le_refl _) (Nat.le_of_ble_eq_true rfl) (wM_all hM hl hC hc ?_)
    refine aw_icmp_ne (q := 16) (t := 20) F dM_isDone_13 rfl (by decide) (fun c13 => ?_) (fun c13 => ?_)
    · refine aw_iconst (q := 21) F dM_isDone_20 rfl (by decide) ?_
      refine aw_goto (t := 37) F dM_isDone_21 (by decide) ?_
      refine aw_zret F C dM_isDone_37 rfl (by decide) (Nat.le_refl _) (Nat.le_refl _) ?_
      first | exact g0 c34 | exact g0 (fun a => c13 (by rw [hal.mpr ((e2 (by omega)).mp a)]))
    · refine aw_iconst (q := 17) F dM_isDone_16 rfl (by decide) ?_
      refine aw_goto (t := 37) F dM_isDone_17 (by decide) ?_
      refine aw_zret F C dM_isDone_37 rfl (by decide) (Nat.le_refl _) (Nat.le_refl _) ?_
      first | exact g1 c34 | exact g1 ((e2 (by omega)).mpr (hal.mp (by omega)))
theorem wM_refusesWhat {x : Int} (h : MW V σ l S) (h0 : 0 < tDn (psT S) → 0 ≤ x ∧ x ≤ 2 → K (some (vI 0)) (V, σ)) (h1 : ¬ 0 < tDn (psT S) → K (some (vI 1)) (V, σ)) (h2 : 0 < tDn (psT S) → ¬ (0 ≤ x ∧ x ≤ 2) → K (some (vI 2)) (V, σ)) : Wp G 1 mM_refusesWhat [vR 53, vI x] (V, σ) 0 0 K := by
  have hM := h.mo
  refine wp_intro mM_refusesWhat_i.1 [some (vR 53), some (vI x)] rfl rfl (Nat.le_of_ble_eq_true rfl) ?_
  intro X hG F C
  have hm := C.rm
  refine aw_aload_0 (q := 1) F dM_refusesWhat_0 rfl ?_
  refine av_getaE (q := 4) F fM_281 dM_refusesWhat_1 rfl rfl (by first | exact hM.o | exact hl.o | exact hM.a55 | exact hM.a56 | exact hM.a59 | exact hM.a60 | exact hM.a61 | exact hM.a62 | exact hl.a4) hM.p3 ?_
  refine aw_ifnonnull (q := 7) (t := 11) F dM_refusesWhat_4 rfl (by decide) (fun c4 => ?_) (fun c4 => ?_)
  · refine aw_iload_1 (q := 12) F dM_refusesWhat_11 rfl ?_
    refine aw_iconst (q := 13) F dM_refusesWhat_12 rfl (by decide) ?_
    refine aw_iconst (q := 14) F dM_refusesWhat_13 rfl (by decide) ?_
    refine av_callS3 (q := 17) F hm mM_in_i mM_in_n lM_357 dM_refusesWhat_14 rfl (by decide) (Nat.le_refl _) (Nat.le_refl _) (Nat.le_of_ble_eq_true rfl) (wM_in (fun c14 => ?_) (fun c14 => ?_))
    · refine aw_if_eq (q := 20) (t := 24) F dM_refusesWhat_17 rfl (by decide) (fun c17 => absurd c17 (by decide)) (fun c17 => ?_)
      refine aw_iconst (q := 21) F dM_refusesWhat_20 rfl (by decide) ?_
      refine aw_goto (t := 25) F dM_refusesWhat_21 (by decide) ?_
      refine aw_iret F C dM_refusesWhat_25 rfl (Nat.le_refl _) (Nat.le_refl _) ?_
      exact h0 (h.pos c4) c14
    · refine aw_if_eq (q := 20) (t := 24) F dM_refusesWhat_17 rfl (by decide) (fun c17 => ?_) (fun c17 => absurd c17 (by decide))
      refine aw_iconst (q := 25) F dM_refusesWhat_24 rfl (by decide) ?_
      refine aw_iret F C dM_refusesWhat_25 rfl (Nat.le_refl _) (Nat.le_refl _) ?_
      exact h2 (h.pos c4) c14
  · refine aw_iconst (q := 8) F dM_refusesWhat_7 rfl (by decide) ?_
    refine aw_goto (t := 25) F dM_refusesWhat_8 (by decide) ?_
    refine aw_iret F C dM_refusesWhat_25 rfl (Nat.le_refl _) (Nat.le_refl _) ?_
    exact h1 (by rw [h.zer c4]; decide)
end Mod15
