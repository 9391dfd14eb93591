theorem dM_blown_0 : decode mM_blown.2.1 0 = .ok (.aload_n 0, 1) := by decide +kernel
theorem dM_blown_1 : decode mM_blown.2.1 1 = .ok (.invokevirtual 348, 3) := by decide +kernel
theorem dM_blown_4 : decode mM_blown.2.1 4 = .ok (.lconst 1, 1) := by decide +kernel
theorem dM_blown_5 : decode mM_blown.2.1 5 = .ok (.lstore_n 3, 1) := by decide +kernel
theorem dM_blown_6 : decode mM_blown.2.1 6 = .ok (.iload_n 1, 1) := by decide +kernel
theorem dM_blown_7 : decode mM_blown.2.1 7 = .ok (.istore 5, 2) := by decide +kernel
theorem dM_blown_9 : decode mM_blown.2.1 9 = .ok (.iconst 0, 1) := by decide +kernel
theorem dM_blown_10 : decode mM_blown.2.1 10 = .ok (.istore 6, 2) := by decide +kernel
theorem dM_blown_12 : decode mM_blown.2.1 12 = .ok (.iload 6, 2) := by decide +kernel
theorem dM_blown_14 : decode mM_blown.2.1 14 = .ok (.iload_n 2, 1) := by decide +kernel
theorem dM_blown_15 : decode mM_blown.2.1 15 = .ok (.if_icmp .ge 102, 3) := by decide +kernel
theorem dM_blown_18 : decode mM_blown.2.1 18 = .ok (.iload 5, 2) := by decide +kernel
theorem dM_blown_20 : decode mM_blown.2.1 20 = .ok (.iconst 5, 1) := by decide +kernel
theorem dM_blown_21 : decode mM_blown.2.1 21 = .ok (.irem, 1) := by decide +kernel
theorem dM_blown_22 : decode mM_blown.2.1 22 = .ok (.istore 7, 2) := by decide +kernel
theorem dM_blown_24 : decode mM_blown.2.1 24 = .ok (.iload 5, 2) := by decide +kernel
theorem dM_blown_26 : decode mM_blown.2.1 26 = .ok (.iconst 5, 1) := by decide +kernel
theorem dM_blown_27 : decode mM_blown.2.1 27 = .ok (.idiv, 1) := by decide +kernel
theorem dM_blown_28 : decode mM_blown.2.1 28 = .ok (.istore 5, 2) := by decide +kernel
theorem dM_blown_30 : decode mM_blown.2.1 30 = .ok (.aload_n 0, 1) := by decide +kernel
theorem dM_blown_31 : decode mM_blown.2.1 31 = .ok (.invokevirtual 444, 3) := by decide +kernel
theorem dM_blown_34 : decode mM_blown.2.1 34 = .ok (.istore 8, 2) := by decide +kernel
theorem dM_blown_36 : decode mM_blown.2.1 36 = .ok (.iload 7, 2) := by decide +kernel
theorem dM_blown_38 : decode mM_blown.2.1 38 = .ok (.iload 8, 2) := by decide +kernel
theorem dM_blown_40 : decode mM_blown.2.1 40 = .ok (.if_icmp .le 5, 3) := by decide +kernel
theorem dM_blown_43 : decode mM_blown.2.1 43 = .ok (.lconst 0, 1) := by decide +kernel
theorem dM_blown_44 : decode mM_blown.2.1 44 = .ok (.lreturn, 1) := by decide +kernel
theorem dM_blown_45 : decode mM_blown.2.1 45 = .ok (.iload 7, 2) := by decide +kernel
theorem dM_blown_47 : decode mM_blown.2.1 47 = .ok (.ifCond .ne 34, 3) := by decide +kernel
theorem dM_blown_50 : decode mM_blown.2.1 50 = .ok (.lload_n 3, 1) := by decide +kernel
theorem dM_blown_51 : decode mM_blown.2.1 51 = .ok (.iload 8, 2) := by decide +kernel
theorem dM_blown_53 : decode mM_blown.2.1 53 = .ok (.ifCond .ne 9, 3) := by decide +kernel
theorem dM_blown_56 : decode mM_blown.2.1 56 = .ok (.ldc2_w 447, 3) := by decide +kernel
theorem dM_blown_59 : decode mM_blown.2.1 59 = .ok (.goto 17, 3) := by decide +kernel
theorem dM_blown_62 : decode mM_blown.2.1 62 = .ok (.bipush 12, 2) := by decide +kernel
theorem dM_blown_64 : decode mM_blown.2.1 64 = .ok (.bipush 100, 2) := by decide +kernel
theorem dM_blown_66 : decode mM_blown.2.1 66 = .ok (.aload_n 0, 1) := by decide +kernel
theorem dM_blown_67 : decode mM_blown.2.1 67 = .ok (.getfield 281, 3) := by decide +kernel
theorem dM_blown_70 : decode mM_blown.2.1 70 = .ok (.getfield 151, 3) := by decide +kernel
theorem dM_blown_73 : decode mM_blown.2.1 73 = .ok (.isub, 1) := by decide +kernel
theorem dM_blown_74 : decode mM_blown.2.1 74 = .ok (.imul, 1) := by decide +kernel
theorem dM_blown_75 : decode mM_blown.2.1 75 = .ok (.i2l, 1) := by decide +kernel
theorem dM_blown_76 : decode mM_blown.2.1 76 = .ok (.lmul, 1) := by decide +kernel
theorem dM_blown_77 : decode mM_blown.2.1 77 = .ok (.lstore_n 3, 1) := by decide +kernel
theorem dM_blown_78 : decode mM_blown.2.1 78 = .ok (.goto 20, 3) := by decide +kernel
theorem dM_blown_81 : decode mM_blown.2.1 81 = .ok (.lload_n 3, 1) := by decide +kernel
theorem dM_blown_82 : decode mM_blown.2.1 82 = .ok (.bipush 12, 2) := by decide +kernel
theorem dM_blown_84 : decode mM_blown.2.1 84 = .ok (.aload_n 0, 1) := by decide +kernel
theorem dM_blown_85 : decode mM_blown.2.1 85 = .ok (.getfield 281, 3) := by decide +kernel
theorem dM_blown_88 : decode mM_blown.2.1 88 = .ok (.getfield 151, 3) := by decide +kernel
theorem dM_blown_91 : decode mM_blown.2.1 91 = .ok (.imul, 1) := by decide +kernel
theorem dM_blown_92 : decode mM_blown.2.1 92 = .ok (.iload 8, 2) := by decide +kernel
theorem dM_blown_94 : decode mM_blown.2.1 94 = .ok (.idiv, 1) := by decide +kernel
theorem dM_blown_95 : decode mM_blown.2.1 95 = .ok (.i2l, 1) := by decide +kernel
theorem dM_blown_96 : decode mM_blown.2.1 96 = .ok (.lmul, 1) := by decide +kernel
theorem dM_blown_97 : decode mM_blown.2.1 97 = .ok (.lstore_n 3, 1) := by decide +kernel
theorem dM_blown_98 : decode mM_blown.2.1 98 = .ok (.iload 7, 2) := by decide +kernel
theorem dM_blown_100 : decode mM_blown.2.1 100 = .ok (.ifCond .le 11, 3) := by decide +kernel
theorem dM_blown_103 : decode mM_blown.2.1 103 = .ok (.aload_n 0, 1) := by decide +kernel
theorem dM_blown_104 : decode mM_blown.2.1 104 = .ok (.iload 7, 2) := by decide +kernel
theorem dM_blown_106 : decode mM_blown.2.1 106 = .ok (.iconst 1, 1) := by decide +kernel
theorem dM_blown_107 : decode mM_blown.2.1 107 = .ok (.isub, 1) := by decide +kernel
theorem dM_blown_108 : decode mM_blown.2.1 108 = .ok (.invokevirtual 449, 3) := by decide +kernel
theorem dM_blown_111 : decode mM_blown.2.1 111 = .ok (.iinc 6 1, 3) := by decide +kernel
theorem dM_blown_114 : decode mM_blown.2.1 114 = .ok (.goto (-102), 3) := by decide +kernel
theorem dM_blown_117 : decode mM_blown.2.1 117 = .ok (.lload_n 3, 1) := by decide +kernel
theorem dM_blown_118 : decode mM_blown.2.1 118 = .ok (.lreturn, 1) := by decide +kernel
theorem dM_blowsAll_0 : decode mM_blowsAll.2.1 0 = .ok (.aload_n 0, 1) := by decide +kernel
theorem dM_blowsAll_1 : decode mM_blowsAll.2.1 1 = .ok (.lconst 1, 1) := by decide +kernel
theorem dM_blowsAll_2 : decode mM_blowsAll.2.1 2 = .ok (.putfield 452, 3) := by decide +kernel
theorem dM_blowsAll_5 : decode mM_blowsAll.2.1 5 = .ok (.aload_n 0, 1) := by decide +kernel
theorem dM_blowsAll_6 : decode mM_blowsAll.2.1 6 = .ok (.lconst 0, 1) := by decide +kernel
theorem dM_blowsAll_7 : decode mM_blowsAll.2.1 7 = .ok (.putfield 455, 3) := by decide +kernel
theorem dM_blowsAll_10 : decode mM_blowsAll.2.1 10 = .ok (.aload_n 0, 1) := by decide +kernel
theorem dM_blowsAll_11 : decode mM_blowsAll.2.1 11 = .ok (.lconst 0, 1) := by decide +kernel
theorem dM_blowsAll_12 : decode mM_blowsAll.2.1 12 = .ok (.putfield 458, 3) := by decide +kernel
theorem dM_blowsAll_15 : decode mM_blowsAll.2.1 15 = .ok (.aload_n 0, 1) := by decide +kernel
theorem dM_blowsAll_16 : decode mM_blowsAll.2.1 16 = .ok (.lconst 0, 1) := by decide +kernel
theorem dM_blowsAll_17 : decode mM_blowsAll.2.1 17 = .ok (.putfield 461, 3) := by decide +kernel
theorem dM_blowsAll_20 : decode mM_blowsAll.2.1 20 = .ok (.iconst 1, 1) := by decide +kernel
theorem dM_blowsAll_21 : decode mM_blowsAll.2.1 21 = .ok (.istore_n 3, 1) := by decide +kernel
theorem dM_blowsAll_22 : decode mM_blowsAll.2.1 22 = .ok (.iconst 0, 1) := by decide +kernel
theorem dM_blowsAll_23 : decode mM_blowsAll.2.1 23 = .ok (.istore 4, 2) := by decide +kernel
theorem dM_blowsAll_25 : decode mM_blowsAll.2.1 25 = .ok (.iload 4, 2) := by decide +kernel
theorem dM_blowsAll_27 : decode mM_blowsAll.2.1 27 = .ok (.iload_n 2, 1) := by decide +kernel
theorem dM_blowsAll_28 : decode mM_blowsAll.2.1 28 = .ok (.if_icmp .ge 25, 3) := by decide +kernel
theorem dM_blowsAll_31 : decode mM_blowsAll.2.1 31 = .ok (.aload_n 0, 1) := by decide +kernel
theorem dM_blowsAll_32 : decode mM_blowsAll.2.1 32 = .ok (.dup, 1) := by decide +kernel
theorem dM_blowsAll_33 : decode mM_blowsAll.2.1 33 = .ok (.getfield 452, 3) := by decide +kernel
theorem dM_blowsAll_36 : decode mM_blowsAll.2.1 36 = .ok (.ldc2_w 447, 3) := by decide +kernel
theorem dM_blowsAll_39 : decode mM_blowsAll.2.1 39 = .ok (.lmul, 1) := by decide +kernel
theorem dM_blowsAll_40 : decode mM_blowsAll.2.1 40 = .ok (.putfield 452, 3) := by decide +kernel
theorem dM_blowsAll_43 : decode mM_blowsAll.2.1 43 = .ok (.iload_n 3, 1) := by decide +kernel
theorem dM_blowsAll_44 : decode mM_blowsAll.2.1 44 = .ok (.iconst 5, 1) := by decide +kernel
theorem dM_blowsAll_45 : decode mM_blowsAll.2.1 45 = .ok (.imul, 1) := by decide +kernel
theorem dM_blowsAll_46 : decode mM_blowsAll.2.1 46 = .ok (.istore_n 3, 1) := by decide +kernel
theorem dM_blowsAll_47 : decode mM_blowsAll.2.1 47 = .ok (.iinc 4 1, 3) := by decide +kernel
theorem dM_blowsAll_50 : decode mM_blowsAll.2.1 50 = .ok (.goto (-25), 3) := by decide +kernel
theorem dM_blowsAll_53 : decode mM_blowsAll.2.1 53 = .ok (.iconst 0, 1) := by decide +kernel
theorem dM_blowsAll_54 : decode mM_blowsAll.2.1 54 = .ok (.istore 4, 2) := by decide +kernel
theorem dM_blowsAll_56 : decode mM_blowsAll.2.1 56 = .ok (.iload 4, 2) := by decide +kernel
theorem dM_blowsAll_58 : decode mM_blowsAll.2.1 58 = .ok (.iload_n 3, 1) := by decide +kernel
theorem dM_blowsAll_59 : decode mM_blowsAll.2.1 59 = .ok (.if_icmp .ge 87, 3) := by decide +kernel
theorem dM_blowsAll_62 : decode mM_blowsAll.2.1 62 = .ok (.aload_n 0, 1) := by decide +kernel
theorem dM_blowsAll_63 : decode mM_blowsAll.2.1 63 = .ok (.iload 4, 2) := by decide +kernel
theorem dM_blowsAll_65 : decode mM_blowsAll.2.1 65 = .ok (.iload_n 2, 1) := by decide +kernel
theorem dM_blowsAll_66 : decode mM_blowsAll.2.1 66 = .ok (.invokevirtual 464, 3) := by decide +kernel
theorem dM_blowsAll_69 : decode mM_blowsAll.2.1 69 = .ok (.lstore 5, 2) := by decide +kernel
theorem dM_blowsAll_71 : decode mM_blowsAll.2.1 71 = .ok (.aload_n 0, 1) := by decide +kernel
theorem dM_blowsAll_72 : decode mM_blowsAll.2.1 72 = .ok (.dup, 1) := by decide +kernel
theorem dM_blowsAll_73 : decode mM_blowsAll.2.1 73 = .ok (.getfield 455, 3) := by decide +kernel
theorem dM_blowsAll_76 : decode mM_blowsAll.2.1 76 = .ok (.aload_n 0, 1) := by decide +kernel
theorem dM_blowsAll_77 : decode mM_blowsAll.2.1 77 = .ok (.getfield 21, 3) := by decide +kernel
theorem dM_blowsAll_80 : decode mM_blowsAll.2.1 80 = .ok (.bipush 6, 2) := by decide +kernel
theorem dM_blowsAll_82 : decode mM_blowsAll.2.1 82 = .ok (.iaload, 1) := by decide +kernel
theorem dM_blowsAll_83 : decode mM_blowsAll.2.1 83 = .ok (.iload_n 1, 1) := by decide +kernel
theorem dM_blowsAll_84 : decode mM_blowsAll.2.1 84 = .ok (.if_icmp .ne 8, 3) := by decide +kernel
theorem dM_blowsAll_87 : decode mM_blowsAll.2.1 87 = .ok (.lload 5, 2) := by decide +kernel
theorem dM_blowsAll_89 : decode mM_blowsAll.2.1 89 = .ok (.goto 4, 3) := by decide +kernel
theorem dM_blowsAll_92 : decode mM_blowsAll.2.1 92 = .ok (.lconst 0, 1) := by decide +kernel
theorem dM_blowsAll_93 : decode mM_blowsAll.2.1 93 = .ok (.ladd, 1) := by decide +kernel
theorem dM_blowsAll_94 : decode mM_blowsAll.2.1 94 = .ok (.putfield 455, 3) := by decide +kernel
theorem dM_blowsAll_97 : decode mM_blowsAll.2.1 97 = .ok (.aload_n 0, 1) := by decide +kernel
theorem dM_blowsAll_98 : decode mM_blowsAll.2.1 98 = .ok (.dup, 1) := by decide +kernel
theorem dM_blowsAll_99 : decode mM_blowsAll.2.1 99 = .ok (.getfield 458, 3) := by decide +kernel
theorem dM_blowsAll_102 : decode mM_blowsAll.2.1 102 = .ok (.aload_n 0, 1) := by decide +kernel
theorem dM_blowsAll_103 : decode mM_blowsAll.2.1 103 = .ok (.getfield 21, 3) := by decide +kernel
theorem dM_blowsAll_106 : decode mM_blowsAll.2.1 106 = .ok (.iconst 2, 1) := by decide +kernel
theorem dM_blowsAll_107 : decode mM_blowsAll.2.1 107 = .ok (.iload_n 1, 1) := by decide +kernel
theorem dM_blowsAll_108 : decode mM_blowsAll.2.1 108 = .ok (.iadd, 1) := by decide +kernel
theorem dM_blowsAll_109 : decode mM_blowsAll.2.1 109 = .ok (.iaload, 1) := by decide +kernel
theorem dM_blowsAll_110 : decode mM_blowsAll.2.1 110 = .ok (.ifCond .ne 8, 3) := by decide +kernel
theorem dM_blowsAll_113 : decode mM_blowsAll.2.1 113 = .ok (.lload 5, 2) := by decide +kernel
theorem dM_blowsAll_115 : decode mM_blowsAll.2.1 115 = .ok (.goto 4, 3) := by decide +kernel
theorem dM_blowsAll_118 : decode mM_blowsAll.2.1 118 = .ok (.lconst 0, 1) := by decide +kernel
theorem dM_blowsAll_119 : decode mM_blowsAll.2.1 119 = .ok (.ladd, 1) := by decide +kernel
theorem dM_blowsAll_120 : decode mM_blowsAll.2.1 120 = .ok (.putfield 458, 3) := by decide +kernel
theorem dM_blowsAll_123 : decode mM_blowsAll.2.1 123 = .ok (.aload_n 0, 1) := by decide +kernel
theorem dM_blowsAll_124 : decode mM_blowsAll.2.1 124 = .ok (.dup, 1) := by decide +kernel
theorem dM_blowsAll_125 : decode mM_blowsAll.2.1 125 = .ok (.getfield 461, 3) := by decide +kernel
theorem dM_blowsAll_128 : decode mM_blowsAll.2.1 128 = .ok (.lload 5, 2) := by decide +kernel
theorem dM_blowsAll_130 : decode mM_blowsAll.2.1 130 = .ok (.aload_n 0, 1) := by decide +kernel
theorem dM_blowsAll_131 : decode mM_blowsAll.2.1 131 = .ok (.invokevirtual 444, 3) := by decide +kernel
theorem dM_blowsAll_134 : decode mM_blowsAll.2.1 134 = .ok (.i2l, 1) := by decide +kernel
theorem dM_blowsAll_135 : decode mM_blowsAll.2.1 135 = .ok (.lmul, 1) := by decide +kernel
theorem dM_blowsAll_136 : decode mM_blowsAll.2.1 136 = .ok (.ladd, 1) := by decide +kernel
theorem dM_blowsAll_137 : decode mM_blowsAll.2.1 137 = .ok (.putfield 461, 3) := by decide +kernel
theorem dM_blowsAll_140 : decode mM_blowsAll.2.1 140 = .ok (.iinc 4 1, 3) := by decide +kernel
theorem dM_blowsAll_143 : decode mM_blowsAll.2.1 143 = .ok (.goto (-87), 3) := by decide +kernel
theorem dM_blowsAll_146 : decode mM_blowsAll.2.1 146 = .ok (.return_, 1) := by decide +kernel
theorem dM_fraction_0 : decode mM_fraction.2.1 0 = .ok (.aload_n 0, 1) := by decide +kernel
theorem dM_fraction_1 : decode mM_fraction.2.1 1 = .ok (.iconst 0, 1) := by decide +kernel
theorem dM_fraction_2 : decode mM_fraction.2.1 2 = .ok (.invokevirtual 56, 3) := by decide +kernel
theorem dM_fraction_5 : decode mM_fraction.2.1 5 = .ok (.pop, 1) := by decide +kernel
theorem dM_fraction_6 : decode mM_fraction.2.1 6 = .ok (.iload 5, 2) := by decide +kernel
theorem dM_fraction_8 : decode mM_fraction.2.1 8 = .ok (.ifCond .eq 7, 3) := by decide +kernel
theorem dM_fraction_11 : decode mM_fraction.2.1 11 = .ok (.lload_n 3, 1) := by decide +kernel
theorem dM_fraction_12 : decode mM_fraction.2.1 12 = .ok (.goto 4, 3) := by decide +kernel
theorem dM_fraction_15 : decode mM_fraction.2.1 15 = .ok (.lload_n 1, 1) := by decide +kernel
theorem dM_fraction_16 : decode mM_fraction.2.1 16 = .ok (.lload_n 1, 1) := by decide +kernel
theorem dM_fraction_17 : decode mM_fraction.2.1 17 = .ok (.lload_n 3, 1) := by decide +kernel
theorem dM_fraction_18 : decode mM_fraction.2.1 18 = .ok (.invokestatic 59, 3) := by decide +kernel
theorem dM_fraction_21 : decode mM_fraction.2.1 21 = .ok (.ldiv, 1) := by decide +kernel
theorem dM_fraction_22 : decode mM_fraction.2.1 22 = .ok (.lreturn, 1) := by decide +kernel
theorem dM_common_0 : decode mM_common.2.1 0 = .ok (.lload_n 0, 1) := by decide +kernel
theorem dM_common_1 : decode mM_common.2.1 1 = .ok (.lstore 4, 2) := by decide +kernel
theorem dM_common_3 : decode mM_common.2.1 3 = .ok (.lload_n 2, 1) := by decide +kernel
theorem dM_common_4 : decode mM_common.2.1 4 = .ok (.lstore 6, 2) := by decide +kernel
theorem dM_common_6 : decode mM_common.2.1 6 = .ok (.lload 6, 2) := by decide +kernel
theorem dM_common_8 : decode mM_common.2.1 8 = .ok (.lconst 0, 1) := by decide +kernel
theorem dM_common_9 : decode mM_common.2.1 9 = .ok (.lcmp, 1) := by decide +kernel
theorem dM_common_10 : decode mM_common.2.1 10 = .ok (.ifCond .eq 21, 3) := by decide +kernel
theorem dM_common_13 : decode mM_common.2.1 13 = .ok (.lload 4, 2) := by decide +kernel
theorem dM_common_15 : decode mM_common.2.1 15 = .ok (.lload 6, 2) := by decide +kernel
theorem dM_common_17 : decode mM_common.2.1 17 = .ok (.lrem, 1) := by decide +kernel
theorem dM_common_18 : decode mM_common.2.1 18 = .ok (.lstore 8, 2) := by decide +kernel
theorem dM_common_20 : decode mM_common.2.1 20 = .ok (.lload 6, 2) := by decide +kernel
theorem dM_common_22 : decode mM_common.2.1 22 = .ok (.lstore 4, 2) := by decide +kernel
theorem dM_common_24 : decode mM_common.2.1 24 = .ok (.lload 8, 2) := by decide +kernel
theorem dM_common_26 : decode mM_common.2.1 26 = .ok (.lstore 6, 2) := by decide +kernel
theorem dM_common_28 : decode mM_common.2.1 28 = .ok (.goto (-22), 3) := by decide +kernel
theorem dM_common_31 : decode mM_common.2.1 31 = .ok (.lload 4, 2) := by decide +kernel
theorem dM_common_33 : decode mM_common.2.1 33 = .ok (.lreturn, 1) := by decide +kernel
theorem dM_odds_0 : decode mM_odds.2.1 0 = .ok (.aload_n 0, 1) := by decide +kernel
theorem dM_odds_1 : decode mM_odds.2.1 1 = .ok (.iconst 0, 1) := by decide +kernel
theorem dM_odds_2 : decode mM_odds.2.1 2 = .ok (.putfield 46, 3) := by decide +kernel
theorem dM_odds_5 : decode mM_odds.2.1 5 = .ok (.aload_n 0, 1) := by decide +kernel
theorem dM_odds_6 : decode mM_odds.2.1 6 = .ok (.aload_n 0, 1) := by decide +kernel
theorem dM_odds_7 : decode mM_odds.2.1 7 = .ok (.iload_n 1, 1) := by decide +kernel
theorem dM_odds_8 : decode mM_odds.2.1 8 = .ok (.invokevirtual 354, 3) := by decide +kernel
theorem dM_odds_11 : decode mM_odds.2.1 11 = .ok (.iload_n 2, 1) := by decide +kernel
theorem dM_odds_12 : decode mM_odds.2.1 12 = .ok (.invokevirtual 468, 3) := by decide +kernel
theorem dM_odds_15 : decode mM_odds.2.1 15 = .ok (.istore 4, 2) := by decide +kernel
theorem dM_odds_17 : decode mM_odds.2.1 17 = .ok (.iload 4, 2) := by decide +kernel
theorem dM_odds_19 : decode mM_odds.2.1 19 = .ok (.ifCond .le 11, 3) := by decide +kernel
theorem dM_odds_22 : decode mM_odds.2.1 22 = .ok (.aload_n 0, 1) := by decide +kernel
theorem dM_odds_23 : decode mM_odds.2.1 23 = .ok (.iload 4, 2) := by decide +kernel
theorem dM_odds_25 : decode mM_odds.2.1 25 = .ok (.invokevirtual 52, 3) := by decide +kernel
theorem dM_odds_28 : decode mM_odds.2.1 28 = .ok (.i2l, 1) := by decide +kernel
theorem dM_odds_29 : decode mM_odds.2.1 29 = .ok (.lreturn, 1) := by decide +kernel
theorem dM_odds_30 : decode mM_odds.2.1 30 = .ok (.aload_n 0, 1) := by decide +kernel
theorem dM_odds_31 : decode mM_odds.2.1 31 = .ok (.iload_n 1, 1) := by decide +kernel
theorem dM_odds_32 : decode mM_odds.2.1 32 = .ok (.iload_n 2, 1) := by decide +kernel
theorem dM_odds_33 : decode mM_odds.2.1 33 = .ok (.invokevirtual 472, 3) := by decide +kernel
theorem dM_odds_36 : decode mM_odds.2.1 36 = .ok (.aload_n 0, 1) := by decide +kernel
theorem dM_odds_37 : decode mM_odds.2.1 37 = .ok (.aload_n 0, 1) := by decide +kernel
theorem dM_odds_38 : decode mM_odds.2.1 38 = .ok (.getfield 455, 3) := by decide +kernel
theorem dM_odds_41 : decode mM_odds.2.1 41 = .ok (.aload_n 0, 1) := by decide +kernel
theorem dM_odds_42 : decode mM_odds.2.1 42 = .ok (.getfield 452, 3) := by decide +kernel
theorem dM_odds_45 : decode mM_odds.2.1 45 = .ok (.iload_n 3, 1) := by decide +kernel
theorem dM_odds_46 : decode mM_odds.2.1 46 = .ok (.invokevirtual 475, 3) := by decide +kernel
theorem dM_odds_49 : decode mM_odds.2.1 49 = .ok (.lreturn, 1) := by decide +kernel
theorem dM_shutOdds_0 : decode mM_shutOdds.2.1 0 = .ok (.aload_n 0, 1) := by decide +kernel
theorem dM_shutOdds_1 : decode mM_shutOdds.2.1 1 = .ok (.iconst 0, 1) := by decide +kernel
theorem dM_shutOdds_2 : decode mM_shutOdds.2.1 2 = .ok (.putfield 46, 3) := by decide +kernel
theorem dM_shutOdds_5 : decode mM_shutOdds.2.1 5 = .ok (.aload_n 0, 1) := by decide +kernel
theorem dM_shutOdds_6 : decode mM_shutOdds.2.1 6 = .ok (.aload_n 0, 1) := by decide +kernel
theorem dM_shutOdds_7 : decode mM_shutOdds.2.1 7 = .ok (.iload_n 1, 1) := by decide +kernel
theorem dM_shutOdds_8 : decode mM_shutOdds.2.1 8 = .ok (.invokevirtual 354, 3) := by decide +kernel
theorem dM_shutOdds_11 : decode mM_shutOdds.2.1 11 = .ok (.iload_n 2, 1) := by decide +kernel
theorem dM_shutOdds_12 : decode mM_shutOdds.2.1 12 = .ok (.invokevirtual 468, 3) := by decide +kernel
theorem dM_shutOdds_15 : decode mM_shutOdds.2.1 15 = .ok (.istore 4, 2) := by decide +kernel
theorem dM_shutOdds_17 : decode mM_shutOdds.2.1 17 = .ok (.iload 4, 2) := by decide +kernel
theorem dM_shutOdds_19 : decode mM_shutOdds.2.1 19 = .ok (.ifCond .le 11, 3) := by decide +kernel
theorem dM_shutOdds_22 : decode mM_shutOdds.2.1 22 = .ok (.aload_n 0, 1) := by decide +kernel
theorem dM_shutOdds_23 : decode mM_shutOdds.2.1 23 = .ok (.iload 4, 2) := by decide +kernel
theorem dM_shutOdds_25 : decode mM_shutOdds.2.1 25 = .ok (.invokevirtual 52, 3) := by decide +kernel
theorem dM_shutOdds_28 : decode mM_shutOdds.2.1 28 = .ok (.i2l, 1) := by decide +kernel
theorem dM_shutOdds_29 : decode mM_shutOdds.2.1 29 = .ok (.lreturn, 1) := by decide +kernel
theorem dM_shutOdds_30 : decode mM_shutOdds.2.1 30 = .ok (.aload_n 0, 1) := by decide +kernel
theorem dM_shutOdds_31 : decode mM_shutOdds.2.1 31 = .ok (.iload_n 1, 1) := by decide +kernel
theorem dM_shutOdds_32 : decode mM_shutOdds.2.1 32 = .ok (.iload_n 2, 1) := by decide +kernel
theorem dM_shutOdds_33 : decode mM_shutOdds.2.1 33 = .ok (.invokevirtual 472, 3) := by decide +kernel
theorem dM_shutOdds_36 : decode mM_shutOdds.2.1 36 = .ok (.aload_n 0, 1) := by decide +kernel
theorem dM_shutOdds_37 : decode mM_shutOdds.2.1 37 = .ok (.aload_n 0, 1) := by decide +kernel
theorem dM_shutOdds_38 : decode mM_shutOdds.2.1 38 = .ok (.getfield 458, 3) := by decide +kernel
theorem dM_shutOdds_41 : decode mM_shutOdds.2.1 41 = .ok (.aload_n 0, 1) := by decide +kernel
theorem dM_shutOdds_42 : decode mM_shutOdds.2.1 42 = .ok (.getfield 452, 3) := by decide +kernel
theorem dM_shutOdds_45 : decode mM_shutOdds.2.1 45 = .ok (.iload_n 3, 1) := by decide +kernel
theorem dM_shutOdds_46 : decode mM_shutOdds.2.1 46 = .ok (.invokevirtual 475, 3) := by decide +kernel
theorem dM_shutOdds_49 : decode mM_shutOdds.2.1 49 = .ok (.lreturn, 1) := by decide +kernel
theorem dM_mean_0 : decode mM_mean.2.1 0 = .ok (.aload_n 0, 1) := by decide +kernel
theorem dM_mean_1 : decode mM_mean.2.1 1 = .ok (.iconst 0, 1) := by decide +kernel
theorem dM_mean_2 : decode mM_mean.2.1 2 = .ok (.putfield 46, 3) := by decide +kernel
theorem dM_mean_5 : decode mM_mean.2.1 5 = .ok (.aload_n 0, 1) := by decide +kernel
theorem dM_mean_6 : decode mM_mean.2.1 6 = .ok (.aload_n 0, 1) := by decide +kernel
theorem dM_mean_7 : decode mM_mean.2.1 7 = .ok (.getfield 281, 3) := by decide +kernel
theorem dM_mean_10 : decode mM_mean.2.1 10 = .ok (.ifnull 7, 3) := by decide +kernel
theorem dM_mean_13 : decode mM_mean.2.1 13 = .ok (.iconst 1, 1) := by decide +kernel
theorem dM_mean_14 : decode mM_mean.2.1 14 = .ok (.goto 4, 3) := by decide +kernel
theorem dM_mean_17 : decode mM_mean.2.1 17 = .ok (.iconst 0, 1) := by decide +kernel
theorem dM_mean_18 : decode mM_mean.2.1 18 = .ok (.iload_n 1, 1) := by decide +kernel
theorem dM_mean_19 : decode mM_mean.2.1 19 = .ok (.invokevirtual 468, 3) := by decide +kernel
theorem dM_mean_22 : decode mM_mean.2.1 22 = .ok (.istore_n 3, 1) := by decide +kernel
theorem dM_mean_23 : decode mM_mean.2.1 23 = .ok (.iload_n 3, 1) := by decide +kernel
theorem dM_mean_24 : decode mM_mean.2.1 24 = .ok (.ifCond .le 10, 3) := by decide +kernel
theorem dM_mean_27 : decode mM_mean.2.1 27 = .ok (.aload_n 0, 1) := by decide +kernel
theorem dM_mean_28 : decode mM_mean.2.1 28 = .ok (.iload_n 3, 1) := by decide +kernel
theorem dM_mean_29 : decode mM_mean.2.1 29 = .ok (.invokevirtual 52, 3) := by decide +kernel
theorem dM_mean_32 : decode mM_mean.2.1 32 = .ok (.i2l, 1) := by decide +kernel
theorem dM_mean_33 : decode mM_mean.2.1 33 = .ok (.lreturn, 1) := by decide +kernel
theorem dM_mean_34 : decode mM_mean.2.1 34 = .ok (.aload_n 0, 1) := by decide +kernel
theorem dM_mean_35 : decode mM_mean.2.1 35 = .ok (.iconst 0, 1) := by decide +kernel
theorem dM_mean_36 : decode mM_mean.2.1 36 = .ok (.iload_n 1, 1) := by decide +kernel
theorem dM_mean_37 : decode mM_mean.2.1 37 = .ok (.invokevirtual 472, 3) := by decide +kernel
theorem dM_mean_40 : decode mM_mean.2.1 40 = .ok (.aload_n 0, 1) := by decide +kernel
theorem dM_mean_41 : decode mM_mean.2.1 41 = .ok (.aload_n 0, 1) := by decide +kernel
theorem dM_mean_42 : decode mM_mean.2.1 42 = .ok (.getfield 461, 3) := by decide +kernel
theorem dM_mean_45 : decode mM_mean.2.1 45 = .ok (.aload_n 0, 1) := by decide +kernel
theorem dM_mean_46 : decode mM_mean.2.1 46 = .ok (.getfield 452, 3) := by decide +kernel
theorem dM_mean_49 : decode mM_mean.2.1 49 = .ok (.iload_n 2, 1) := by decide +kernel
theorem dM_mean_50 : decode mM_mean.2.1 50 = .ok (.invokevirtual 475, 3) := by decide +kernel
theorem dM_mean_53 : decode mM_mean.2.1 53 = .ok (.lreturn, 1) := by decide +kernel
theorem dM_refusesTimes_0 : decode mM_refusesTimes.2.1 0 = .ok (.iload_n 1, 1) := by decide +kernel
theorem dM_refusesTimes_1 : decode mM_refusesTimes.2.1 1 = .ok (.ifCond .ne 7, 3) := by decide +kernel
theorem dM_refusesTimes_4 : decode mM_refusesTimes.2.1 4 = .ok (.iconst 1, 1) := by decide +kernel
theorem dM_refusesTimes_5 : decode mM_refusesTimes.2.1 5 = .ok (.goto 17, 3) := by decide +kernel
theorem dM_refusesTimes_8 : decode mM_refusesTimes.2.1 8 = .ok (.iload_n 2, 1) := by decide +kernel
theorem dM_refusesTimes_9 : decode mM_refusesTimes.2.1 9 = .ok (.iconst 0, 1) := by decide +kernel
theorem dM_refusesTimes_10 : decode mM_refusesTimes.2.1 10 = .ok (.iconst 3, 1) := by decide +kernel
theorem dM_refusesTimes_11 : decode mM_refusesTimes.2.1 11 = .ok (.invokestatic 357, 3) := by decide +kernel
theorem dM_refusesTimes_14 : decode mM_refusesTimes.2.1 14 = .ok (.ifCond .eq 7, 3) := by decide +kernel
theorem dM_refusesTimes_17 : decode mM_refusesTimes.2.1 17 = .ok (.iconst 0, 1) := by decide +kernel
theorem dM_refusesTimes_18 : decode mM_refusesTimes.2.1 18 = .ok (.goto 4, 3) := by decide +kernel
theorem dM_refusesTimes_21 : decode mM_refusesTimes.2.1 21 = .ok (.iconst 2, 1) := by decide +kernel
theorem dM_refusesTimes_22 : decode mM_refusesTimes.2.1 22 = .ok (.ireturn, 1) := by decide +kernel
/-- what the reckoning of odds changes -/
def BO (V V' : Nat → Nat → Int) : Prop := (∀ b, b ≠ 53 → b ≠ 56 → V' b = V b) ∧ ∀ j, j < 29 → V' 53 j = V 53 j
section Mod35
variable {G : GE} {V V' V1 V2 : Nat → Nat → Int} {σ : Shp} {K : Option AV → Mem → Prop} {l : Nat} {c : Cfg} {n : Nat} {S : PS}
theorem BO.rf (V : Nat → Nat → Int) : BO V V := ⟨fun _ _ _ => rfl, fun _ _ => rfl⟩
theorem BO.xf (h : BO V V1) (g : XF V1 V2) : BO V V2 := ⟨fun b a1 a2 => (g b a2).trans (h.1 b a1 a2), fun j hj => by rw [g 53 (by decide)]; exact h.2 j hj⟩
theorem BO.fl {k : Nat} {z : Int} (h : BO V V1) (hk : 29 ≤ k) : BO V (up2 V1 53 k z) := ⟨fun b a1 a2 => (up2_nea _ _ a1).trans (h.1 b a1 a2), fun j hj => by rw [up2_nek _ _ (by omega)]; exact h.2 j hj⟩
theorem BO.mf (h : BO V V1) : MF V V1 := ⟨fun b h1 h2 => h.1 b h1 (fun e => by rw [e] at h2; cases h2), fun j hj => h.2 j (by omega)⟩
theorem BO.q (h : BO V V1) (g : MWq V S) : MWq V1 S := g.fl (h.2 26 (by decide)) (h.2 25 (by decide)) (h.1 59 (by decide) (by decide)) (h.1 60 (by decide) (by decide)) (h.1 61 (by decide) (by decide))
theorem BO.mw (h : BO V V1) (g : MW V σ l S) : MW V1 σ l S := g.mf h.mf (h.q g.q)
theorem wM_common {x y : Int} {A B : Nat} (hx : x = A) (hy : y = B) (hA : A < 9223372036854775808) (hB : B < 9223372036854775808) (hK : K (some (vL (Nat.gcd A B))) (V, σ)) : Wp G 0 mM_common [vL x, vL y] (V, σ) 0 0 K := by
  refine wp_intro mM_common_i.1 [some (vL x), none, some (vL y), none, none, none, none, none, none, none] rfl rfl (Nat.le_of_ble_eq_true rfl) ?_
  intro X hG F C
  have hm := C.rm
  have loop : ∀ (b a : Nat) (p q : Int) (u1 : Option AV), p = a → q = b → a < 9223372036854775808 → b < 9223372036854775808 → Nat.gcd a b = Nat.gcd A B → AW X 6 [some (vL x), none, some (vL y), none, some (vL p), none, some (vL q), none, u1, none] [] (V, σ) 0 0 := by
    intro b
    induction b using Nat.strongRecOn with
    | ind b ih =>
      intro a p q u1 hp hq ha hb hg
      have hc0 : ycmp q 0 = 0 ↔ b = 0 := by
        unfold ycmp
        constructor
        · intro h; split at h
          · omega
          · split at h <;> omega
        · intro h; rw [show q = 0 by omega]; decide
      have e1 : b ≠ 0 → Nat.gcd b (a % b) = Nat.gcd A B := fun h => by rw [Nat.gcd_comm, ← hg, ← Nat.gcd_rec, Nat.gcd_comm]
      have em : b ≠ 0 → p % q = (a % b : Nat) := fun h => by rw [hp, hq]; simp
      have hml : b ≠ 0 → a % b < b := fun h => Nat.mod_lt a (by omega)
      refine aw_lload_6 (q := 8) F dM_common_6 rfl ?_
      refine aw_lconst (q := 9) (z := 0) F dM_common_8 rfl rfl ?_
      refine aw_lcmp (q := 10) F dM_common_9 rfl ?_
      refine aw_if_eq (q := 13) (t := 31) F dM_common_10 rfl (by decide) (fun c10 => ?_) (fun c10 => ?_)
      · refine aw_lload_4 (q := 33) F dM_common_31 rfl ?_
        refine aw_lret F C dM_common_33 rfl (Nat.le_refl _) (Nat.le_refl _) ?_
        have hb0 := hc0.mp c10; rw [hb0, Nat.gcd_zero_right] at hg; rw [hp, hg]; exact hK
      · have hb0 : b ≠ 0 := fun z => c10 (hc0.mpr z)
        refine aw_lload_4 (q := 15) F dM_common_13 rfl ?_
        refine aw_lload_6 (q := 17) F dM_common_15 rfl ?_
        refine aw_lrem (q := 18) F dM_common_17 rfl (by omega) (by omega) ?_
        rw [em hb0]
        refine aw_lstore_8 (q := 20) F dM_common_18 rfl trivial ?_
        refine aw_lload_6 (q := 22) F dM_common_20 rfl ?_
        refine aw_lstore_4 (q := 24) F dM_common_22 rfl trivial ?_
        refine aw_lload_8 (q := 26) F dM_common_24 rfl ?_
        refine aw_lstore_6 (q := 28) F dM_common_26 rfl trivial ?_
        refine aw_goto (t := 6) F dM_common_28 (by decide) ?_
        exact ih (a % b) (hml hb0) b _ _ _ hq rfl hb (by have := hml hb0; omega) (e1 hb0)
  refine aw_lload_0 (q := 1) F dM_common_0 rfl ?_
  refine aw_lstore_4 (q := 3) F dM_common_1 rfl trivial ?_
  refine aw_lload_2 (q := 4) F dM_common_3 rfl ?_
  refine aw_lstore_6 (q := 6) F dM_common_4 rfl trivial ?_
  exact loop B A _ _ _ hx hy hA hB rfl
theorem wM_fraction {x y w : Int} {A B : Nat} {b : Bool} (hx : x = A) (hy : y = B) (hA : A < 9223372036854775808) (hB : B < 9223372036854775808) (hB0 : 0 < B) (hw : w = bz b) (hM : moS σ l) (hK : K (some (vL (oddV A B b))) (up2 (up2 V 53 1 0) 53 2 (-1), σ)) : Wp G 1 mM_fraction [vR 53, vL x, vL y, vI w] (V, σ) 0 0 K := by
  have hg : 0 < Nat.gcd A B := Nat.gcd_pos_of_pos_right _ hB0
  have hgl : Nat.gcd A B ≤ B := Nat.gcd_le_right _ hB0
  have hbt : ¬ w = 0 → b = true := fun e => by cases b; exact absurd hw e; rfl
  have hbf : w = 0 → b = false := fun e => by cases b; rfl; rw [e] at hw; exact absurd hw (by decide)
  refine wp_intro mM_fraction_i.1 [some (vR 53), some (vL x), none, some (vL y), none, some (vI w)] rfl rfl (Nat.le_of_ble_eq_true rfl) ?_
  intro X hG F C
  have hm := C.rm
  refine aw_aload_0 (q := 1) F dM_fraction_0 rfl ?_
  refine aw_iconst (q := 2) F dM_fraction_1 rfl (by decide) ?_
  refine av_callV1 (q := 5) (ci := 9) F hm mM_good_i mM_good_n lM_56 dM_fraction_2 rfl rfl rfl (by first | exact hM.o | exact hl.o | exact hM.a55 | exact hM.a56) (by decide) (Nat.le_refl _) (Nat.le_refl _) (Nat.le_of_ble_eq_true rfl) (wM_good hM ?_)
  refine aw_pop (q := 6) F dM_fraction_5 rfl trivial ?_
  refine aw_iload_5 (q := 8) F dM_fraction_6 rfl ?_
  refine aw_if_eq (q := 11) (t := 15) F dM_fraction_8 rfl (by decide) (fun c8 => ?_) (fun c8 => ?_)
  · refine aw_lload_1 (q := 16) F dM_fraction_15 rfl ?_
    refine aw_lload_1 (q := 17) F dM_fraction_16 rfl ?_
    refine aw_lload_3 (q := 18) F dM_fraction_17 rfl ?_
    refine av_callS2 (q := 21) F hm mM_common_i mM_common_n lM_59 dM_fraction_18 rfl (by decide) (Nat.le_refl _) (Nat.le_refl _) (Nat.le_of_ble_eq_true rfl) (wM_common hx hy hA hB ?_)
    refine aw_ldiv (q := 22) F dM_fraction_21 rfl (by omega) (by omega) ?_
    refine aw_lret F C dM_fraction_22 rfl (Nat.le_refl _) (Nat.le_refl _) ?_
    first
    | (rw [hbt c8] at hK; rw [hy, ← Int.natCast_ediv]; exact hK)
    | (rw [hbf c8] at hK; rw [hx, ← Int.natCast_ediv]; exact hK)
  · refine aw_lload_3 (q := 12) F dM_fraction_11 rfl ?_
    refine aw_goto (t := 16) F dM_fraction_12 (by decide) ?_
    refine aw_lload_1 (q := 17) F dM_fraction_16 rfl ?_
    refine aw_lload_3 (q := 18) F dM_fraction_17 rfl ?_
    refine av_callS2 (q := 21) F hm mM_common_i mM_common_n lM_59 dM_fraction_18 rfl (by decide) (Nat.le_refl _) (Nat.le_refl _) (Nat.le_of_ble_eq_true rfl) (wM_common hx hy hA hB ?_)
    refine aw_ldiv (q := 22) F dM_fraction_21 rfl (by omega) (by omega) ?_
    refine aw_lret F C dM_fraction_22 rfl (Nat.le_refl _) (Nat.le_refl _) ?_
    first
    | (rw [hbt c8] at hK; rw [hy, ← Int.natCast_ediv]; exact hK)
    | (rw [hbf c8] at hK; rw [hx, ← Int.natCast_ediv]; exact hK)
theorem wM_blown {x z : Int} {q0 N : Nat} (hx : x = q0) (hz : z = N) (hq : q0 < 125) (hN : N ≤ 3) (h : MW V σ l S) (hd : 0 < tDn (psT S)) (hK : ∀ V' m, XF V V' → AR (V' 56) (psC S) m → lst (psC S) m < 4 → (vlR (tDr (psT S)) N q0 (4 * opN S + lst (psC S) (psA S)) ≠ 0 → 4 * oB (psC S) m + lst (psC S) m = edR N q0 (4 * opN S + lst (psC S) (psA S))) → K (some (vL (vlR (tDr (psT S)) N q0 (4 * opN S + lst (psC S) (psA S)) : Nat))) (V', σ)) : Wp G 2 mM_blown [vR 53, vI x, vI z] (V, σ) 0 0 K := by
  have hM := h.mo
  have hl := h.la hd
  have h64 := h.h64 hd
  have hc := h.hc
  have hd4 : dN (psC S) ≤ 4 := hc.1
  have hdr : V l 0 = tDr (psT S) := (h.lv hd).1.1
  have hdr1 : tDr (psT S) ≤ 100 := h.1.2.2.1.1
  have e0 : 4 * opN S + lst (psC S) (psA S) = 4 * oB (psC S) (psA S) + lst (psC S) (psA S) := rfl
  have hl0 : lst (psC S) (psA S) < 4 := Nat.lt_of_lt_of_le (lst_lt (h.hn hd)) hd4
  generalize 4 * opN S + lst (psC S) (psA S) = i0 at hK e0
  refine wp_intro mM_blown_i.1 [some (vR 53), some (vI x), some (vI z), none, none, none, none, none, none] rfl rfl (Nat.le_of_ble_eq_true rfl) ?_
  intro X hG F C
  have hm := C.rm
  have loop : ∀ (j k : Nat), k + j = N → ∀ (V1 : Nat → Nat → Int) (m q P : Nat) (y3 y5 y6 : Int) (u7 u8 : Option AV), XF V V1 → AR (V1 56) (psC S) m → lst (psC S) m < 4 → q < 125 → P ≤ 1200 ^ k → P * vlR (tDr (psT S)) j q (4 * oB (psC S) m + lst (psC S) m) = vlR (tDr (psT S)) N q0 i0 → edR j q (4 * oB (psC S) m + lst (psC S) m) = edR N q0 i0 → y3 = P → y5 = q → y6 = k → AW X 12 [some (vR 53), some (vI x), some (vI z), some (vL y3), none, some (vI y5), some (vI y6), u7, u8] [] (V1, σ) 0 0 := by
    intro j
    induction j with
    | zero =>
      intro k hk V1 m q P y3 y5 y6 u7 u8 hX hA hlm hq1 hP hv he h3 h5 h6
      rw [vlR, Nat.mul_one] at hv
      refine aw_iload_6 (q := 14) F dM_blown_12 rfl ?_
      refine aw_iload_2 (q := 15) F dM_blown_14 rfl ?_
      refine aw_icmp_ge (q := 18) (t := 117) F dM_blown_15 rfl (by decide) (fun c15 => ?_) (fun c15 => by omega)
      refine aw_lload_3 (q := 118) F dM_blown_117 rfl ?_
      refine aw_lret F C dM_blown_118 rfl (Nat.le_refl _) (Nat.le_refl _) ?_
      rw [h3, hv]; exact hK V1 m hX hA hlm (fun _ => he)
    | succ j ih =>
      intro k hk V1 m q P y3 y5 y6 u7 u8 hX hA hlm hq1 hP hv he h3 h5 h6
      have hi4 : (4 * oB (psC S) m + lst (psC S) m) / 4 = oB (psC S) m := by omega
      have hC1 := hX.lc h64 (h.lc hd)
      have hdr' : V1 l 0 = tDr (psT S) := by rw [hX l (by omega)]; exact hdr
      have hp4 := pc4_le (oB (psC S) m)
      rw [vlR, hi4] at hv
      rw [edR] at he
      have hfl := fcR_le hdr1 (oB (psC S) m) (q % 5)
      have hPk : 1200 ^ k ≤ 1440000 := (show 1200 ^ k ≤ 1200 ^ 2 from Nat.pow_le_pow_right (by decide) (by omega))
      have hPf : P * fcR (tDr (psT S)) (oB (psC S) m) (q % 5) ≤ 1440000 * 1200 := Nat.mul_le_mul (by omega) hfl
      have hPf2 : P * fcR (tDr (psT S)) (oB (psC S) m) (q % 5) ≤ 1200 ^ (k + 1) := by rw [Nat.pow_succ]; exact Nat.mul_le_mul hP hfl
      have eq5 : y5 % 5 = ((q % 5 : Nat) : Int) := by omega
      have eq6 : y5 / 5 = ((q / 5 : Nat) : Int) := by omega
      have stp : ∀ (V2 : Nat → Nat → Int) (m2 : Nat) (y3' y5' y6' : Int) (u7 u8 : Option AV), XF V V2 → AR (V2 56) (psC S) m2 → lst (psC S) m2 < 4 → 4 * oB (psC S) m2 + lst (psC S) m2 = nxR (4 * oB (psC S) m + lst (psC S) m) (q % 5) → y3' = (P * fcR (tDr (psT S)) (oB (psC S) m) (q % 5) : Nat) → y5' = (q / 5 : Nat) → y6' = y6 + 1 → AW X 12 [some (vR 53), some (vI x), some (vI z), some (vL y3'), none, some (vI y5'), some (vI y6'), u7, u8] [] (V2, σ) 0 0 := fun V2 m2 y3' y5' y6' u7 u8 hX2 hA2 hl2 hn2 a3 a5 a6 =>
        ih (k + 1) (by omega) V2 m2 (q / 5) _ _ _ _ _ _ hX2 hA2 hl2 (by omega) hPf2 (by rw [hn2, Nat.mul_assoc]; exact hv) (by rw [hn2]; exact he) a3 a5 (by omega)
      have f0 : pc4 (oB (psC S) m) < q % 5 → vlR (tDr (psT S)) N q0 i0 = 0 := fun e => by
        rw [← hv]
        unfold fcR
        rw [if_pos e, Nat.zero_mul, Nat.mul_zero]
      have f1 : q % 5 = 0 → pc4 (oB (psC S) m) = 0 → fcR (tDr (psT S)) (oB (psC S) m) (q % 5) = 1200 := fun e1 e2 => by unfold fcR; rw [if_neg (by omega), if_pos e1, if_pos e2]
      have f2 : q % 5 = 0 → pc4 (oB (psC S) m) ≠ 0 → fcR (tDr (psT S)) (oB (psC S) m) (q % 5) = 12 * (100 - tDr (psT S)) := fun e1 e2 => by unfold fcR; rw [if_neg (by omega), if_pos e1, if_neg e2]
      have f3 : q % 5 ≠ 0 → q % 5 ≤ pc4 (oB (psC S) m) → fcR (tDr (psT S)) (oB (psC S) m) (q % 5) = 12 * tDr (psT S) / pc4 (oB (psC S) m) := fun e1 e2 => by unfold fcR; rw [if_neg (by omega), if_neg e1]
      have g1 : q % 5 = 0 → pc4 (oB (psC S) m) = 0 → y3 * 1200 = (P * fcR (tDr (psT S)) (oB (psC S) m) (q % 5) : Nat) := fun e1 e2 => by rw [f1 e1 e2, h3, Int.natCast_mul]; rfl
      have g2 : q % 5 = 0 → pc4 (oB (psC S) m) ≠ 0 → y3 * (12 * (100 - (tDr (psT S) : Int))) = (P * fcR (tDr (psT S)) (oB (psC S) m) (q % 5) : Nat) := fun e1 e2 => by
        rw [f2 e1 e2, h3, Int.natCast_mul]
        congr 1
        omega
      have edv : (12 * (tDr (psT S) : Int)) / (pc4 (oB (psC S) m) : Int) = ((12 * tDr (psT S) / pc4 (oB (psC S) m) : Nat) : Int) := by rw [Int.natCast_ediv, Int.natCast_mul]; rfl
      have g3 : q % 5 ≠ 0 → q % 5 ≤ pc4 (oB (psC S) m) → y3 * ((12 * tDr (psT S) / pc4 (oB (psC S) m) : Nat) : Int) = (P * fcR (tDr (psT S)) (oB (psC S) m) (q % 5) : Nat) := fun e1 e2 => by rw [f3 e1 e2, h3, Int.natCast_mul]
      have hnx : ∀ m2 : Nat, oB (psC S) m2 = clr (oB (psC S) m) (opF (oB (psC S) m) 4 (q % 5 - 1) 0) → lst (psC S) m2 = opF (oB (psC S) m) 4 (q % 5 - 1) 0 → q % 5 ≠ 0 → 4 * oB (psC S) m2 + lst (psC S) m2 = nxR (4 * oB (psC S) m + lst (psC S) m) (q % 5) := fun m2 a1 a2 a3 => by
        unfold nxR dnR
        rw [if_neg a3, hi4, a1, a2]
      have hnx0 : q % 5 = 0 → nxR (4 * oB (psC S) m + lst (psC S) m) (q % 5) = 4 * oB (psC S) m + lst (psC S) m := fun a => by unfold nxR; rw [if_pos a]
      clear hv he hfl f1 f2 f3
      refine aw_iload_6 (q := 14) F dM_blown_12 rfl ?_
      refine aw_iload_2 (q := 15) F dM_blown_14 rfl ?_
      refine aw_icmp_ge (q := 18) (t := 117) F dM_blown_15 rfl (by decide) (fun c15 => by omega) (fun c15 => ?_)
      refine aw_iload_5 (q := 20) F dM_blown_18 rfl ?_
      refine aw_iconst (q := 21) F dM_blown_20 rfl (by decide) ?_
      refine aw_irem (q := 22) F dM_blown_21 rfl (by omega) (by omega) ?_
      rw [eq5]
      refine aw_istore_7 (q := 24) F dM_blown_22 rfl trivial ?_
      refine aw_iload_5 (q := 26) F dM_blown_24 rfl ?_
      refine aw_iconst (q := 27) F dM_blown_26 rfl (by decide) ?_
      refine aw_idiv (q := 28) F dM_blown_27 rfl (by omega) (by omega) ?_
      rw [eq6]
      refine aw_istore_5 (q := 30) F dM_blown_28 rfl trivial ?_
      refine aw_aload_0 (q := 31) F dM_blown_30 rfl ?_
      refine av_callV0 (q := 34) (ci := 9) F hm mM_openNow_i mM_openNow_n lM_444 dM_blown_31 rfl rfl rfl (by first | exact hM.o | exact hl.o | exact hM.a55 | exact hM.a56) (by decide) (Nat.le_refl _) (Nat.le_refl _) (Nat.le_of_ble_eq_true rfl) (wM_openNow (n := m) hM hl hC1 hA hc ?_)
      refine aw_istore_8 (q := 36) F dM_blown_34 rfl trivial ?_
      refine aw_iload_7 (q := 38) F dM_blown_36 rfl ?_
      refine aw_iload_8 (q := 40) F dM_blown_38 rfl ?_
      refine aw_icmp_le (q := 43) (t := 45) F dM_blown_40 rfl (by decide) (fun c40 => ?_) (fun c40 => ?_)
      · refine aw_iload_7 (q := 47) F dM_blown_45 rfl ?_
        refine aw_if_ne (q := 50) (t := 81) F dM_blown_47 rfl (by decide) (fun c47 => ?_) (fun c47 => ?_)
        · refine aw_lload_3 (q := 82) F dM_blown_81 rfl ?_
          refine aw_bipush (q := 84) F dM_blown_82 rfl (by decide) ?_
          refine aw_aload_0 (q := 85) F dM_blown_84 rfl ?_
          refine av_getaE (q := 88) F fM_281 dM_blown_85 rfl rfl (by first | exact hM.o | exact hl.o | exact hM.a55 | exact hM.a56) hM.p3 ?_
          refine av_geti (q := 91) F fM_151 dM_blown_88 rfl rfl (by first | exact hM.o | exact hl.o | exact hM.a55 | exact hM.a56) ?_
          rw [hdr']
          refine aw_imul (q := 92) F dM_blown_91 rfl (by constructor <;> omega) ?_
          refine aw_iload_8 (q := 94) F dM_blown_92 rfl ?_
          refine aw_idiv (q := 95) F dM_blown_94 rfl (by omega) (by omega) ?_
          rw [edv]
          refine aw_i2l (q := 96) F dM_blown_95 rfl ?_
          refine aw_lmul (q := 97) F dM_blown_96 rfl (by rw [g3 (by omega) (by omega)]; constructor <;> omega) ?_
          refine aw_lstore_3 (q := 98) F dM_blown_97 rfl trivial ?_
          refine aw_iload_7 (q := 100) F dM_blown_98 rfl ?_
          refine aw_if_le (q := 103) (t := 111) F dM_blown_100 rfl (by decide) (fun c100 => ?_) (fun c100 => ?_)
          · refine aw_iinc_6 (q := 114) F dM_blown_111 rfl trivial (by constructor <;> omega) ?_
            refine aw_goto (t := 12) F dM_blown_114 (by decide) ?_
            first
            | exact stp V1 m _ _ _ _ _ hX hA hlm (hnx0 (by omega)).symm (g1 (by omega) (by omega)) rfl rfl
            | exact stp V1 m _ _ _ _ _ hX hA hlm (hnx0 (by omega)).symm (g2 (by omega) (by omega)) rfl rfl
            | (exfalso; omega)
            | exact stp V2 _ _ _ _ _ _ (hX.trans f108) g108 (by rw [aS_lst]; omega) (hnx _ (oB_sh hc o108) aS_lst (by omega)) (g3 (by omega) (by omega)) rfl rfl
          · refine aw_aload_0 (q := 104) F dM_blown_103 rfl ?_
            refine aw_iload_7 (q := 106) F dM_blown_104 rfl ?_
            refine aw_iconst (q := 107) F dM_blown_106 rfl (by decide) ?_
            refine aw_isub (q := 108) F dM_blown_107 rfl (by constructor <;> omega) ?_
            refine av_callV1 (q := 111) (ci := 9) F hm mM_blows_i mM_blows_n lM_449 dM_blown_108 rfl rfl rfl (by first | exact hM.o | exact hl.o | exact hM.a55 | exact hM.a56) (by decide) (Nat.le_refl _) (Nat.le_refl _) (Nat.le_of_ble_eq_true rfl) (wM_blows (n := m) (t := q % 5 - 1) (by omega) (by omega) hM hl h64 hC1 hA hc (fun V2 f108 o108 g108 => ?_))
            refine aw_iinc_6 (q := 114) F dM_blown_111 rfl trivial (by constructor <;> omega) ?_
            refine aw_goto (t := 12) F dM_blown_114 (by decide) ?_
            first
            | exact stp V1 m _ _ _ _ _ hX hA hlm (hnx0 (by omega)).symm (g1 (by omega) (by omega)) rfl rfl
            | exact stp V1 m _ _ _ _ _ hX hA hlm (hnx0 (by omega)).symm (g2 (by omega) (by omega)) rfl rfl
            | (exfalso; omega)
            | exact stp V2 _ _ _ _ _ _ (hX.trans f108) g108 (by rw [aS_lst]; omega) (hnx _ (oB_sh hc o108) aS_lst (by omega)) (g3 (by omega) (by omega)) rfl rfl
        · refine aw_lload_3 (q := 51) F dM_blown_50 rfl ?_
          refine aw_iload_8 (q := 53) F dM_blown_51 rfl ?_
          refine aw_if_ne (q := 56) (t := 62) F dM_blown_53 rfl (by decide) (fun c53 => ?_) (fun c53 => ?_)
          · refine aw_bipush (q := 64) F dM_blown_62 rfl (by decide) ?_
            refine aw_bipush (q := 66) F dM_blown_64 rfl (by decide) ?_
            refine aw_aload_0 (q := 67) F dM_blown_66 rfl ?_
            refine av_getaE (q := 70) F fM_281 dM_blown_67 rfl rfl (by first | exact hM.o | exact hl.o | exact hM.a55 | exact hM.a56) hM.p3 ?_
            refine av_geti (q := 73) F fM_151 dM_blown_70 rfl rfl (by first | exact hM.o | exact hl.o | exact hM.a55 | exact hM.a56) ?_
            rw [hdr']
            refine aw_isub (q := 74) F dM_blown_73 rfl (by constructor <;> omega) ?_
            refine aw_imul (q := 75) F dM_blown_74 rfl (by constructor <;> omega) ?_
            refine aw_i2l (q := 76) F dM_blown_75 rfl ?_
            refine aw_lmul (q := 77) F dM_blown_76 rfl (by first | (rw [g1 (by omega) (by omega)]; constructor <;> omega) | (rw [g2 (by omega) (by omega)]; constructor <;> omega)) ?_
            refine aw_lstore_3 (q := 78) F dM_blown_77 rfl trivial ?_
            refine aw_goto (t := 98) F dM_blown_78 (by decide) ?_
            refine aw_iload_7 (q := 100) F dM_blown_98 rfl ?_
            refine aw_if_le (q := 103) (t := 111) F dM_blown_100 rfl (by decide) (fun c100 => ?_) (fun c100 => ?_)
            · refine aw_iinc_6 (q := 114) F dM_blown_111 rfl trivial (by constructor <;> omega) ?_
              refine aw_goto (t := 12) F dM_blown_114 (by decide) ?_
              first
              | exact stp V1 m _ _ _ _ _ hX hA hlm (hnx0 (by omega)).symm (g1 (by omega) (by omega)) rfl rfl
              | exact stp V1 m _ _ _ _ _ hX hA hlm (hnx0 (by omega)).symm (g2 (by omega) (by omega)) rfl rfl
              | (exfalso; omega)
              | exact stp V2 _ _ _ _ _ _ (hX.trans f108) g108 (by rw [aS_lst]; omega) (hnx _ (oB_sh hc o108) aS_lst (by omega)) (g3 (by omega) (by omega)) rfl rfl
            · refine aw_aload_0 (q := 104) F dM_blown_103 rfl ?_
              refine aw_iload_7 (q := 106) F dM_blown_104 rfl ?_
              refine aw_iconst (q := 107) F dM_blown_106 rfl (by decide) ?_
              refine aw_isub (q := 108) F dM_blown_107 rfl (by constructor <;> omega) ?_
              refine av_callV1 (q := 111) (ci := 9) F hm mM_blows_i mM_blows_n lM_449 dM_blown_108 rfl rfl rfl (by first | exact hM.o | exact hl.o | exact hM.a55 | exact hM.a56) (by decide) (Nat.le_refl _) (Nat.le_refl _) (Nat.le_of_ble_eq_true rfl) (wM_blows (n := m) (t := q % 5 - 1) (by omega) (by omega) hM hl h64 hC1 hA hc (fun V2 f108 o108 g108 => ?_))
              refine aw_iinc_6 (q := 114) F dM_blown_111 rfl trivial (by constructor <;> omega) ?_
              refine aw_goto (t := 12) F dM_blown_114 (by decide) ?_
              first
              | exact stp V1 m _ _ _ _ _ hX hA hlm (hnx0 (by omega)).symm (g1 (by omega) (by omega)) rfl rfl
              | exact stp V1 m _ _ _ _ _ hX hA hlm (hnx0 (by omega)).symm (g2 (by omega) (by omega)) rfl rfl
              | (exfalso; omega)
              | exact stp V2 _ _ _ _ _ _ (hX.trans f108) g108 (by rw [aS_lst]; omega) (hnx _ (oB_sh hc o108) aS_lst (by omega)) (g3 (by omega) (by omega)) rfl rfl
          · refine aw_ldc2 (q := 59) (z := 1200) F dM_blown_56 rfl kM_447 (by decide) ?_
            refine aw_goto (t := 76) F dM_blown_59 (by decide) ?_
            refine aw_lmul (q := 77) F dM_blown_76 rfl (by first | (rw [g1 (by omega) (by omega)]; constructor <;> omega) | (rw [g2 (by omega) (by omega)]; constructor <;> omega)) ?_
            refine aw_lstore_3 (q := 78) F dM_blown_77 rfl trivial ?_
            refine aw_goto (t := 98) F dM_blown_78 (by decide) ?_
            refine aw_iload_7 (q := 100) F dM_blown_98 rfl ?_
            refine aw_if_le (q := 103) (t := 111) F dM_blown_100 rfl (by decide) (fun c100 => ?_) (fun c100 => ?_)
            · refine aw_iinc_6 (q := 114) F dM_blown_111 rfl trivial (by constructor <;> omega) ?_
              refine aw_goto (t := 12) F dM_blown_114 (by decide) ?_
              first
              | exact stp V1 m _ _ _ _ _ hX hA hlm (hnx0 (by omega)).symm (g1 (by omega) (by omega)) rfl rfl
              | exact stp V1 m _ _ _ _ _ hX hA hlm (hnx0 (by omega)).symm (g2 (by omega) (by omega)) rfl rfl
              | (exfalso; omega)
              | exact stp V2 _ _ _ _ _ _ (hX.trans f108) g108 (by rw [aS_lst]; omega) (hnx _ (oB_sh hc o108) aS_lst (by omega)) (g3 (by omega) (by omega)) rfl rfl
            · refine aw_aload_0 (q := 104) F dM_blown_103 rfl ?_
              refine aw_iload_7 (q := 106) F dM_blown_104 rfl ?_
              refine aw_iconst (q := 107) F dM_blown_106 rfl (by decide) ?_
              refine aw_isub (q := 108) F dM_blown_107 rfl (by constructor <;> omega) ?_
              refine av_callV1 (q := 111) (ci := 9) F hm mM_blows_i mM_blows_n lM_449 dM_blown_108 rfl rfl rfl (by first | exact hM.o | exact hl.o | exact hM.a55 | exact hM.a56) (by decide) (Nat.le_refl _) (Nat.le_refl _) (Nat.le_of_ble_eq_true rfl) (wM_blows (n := m) (t := q % 5 - 1) (by omega) (by omega) hM hl h64 hC1 hA hc (fun V2 f108 o108 g108 => ?_))
              refine aw_iinc_6 (q := 114) F dM_blown_111 rfl trivial (by constructor <;> omega) ?_
              refine aw_goto (t := 12) F dM_blown_114 (by decide) ?_
              first
              | exact stp V1 m _ _ _ _ _ hX hA hlm (hnx0 (by omega)).symm (g1 (by omega) (by omega)) rfl rfl
              | exact stp V1 m _ _ _ _ _ hX hA hlm (hnx0 (by omega)).symm (g2 (by omega) (by omega)) rfl rfl
              | (exfalso; omega)
              | exact stp V2 _ _ _ _ _ _ (hX.trans f108) g108 (by rw [aS_lst]; omega) (hnx _ (oB_sh hc o108) aS_lst (by omega)) (g3 (by omega) (by omega)) rfl rfl
      · refine aw_lconst (q := 44) (z := 0) F dM_blown_43 rfl rfl ?_
        refine aw_lret F C dM_blown_44 rfl (Nat.le_refl _) (Nat.le_refl _) ?_
        have hh := hK V1 m hX hA hlm; rw [f0 (by omega)] at hh; exact hh (fun e => absurd rfl e)
  refine aw_aload_0 (q := 1) F dM_blown_0 rfl ?_
  refine av_callV0 (q := 4) (ci := 9) F hm mM_works_i mM_works_n lM_348 dM_blown_1 rfl rfl rfl (by first | exact hM.o | exact hl.o | exact hM.a55 | exact hM.a56) (by decide) (Nat.le_refl _) (Nat.le_refl _) (Nat.le_of_ble_eq_true rfl) (wM_works hM (fun V2 f1 g1 => ?_))
  refine aw_lconst (q := 5) (z := 1) F dM_blown_4 rfl rfl ?_
  refine aw_lstore_3 (q := 6) F dM_blown_5 rfl trivial ?_
  refine aw_iload_1 (q := 7) F dM_blown_6 rfl ?_
  refine aw_istore_5 (q := 9) F dM_blown_7 rfl trivial ?_
  refine aw_iconst (q := 10) F dM_blown_9 rfl (by decide) ?_
  refine aw_istore_6 (q := 12) F dM_blown_10 rfl trivial ?_
  exact loop N 0 (by omega) V2 (psA S) q0 1 _ _ _ _ _ f1 (AR.now h hd g1) hl0 hq (Nat.le_refl _) (by rw [Nat.one_mul, e0]) (by rw [e0]) rfl hx rfl
theorem wM_blowsAll {x z : Int} {d N : Nat} (hx : x = d) (hz : z = N) (hdd : d < tDn (psT S)) (hN : N ≤ 3) (h : MW V σ l S) (hd : 0 < tDn (psT S)) (hK : ∀ V', BO V V' → V' 53 29 = (1200 ^ N : Nat) → V' 53 30 = (sumN (fun i => if i % 4 = d then bwP S N i else 0) 64 : Nat) → V' 53 31 = (sumN (fun i => if (i / 4).testBit d then 0 else bwP S N i) 64 : Nat) → V' 53 32 = (sumN (fun i => bwP S N i * pc4 (i / 4)) 64 : Nat) → K none (V', σ)) : Wp G 3 mM_blowsAll [vR 53, vI x, vI z] (V, σ) 0 0 K := by
  have hM := h.mo
  have hl := h.la hd
  have hc := h.hc
  have hd4 : tDn (psT S) ≤ 4 := hc.1
  have hdr1 : tDr (psT S) ≤ 100 := h.1.2.2.1.1
  have hl0 : lst (psC S) (psA S) < 4 := Nat.lt_of_lt_of_le (lst_lt (h.hn hd)) hd4
  have ho0 : opN S < 16 := oB_lt hc (psA S)
  have i0e : opN S * 4 + lst (psC S) (psA S) = 4 * opN S + lst (psC S) (psA S) := by omega
  -- the sums over all codes are the class's
  have bk : ∀ F : Nat → Nat, sumN (fun i => bwP S N i * F i) 64 = sumN (fun q => vlR (tDr (psT S)) N q (4 * opN S + lst (psC S) (psA S)) * F (edR N q (4 * opN S + lst (psC S) (psA S)))) (5 ^ N) := fun F => by
    rw [vl_bk, ← i0e]
    exact bw_bk (by omega) N F
  have b1 : sumN (fun i => if i % 4 = d then bwP S N i else 0) 64 = sumN (fun q => vlR (tDr (psT S)) N q (4 * opN S + lst (psC S) (psA S)) * (if edR N q (4 * opN S + lst (psC S) (psA S)) % 4 = d then 1 else 0)) (5 ^ N) := by
    rw [← bk (fun i => if i % 4 = d then 1 else 0)]
    exact sumN_cg (fun i _ => by split <;> omega)
  have b2 : sumN (fun i => if (i / 4).testBit d then 0 else bwP S N i) 64 = sumN (fun q => vlR (tDr (psT S)) N q (4 * opN S + lst (psC S) (psA S)) * (if (edR N q (4 * opN S + lst (psC S) (psA S)) / 4).testBit d then 0 else 1)) (5 ^ N) := by
    rw [← bk (fun i => if (i / 4).testBit d then 0 else 1)]
    exact sumN_cg (fun i _ => by split <;> omega)
  have b3 := bk (fun i => pc4 (i / 4))
  rw [b1, b2, b3] at hK
  clear b1 b2 b3 bk
  have hvl : ∀ q, vlR (tDr (psT S)) N q (4 * opN S + lst (psC S) (psA S)) ≤ 1728000000 := fun q => Nat.le_trans (vlR_le hdr1 N q _) (show 1200 ^ N ≤ 1200 ^ 3 from Nat.pow_le_pow_right (by decide) hN)
  have h5N : 5 ^ N ≤ 125 := (show 5 ^ N ≤ 5 ^ 3 from Nat.pow_le_pow_right (by decide) hN)
  have hbl := fun (G' : GE) (V1 : Nat → Nat → Int) (q : Nat) (hq : q < 5 ^ N) (h1 : MW V1 σ l S) (x z : Int) (hx : x = q) (hz : z = N) (K' : Option AV → Mem → Prop) hK => wM_blown (G := G') (K := K') hx hz (show q < 125 by omega) hN h1 hd hK
  generalize 4 * opN S + lst (psC S) (psA S) = i0 at hK hvl hbl
  refine wp_intro mM_blowsAll_i.1 [some (vR 53), some (vI x), some (vI z), none, none, none, none] rfl rfl (Nat.le_of_ble_eq_true rfl) ?_
  intro X hG F C
  have hm := C.rm
  have codes : ∀ (j q : Nat), q + j = 5 ^ N → ∀ (V1 : Nat → Nat → Int) (y3 y4 : Int) (u5 : Option AV), BO V V1 → V1 53 29 = (1200 ^ N : Nat) → V1 53 30 = (sumN (fun q => vlR (tDr (psT S)) N q i0 * (if edR N q i0 % 4 = d then 1 else 0)) q : Nat) → V1 53 31 = (sumN (fun q => vlR (tDr (psT S)) N q i0 * (if (edR N q i0 / 4).testBit d then 0 else 1)) q : Nat) → V1 53 32 = (sumN (fun q => vlR (tDr (psT S)) N q i0 * pc4 (edR N q i0 / 4)) q : Nat) → y3 = (5 ^ N : Nat) → y4 = q → AW X 56 [some (vR 53), some (vI x), some (vI z), some (vI y3), some (vI y4), u5, none] [] (V1, σ) 0 0 := by
    intro j
    induction j with
    | zero =>
      intro q hq V1 y3 y4 u5 hF e29 e30 e31 e32 h3 h4
      rw [show q = 5 ^ N by omega] at e30 e31 e32
      refine aw_iload_4 (q := 58) F dM_blowsAll_56 rfl ?_
      refine aw_iload_3 (q := 59) F dM_blowsAll_58 rfl ?_
      refine aw_icmp_ge (q := 62) (t := 146) F dM_blowsAll_59 rfl (by decide) (fun c59 => ?_) (fun c59 => by omega)
      refine aw_vret F C dM_blowsAll_146 rfl (Nat.le_refl _) (Nat.le_refl _) ?_
      exact hK V1 hF e29 e30 e31 e32
    | succ j ih =>
      intro q hq V1 y3 y4 u5 hF e29 e30 e31 e32 h3 h4
      have hv := hvl q
      have hs1 := sumN_le (f := fun q => vlR (tDr (psT S)) N q i0 * (if edR N q i0 % 4 = d then 1 else 0)) (B := 1728000000) (k := q) (fun i _ => by have := hvl i; show _ * (if _ then 1 else 0) ≤ _; split <;> omega)
      have hs2 := sumN_le (f := fun q => vlR (tDr (psT S)) N q i0 * (if (edR N q i0 / 4).testBit d then 0 else 1)) (B := 1728000000) (k := q) (fun i _ => by have := hvl i; show _ * (if _ then 0 else 1) ≤ _; split <;> omega)
      have hs3 := sumN_le (f := fun q => vlR (tDr (psT S)) N q i0 * pc4 (edR N q i0 / 4)) (B := 1728000000 * 4) (k := q) (fun i _ => Nat.mul_le_mul (hvl i) (pc4_le _))
      have t1 : sumN (fun q => vlR (tDr (psT S)) N q i0 * (if edR N q i0 % 4 = d then 1 else 0)) (q + 1) = sumN (fun q => vlR (tDr (psT S)) N q i0 * (if edR N q i0 % 4 = d then 1 else 0)) q + vlR (tDr (psT S)) N q i0 * (if edR N q i0 % 4 = d then 1 else 0) := rfl
      have t2 : sumN (fun q => vlR (tDr (psT S)) N q i0 * (if (edR N q i0 / 4).testBit d then 0 else 1)) (q + 1) = sumN (fun q => vlR (tDr (psT S)) N q i0 * (if (edR N q i0 / 4).testBit d then 0 else 1)) q + vlR (tDr (psT S)) N q i0 * (if (edR N q i0 / 4).testBit d then 0 else 1) := rfl
      have t3 : sumN (fun q => vlR (tDr (psT S)) N q i0 * pc4 (edR N q i0 / 4)) (q + 1) = sumN (fun q => vlR (tDr (psT S)) N q i0 * pc4 (edR N q i0 / 4)) q + vlR (tDr (psT S)) N q i0 * pc4 (edR N q i0 / 4) := rfl
      generalize sumN (fun q => vlR (tDr (psT S)) N q i0 * (if edR N q i0 % 4 = d then 1 else 0)) q = s1 at *
      generalize sumN (fun q => vlR (tDr (psT S)) N q i0 * (if (edR N q i0 / 4).testBit d then 0 else 1)) q = s2 at *
      generalize sumN (fun q => vlR (tDr (psT S)) N q i0 * pc4 (edR N q i0 / 4)) q = s3 at *
      have go : ∀ (V2 : Nat → Nat → Int) (m : Nat) (u : Option AV), XF V1 V2 → AR (V2 56) (psC S) m → lst (psC S) m < 4 → (vlR (tDr (psT S)) N q i0 ≠ 0 → 4 * oB (psC S) m + lst (psC S) m = edR N q i0) → AW X 71 [some (vR 53), some (vI x), some (vI z), some (vI y3), some (vI y4), some (vL (vlR (tDr (psT S)) N q i0 : Nat)), none] [] (V2, σ) 0 0 := by
        intro V2 m u hX hA hlm hed
        have hm2 := hF.xf hX
        have k1 : lst (psC S) m = d → vlR (tDr (psT S)) N q i0 * (if edR N q i0 % 4 = d then 1 else 0) = vlR (tDr (psT S)) N q i0 := fun e => by
          by_cases z : vlR (tDr (psT S)) N q i0 = 0
          · rw [z, Nat.zero_mul]
          · rw [if_pos (by have := hed z; omega), Nat.mul_one]
        have k0 : lst (psC S) m ≠ d → vlR (tDr (psT S)) N q i0 * (if edR N q i0 % 4 = d then 1 else 0) = 0 := fun e => by
          by_cases z : vlR (tDr (psT S)) N q i0 = 0
          · rw [z, Nat.zero_mul]
          · rw [if_neg (by have := hed z; omega), Nat.mul_zero]
        have ht : (oB (psC S) m).testBit d = (ld (psC S) m d != 0) := by rw [oB_tb, decide_eq_true (show d < dN (psC S) from hdd), Bool.true_and]
        have l1 : ld (psC S) m d = 0 → vlR (tDr (psT S)) N q i0 * (if (edR N q i0 / 4).testBit d then 0 else 1) = vlR (tDr (psT S)) N q i0 := fun e => by
          by_cases z : vlR (tDr (psT S)) N q i0 = 0
          · rw [z, Nat.zero_mul]
          · rw [show edR N q i0 / 4 = oB (psC S) m by have := hed z; omega, ht, e, if_neg (by decide), Nat.mul_one]
        have l0 : ld (psC S) m d ≠ 0 → vlR (tDr (psT S)) N q i0 * (if (edR N q i0 / 4).testBit d then 0 else 1) = 0 := fun e => by
          by_cases z : vlR (tDr (psT S)) N q i0 = 0
          · rw [z, Nat.zero_mul]
          · rw [show edR N q i0 / 4 = oB (psC S) m by have := hed z; omega, ht, if_pos (bne_iff_ne.mpr e), Nat.mul_zero]
        have m1 : vlR (tDr (psT S)) N q i0 * pc4 (edR N q i0 / 4) = vlR (tDr (psT S)) N q i0 * pc4 (oB (psC S) m) := by
          by_cases z : vlR (tDr (psT S)) N q i0 = 0
          · rw [z, Nat.zero_mul, Nat.zero_mul]
          · rw [show edR N q i0 / 4 = oB (psC S) m by have := hed z; omega]
        have m2 : vlR (tDr (psT S)) N q i0 * pc4 (oB (psC S) m) ≤ 1728000000 * 4 := Nat.mul_le_mul hv (pc4_le _)
        have m3 : ((vlR (tDr (psT S)) N q i0 : Nat) : Int) * (pc4 (oB (psC S) m) : Int) = ((vlR (tDr (psT S)) N q i0 * pc4 (oB (psC S) m) : Nat) : Int) := (Int.natCast_mul _ _).symm
        have x6 : V2 56 6 = lst (psC S) m := hA.2.2.1
        have xd : V2 56 (2 + x).toNat = (ld (psC S) m d : Int) := by rw [show (2 + x).toNat = 2 + d by omega]; exact ar_ld hA (by omega) hdd
        have f30 : V2 53 30 = s1 := by rw [hX 53 (by decide)]; exact e30
        have f31 : V2 53 31 = s2 := by rw [hX 53 (by decide)]; exact e31
        have f32 : V2 53 32 = s3 := by rw [hX 53 (by decide)]; exact e32
        have f29 : V2 53 29 = (1200 ^ N : Nat) := by rw [hX 53 (by decide)]; exact e29
        rw [m1] at t3
        generalize vlR (tDr (psT S)) N q i0 * pc4 (oB (psC S) m) = s3' at *
        have fin : ∀ (a b e : Int), a = (s1 + vlR (tDr (psT S)) N q i0 * (if edR N q i0 % 4 = d then 1 else 0) : Nat) → b = (s2 + vlR (tDr (psT S)) N q i0 * (if (edR N q i0 / 4).testBit d then 0 else 1) : Nat) → e = (s3 + s3' : Nat) → AW X 56 [some (vR 53), some (vI x), some (vI z), some (vI y3), some (vI (y4 + 1)), some (vL (vlR (tDr (psT S)) N q i0 : Nat)), none] [] (up2 (up2 (up2 V2 53 30 a) 53 31 b) 53 32 e, σ) 0 0 := fun a b e ha hb he => by
          refine ih (q + 1) (by omega) _ _ _ _ (((hm2.fl (by decide)).fl (by decide)).fl (by decide)) ?_ ?_ ?_ ?_ h3 (by omega)
          · rw [up2_nek _ _ (by decide), up2_nek _ _ (by decide), up2_nek _ _ (by decide)]; exact f29
          · rw [up2_nek _ _ (by decide), up2_nek _ _ (by decide), up2_same, t1]; exact ha
          · rw [up2_nek _ _ (by decide), up2_same, t2]; exact hb
          · rw [up2_same, t3]; exact he
        clear ih hbl hed t1 t2 t3
        refine aw_aload_0 (q := 72) F dM_blowsAll_71 rfl ?_
        refine aw_dup (q := 73) F dM_blowsAll_72 rfl trivial ?_
        refine av_getl (q := 76) F fM_455 dM_blowsAll_73 rfl rfl (by first | exact hM.o | exact hl.o | exact hM.a55 | exact hM.a56) ?_
        rw [f30]
        refine aw_aload_0 (q := 77) F dM_blowsAll_76 rfl ?_
        refine av_getaE (q := 80) F fM_21 dM_blowsAll_77 rfl rfl (by first | exact hM.o | exact hl.o | exact hM.a55 | exact hM.a56) hM.p16 ?_
        refine aw_bipush (q := 82) F dM_blowsAll_80 rfl (by decide) ?_
        refine av_iaload (q := 83) F dM_blowsAll_82 rfl (by first | exact hM.o | exact hl.o | exact hM.a55 | exact hM.a56) (by omega) (by omega) ?_
        rw [show (6 : Int).toNat = 6 from rfl, x6]
        refine aw_iload_1 (q := 84) F dM_blowsAll_83 rfl ?_
        refine aw_icmp_ne (q := 87) (t := 92) F dM_blowsAll_84 rfl (by decide) (fun c84 => ?_) (fun c84 => ?_)
        · refine aw_lconst (q := 93) (z := 0) F dM_blowsAll_92 rfl rfl ?_
          refine aw_ladd (q := 94) F dM_blowsAll_93 rfl (by constructor <;> omega) ?_
          refine av_putl (q := 97) F fM_455 dM_blowsAll_94 rfl rfl (wr_9_30 _) (by first | exact hM.o | exact hl.o | exact hM.a55 | exact hM.a56) ?_
          refine aw_aload_0 (q := 98) F dM_blowsAll_97 rfl ?_
          refine aw_dup (q := 99) F dM_blowsAll_98 rfl trivial ?_
          refine av_getl (q := 102) F fM_458 dM_blowsAll_99 rfl rfl (by first | exact hM.o | exact hl.o | exact hM.a55 | exact hM.a56) ?_
          rw [up2_nek _ _ (by decide), f31]
          refine aw_aload_0 (q := 103) F dM_blowsAll_102 rfl ?_
          refine av_getaE (q := 106) F fM_21 dM_blowsAll_103 rfl rfl (by first | exact hM.o | exact hl.o | exact hM.a55 | exact hM.a56) hM.p16 ?_
          refine aw_iconst (q := 107) F dM_blowsAll_106 rfl (by decide) ?_
          refine aw_iload_1 (q := 108) F dM_blowsAll_107 rfl ?_
          refine aw_iadd (q := 109) F dM_blowsAll_108 rfl (by constructor <;> omega) ?_
          refine av_iaload (q := 110) F dM_blowsAll_109 rfl (by first | exact hM.o | exact hl.o | exact hM.a55 | exact hM.a56) (by omega) (by omega) ?_
          rw [up2_nea _ _ (by decide), xd]
          refine aw_if_ne (q := 113) (t := 118) F dM_blowsAll_110 rfl (by decide) (fun c110 => ?_) (fun c110 => ?_)
          · refine aw_lconst (q := 119) (z := 0) F dM_blowsAll_118 rfl rfl ?_
            refine aw_ladd (q := 120) F dM_blowsAll_119 rfl (by constructor <;> omega) ?_
            refine av_putl (q := 123) F fM_458 dM_blowsAll_120 rfl rfl (wr_9_31 _) (by first | exact hM.o | exact hl.o | exact hM.a55 | exact hM.a56) ?_
            refine aw_aload_0 (q := 124) F dM_blowsAll_123 rfl ?_
            refine aw_dup (q := 125) F dM_blowsAll_124 rfl trivial ?_
            refine av_getl (q := 128) F fM_461 dM_blowsAll_125 rfl rfl (by first | exact hM.o | exact hl.o | exact hM.a55 | exact hM.a56) ?_
            rw [up2_nek _ _ (by decide), up2_nek _ _ (by decide), f32]
            refine aw_lload_5 (q := 130) F dM_blowsAll_128 rfl ?_
            refine aw_aload_0 (q := 131) F dM_blowsAll_130 rfl ?_
            refine av_callV0 (q := 134) (ci := 9) F hm mM_openNow_i mM_openNow_n lM_444 dM_blowsAll_131 rfl rfl rfl (by first | exact hM.o | exact hl.o | exact hM.a55 | exact hM.a56) (by decide) (Nat.le_refl _) (Nat.le_refl _) (Nat.le_of_ble_eq_true rfl) (wM_openNow (n := m) hM hl (((hm2.fl (k := 30) (by decide)).fl (k := 31) (by decide)).mf.lc (h.h64 hd) (h.lc hd)) (by rw [up2_nea _ _ (by decide), up2_nea _ _ (by decide)]; exact hA) hc ?_)
            refine aw_i2l (q := 135) F dM_blowsAll_134 rfl ?_
            refine aw_lmul (q := 136) F dM_blowsAll_135 rfl (by rw [m3]; constructor <;> omega) ?_
            rw [m3]
            refine aw_ladd (q := 137) F dM_blowsAll_136 rfl (by constructor <;> omega) ?_
            refine av_putl (q := 140) F fM_461 dM_blowsAll_137 rfl rfl (wr_9_32 _) (by first | exact hM.o | exact hl.o | exact hM.a55 | exact hM.a56) ?_
            refine aw_iinc_4 (q := 143) F dM_blowsAll_140 rfl trivial (by constructor <;> omega) ?_
            refine aw_goto (t := 56) F dM_blowsAll_143 (by decide) ?_
            first
            | exact fin _ _ _ (by rw [k1 (by omega)]; omega) (by rw [l1 (by omega)]; omega) (by omega)
            | exact fin _ _ _ (by rw [k1 (by omega)]; omega) (by rw [l0 (by omega)]; omega) (by omega)
            | exact fin _ _ _ (by rw [k0 (by omega)]; omega) (by rw [l1 (by omega)]; omega) (by omega)
            | exact fin _ _ _ (by rw [k0 (by omega)]; omega) (by rw [l0 (by omega)]; omega) (by omega)
          · refine aw_lload_5 (q := 115) F dM_blowsAll_113 rfl ?_
            refine aw_goto (t := 119) F dM_blowsAll_115 (by decide) ?_
            refine aw_ladd (q := 120) F dM_blowsAll_119 rfl (by constructor <;> omega) ?_
            refine av_putl (q := 123) F fM_458 dM_blowsAll_120 rfl rfl (wr_9_31 _) (by first | exact hM.o | exact hl.o | exact hM.a55 | exact hM.a56) ?_
            refine aw_aload_0 (q := 124) F dM_blowsAll_123 rfl ?_
            refine aw_dup (q := 125) F dM_blowsAll_124 rfl trivial ?_
            refine av_getl (q := 128) F fM_461 dM_blowsAll_125 rfl rfl (by first | exact hM.o | exact hl.o | exact hM.a55 | exact hM.a56) ?_
            rw [up2_nek _ _ (by decide), up2_nek _ _ (by decide), f32]
            refine aw_lload_5 (q := 130) F dM_blowsAll_128 rfl ?_
            refine aw_aload_0 (q := 131) F dM_blowsAll_130 rfl ?_
            refine av_callV0 (q := 134) (ci := 9) F hm mM_openNow_i mM_openNow_n lM_444 dM_blowsAll_131 rfl rfl rfl (by first | exact hM.o | exact hl.o | exact hM.a55 | exact hM.a56) (by decide) (Nat.le_refl _) (Nat.le_refl _) (Nat.le_of_ble_eq_true rfl) (wM_openNow (n := m) hM hl (((hm2.fl (k := 30) (by decide)).fl (k := 31) (by decide)).mf.lc (h.h64 hd) (h.lc hd)) (by rw [up2_nea _ _ (by decide), up2_nea _ _ (by decide)]; exact hA) hc ?_)
            refine aw_i2l (q := 135) F dM_blowsAll_134 rfl ?_
            refine aw_lmul (q := 136) F dM_blowsAll_135 rfl (by rw [m3]; constructor <;> omega) ?_
            rw [m3]
            refine aw_ladd (q := 137) F dM_blowsAll_136 rfl (by constructor <;> omega) ?_
            refine av_putl (q := 140) F fM_461 dM_blowsAll_137 rfl rfl (wr_9_32 _) (by first | exact hM.o | exact hl.o | exact hM.a55 | exact hM.a56) ?_
            refine aw_iinc_4 (q := 143) F dM_blowsAll_140 rfl trivial (by constructor <;> omega) ?_
            refine aw_goto (t := 56) F dM_blowsAll_143 (by decide) ?_
            first
            | exact fin _ _ _ (by rw [k1 (by omega)]; omega) (by rw [l1 (by omega)]; omega) (by omega)
            | exact fin _ _ _ (by rw [k1 (by omega)]; omega) (by rw [l0 (by omega)]; omega) (by omega)
            | exact fin _ _ _ (by rw [k0 (by omega)]; omega) (by rw [l1 (by omega)]; omega) (by omega)
            | exact fin _ _ _ (by rw [k0 (by omega)]; omega) (by rw [l0 (by omega)]; omega) (by omega)
        · refine aw_lload_5 (q := 89) F dM_blowsAll_87 rfl ?_
          refine aw_goto (t := 93) F dM_blowsAll_89 (by decide) ?_
          refine aw_ladd (q := 94) F dM_blowsAll_93 rfl (by constructor <;> omega) ?_
          refine av_putl (q := 97) F fM_455 dM_blowsAll_94 rfl rfl (wr_9_30 _) (by first | exact hM.o | exact hl.o | exact hM.a55 | exact hM.a56) ?_
          refine aw_aload_0 (q := 98) F dM_blowsAll_97 rfl ?_
          refine aw_dup (q := 99) F dM_blowsAll_98 rfl trivial ?_
          refine av_getl (q := 102) F fM_458 dM_blowsAll_99 rfl rfl (by first | exact hM.o | exact hl.o | exact hM.a55 | exact hM.a56) ?_
          rw [up2_nek _ _ (by decide), f31]
          refine aw_aload_0 (q := 103) F dM_blowsAll_102 rfl ?_
          refine av_getaE (q := 106) F fM_21 dM_blowsAll_103 rfl rfl (by first | exact hM.o | exact hl.o | exact hM.a55 | exact hM.a56) hM.p16 ?_
          refine aw_iconst (q := 107) F dM_blowsAll_106 rfl (by decide) ?_
          refine aw_iload_1 (q := 108) F dM_blowsAll_107 rfl ?_
          refine aw_iadd (q := 109) F dM_blowsAll_108 rfl (by constructor <;> omega) ?_
          refine av_iaload (q := 110) F dM_blowsAll_109 rfl (by first | exact hM.o | exact hl.o | exact hM.a55 | exact hM.a56) (by omega) (by omega) ?_
          rw [up2_nea _ _ (by decide), xd]
          refine aw_if_ne (q := 113) (t := 118) F dM_blowsAll_110 rfl (by decide) (fun c110 => ?_) (fun c110 => ?_)
          · refine aw_lconst (q := 119) (z := 0) F dM_blowsAll_118 rfl rfl ?_
            refine aw_ladd (q := 120) F dM_blowsAll_119 rfl (by constructor <;> omega) ?_
            refine av_putl (q := 123) F fM_458 dM_blowsAll_120 rfl rfl (wr_9_31 _) (by first | exact hM.o | exact hl.o | exact hM.a55 | exact hM.a56) ?_
            refine aw_aload_0 (q := 124) F dM_blowsAll_123 rfl ?_
            refine aw_dup (q := 125) F dM_blowsAll_124 rfl trivial ?_
            refine av_getl (q := 128) F fM_461 dM_blowsAll_125 rfl rfl (by first | exact hM.o | exact hl.o | exact hM.a55 | exact hM.a56) ?_
            rw [up2_nek _ _ (by decide), up2_nek _ _ (by decide), f32]
            refine aw_lload_5 (q := 130) F dM_blowsAll_128 rfl ?_
            refine aw_aload_0 (q := 131) F dM_blowsAll_130 rfl ?_
            refine av_callV0 (q := 134) (ci := 9) F hm mM_openNow_i mM_openNow_n lM_444 dM_blowsAll_131 rfl rfl rfl (by first | exact hM.o | exact hl.o | exact hM.a55 | exact hM.a56) (by decide) (Nat.le_refl _) (Nat.le_refl _) (Nat.le_of_ble_eq_true rfl) (wM_openNow (n := m) hM hl (((hm2.fl (k := 30) (by decide)).fl (k := 31) (by decide)).mf.lc (h.h64 hd) (h.lc hd)) (by rw [up2_nea _ _ (by decide), up2_nea _ _ (by decide)]; exact hA) hc ?_)
            refine aw_i2l (q := 135) F dM_blowsAll_134 rfl ?_
            refine aw_lmul (q := 136) F dM_blowsAll_135 rfl (by rw [m3]; constructor <;> omega) ?_
            rw [m3]
            refine aw_ladd (q := 137) F dM_blowsAll_136 rfl (by constructor <;> omega) ?_
            refine av_putl (q := 140) F fM_461 dM_blowsAll_137 rfl rfl (wr_9_32 _) (by first | exact hM.o | exact hl.o | exact hM.a55 | exact hM.a56) ?_
            refine aw_iinc_4 (q := 143) F dM_blowsAll_140 rfl trivial (by constructor <;> omega) ?_
            refine aw_goto (t := 56) F dM_blowsAll_143 (by decide) ?_
            first
            | exact fin _ _ _ (by rw [k1 (by omega)]; omega) (by rw [l1 (by omega)]; omega) (by omega)
            | exact fin _ _ _ (by rw [k1 (by omega)]; omega) (by rw [l0 (by omega)]; omega) (by omega)
            | exact fin _ _ _ (by rw [k0 (by omega)]; omega) (by rw [l1 (by omega)]; omega) (by omega)
            | exact fin _ _ _ (by rw [k0 (by omega)]; omega) (by rw [l0 (by omega)]; omega) (by omega)
          · refine aw_lload_5 (q := 115) F dM_blowsAll_113 rfl ?_
            refine aw_goto (t := 119) F dM_blowsAll_115 (by decide) ?_
            refine aw_ladd (q := 120) F dM_blowsAll_119 rfl (by constructor <;> omega) ?_
            refine av_putl (q := 123) F fM_458 dM_blowsAll_120 rfl rfl (wr_9_31 _) (by first | exact hM.o | exact hl.o | exact hM.a55 | exact hM.a56) ?_
            refine aw_aload_0 (q := 124) F dM_blowsAll_123 rfl ?_
            refine aw_dup (q := 125) F dM_blowsAll_124 rfl trivial ?_
            refine av_getl (q := 128) F fM_461 dM_blowsAll_125 rfl rfl (by first | exact hM.o | exact hl.o | exact hM.a55 | exact hM.a56) ?_
            rw [up2_nek _ _ (by decide), up2_nek _ _ (by decide), f32]
            refine aw_lload_5 (q := 130) F dM_blowsAll_128 rfl ?_
            refine aw_aload_0 (q := 131) F dM_blowsAll_130 rfl ?_
            refine av_callV0 (q := 134) (ci := 9) F hm mM_openNow_i mM_openNow_n lM_444 dM_blowsAll_131 rfl rfl rfl (by first | exact hM.o | exact hl.o | exact hM.a55 | exact hM.a56) (by decide) (Nat.le_refl _) (Nat.le_refl _) (Nat.le_of_ble_eq_true rfl) (wM_openNow (n := m) hM hl (((hm2.fl (k := 30) (by decide)).fl (k := 31) (by decide)).mf.lc (h.h64 hd) (h.lc hd)) (by rw [up2_nea _ _ (by decide), up2_nea _ _ (by decide)]; exact hA) hc ?_)
            refine aw_i2l (q := 135) F dM_blowsAll_134 rfl ?_
            refine aw_lmul (q := 136) F dM_blowsAll_135 rfl (by rw [m3]; constructor <;> omega) ?_
            rw [m3]
            refine aw_ladd (q := 137) F dM_blowsAll_136 rfl (by constructor <;> omega) ?_
            refine av_putl (q := 140) F fM_461 dM_blowsAll_137 rfl rfl (wr_9_32 _) (by first | exact hM.o | exact hl.o | exact hM.a55 | exact hM.a56) ?_
            refine aw_iinc_4 (q := 143) F dM_blowsAll_140 rfl trivial (by constructor <;> omega) ?_
            refine aw_goto (t := 56) F dM_blowsAll_143 (by decide) ?_
            first
            | exact fin _ _ _ (by rw [k1 (by omega)]; omega) (by rw [l1 (by omega)]; omega) (by omega)
            | exact fin _ _ _ (by rw [k1 (by omega)]; omega) (by rw [l0 (by omega)]; omega) (by omega)
            | exact fin _ _ _ (by rw [k0 (by omega)]; omega) (by rw [l1 (by omega)]; omega) (by omega)
            | exact fin _ _ _ (by rw [k0 (by omega)]; omega) (by rw [l0 (by omega)]; omega) (by omega)
      refine aw_iload_4 (q := 58) F dM_blowsAll_56 rfl ?_
      refine aw_iload_3 (q := 59) F dM_blowsAll_58 rfl ?_
      refine aw_icmp_ge (q := 62) (t := 146) F dM_blowsAll_59 rfl (by decide) (fun c59 => by omega) (fun c59 => ?_)
      refine aw_aload_0 (q := 63) F dM_blowsAll_62 rfl ?_
      refine aw_iload_4 (q := 65) F dM_blowsAll_63 rfl ?_
      refine aw_iload_2 (q := 66) F dM_blowsAll_65 rfl ?_
      refine av_callV2 (q := 69) (ci := 9) F hm mM_blown_i mM_blown_n lM_464 dM_blowsAll_66 rfl rfl rfl (by first | exact hM.o | exact hl.o | exact hM.a55 | exact hM.a56) (by decide) (Nat.le_refl _) (Nat.le_refl _) (Nat.le_of_ble_eq_true rfl) (hbl _ V1 q (by omega) (hF.mw h) _ _ h4 hz _ (fun V2 m66 f66 g66 o66 e66 => ?_))
      refine aw_lstore_5 (q := 71) F dM_blowsAll_69 rfl trivial ?_
      exact go V2 m66 none f66 g66 o66 e66
  have pow : ∀ (j k : Nat), k + j = N → ∀ (V1 : Nat → Nat → Int) (y3 y4 : Int), BO V V1 → V1 53 29 = (1200 ^ k : Nat) → V1 53 30 = 0 → V1 53 31 = 0 → V1 53 32 = 0 → y3 = (5 ^ k : Nat) → y4 = k → AW X 25 [some (vR 53), some (vI x), some (vI z), some (vI y3), some (vI y4), none, none] [] (V1, σ) 0 0 := by
    intro j
    induction j with
    | zero =>
      intro k hk V1 y3 y4 hF e29 e30 e31 e32 h3 h4
      rw [show k = N by omega] at h3 e29
      refine aw_iload_4 (q := 27) F dM_blowsAll_25 rfl ?_
      refine aw_iload_2 (q := 28) F dM_blowsAll_27 rfl ?_
      refine aw_icmp_ge (q := 31) (t := 53) F dM_blowsAll_28 rfl (by decide) (fun c28 => ?_) (fun c28 => by omega)
      refine aw_iconst (q := 54) F dM_blowsAll_53 rfl (by decide) ?_
      refine aw_istore_4 (q := 56) F dM_blowsAll_54 rfl trivial ?_
      exact codes _ 0 (Nat.zero_add _) V1 _ _ _ hF e29 e30 e31 e32 h3 rfl
    | succ j ih =>
      intro k hk V1 y3 y4 hF e29 e30 e31 e32 h3 h4
      have p1 : 1200 ^ (k + 1) ≤ 1728000000 := (show 1200 ^ (k + 1) ≤ 1200 ^ 3 from Nat.pow_le_pow_right (by decide) (by omega))
      have p2 : 5 ^ (k + 1) ≤ 125 := (show 5 ^ (k + 1) ≤ 5 ^ 3 from Nat.pow_le_pow_right (by decide) (by omega))
      have p3 : 1200 ^ (k + 1) = 1200 ^ k * 1200 := Nat.pow_succ _ _
      have p4 : 5 ^ (k + 1) = 5 ^ k * 5 := Nat.pow_succ _ _
      generalize 1200 ^ k = P at *
      generalize 5 ^ k = Q at *
      rw [p3] at p1
      rw [p4] at p2
      refine aw_iload_4 (q := 27) F dM_blowsAll_25 rfl ?_
      refine aw_iload_2 (q := 28) F dM_blowsAll_27 rfl ?_
      refine aw_icmp_ge (q := 31) (t := 53) F dM_blowsAll_28 rfl (by decide) (fun c28 => by omega) (fun c28 => ?_)
      refine aw_aload_0 (q := 32) F dM_blowsAll_31 rfl ?_
      refine aw_dup (q := 33) F dM_blowsAll_32 rfl trivial ?_
      refine av_getl (q := 36) F fM_452 dM_blowsAll_33 rfl rfl (by first | exact hM.o | exact hl.o | exact hM.a55 | exact hM.a56) ?_
      rw [e29]
      refine aw_ldc2 (q := 39) (z := 1200) F dM_blowsAll_36 rfl kM_447 (by decide) ?_
      refine aw_lmul (q := 40) F dM_blowsAll_39 rfl (by constructor <;> omega) ?_
      refine av_putl (q := 43) F fM_452 dM_blowsAll_40 rfl rfl (wr_9_29 _) (by first | exact hM.o | exact hl.o | exact hM.a55 | exact hM.a56) ?_
      refine aw_iload_3 (q := 44) F dM_blowsAll_43 rfl ?_
      refine aw_iconst (q := 45) F dM_blowsAll_44 rfl (by decide) ?_
      refine aw_imul (q := 46) F dM_blowsAll_45 rfl (by constructor <;> omega) ?_
      refine aw_istore_3 (q := 47) F dM_blowsAll_46 rfl trivial ?_
      refine aw_iinc_4 (q := 50) F dM_blowsAll_47 rfl trivial (by constructor <;> omega) ?_
      refine aw_goto (t := 25) F dM_blowsAll_50 (by decide) ?_
      exact ih (k + 1) (by omega) _ _ _ (hF.fl (by decide)) (by rw [up2_same, p3]; omega) (by rw [up2_nek _ _ (by decide)]; exact e30) (by rw [up2_nek _ _ (by decide)]; exact e31) (by rw [up2_nek _ _ (by decide)]; exact e32) (by rw [p4]; omega) (by omega)
  refine aw_aload_0 (q := 1) F dM_blowsAll_0 rfl ?_
  refine aw_lconst (q := 2) (z := 1) F dM_blowsAll_1 rfl rfl ?_
  refine av_putl (q := 5) F fM_452 dM_blowsAll_2 rfl rfl (wr_9_29 _) (by first | exact hM.o | exact hl.o | exact hM.a55 | exact hM.a56) ?_
  refine aw_aload_0 (q := 6) F dM_blowsAll_5 rfl ?_
  refine aw_lconst (q := 7) (z := 0) F dM_blowsAll_6 rfl rfl ?_
  refine av_putl (q := 10) F fM_455 dM_blowsAll_7 rfl rfl (wr_9_30 _) (by first | exact hM.o | exact hl.o | exact hM.a55 | exact hM.a56) ?_
  refine aw_aload_0 (q := 11) F dM_blowsAll_10 rfl ?_
  refine aw_lconst (q := 12) (z := 0) F dM_blowsAll_11 rfl rfl ?_
  refine av_putl (q := 15) F fM_458 dM_blowsAll_12 rfl rfl (wr_9_31 _) (by first | exact hM.o | exact hl.o | exact hM.a55 | exact hM.a56) ?_
  refine aw_aload_0 (q := 16) F dM_blowsAll_15 rfl ?_
  refine aw_lconst (q := 17) (z := 0) F dM_blowsAll_16 rfl rfl ?_
  refine av_putl (q := 20) F fM_461 dM_blowsAll_17 rfl rfl (wr_9_32 _) (by first | exact hM.o | exact hl.o | exact hM.a55 | exact hM.a56) ?_
  refine aw_iconst (q := 21) F dM_blowsAll_20 rfl (by decide) ?_
  refine aw_istore_3 (q := 22) F dM_blowsAll_21 rfl trivial ?_
  refine aw_iconst (q := 23) F dM_blowsAll_22 rfl (by decide) ?_
  refine aw_istore_4 (q := 25) F dM_blowsAll_23 rfl trivial ?_
  refine pow N 0 (by omega) _ _ _ (((((BO.rf V).fl (by decide)).fl (by decide)).fl (by decide)).fl (by decide)) ?_ ?_ ?_ ?_ rfl rfl
  · rw [up2_nek _ _ (by decide), up2_nek _ _ (by decide), up2_nek _ _ (by decide), up2_same]; rfl
  · rw [up2_nek _ _ (by decide), up2_nek _ _ (by decide), up2_same]
  · rw [up2_nek _ _ (by decide), up2_same]
  · rw [up2_same]
theorem wM_refusesTimes {x n : Int} {b : Bool} (hx : x = bz b) (hM : moS σ l) (h0 : b = true → 0 ≤ n ∧ n ≤ 3 → K (some (vI 0)) (V, σ)) (h1 : b = false → K (some (vI 1)) (V, σ)) (h2 : b = true → ¬ (0 ≤ n ∧ n ≤ 3) → K (some (vI 2)) (V, σ)) : Wp G 1 mM_refusesTimes [vR 53, vI x, vI n] (V, σ) 0 0 K := by
  have hbt : ¬ x = 0 → b = true := fun e => by cases b; exact absurd hx e; rfl
  have hbf : x = 0 → b = false := fun e => by cases b; rfl; rw [e] at hx; exact absurd hx (by decide)
  refine wp_intro mM_refusesTimes_i.1 [some (vR 53), some (vI x), some (vI n)] rfl rfl (Nat.le_of_ble_eq_true rfl) ?_
  intro X hG F C
  have hm := C.rm
  refine aw_iload_1 (q := 1) F dM_refusesTimes_0 rfl ?_
  refine aw_if_ne (q := 4) (t := 8) F dM_refusesTimes_1 rfl (by decide) (fun c1 => ?_) (fun c1 => ?_)
  · refine aw_iload_2 (q := 9) F dM_refusesTimes_8 rfl ?_
    refine aw_iconst (q := 10) F dM_refusesTimes_9 rfl (by decide) ?_
    refine aw_iconst (q := 11) F dM_refusesTimes_10 rfl (by decide) ?_
    refine av_callS3 (q := 14) F hm mM_in_i mM_in_n lM_357 dM_refusesTimes_11 rfl (by decide) (Nat.le_refl _) (Nat.le_refl _) (Nat.le_of_ble_eq_true rfl) (wM_in (fun c11 => ?_) (fun c11 => ?_))
    · refine aw_if_eq (q := 17) (t := 21) F dM_refusesTimes_14 rfl (by decide) (fun c14 => absurd c14 (by decide)) (fun c14 => ?_)
      refine aw_iconst (q := 18) F dM_refusesTimes_17 rfl (by decide) ?_
      refine aw_goto (t := 22) F dM_refusesTimes_18 (by decide) ?_
      refine aw_iret F C dM_refusesTimes_22 rfl (Nat.le_refl _) (Nat.le_refl _) ?_
      exact h0 (hbt c1) c11
    · refine aw_if_eq (q := 17) (t := 21) F dM_refusesTimes_14 rfl (by decide) (fun c14 => ?_) (fun c14 => absurd c14 (by decide))
      refine aw_iconst (q := 22) F dM_refusesTimes_21 rfl (by decide) ?_
      refine aw_iret F C dM_refusesTimes_22 rfl (Nat.le_refl _) (Nat.le_refl _) ?_
      exact h2 (hbt c1) c11
  · refine aw_iconst (q := 5) F dM_refusesTimes_4 rfl (by decide) ?_
    refine aw_goto (t := 22) F dM_refusesTimes_5 (by decide) ?_
    refine aw_iret F C dM_refusesTimes_22 rfl (Nat.le_refl _) (Nat.le_refl _) ?_
    exact h1 (hbf c1)
theorem wM_odds {x n w : Int} {b : Bool} (hw : w = bz b) (h : MW V σ l S) (hK : MK K V σ l (setR S (wy (0 ≤ x ∧ x < tDn (psT S)) (0 ≤ n ∧ n ≤ 3))) (some (vL (rfD (wy (0 ≤ x ∧ x < tDn (psT S)) (0 ≤ n ∧ n ≤ 3)) (oddV (sumN (fun i => if i % 4 = x.toNat then bwP S n.toNat i else 0) 64) (1200 ^ n.toNat) b) (-1))))) : Wp G 4 mM_odds [vR 53, vI x, vI n, vI w] (V, σ) 0 0 K := by
  obtain ⟨g, r1, r2⟩ := m3 vL hK
  have hM := h.mo
  refine wp_intro mM_odds_i.1 [some (vR 53), some (vI x), some (vI n), some (vI w), none] rfl rfl (Nat.le_of_ble_eq_true rfl) ?_
  intro X hG F C
  have hm := C.rm
  refine aw_aload_0 (q := 1) F dM_odds_0 rfl ?_
  refine aw_iconst (q := 2) F dM_odds_1 rfl (by decide) ?_
  refine av_puti (q := 5) F fM_46 dM_odds_2 rfl rfl (wr_9_0 _) (by first | exact hM.o | exact hl.o | exact hM.a55 | exact hM.a56) ?_
  refine aw_aload_0 (q := 6) F dM_odds_5 rfl ?_
  refine aw_aload_0 (q := 7) F dM_odds_6 rfl ?_
  refine aw_iload_1 (q := 8) F dM_odds_7 rfl ?_
  refine av_callV1 (q := 11) (ci := 9) F hm mM_isDoor_i mM_isDoor_n lM_354 dM_odds_8 rfl rfl rfl (by first | exact hM.o | exact hl.o | exact hM.a55 | exact hM.a56) (by decide) (Nat.le_refl _) (Nat.le_refl _) (Nat.le_of_ble_eq_true rfl) (wM_isDoor (D := tDn (psT S)) hM h.zer h.th.dr (fun c8 => ?_) (fun c8 => ?_))
  · refine aw_iload_2 (q := 12) F dM_odds_11 rfl ?_
    refine av_callV2 (q := 15) (ci := 9) F hm mM_refusesTimes_i mM_refusesTimes_n lM_468 dM_odds_12 rfl rfl rfl (by first | exact hM.o | exact hl.o | exact hM.a55 | exact hM.a56) (by decide) (Nat.le_refl _) (Nat.le_refl _) (Nat.le_of_ble_eq_true rfl) (wM_refusesTimes (b := decide (0 ≤ x ∧ x < tDn (psT S))) (by first | (rw [decide_eq_true c8]; rfl) | (rw [decide_eq_false c8]; rfl)) hM (fun d12 w12 => ?_) (fun d12 => ?_) (fun d12 w12 => ?_))
    · refine aw_istore_4 (q := 17) F dM_odds_15 rfl trivial ?_
      refine aw_iload_4 (q := 19) F dM_odds_17 rfl ?_
      refine aw_if_le (q := 22) (t := 30) F dM_odds_19 rfl (by decide) (fun c19 => ?_) (fun c19 => absurd c19 (by decide))
      have hdd := of_decide_eq_true d12
      have hs := sumN_le (f := fun i => if i % 4 = x.toNat then bwP S n.toNat i else 0) (B := 10000000000000000) (k := 64) (fun i _ => by have := bwP_le (S := S) h.1.2.2.1 (show n.toNat ≤ 3 by omega) i; show (if _ then _ else _) ≤ _; split <;> omega)
      have hp3 : 1200 ^ n.toNat ≤ 1200 ^ 3 := Nat.pow_le_pow_right (by decide) (by omega)
      refine aw_aload_0 (q := 31) F dM_odds_30 rfl ?_
      refine aw_iload_1 (q := 32) F dM_odds_31 rfl ?_
      refine aw_iload_2 (q := 33) F dM_odds_32 rfl ?_
      refine av_callV2 (q := 36) (ci := 9) F hm mM_blowsAll_i mM_blowsAll_n lM_472 dM_odds_33 rfl rfl rfl (by first | exact hM.o | exact hl.o | exact hM.a55 | exact hM.a56) (by decide) (Nat.le_refl _) (Nat.le_refl _) (Nat.le_of_ble_eq_true rfl) (wM_blowsAll (d := x.toNat) (N := n.toNat) (by omega) (by omega) (by omega) (by omega) h.th (by omega) (fun V2 f33 p33 a33 e33 i33 => ?_))
      refine aw_aload_0 (q := 37) F dM_odds_36 rfl ?_
      refine aw_aload_0 (q := 38) F dM_odds_37 rfl ?_
      refine av_getl (q := 41) F fM_455 dM_odds_38 rfl rfl (by first | exact hM.o | exact hl.o | exact hM.a55 | exact hM.a56) ?_
      rw [a33]
      refine aw_aload_0 (q := 42) F dM_odds_41 rfl ?_
      refine av_getl (q := 45) F fM_452 dM_odds_42 rfl rfl (by first | exact hM.o | exact hl.o | exact hM.a55 | exact hM.a56) ?_
      rw [p33]
      refine aw_iload_3 (q := 46) F dM_odds_45 rfl ?_
      refine av_callV3 (q := 49) (ci := 9) F hm mM_fraction_i mM_fraction_n lM_475 dM_odds_46 rfl rfl rfl (by first | exact hM.o | exact hl.o | exact hM.a55 | exact hM.a56) (by decide) (Nat.le_refl _) (Nat.le_refl _) (Nat.le_of_ble_eq_true rfl) (wM_fraction (b := b) rfl rfl (by omega) (by omega) (Nat.pow_pos (by decide)) hw hM ?_)
      refine aw_lret F C dM_odds_49 rfl (Nat.le_refl _) (Nat.le_refl _) ?_
      exact MK.fin (S := S) (g hdd w12) h (by decide) f33.mf (f33.q h.th.q)
    · refine aw_istore_4 (q := 17) F dM_odds_15 rfl trivial ?_
      refine aw_iload_4 (q := 19) F dM_odds_17 rfl ?_
      refine aw_if_le (q := 22) (t := 30) F dM_odds_19 rfl (by decide) (fun c19 => absurd c19 (by decide)) (fun c19 => ?_)
      refine aw_aload_0 (q := 23) F dM_odds_22 rfl ?_
      refine aw_iload_4 (q := 25) F dM_odds_23 rfl ?_
      refine av_callV1 (q := 28) (ci := 9) F hm mM_refused_i mM_refused_n lM_52 dM_odds_25 rfl rfl rfl (by first | exact hM.o | exact hl.o | exact hM.a55 | exact hM.a56) (by decide) (Nat.le_refl _) (Nat.le_refl _) (Nat.le_of_ble_eq_true rfl) (wM_refused hM ?_)
      refine aw_i2l (q := 29) F dM_odds_28 rfl ?_
      refine aw_lret F C dM_odds_29 rfl (Nat.le_refl _) (Nat.le_refl _) ?_
      first | exact MK.fin0 (r1 (of_decide_eq_false d12)) h (by decide) | exact MK.fin0 (r2 (of_decide_eq_true d12) w12) h (by decide)
    · refine aw_istore_4 (q := 17) F dM_odds_15 rfl trivial ?_
      refine aw_iload_4 (q := 19) F dM_odds_17 rfl ?_
      refine aw_if_le (q := 22) (t := 30) F dM_odds_19 rfl (by decide) (fun c19 => absurd c19 (by decide)) (fun c19 => ?_)
      refine aw_aload_0 (q := 23) F dM_odds_22 rfl ?_
      refine aw_iload_4 (q := 25) F dM_odds_23 rfl ?_
      refine av_callV1 (q := 28) (ci := 9) F hm mM_refused_i mM_refused_n lM_52 dM_odds_25 rfl rfl rfl (by first | exact hM.o | exact hl.o | exact hM.a55 | exact hM.a56) (by decide) (Nat.le_refl _) (Nat.le_refl _) (Nat.le_of_ble_eq_true rfl) (wM_refused hM ?_)
      refine aw_i2l (q := 29) F dM_odds_28 rfl ?_
      refine aw_lret F C dM_odds_29 rfl (Nat.le_refl _) (Nat.le_refl _) ?_
      first | exact MK.fin0 (r1 (of_decide_eq_false d12)) h (by decide) | exact MK.fin0 (r2 (of_decide_eq_true d12) w12) h (by decide)
  · refine aw_iload_2 (q := 12) F dM_odds_11 rfl ?_
    refine av_callV2 (q := 15) (ci := 9) F hm mM_refusesTimes_i mM_refusesTimes_n lM_468 dM_odds_12 rfl rfl rfl (by first | exact hM.o | exact hl.o | exact hM.a55 | exact hM.a56) (by decide) (Nat.le_refl _) (Nat.le_refl _) (Nat.le_of_ble_eq_true rfl) (wM_refusesTimes (b := decide (0 ≤ x ∧ x < tDn (psT S))) (by first | (rw [decide_eq_true c8]; rfl) | (rw [decide_eq_false c8]; rfl)) hM (fun d12 w12 => ?_) (fun d12 => ?_) (fun d12 w12 => ?_))
    · refine aw_istore_4 (q := 17) F dM_odds_15 rfl trivial ?_
      refine aw_iload_4 (q := 19) F dM_odds_17 rfl ?_
      refine aw_if_le (q := 22) (t := 30) F dM_odds_19 rfl (by decide) (fun c19 => ?_) (fun c19 => absurd c19 (by decide))
      have hdd := of_decide_eq_true d12
      have hs := sumN_le (f := fun i => if i % 4 = x.toNat then bwP S n.toNat i else 0) (B := 10000000000000000) (k := 64) (fun i _ => by have := bwP_le (S := S) h.1.2.2.1 (show n.toNat ≤ 3 by omega) i; show (if _ then _ else _) ≤ _; split <;> omega)
      have hp3 : 1200 ^ n.toNat ≤ 1200 ^ 3 := Nat.pow_le_pow_right (by decide) (by omega)
      refine aw_aload_0 (q := 31) F dM_odds_30 rfl ?_
      refine aw_iload_1 (q := 32) F dM_odds_31 rfl ?_
      refine aw_iload_2 (q := 33) F dM_odds_32 rfl ?_
      refine av_callV2 (q := 36) (ci := 9) F hm mM_blowsAll_i mM_blowsAll_n lM_472 dM_odds_33 rfl rfl rfl (by first | exact hM.o | exact hl.o | exact hM.a55 | exact hM.a56) (by decide) (Nat.le_refl _) (Nat.le_refl _) (Nat.le_of_ble_eq_true rfl) (wM_blowsAll (d := x.toNat) (N := n.toNat) (by omega) (by omega) (by omega) (by omega) h.th (by omega) (fun V2 f33 p33 a33 e33 i33 => ?_))
      refine aw_aload_0 (q := 37) F dM_odds_36 rfl ?_
      refine aw_aload_0 (q := 38) F dM_odds_37 rfl ?_
      refine av_getl (q := 41) F fM_455 dM_odds_38 rfl rfl (by first | exact hM.o | exact hl.o | exact hM.a55 | exact hM.a56) ?_
      rw [a33]
      refine aw_aload_0 (q := 42) F dM_odds_41 rfl ?_
      refine av_getl (q := 45) F fM_452 dM_odds_42 rfl rfl (by first | exact hM.o | exact hl.o | exact hM.a55 | exact hM.a56) ?_
      rw [p33]
      refine aw_iload_3 (q := 46) F dM_odds_45 rfl ?_
      refine av_callV3 (q := 49) (ci := 9) F hm mM_fraction_i mM_fraction_n lM_475 dM_odds_46 rfl rfl rfl (by first | exact hM.o | exact hl.o | exact hM.a55 | exact hM.a56) (by decide) (Nat.le_refl _) (Nat.le_refl _) (Nat.le_of_ble_eq_true rfl) (wM_fraction (b := b) rfl rfl (by omega) (by omega) (Nat.pow_pos (by decide)) hw hM ?_)
      refine aw_lret F C dM_odds_49 rfl (Nat.le_refl _) (Nat.le_refl _) ?_
      exact MK.fin (S := S) (g hdd w12) h (by decide) f33.mf (f33.q h.th.q)
    · refine aw_istore_4 (q := 17) F dM_odds_15 rfl trivial ?_
      refine aw_iload_4 (q := 19) F dM_odds_17 rfl ?_
      refine aw_if_le (q := 22) (t := 30) F dM_odds_19 rfl (by decide) (fun c19 => absurd c19 (by decide)) (fun c19 => ?_)
      refine aw_aload_0 (q := 23) F dM_odds_22 rfl ?_
      refine aw_iload_4 (q := 25) F dM_odds_23 rfl ?_
      refine av_callV1 (q := 28) (ci := 9) F hm mM_refused_i mM_refused_n lM_52 dM_odds_25 rfl rfl rfl (by first | exact hM.o | exact hl.o | exact hM.a55 | exact hM.a56) (by decide) (Nat.le_refl _) (Nat.le_refl _) (Nat.le_of_ble_eq_true rfl) (wM_refused hM ?_)
      refine aw_i2l (q := 29) F dM_odds_28 rfl ?_
      refine aw_lret F C dM_odds_29 rfl (Nat.le_refl _) (Nat.le_refl _) ?_
      first | exact MK.fin0 (r1 (of_decide_eq_false d12)) h (by decide) | exact MK.fin0 (r2 (of_decide_eq_true d12) w12) h (by decide)
    · refine aw_istore_4 (q := 17) F dM_odds_15 rfl trivial ?_
      refine aw_iload_4 (q := 19) F dM_odds_17 rfl ?_
      refine aw_if_le (q := 22) (t := 30) F dM_odds_19 rfl (by decide) (fun c19 => absurd c19 (by decide)) (fun c19 => ?_)
      refine aw_aload_0 (q := 23) F dM_odds_22 rfl ?_
      refine aw_iload_4 (q := 25) F dM_odds_23 rfl ?_
      refine av_callV1 (q := 28) (ci := 9) F hm mM_refused_i mM_refused_n lM_52 dM_odds_25 rfl rfl rfl (by first | exact hM.o | exact hl.o | exact hM.a55 | exact hM.a56) (by decide) (Nat.le_refl _) (Nat.le_refl _) (Nat.le_of_ble_eq_true rfl) (wM_refused hM ?_)
      refine aw_i2l (q := 29) F dM_odds_28 rfl ?_
      refine aw_lret F C dM_odds_29 rfl (Nat.le_refl _) (Nat.le_refl _) ?_
      first | exact MK.fin0 (r1 (of_decide_eq_false d12)) h (by decide) | exact MK.fin0 (r2 (of_decide_eq_true d12) w12) h (by decide)
theorem wM_shutOdds {x n w : Int} {b : Bool} (hw : w = bz b) (h : MW V σ l S) (hK : MK K V σ l (setR S (wy (0 ≤ x ∧ x < tDn (psT S)) (0 ≤ n ∧ n ≤ 3))) (some (vL (rfD (wy (0 ≤ x ∧ x < tDn (psT S)) (0 ≤ n ∧ n ≤ 3)) (oddV (sumN (fun i => if (i / 4).testBit x.toNat then 0 else bwP S n.toNat i) 64) (1200 ^ n.toNat) b) (-1))))) : Wp G 4 mM_shutOdds [vR 53, vI x, vI n, vI w] (V, σ) 0 0 K := by
  obtain ⟨g, r1, r2⟩ := m3 vL hK
  have hM := h.mo
  refine wp_intro mM_shutOdds_i.1 [some (vR 53), some (vI x), some (vI n), some (vI w), none] rfl rfl (Nat.le_of_ble_eq_true rfl) ?_
  intro X hG F C
  have hm := C.rm
  refine aw_aload_0 (q := 1) F dM_shutOdds_0 rfl ?_
  refine aw_iconst (q := 2) F dM_shutOdds_1 rfl (by decide) ?_
  refine av_puti (q := 5) F fM_46 dM_shutOdds_2 rfl rfl (wr_9_0 _) (by first | exact hM.o | exact hl.o | exact hM.a55 | exact hM.a56) ?_
  refine aw_aload_0 (q := 6) F dM_shutOdds_5 rfl ?_
  refine aw_aload_0 (q := 7) F dM_shutOdds_6 rfl ?_
  refine aw_iload_1 (q := 8) F dM_shutOdds_7 rfl ?_
  refine av_callV1 (q := 11) (ci := 9) F hm mM_isDoor_i mM_isDoor_n lM_354 dM_shutOdds_8 rfl rfl rfl (by first | exact hM.o | exact hl.o | exact hM.a55 | exact hM.a56) (by decide) (Nat.le_refl _) (Nat.le_refl _) (Nat.le_of_ble_eq_true rfl) (wM_isDoor (D := tDn (psT S)) hM h.zer h.th.dr (fun c8 => ?_) (fun c8 => ?_))
  · refine aw_iload_2 (q := 12) F dM_shutOdds_11 rfl ?_
    refine av_callV2 (q := 15) (ci := 9) F hm mM_refusesTimes_i mM_refusesTimes_n lM_468 dM_shutOdds_12 rfl rfl rfl (by first | exact hM.o | exact hl.o | exact hM.a55 | exact hM.a56) (by decide) (Nat.le_refl _) (Nat.le_refl _) (Nat.le_of_ble_eq_true rfl) (wM_refusesTimes (b := decide (0 ≤ x ∧ x < tDn (psT S))) (by first | (rw [decide_eq_true c8]; rfl) | (rw [decide_eq_false c8]; rfl)) hM (fun d12 w12 => ?_) (fun d12 => ?_) (fun d12 w12 => ?_))
    · refine aw_istore_4 (q := 17) F dM_shutOdds_15 rfl trivial ?_
      refine aw_iload_4 (q := 19) F dM_shutOdds_17 rfl ?_
      refine aw_if_le (q := 22) (t := 30) F dM_shutOdds_19 rfl (by decide) (fun c19 => ?_) (fun c19 => absurd c19 (by decide))
      have hdd := of_decide_eq_true d12
      have hs := sumN_le (f := fun i => if (i / 4).testBit x.toNat then 0 else bwP S n.toNat i) (B := 10000000000000000) (k := 64) (fun i _ => by have := bwP_le (S := S) h.1.2.2.1 (show n.toNat ≤ 3 by omega) i; show (if _ then _ else _) ≤ _; split <;> omega)
      have hp3 : 1200 ^ n.toNat ≤ 1200 ^ 3 := Nat.pow_le_pow_right (by decide) (by omega)
      refine aw_aload_0 (q := 31) F dM_shutOdds_30 rfl ?_
      refine aw_iload_1 (q := 32) F dM_shutOdds_31 rfl ?_
      refine aw_iload_2 (q := 33) F dM_shutOdds_32 rfl ?_
      refine av_callV2 (q := 36) (ci := 9) F hm mM_blowsAll_i mM_blowsAll_n lM_472 dM_shutOdds_33 rfl rfl rfl (by first | exact hM.o | exact hl.o | exact hM.a55 | exact hM.a56) (by decide) (Nat.le_refl _) (Nat.le_refl _) (Nat.le_of_ble_eq_true rfl) (wM_blowsAll (d := x.toNat) (N := n.toNat) (by omega) (by omega) (by omega) (by omega) h.th (by omega) (fun V2 f33 p33 a33 e33 i33 => ?_))
      refine aw_aload_0 (q := 37) F dM_shutOdds_36 rfl ?_
      refine aw_aload_0 (q := 38) F dM_shutOdds_37 rfl ?_
      refine av_getl (q := 41) F fM_458 dM_shutOdds_38 rfl rfl (by first | exact hM.o | exact hl.o | exact hM.a55 | exact hM.a56) ?_
      rw [e33]
      refine aw_aload_0 (q := 42) F dM_shutOdds_41 rfl ?_
      refine av_getl (q := 45) F fM_452 dM_shutOdds_42 rfl rfl (by first | exact hM.o | exact hl.o | exact hM.a55 | exact hM.a56) ?_
      rw [p33]
      refine aw_iload_3 (q := 46) F dM_shutOdds_45 rfl ?_
      refine av_callV3 (q := 49) (ci := 9) F hm mM_fraction_i mM_fraction_n lM_475 dM_shutOdds_46 rfl rfl rfl (by first | exact hM.o | exact hl.o | exact hM.a55 | exact hM.a56) (by decide) (Nat.le_refl _) (Nat.le_refl _) (Nat.le_of_ble_eq_true rfl) (wM_fraction (b := b) rfl rfl (by omega) (by omega) (Nat.pow_pos (by decide)) hw hM ?_)
      refine aw_lret F C dM_shutOdds_49 rfl (Nat.le_refl _) (Nat.le_refl _) ?_
      exact MK.fin (S := S) (g hdd w12) h (by decide) f33.mf (f33.q h.th.q)
    · refine aw_istore_4 (q := 17) F dM_shutOdds_15 rfl trivial ?_
      refine aw_iload_4 (q := 19) F dM_shutOdds_17 rfl ?_
      refine aw_if_le (q := 22) (t := 30) F dM_shutOdds_19 rfl (by decide) (fun c19 => absurd c19 (by decide)) (fun c19 => ?_)
      refine aw_aload_0 (q := 23) F dM_shutOdds_22 rfl ?_
      refine aw_iload_4 (q := 25) F dM_shutOdds_23 rfl ?_
      refine av_callV1 (q := 28) (ci := 9) F hm mM_refused_i mM_refused_n lM_52 dM_shutOdds_25 rfl rfl rfl (by first | exact hM.o | exact hl.o | exact hM.a55 | exact hM.a56) (by decide) (Nat.le_refl _) (Nat.le_refl _) (Nat.le_of_ble_eq_true rfl) (wM_refused hM ?_)
      refine aw_i2l (q := 29) F dM_shutOdds_28 rfl ?_
      refine aw_lret F C dM_shutOdds_29 rfl (Nat.le_refl _) (Nat.le_refl _) ?_
      first | exact MK.fin0 (r1 (of_decide_eq_false d12)) h (by decide) | exact MK.fin0 (r2 (of_decide_eq_true d12) w12) h (by decide)
    · refine aw_istore_4 (q := 17) F dM_shutOdds_15 rfl trivial ?_
      refine aw_iload_4 (q := 19) F dM_shutOdds_17 rfl ?_
      refine aw_if_le (q := 22) (t := 30) F dM_shutOdds_19 rfl (by decide) (fun c19 => absurd c19 (by decide)) (fun c19 => ?_)
      refine aw_aload_0 (q := 23) F dM_shutOdds_22 rfl ?_
      refine aw_iload_4 (q := 25) F dM_shutOdds_23 rfl ?_
      refine av_callV1 (q := 28) (ci := 9) F hm mM_refused_i mM_refused_n lM_52 dM_shutOdds_25 rfl rfl rfl (by first | exact hM.o | exact hl.o | exact hM.a55 | exact hM.a56) (by decide) (Nat.le_refl _) (Nat.le_refl _) (Nat.le_of_ble_eq_true rfl) (wM_refused hM ?_)
      refine aw_i2l (q := 29) F dM_shutOdds_28 rfl ?_
      refine aw_lret F C dM_shutOdds_29 rfl (Nat.le_refl _) (Nat.le_refl _) ?_
      first | exact MK.fin0 (r1 (of_decide_eq_false d12)) h (by decide) | exact MK.fin0 (r2 (of_decide_eq_true d12) w12) h (by decide)
  · refine aw_iload_2 (q := 12) F dM_shutOdds_11 rfl ?_
    refine av_callV2 (q := 15) (ci := 9) F hm mM_refusesTimes_i mM_refusesTimes_n lM_468 dM_shutOdds_12 rfl rfl rfl (by first | exact hM.o | exact hl.o | exact hM.a55 | exact hM.a56) (by decide) (Nat.le_refl _) (Nat.le_refl _) (Nat.le_of_ble_eq_true rfl) (wM_refusesTimes (b := decide (0 ≤ x ∧ x < tDn (psT S))) (by first | (rw [decide_eq_true c8]; rfl) | (rw [decide_eq_false c8]; rfl)) hM (fun d12 w12 => ?_) (fun d12 => ?_) (fun d12 w12 => ?_))
    · refine aw_istore_4 (q := 17) F dM_shutOdds_15 rfl trivial ?_
      refine aw_iload_4 (q := 19) F dM_shutOdds_17 rfl ?_
      refine aw_if_le (q := 22) (t := 30) F dM_shutOdds_19 rfl (by decide) (fun c19 => ?_) (fun c19 => absurd c19 (by decide))
      have hdd := of_decide_eq_true d12
      have hs := sumN_le (f := fun i => if (i / 4).testBit x.toNat then 0 else bwP S n.toNat i) (B := 10000000000000000) (k := 64) (fun i _ => by have := bwP_le (S := S) h.1.2.2.1 (show n.toNat ≤ 3 by omega) i; show (if _ then _ else _) ≤ _; split <;> omega)
      have hp3 : 1200 ^ n.toNat ≤ 1200 ^ 3 := Nat.pow_le_pow_right (by decide) (by omega)
      refine aw_aload_0 (q := 31) F dM_shutOdds_30 rfl ?_
      refine aw_iload_1 (q := 32) F dM_shutOdds_31 rfl ?_
      refine aw_iload_2 (q := 33) F dM_shutOdds_32 rfl ?_
      refine av_callV2 (q := 36) (ci := 9) F hm mM_blowsAll_i mM_blowsAll_n lM_472 dM_shutOdds_33 rfl rfl rfl (by first | exact hM.o | exact hl.o | exact hM.a55 | exact hM.a56) (by decide) (Nat.le_refl _) (Nat.le_refl _) (Nat.le_of_ble_eq_true rfl) (wM_blowsAll (d := x.toNat) (N := n.toNat) (by omega) (by omega) (by omega) (by omega) h.th (by omega) (fun V2 f33 p33 a33 e33 i33 => ?_))
      refine aw_aload_0 (q := 37) F dM_shutOdds_36 rfl ?_
      refine aw_aload_0 (q := 38) F dM_shutOdds_37 rfl ?_
      refine av_getl (q := 41) F fM_458 dM_shutOdds_38 rfl rfl (by first | exact hM.o | exact hl.o | exact hM.a55 | exact hM.a56) ?_
      rw [e33]
      refine aw_aload_0 (q := 42) F dM_shutOdds_41 rfl ?_
      refine av_getl (q := 45) F fM_452 dM_shutOdds_42 rfl rfl (by first | exact hM.o | exact hl.o | exact hM.a55 | exact hM.a56) ?_
      rw [p33]
      refine aw_iload_3 (q := 46) F dM_shutOdds_45 rfl ?_
      refine av_callV3 (q := 49) (ci := 9) F hm mM_fraction_i mM_fraction_n lM_475 dM_shutOdds_46 rfl rfl rfl (by first | exact hM.o | exact hl.o | exact hM.a55 | exact hM.a56) (by decide) (Nat.le_refl _) (Nat.le_refl _) (Nat.le_of_ble_eq_true rfl) (wM_fraction (b := b) rfl rfl (by omega) (by omega) (Nat.pow_pos (by decide)) hw hM ?_)
      refine aw_lret F C dM_shutOdds_49 rfl (Nat.le_refl _) (Nat.le_refl _) ?_
      exact MK.fin (S := S) (g hdd w12) h (by decide) f33.mf (f33.q h.th.q)
    · refine aw_istore_4 (q := 17) F dM_shutOdds_15 rfl trivial ?_
      refine aw_iload_4 (q := 19) F dM_shutOdds_17 rfl ?_
      refine aw_if_le (q := 22) (t := 30) F dM_shutOdds_19 rfl (by decide) (fun c19 => absurd c19 (by decide)) (fun c19 => ?_)
      refine aw_aload_0 (q := 23) F dM_shutOdds_22 rfl ?_
      refine aw_iload_4 (q := 25) F dM_shutOdds_23 rfl ?_
      refine av_callV1 (q := 28) (ci := 9) F hm mM_refused_i mM_refused_n lM_52 dM_shutOdds_25 rfl rfl rfl (by first | exact hM.o | exact hl.o | exact hM.a55 | exact hM.a56) (by decide) (Nat.le_refl _) (Nat.le_refl _) (Nat.le_of_ble_eq_true rfl) (wM_refused hM ?_)
      refine aw_i2l (q := 29) F dM_shutOdds_28 rfl ?_
      refine aw_lret F C dM_shutOdds_29 rfl (Nat.le_refl _) (Nat.le_refl _) ?_
      first | exact MK.fin0 (r1 (of_decide_eq_false d12)) h (by decide) | exact MK.fin0 (r2 (of_decide_eq_true d12) w12) h (by decide)
    · refine aw_istore_4 (q := 17) F dM_shutOdds_15 rfl trivial ?_
      refine aw_iload_4 (q := 19) F dM_shutOdds_17 rfl ?_
      refine aw_if_le (q := 22) (t := 30) F dM_shutOdds_19 rfl (by decide) (fun c19 => absurd c19 (by decide)) (fun c19 => ?_)
      refine aw_aload_0 (q := 23) F dM_shutOdds_22 rfl ?_
      refine aw_iload_4 (q := 25) F dM_shutOdds_23 rfl ?_
      refine av_callV1 (q := 28) (ci := 9) F hm mM_refused_i mM_refused_n lM_52 dM_shutOdds_25 rfl rfl rfl (by first | exact hM.o | exact hl.o | exact hM.a55 | exact hM.a56) (by decide) (Nat.le_refl _) (Nat.le_refl _) (Nat.le_of_ble_eq_true rfl) (wM_refused hM ?_)
      refine aw_i2l (q := 29) F dM_shutOdds_28 rfl ?_
      refine aw_lret F C dM_shutOdds_29 rfl (Nat.le_refl _) (Nat.le_refl _) ?_
      first | exact MK.fin0 (r1 (of_decide_eq_false d12)) h (by decide) | exact MK.fin0 (r2 (of_decide_eq_true d12) w12) h (by decide)
theorem wM_mean {n w : Int} {b : Bool} (hw : w = bz b) (h : MW V σ l S) (hK : MK K V σ l (setR S (wy (0 < tDn (psT S)) (0 ≤ n ∧ n ≤ 3))) (some (vL (rfD (wy (0 < tDn (psT S)) (0 ≤ n ∧ n ≤ 3)) (oddV (sumN (fun i => bwP S n.toNat i * pc4 (i / 4)) 64) (1200 ^ n.toNat) b) (-1))))) : Wp G 4 mM_mean [vR 53, vI n, vI w] (V, σ) 0 0 K := by
  obtain ⟨g, r1, r2⟩ := m3 vL hK
  have hM := h.mo
  refine wp_intro mM_mean_i.1 [some (vR 53), some (vI n), some (vI w), none] rfl rfl (Nat.le_of_ble_eq_true rfl) ?_
  intro X hG F C
  have hm := C.rm
  refine aw_aload_0 (q := 1) F dM_mean_0 rfl ?_
  refine aw_iconst (q := 2) F dM_mean_1 rfl (by decide) ?_
  refine av_puti (q := 5) F fM_46 dM_mean_2 rfl rfl (wr_9_0 _) (by first | exact hM.o | exact hl.o | exact hM.a55 | exact hM.a56) ?_
  refine aw_aload_0 (q := 6) F dM_mean_5 rfl ?_
  refine aw_aload_0 (q := 7) F dM_mean_6 rfl ?_
  refine av_getaE (q := 10) F fM_281 dM_mean_7 rfl rfl (by first | exact hM.o | exact hl.o | exact hM.a55 | exact hM.a56) hM.p3 ?_
  refine aw_ifnull (q := 13) (t := 17) F dM_mean_10 rfl (by decide) (fun c10 => ?_) (fun c10 => ?_)
  · refine aw_iconst (q := 18) F dM_mean_17 rfl (by decide) ?_
    refine aw_iload_1 (q := 19) F dM_mean_18 rfl ?_
    refine av_callV2 (q := 22) (ci := 9) F hm mM_refusesTimes_i mM_refusesTimes_n lM_468 dM_mean_19 rfl rfl rfl (by first | exact hM.o | exact hl.o | exact hM.a55 | exact hM.a56) (by decide) (Nat.le_refl _) (Nat.le_refl _) (Nat.le_of_ble_eq_true rfl) (wM_refusesTimes (b := decide (0 < tDn (psT S))) (by first | (rw [decide_eq_true (h.pos c10)]; rfl) | (rw [h.zer c10]; rfl)) hM (fun d19 w19 => ?_) (fun d19 => ?_) (fun d19 w19 => ?_))
    · refine aw_istore_3 (q := 23) F dM_mean_22 rfl trivial ?_
      refine aw_iload_3 (q := 24) F dM_mean_23 rfl ?_
      refine aw_if_le (q := 27) (t := 34) F dM_mean_24 rfl (by decide) (fun c24 => ?_) (fun c24 => absurd c24 (by decide))
      have hdd := of_decide_eq_true d19
      have hs := sumN_le (f := fun i => bwP S n.toNat i * pc4 (i / 4)) (B := 40000000000000000) (k := 64) (fun i _ => by have := bwP_le (S := S) h.1.2.2.1 (show n.toNat ≤ 3 by omega) i; have := Nat.mul_le_mul this (pc4_le (i / 4)); show _ * _ ≤ _; omega)
      have hp3 : 1200 ^ n.toNat ≤ 1200 ^ 3 := Nat.pow_le_pow_right (by decide) (by omega)
      refine aw_aload_0 (q := 35) F dM_mean_34 rfl ?_
      refine aw_iconst (q := 36) F dM_mean_35 rfl (by decide) ?_
      refine aw_iload_1 (q := 37) F dM_mean_36 rfl ?_
      refine av_callV2 (q := 40) (ci := 9) F hm mM_blowsAll_i mM_blowsAll_n lM_472 dM_mean_37 rfl rfl rfl (by first | exact hM.o | exact hl.o | exact hM.a55 | exact hM.a56) (by decide) (Nat.le_refl _) (Nat.le_refl _) (Nat.le_of_ble_eq_true rfl) (wM_blowsAll (d := 0) (N := n.toNat) rfl (by omega) hdd (by omega) h.th hdd (fun V2 f37 p37 a37 e37 i37 => ?_))
      refine aw_aload_0 (q := 41) F dM_mean_40 rfl ?_
      refine aw_aload_0 (q := 42) F dM_mean_41 rfl ?_
      refine av_getl (q := 45) F fM_461 dM_mean_42 rfl rfl (by first | exact hM.o | exact hl.o | exact hM.a55 | exact hM.a56) ?_
      rw [i37]
      refine aw_aload_0 (q := 46) F dM_mean_45 rfl ?_
      refine av_getl (q := 49) F fM_452 dM_mean_46 rfl rfl (by first | exact hM.o | exact hl.o | exact hM.a55 | exact hM.a56) ?_
      rw [p37]
      refine aw_iload_2 (q := 50) F dM_mean_49 rfl ?_
      refine av_callV3 (q := 53) (ci := 9) F hm mM_fraction_i mM_fraction_n lM_475 dM_mean_50 rfl rfl rfl (by first | exact hM.o | exact hl.o | exact hM.a55 | exact hM.a56) (by decide) (Nat.le_refl _) (Nat.le_refl _) (Nat.le_of_ble_eq_true rfl) (wM_fraction (b := b) rfl rfl (by omega) (by omega) (Nat.pow_pos (by decide)) hw hM ?_)
      refine aw_lret F C dM_mean_53 rfl (Nat.le_refl _) (Nat.le_refl _) ?_
      exact MK.fin (S := S) (g hdd w19) h (by decide) f37.mf (f37.q h.th.q)
    · refine aw_istore_3 (q := 23) F dM_mean_22 rfl trivial ?_
      refine aw_iload_3 (q := 24) F dM_mean_23 rfl ?_
      refine aw_if_le (q := 27) (t := 34) F dM_mean_24 rfl (by decide) (fun c24 => absurd c24 (by decide)) (fun c24 => ?_)
      refine aw_aload_0 (q := 28) F dM_mean_27 rfl ?_
      refine aw_iload_3 (q := 29) F dM_mean_28 rfl ?_
      refine av_callV1 (q := 32) (ci := 9) F hm mM_refused_i mM_refused_n lM_52 dM_mean_29 rfl rfl rfl (by first | exact hM.o | exact hl.o | exact hM.a55 | exact hM.a56) (by decide) (Nat.le_refl _) (Nat.le_refl _) (Nat.le_of_ble_eq_true rfl) (wM_refused hM ?_)
      refine aw_i2l (q := 33) F dM_mean_32 rfl ?_
      refine aw_lret F C dM_mean_33 rfl (Nat.le_refl _) (Nat.le_refl _) ?_
      first | exact MK.fin0 (r1 (of_decide_eq_false d19)) h (by decide) | exact MK.fin0 (r2 (of_decide_eq_true d19) w19) h (by decide)
    · refine aw_istore_3 (q := 23) F dM_mean_22 rfl trivial ?_
      refine aw_iload_3 (q := 24) F dM_mean_23 rfl ?_
      refine aw_if_le (q := 27) (t := 34) F dM_mean_24 rfl (by decide) (fun c24 => absurd c24 (by decide)) (fun c24 => ?_)
      refine aw_aload_0 (q := 28) F dM_mean_27 rfl ?_
      refine aw_iload_3 (q := 29) F dM_mean_28 rfl ?_
      refine av_callV1 (q := 32) (ci := 9) F hm mM_refused_i mM_refused_n lM_52 dM_mean_29 rfl rfl rfl (by first | exact hM.o | exact hl.o | exact hM.a55 | exact hM.a56) (by decide) (Nat.le_refl _) (Nat.le_refl _) (Nat.le_of_ble_eq_true rfl) (wM_refused hM ?_)
      refine aw_i2l (q := 33) F dM_mean_32 rfl ?_
      refine aw_lret F C dM_mean_33 rfl (Nat.le_refl _) (Nat.le_refl _) ?_
      first | exact MK.fin0 (r1 (of_decide_eq_false d19)) h (by decide) | exact MK.fin0 (r2 (of_decide_eq_true d19) w19) h (by decide)
  · refine aw_iconst (q := 14) F dM_mean_13 rfl (by decide) ?_
    refine aw_goto (t := 18) F dM_mean_14 (by decide) ?_
    refine aw_iload_1 (q := 19) F dM_mean_18 rfl ?_
    refine av_callV2 (q := 22) (ci := 9) F hm mM_refusesTimes_i mM_refusesTimes_n lM_468 dM_mean_19 rfl rfl rfl (by first | exact hM.o | exact hl.o | exact hM.a55 | exact hM.a56) (by decide) (Nat.le_refl _) (Nat.le_refl _) (Nat.le_of_ble_eq_true rfl) (wM_refusesTimes (b := decide (0 < tDn (psT S))) (by first | (rw [decide_eq_true (h.pos c10)]; rfl) | (rw [h.zer c10]; rfl)) hM (fun d19 w19 => ?_) (fun d19 => ?_) (fun d19 w19 => ?_))
    · refine aw_istore_3 (q := 23) F dM_mean_22 rfl trivial ?_
      refine aw_iload_3 (q := 24) F dM_mean_23 rfl ?_
      refine aw_if_le (q := 27) (t := 34) F dM_mean_24 rfl (by decide) (fun c24 => ?_) (fun c24 => absurd c24 (by decide))
      have hdd := of_decide_eq_true d19
      have hs := sumN_le (f := fun i => bwP S n.toNat i * pc4 (i / 4)) (B := 40000000000000000) (k := 64) (fun i _ => by have := bwP_le (S := S) h.1.2.2.1 (show n.toNat ≤ 3 by omega) i; have := Nat.mul_le_mul this (pc4_le (i / 4)); show _ * _ ≤ _; omega)
      have hp3 : 1200 ^ n.toNat ≤ 1200 ^ 3 := Nat.pow_le_pow_right (by decide) (by omega)
      refine aw_aload_0 (q := 35) F dM_mean_34 rfl ?_
      refine aw_iconst (q := 36) F dM_mean_35 rfl (by decide) ?_
      refine aw_iload_1 (q := 37) F dM_mean_36 rfl ?_
      refine av_callV2 (q := 40) (ci := 9) F hm mM_blowsAll_i mM_blowsAll_n lM_472 dM_mean_37 rfl rfl rfl (by first | exact hM.o | exact hl.o | exact hM.a55 | exact hM.a56) (by decide) (Nat.le_refl _) (Nat.le_refl _) (Nat.le_of_ble_eq_true rfl) (wM_blowsAll (d := 0) (N := n.toNat) rfl (by omega) hdd (by omega) h.th hdd (fun V2 f37 p37 a37 e37 i37 => ?_))
      refine aw_aload_0 (q := 41) F dM_mean_40 rfl ?_
      refine aw_aload_0 (q := 42) F dM_mean_41 rfl ?_
      refine av_getl (q := 45) F fM_461 dM_mean_42 rfl rfl (by first | exact hM.o | exact hl.o | exact hM.a55 | exact hM.a56) ?_
      rw [i37]
      refine aw_aload_0 (q := 46) F dM_mean_45 rfl ?_
      refine av_getl (q := 49) F fM_452 dM_mean_46 rfl rfl (by first | exact hM.o | exact hl.o | exact hM.a55 | exact hM.a56) ?_
      rw [p37]
      refine aw_iload_2 (q := 50) F dM_mean_49 rfl ?_
      refine av_callV3 (q := 53) (ci := 9) F hm mM_fraction_i mM_fraction_n lM_475 dM_mean_50 rfl rfl rfl (by first | exact hM.o | exact hl.o | exact hM.a55 | exact hM.a56) (by decide) (Nat.le_refl _) (Nat.le_refl _) (Nat.le_of_ble_eq_true rfl) (wM_fraction (b := b) rfl rfl (by omega) (by omega) (Nat.pow_pos (by decide)) hw hM ?_)
      refine aw_lret F C dM_mean_53 rfl (Nat.le_refl _) (Nat.le_refl _) ?_
      exact MK.fin (S := S) (g hdd w19) h (by decide) f37.mf (f37.q h.th.q)
    · refine aw_istore_3 (q := 23) F dM_mean_22 rfl trivial ?_
      refine aw_iload_3 (q := 24) F dM_mean_23 rfl ?_
      refine aw_if_le (q := 27) (t := 34) F dM_mean_24 rfl (by decide) (fun c24 => absurd c24 (by decide)) (fun c24 => ?_)
      refine aw_aload_0 (q := 28) F dM_mean_27 rfl ?_
      refine aw_iload_3 (q := 29) F dM_mean_28 rfl ?_
      refine av_callV1 (q := 32) (ci := 9) F hm mM_refused_i mM_refused_n lM_52 dM_mean_29 rfl rfl rfl (by first | exact hM.o | exact hl.o | exact hM.a55 | exact hM.a56) (by decide) (Nat.le_refl _) (Nat.le_refl _) (Nat.le_of_ble_eq_true rfl) (wM_refused hM ?_)
      refine aw_i2l (q := 33) F dM_mean_32 rfl ?_
      refine aw_lret F C dM_mean_33 rfl (Nat.le_refl _) (Nat.le_refl _) ?_
      first | exact MK.fin0 (r1 (of_decide_eq_false d19)) h (by decide) | exact MK.fin0 (r2 (of_decide_eq_true d19) w19) h (by decide)
    · refine aw_istore_3 (q := 23) F dM_mean_22 rfl trivial ?_
      refine aw_iload_3 (q := 24) F dM_mean_23 rfl ?_
      refine aw_if_le (q := 27) (t := 34) F dM_mean_24 rfl (by decide) (fun c24 => absurd c24 (by decide)) (fun c24 => ?_)
      refine aw_aload_0 (q := 28) F dM_mean_27 rfl ?_
      refine aw_iload_3 (q := 29) F dM_mean_28 rfl ?_
      refine av_callV1 (q := 32) (ci := 9) F hm mM_refused_i mM_refused_n lM_52 dM_mean_29 rfl rfl rfl (by first | exact hM.o | exact hl.o | exact hM.a55 | exact hM.a56) (by decide) (Nat.le_refl _) (Nat.le_refl _) (Nat.le_of_ble_eq_true rfl) (wM_refused hM ?_)
      refine aw_i2l (q := 33) F dM_mean_32 rfl ?_
      refine aw_lret F C dM_mean_33 rfl (Nat.le_refl _) (Nat.le_refl _) ?_
      first | exact MK.fin0 (r1 (of_decide_eq_false d19)) h (by decide) | exact MK.fin0 (r2 (of_decide_eq_true d19) w19) h (by decide)
end Mod35
