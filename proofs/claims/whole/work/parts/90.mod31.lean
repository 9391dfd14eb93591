theorem dM_asTold_0 : decode mM_asTold.2.1 0 = .ok (.iconst 0, 1) := by decide +kernel
theorem dM_asTold_1 : decode mM_asTold.2.1 1 = .ok (.istore_n 1, 1) := by decide +kernel
theorem dM_asTold_2 : decode mM_asTold.2.1 2 = .ok (.iload_n 1, 1) := by decide +kernel
theorem dM_asTold_3 : decode mM_asTold.2.1 3 = .ok (.iconst 2, 1) := by decide +kernel
theorem dM_asTold_4 : decode mM_asTold.2.1 4 = .ok (.if_icmp .ge 24, 3) := by decide +kernel
theorem dM_asTold_7 : decode mM_asTold.2.1 7 = .ok (.aload_n 0, 1) := by decide +kernel
theorem dM_asTold_8 : decode mM_asTold.2.1 8 = .ok (.getfield 21, 3) := by decide +kernel
theorem dM_asTold_11 : decode mM_asTold.2.1 11 = .ok (.iload_n 1, 1) := by decide +kernel
theorem dM_asTold_12 : decode mM_asTold.2.1 12 = .ok (.aload_n 0, 1) := by decide +kernel
theorem dM_asTold_13 : decode mM_asTold.2.1 13 = .ok (.getfield 281, 3) := by decide +kernel
theorem dM_asTold_16 : decode mM_asTold.2.1 16 = .ok (.getfield 259, 3) := by decide +kernel
theorem dM_asTold_19 : decode mM_asTold.2.1 19 = .ok (.iload_n 1, 1) := by decide +kernel
theorem dM_asTold_20 : decode mM_asTold.2.1 20 = .ok (.iaload, 1) := by decide +kernel
theorem dM_asTold_21 : decode mM_asTold.2.1 21 = .ok (.iastore, 1) := by decide +kernel
theorem dM_asTold_22 : decode mM_asTold.2.1 22 = .ok (.iinc 1 1, 3) := by decide +kernel
theorem dM_asTold_25 : decode mM_asTold.2.1 25 = .ok (.goto (-23), 3) := by decide +kernel
theorem dM_asTold_28 : decode mM_asTold.2.1 28 = .ok (.iconst 0, 1) := by decide +kernel
theorem dM_asTold_29 : decode mM_asTold.2.1 29 = .ok (.istore_n 1, 1) := by decide +kernel
theorem dM_asTold_30 : decode mM_asTold.2.1 30 = .ok (.iload_n 1, 1) := by decide +kernel
theorem dM_asTold_31 : decode mM_asTold.2.1 31 = .ok (.iconst 4, 1) := by decide +kernel
theorem dM_asTold_32 : decode mM_asTold.2.1 32 = .ok (.if_icmp .ge 44, 3) := by decide +kernel
theorem dM_asTold_35 : decode mM_asTold.2.1 35 = .ok (.aload_n 0, 1) := by decide +kernel
theorem dM_asTold_36 : decode mM_asTold.2.1 36 = .ok (.getfield 21, 3) := by decide +kernel
theorem dM_asTold_39 : decode mM_asTold.2.1 39 = .ok (.iconst 2, 1) := by decide +kernel
theorem dM_asTold_40 : decode mM_asTold.2.1 40 = .ok (.iload_n 1, 1) := by decide +kernel
theorem dM_asTold_41 : decode mM_asTold.2.1 41 = .ok (.iadd, 1) := by decide +kernel
theorem dM_asTold_42 : decode mM_asTold.2.1 42 = .ok (.aload_n 0, 1) := by decide +kernel
theorem dM_asTold_43 : decode mM_asTold.2.1 43 = .ok (.getfield 281, 3) := by decide +kernel
theorem dM_asTold_46 : decode mM_asTold.2.1 46 = .ok (.getfield 247, 3) := by decide +kernel
theorem dM_asTold_49 : decode mM_asTold.2.1 49 = .ok (.iload_n 1, 1) := by decide +kernel
theorem dM_asTold_50 : decode mM_asTold.2.1 50 = .ok (.iaload, 1) := by decide +kernel
theorem dM_asTold_51 : decode mM_asTold.2.1 51 = .ok (.iastore, 1) := by decide +kernel
theorem dM_asTold_52 : decode mM_asTold.2.1 52 = .ok (.aload_n 0, 1) := by decide +kernel
theorem dM_asTold_53 : decode mM_asTold.2.1 53 = .ok (.getfield 21, 3) := by decide +kernel
theorem dM_asTold_56 : decode mM_asTold.2.1 56 = .ok (.bipush 7, 2) := by decide +kernel
theorem dM_asTold_58 : decode mM_asTold.2.1 58 = .ok (.iload_n 1, 1) := by decide +kernel
theorem dM_asTold_59 : decode mM_asTold.2.1 59 = .ok (.iadd, 1) := by decide +kernel
theorem dM_asTold_60 : decode mM_asTold.2.1 60 = .ok (.aload_n 0, 1) := by decide +kernel
theorem dM_asTold_61 : decode mM_asTold.2.1 61 = .ok (.getfield 281, 3) := by decide +kernel
theorem dM_asTold_64 : decode mM_asTold.2.1 64 = .ok (.getfield 233, 3) := by decide +kernel
theorem dM_asTold_67 : decode mM_asTold.2.1 67 = .ok (.iload_n 1, 1) := by decide +kernel
theorem dM_asTold_68 : decode mM_asTold.2.1 68 = .ok (.iaload, 1) := by decide +kernel
theorem dM_asTold_69 : decode mM_asTold.2.1 69 = .ok (.iastore, 1) := by decide +kernel
theorem dM_asTold_70 : decode mM_asTold.2.1 70 = .ok (.iinc 1 1, 3) := by decide +kernel
theorem dM_asTold_73 : decode mM_asTold.2.1 73 = .ok (.goto (-43), 3) := by decide +kernel
theorem dM_asTold_76 : decode mM_asTold.2.1 76 = .ok (.aload_n 0, 1) := by decide +kernel
theorem dM_asTold_77 : decode mM_asTold.2.1 77 = .ok (.getfield 21, 3) := by decide +kernel
theorem dM_asTold_80 : decode mM_asTold.2.1 80 = .ok (.bipush 6, 2) := by decide +kernel
theorem dM_asTold_82 : decode mM_asTold.2.1 82 = .ok (.aload_n 0, 1) := by decide +kernel
theorem dM_asTold_83 : decode mM_asTold.2.1 83 = .ok (.getfield 281, 3) := by decide +kernel
theorem dM_asTold_86 : decode mM_asTold.2.1 86 = .ok (.getfield 245, 3) := by decide +kernel
theorem dM_asTold_89 : decode mM_asTold.2.1 89 = .ok (.iconst (-1), 1) := by decide +kernel
theorem dM_asTold_90 : decode mM_asTold.2.1 90 = .ok (.if_icmp .ne 7, 3) := by decide +kernel
theorem dM_asTold_93 : decode mM_asTold.2.1 93 = .ok (.iconst 0, 1) := by decide +kernel
theorem dM_asTold_94 : decode mM_asTold.2.1 94 = .ok (.goto 10, 3) := by decide +kernel
theorem dM_asTold_97 : decode mM_asTold.2.1 97 = .ok (.aload_n 0, 1) := by decide +kernel
theorem dM_asTold_98 : decode mM_asTold.2.1 98 = .ok (.getfield 281, 3) := by decide +kernel
theorem dM_asTold_101 : decode mM_asTold.2.1 101 = .ok (.getfield 245, 3) := by decide +kernel
theorem dM_asTold_104 : decode mM_asTold.2.1 104 = .ok (.iastore, 1) := by decide +kernel
theorem dM_asTold_105 : decode mM_asTold.2.1 105 = .ok (.aload_n 0, 1) := by decide +kernel
theorem dM_asTold_106 : decode mM_asTold.2.1 106 = .ok (.getfield 21, 3) := by decide +kernel
theorem dM_asTold_109 : decode mM_asTold.2.1 109 = .ok (.bipush 11, 2) := by decide +kernel
theorem dM_asTold_111 : decode mM_asTold.2.1 111 = .ok (.iconst 0, 1) := by decide +kernel
theorem dM_asTold_112 : decode mM_asTold.2.1 112 = .ok (.iastore, 1) := by decide +kernel
theorem dM_asTold_113 : decode mM_asTold.2.1 113 = .ok (.return_, 1) := by decide +kernel
theorem dM_begins_0 : decode mM_begins.2.1 0 = .ok (.aload_n 0, 1) := by decide +kernel
theorem dM_begins_1 : decode mM_begins.2.1 1 = .ok (.iconst 0, 1) := by decide +kernel
theorem dM_begins_2 : decode mM_begins.2.1 2 = .ok (.putfield 286, 3) := by decide +kernel
theorem dM_begins_5 : decode mM_begins.2.1 5 = .ok (.aload_n 0, 1) := by decide +kernel
theorem dM_begins_6 : decode mM_begins.2.1 6 = .ok (.invokevirtual 283, 3) := by decide +kernel
theorem dM_begins_9 : decode mM_begins.2.1 9 = .ok (.aload_n 0, 1) := by decide +kernel
theorem dM_begins_10 : decode mM_begins.2.1 10 = .ok (.invokevirtual 326, 3) := by decide +kernel
theorem dM_begins_13 : decode mM_begins.2.1 13 = .ok (.iconst 1, 1) := by decide +kernel
theorem dM_begins_14 : decode mM_begins.2.1 14 = .ok (.isub, 1) := by decide +kernel
theorem dM_begins_15 : decode mM_begins.2.1 15 = .ok (.istore_n 1, 1) := by decide +kernel
theorem dM_begins_16 : decode mM_begins.2.1 16 = .ok (.iload_n 1, 1) := by decide +kernel
theorem dM_begins_17 : decode mM_begins.2.1 17 = .ok (.ifCond .lt 16, 3) := by decide +kernel
theorem dM_begins_20 : decode mM_begins.2.1 20 = .ok (.aload_n 0, 1) := by decide +kernel
theorem dM_begins_21 : decode mM_begins.2.1 21 = .ok (.getfield 31, 3) := by decide +kernel
theorem dM_begins_24 : decode mM_begins.2.1 24 = .ok (.iload_n 1, 1) := by decide +kernel
theorem dM_begins_25 : decode mM_begins.2.1 25 = .ok (.iconst 0, 1) := by decide +kernel
theorem dM_begins_26 : decode mM_begins.2.1 26 = .ok (.iastore, 1) := by decide +kernel
theorem dM_begins_27 : decode mM_begins.2.1 27 = .ok (.iinc 1 (-1), 3) := by decide +kernel
theorem dM_begins_30 : decode mM_begins.2.1 30 = .ok (.goto (-14), 3) := by decide +kernel
theorem dM_begins_33 : decode mM_begins.2.1 33 = .ok (.aload_n 0, 1) := by decide +kernel
theorem dM_begins_34 : decode mM_begins.2.1 34 = .ok (.getfield 31, 3) := by decide +kernel
theorem dM_begins_37 : decode mM_begins.2.1 37 = .ok (.aload_n 0, 1) := by decide +kernel
theorem dM_begins_38 : decode mM_begins.2.1 38 = .ok (.invokevirtual 330, 3) := by decide +kernel
theorem dM_begins_41 : decode mM_begins.2.1 41 = .ok (.iconst 1, 1) := by decide +kernel
theorem dM_begins_42 : decode mM_begins.2.1 42 = .ok (.iastore, 1) := by decide +kernel
theorem dM_begins_43 : decode mM_begins.2.1 43 = .ok (.return_, 1) := by decide +kernel
theorem dM_stepsOn_0 : decode mM_stepsOn.2.1 0 = .ok (.aload_n 0, 1) := by decide +kernel
theorem dM_stepsOn_1 : decode mM_stepsOn.2.1 1 = .ok (.invokevirtual 326, 3) := by decide +kernel
theorem dM_stepsOn_4 : decode mM_stepsOn.2.1 4 = .ok (.istore_n 1, 1) := by decide +kernel
theorem dM_stepsOn_5 : decode mM_stepsOn.2.1 5 = .ok (.iconst 0, 1) := by decide +kernel
theorem dM_stepsOn_6 : decode mM_stepsOn.2.1 6 = .ok (.istore_n 2, 1) := by decide +kernel
theorem dM_stepsOn_7 : decode mM_stepsOn.2.1 7 = .ok (.iload_n 2, 1) := by decide +kernel
theorem dM_stepsOn_8 : decode mM_stepsOn.2.1 8 = .ok (.iload_n 1, 1) := by decide +kernel
theorem dM_stepsOn_9 : decode mM_stepsOn.2.1 9 = .ok (.if_icmp .ge 16, 3) := by decide +kernel
theorem dM_stepsOn_12 : decode mM_stepsOn.2.1 12 = .ok (.aload_n 0, 1) := by decide +kernel
theorem dM_stepsOn_13 : decode mM_stepsOn.2.1 13 = .ok (.getfield 40, 3) := by decide +kernel
theorem dM_stepsOn_16 : decode mM_stepsOn.2.1 16 = .ok (.iload_n 2, 1) := by decide +kernel
theorem dM_stepsOn_17 : decode mM_stepsOn.2.1 17 = .ok (.iconst 0, 1) := by decide +kernel
theorem dM_stepsOn_18 : decode mM_stepsOn.2.1 18 = .ok (.iastore, 1) := by decide +kernel
theorem dM_stepsOn_19 : decode mM_stepsOn.2.1 19 = .ok (.iinc 2 1, 3) := by decide +kernel
theorem dM_stepsOn_22 : decode mM_stepsOn.2.1 22 = .ok (.goto (-15), 3) := by decide +kernel
theorem dM_stepsOn_25 : decode mM_stepsOn.2.1 25 = .ok (.iconst 0, 1) := by decide +kernel
theorem dM_stepsOn_26 : decode mM_stepsOn.2.1 26 = .ok (.istore_n 2, 1) := by decide +kernel
theorem dM_stepsOn_27 : decode mM_stepsOn.2.1 27 = .ok (.iload_n 2, 1) := by decide +kernel
theorem dM_stepsOn_28 : decode mM_stepsOn.2.1 28 = .ok (.iload_n 1, 1) := by decide +kernel
theorem dM_stepsOn_29 : decode mM_stepsOn.2.1 29 = .ok (.if_icmp .ge 77, 3) := by decide +kernel
theorem dM_stepsOn_32 : decode mM_stepsOn.2.1 32 = .ok (.aload_n 0, 1) := by decide +kernel
theorem dM_stepsOn_33 : decode mM_stepsOn.2.1 33 = .ok (.getfield 31, 3) := by decide +kernel
theorem dM_stepsOn_36 : decode mM_stepsOn.2.1 36 = .ok (.iload_n 2, 1) := by decide +kernel
theorem dM_stepsOn_37 : decode mM_stepsOn.2.1 37 = .ok (.iaload, 1) := by decide +kernel
theorem dM_stepsOn_38 : decode mM_stepsOn.2.1 38 = .ok (.ifCond .ne 6, 3) := by decide +kernel
theorem dM_stepsOn_41 : decode mM_stepsOn.2.1 41 = .ok (.goto 59, 3) := by decide +kernel
theorem dM_stepsOn_44 : decode mM_stepsOn.2.1 44 = .ok (.iconst 0, 1) := by decide +kernel
theorem dM_stepsOn_45 : decode mM_stepsOn.2.1 45 = .ok (.istore_n 3, 1) := by decide +kernel
theorem dM_stepsOn_46 : decode mM_stepsOn.2.1 46 = .ok (.iload_n 3, 1) := by decide +kernel
theorem dM_stepsOn_47 : decode mM_stepsOn.2.1 47 = .ok (.aload_n 0, 1) := by decide +kernel
theorem dM_stepsOn_48 : decode mM_stepsOn.2.1 48 = .ok (.invokevirtual 336, 3) := by decide +kernel
theorem dM_stepsOn_51 : decode mM_stepsOn.2.1 51 = .ok (.if_icmp .ge 49, 3) := by decide +kernel
theorem dM_stepsOn_54 : decode mM_stepsOn.2.1 54 = .ok (.aload_n 0, 1) := by decide +kernel
theorem dM_stepsOn_55 : decode mM_stepsOn.2.1 55 = .ok (.iload_n 2, 1) := by decide +kernel
theorem dM_stepsOn_56 : decode mM_stepsOn.2.1 56 = .ok (.invokevirtual 339, 3) := by decide +kernel
theorem dM_stepsOn_59 : decode mM_stepsOn.2.1 59 = .ok (.aload_n 0, 1) := by decide +kernel
theorem dM_stepsOn_60 : decode mM_stepsOn.2.1 60 = .ok (.iload_n 3, 1) := by decide +kernel
theorem dM_stepsOn_61 : decode mM_stepsOn.2.1 61 = .ok (.invokevirtual 342, 3) := by decide +kernel
theorem dM_stepsOn_64 : decode mM_stepsOn.2.1 64 = .ok (.ifCond .ne 6, 3) := by decide +kernel
theorem dM_stepsOn_67 : decode mM_stepsOn.2.1 67 = .ok (.goto 27, 3) := by decide +kernel
theorem dM_stepsOn_70 : decode mM_stepsOn.2.1 70 = .ok (.aload_n 0, 1) := by decide +kernel
theorem dM_stepsOn_71 : decode mM_stepsOn.2.1 71 = .ok (.iload_n 3, 1) := by decide +kernel
theorem dM_stepsOn_72 : decode mM_stepsOn.2.1 72 = .ok (.invokevirtual 345, 3) := by decide +kernel
theorem dM_stepsOn_75 : decode mM_stepsOn.2.1 75 = .ok (.pop, 1) := by decide +kernel
theorem dM_stepsOn_76 : decode mM_stepsOn.2.1 76 = .ok (.aload_n 0, 1) := by decide +kernel
theorem dM_stepsOn_77 : decode mM_stepsOn.2.1 77 = .ok (.getfield 40, 3) := by decide +kernel
theorem dM_stepsOn_80 : decode mM_stepsOn.2.1 80 = .ok (.aload_n 0, 1) := by decide +kernel
theorem dM_stepsOn_81 : decode mM_stepsOn.2.1 81 = .ok (.invokevirtual 330, 3) := by decide +kernel
theorem dM_stepsOn_84 : decode mM_stepsOn.2.1 84 = .ok (.dup2, 1) := by decide +kernel
theorem dM_stepsOn_85 : decode mM_stepsOn.2.1 85 = .ok (.iaload, 1) := by decide +kernel
theorem dM_stepsOn_86 : decode mM_stepsOn.2.1 86 = .ok (.aload_n 0, 1) := by decide +kernel
theorem dM_stepsOn_87 : decode mM_stepsOn.2.1 87 = .ok (.getfield 31, 3) := by decide +kernel
theorem dM_stepsOn_90 : decode mM_stepsOn.2.1 90 = .ok (.iload_n 2, 1) := by decide +kernel
theorem dM_stepsOn_91 : decode mM_stepsOn.2.1 91 = .ok (.iaload, 1) := by decide +kernel
theorem dM_stepsOn_92 : decode mM_stepsOn.2.1 92 = .ok (.iadd, 1) := by decide +kernel
theorem dM_stepsOn_93 : decode mM_stepsOn.2.1 93 = .ok (.iastore, 1) := by decide +kernel
theorem dM_stepsOn_94 : decode mM_stepsOn.2.1 94 = .ok (.iinc 3 1, 3) := by decide +kernel
theorem dM_stepsOn_97 : decode mM_stepsOn.2.1 97 = .ok (.goto (-51), 3) := by decide +kernel
theorem dM_stepsOn_100 : decode mM_stepsOn.2.1 100 = .ok (.iinc 2 1, 3) := by decide +kernel
theorem dM_stepsOn_103 : decode mM_stepsOn.2.1 103 = .ok (.goto (-76), 3) := by decide +kernel
theorem dM_stepsOn_106 : decode mM_stepsOn.2.1 106 = .ok (.iconst 0, 1) := by decide +kernel
theorem dM_stepsOn_107 : decode mM_stepsOn.2.1 107 = .ok (.istore_n 2, 1) := by decide +kernel
theorem dM_stepsOn_108 : decode mM_stepsOn.2.1 108 = .ok (.iload_n 2, 1) := by decide +kernel
theorem dM_stepsOn_109 : decode mM_stepsOn.2.1 109 = .ok (.iload_n 1, 1) := by decide +kernel
theorem dM_stepsOn_110 : decode mM_stepsOn.2.1 110 = .ok (.if_icmp .ge 21, 3) := by decide +kernel
theorem dM_stepsOn_113 : decode mM_stepsOn.2.1 113 = .ok (.aload_n 0, 1) := by decide +kernel
theorem dM_stepsOn_114 : decode mM_stepsOn.2.1 114 = .ok (.getfield 31, 3) := by decide +kernel
theorem dM_stepsOn_117 : decode mM_stepsOn.2.1 117 = .ok (.iload_n 2, 1) := by decide +kernel
theorem dM_stepsOn_118 : decode mM_stepsOn.2.1 118 = .ok (.aload_n 0, 1) := by decide +kernel
theorem dM_stepsOn_119 : decode mM_stepsOn.2.1 119 = .ok (.getfield 40, 3) := by decide +kernel
theorem dM_stepsOn_122 : decode mM_stepsOn.2.1 122 = .ok (.iload_n 2, 1) := by decide +kernel
theorem dM_stepsOn_123 : decode mM_stepsOn.2.1 123 = .ok (.iaload, 1) := by decide +kernel
theorem dM_stepsOn_124 : decode mM_stepsOn.2.1 124 = .ok (.iastore, 1) := by decide +kernel
theorem dM_stepsOn_125 : decode mM_stepsOn.2.1 125 = .ok (.iinc 2 1, 3) := by decide +kernel
theorem dM_stepsOn_128 : decode mM_stepsOn.2.1 128 = .ok (.goto (-20), 3) := by decide +kernel
theorem dM_stepsOn_131 : decode mM_stepsOn.2.1 131 = .ok (.return_, 1) := by decide +kernel
theorem dM_rowsNow_0 : decode mM_rowsNow.2.1 0 = .ok (.iconst 0, 1) := by decide +kernel
theorem dM_rowsNow_1 : decode mM_rowsNow.2.1 1 = .ok (.istore_n 1, 1) := by decide +kernel
theorem dM_rowsNow_2 : decode mM_rowsNow.2.1 2 = .ok (.aload_n 0, 1) := by decide +kernel
theorem dM_rowsNow_3 : decode mM_rowsNow.2.1 3 = .ok (.iconst 0, 1) := by decide +kernel
theorem dM_rowsNow_4 : decode mM_rowsNow.2.1 4 = .ok (.putfield 388, 3) := by decide +kernel
theorem dM_rowsNow_7 : decode mM_rowsNow.2.1 7 = .ok (.aload_n 0, 1) := by decide +kernel
theorem dM_rowsNow_8 : decode mM_rowsNow.2.1 8 = .ok (.invokevirtual 326, 3) := by decide +kernel
theorem dM_rowsNow_11 : decode mM_rowsNow.2.1 11 = .ok (.iconst 1, 1) := by decide +kernel
theorem dM_rowsNow_12 : decode mM_rowsNow.2.1 12 = .ok (.isub, 1) := by decide +kernel
theorem dM_rowsNow_13 : decode mM_rowsNow.2.1 13 = .ok (.istore_n 2, 1) := by decide +kernel
theorem dM_rowsNow_14 : decode mM_rowsNow.2.1 14 = .ok (.iload_n 2, 1) := by decide +kernel
theorem dM_rowsNow_15 : decode mM_rowsNow.2.1 15 = .ok (.ifCond .lt 64, 3) := by decide +kernel
theorem dM_rowsNow_18 : decode mM_rowsNow.2.1 18 = .ok (.aload_n 0, 1) := by decide +kernel
theorem dM_rowsNow_19 : decode mM_rowsNow.2.1 19 = .ok (.getfield 31, 3) := by decide +kernel
theorem dM_rowsNow_22 : decode mM_rowsNow.2.1 22 = .ok (.iload_n 2, 1) := by decide +kernel
theorem dM_rowsNow_23 : decode mM_rowsNow.2.1 23 = .ok (.iaload, 1) := by decide +kernel
theorem dM_rowsNow_24 : decode mM_rowsNow.2.1 24 = .ok (.ifCond .ne 6, 3) := by decide +kernel
theorem dM_rowsNow_27 : decode mM_rowsNow.2.1 27 = .ok (.goto 46, 3) := by decide +kernel
theorem dM_rowsNow_30 : decode mM_rowsNow.2.1 30 = .ok (.aload_n 0, 1) := by decide +kernel
theorem dM_rowsNow_31 : decode mM_rowsNow.2.1 31 = .ok (.iload_n 2, 1) := by decide +kernel
theorem dM_rowsNow_32 : decode mM_rowsNow.2.1 32 = .ok (.invokevirtual 339, 3) := by decide +kernel
theorem dM_rowsNow_35 : decode mM_rowsNow.2.1 35 = .ok (.aload_n 0, 1) := by decide +kernel
theorem dM_rowsNow_36 : decode mM_rowsNow.2.1 36 = .ok (.iconst 2, 1) := by decide +kernel
theorem dM_rowsNow_37 : decode mM_rowsNow.2.1 37 = .ok (.invokevirtual 370, 3) := by decide +kernel
theorem dM_rowsNow_40 : decode mM_rowsNow.2.1 40 = .ok (.ifCond .ne 6, 3) := by decide +kernel
theorem dM_rowsNow_43 : decode mM_rowsNow.2.1 43 = .ok (.goto 30, 3) := by decide +kernel
theorem dM_rowsNow_46 : decode mM_rowsNow.2.1 46 = .ok (.iload_n 1, 1) := by decide +kernel
theorem dM_rowsNow_47 : decode mM_rowsNow.2.1 47 = .ok (.aload_n 0, 1) := by decide +kernel
theorem dM_rowsNow_48 : decode mM_rowsNow.2.1 48 = .ok (.getfield 31, 3) := by decide +kernel
theorem dM_rowsNow_51 : decode mM_rowsNow.2.1 51 = .ok (.iload_n 2, 1) := by decide +kernel
theorem dM_rowsNow_52 : decode mM_rowsNow.2.1 52 = .ok (.iaload, 1) := by decide +kernel
theorem dM_rowsNow_53 : decode mM_rowsNow.2.1 53 = .ok (.iadd, 1) := by decide +kernel
theorem dM_rowsNow_54 : decode mM_rowsNow.2.1 54 = .ok (.istore_n 1, 1) := by decide +kernel
theorem dM_rowsNow_55 : decode mM_rowsNow.2.1 55 = .ok (.aload_n 0, 1) := by decide +kernel
theorem dM_rowsNow_56 : decode mM_rowsNow.2.1 56 = .ok (.dup, 1) := by decide +kernel
theorem dM_rowsNow_57 : decode mM_rowsNow.2.1 57 = .ok (.getfield 388, 3) := by decide +kernel
theorem dM_rowsNow_60 : decode mM_rowsNow.2.1 60 = .ok (.iconst 1, 1) := by decide +kernel
theorem dM_rowsNow_61 : decode mM_rowsNow.2.1 61 = .ok (.aload_n 0, 1) := by decide +kernel
theorem dM_rowsNow_62 : decode mM_rowsNow.2.1 62 = .ok (.getfield 21, 3) := by decide +kernel
theorem dM_rowsNow_65 : decode mM_rowsNow.2.1 65 = .ok (.bipush 6, 2) := by decide +kernel
theorem dM_rowsNow_67 : decode mM_rowsNow.2.1 67 = .ok (.iaload, 1) := by decide +kernel
theorem dM_rowsNow_68 : decode mM_rowsNow.2.1 68 = .ok (.ishl, 1) := by decide +kernel
theorem dM_rowsNow_69 : decode mM_rowsNow.2.1 69 = .ok (.ior, 1) := by decide +kernel
theorem dM_rowsNow_70 : decode mM_rowsNow.2.1 70 = .ok (.putfield 388, 3) := by decide +kernel
theorem dM_rowsNow_73 : decode mM_rowsNow.2.1 73 = .ok (.iinc 2 (-1), 3) := by decide +kernel
theorem dM_rowsNow_76 : decode mM_rowsNow.2.1 76 = .ok (.goto (-62), 3) := by decide +kernel
theorem dM_rowsNow_79 : decode mM_rowsNow.2.1 79 = .ok (.iload_n 1, 1) := by decide +kernel
theorem dM_rowsNow_80 : decode mM_rowsNow.2.1 80 = .ok (.ireturn, 1) := by decide +kernel
theorem dM_rowsOf_0 : decode mM_rowsOf.2.1 0 = .ok (.aload_n 0, 1) := by decide +kernel
theorem dM_rowsOf_1 : decode mM_rowsOf.2.1 1 = .ok (.invokevirtual 391, 3) := by decide +kernel
theorem dM_rowsOf_4 : decode mM_rowsOf.2.1 4 = .ok (.iconst 0, 1) := by decide +kernel
theorem dM_rowsOf_5 : decode mM_rowsOf.2.1 5 = .ok (.istore_n 2, 1) := by decide +kernel
theorem dM_rowsOf_6 : decode mM_rowsOf.2.1 6 = .ok (.iload_n 2, 1) := by decide +kernel
theorem dM_rowsOf_7 : decode mM_rowsOf.2.1 7 = .ok (.iload_n 1, 1) := by decide +kernel
theorem dM_rowsOf_8 : decode mM_rowsOf.2.1 8 = .ok (.if_icmp .ge 13, 3) := by decide +kernel
theorem dM_rowsOf_11 : decode mM_rowsOf.2.1 11 = .ok (.aload_n 0, 1) := by decide +kernel
theorem dM_rowsOf_12 : decode mM_rowsOf.2.1 12 = .ok (.invokevirtual 394, 3) := by decide +kernel
theorem dM_rowsOf_15 : decode mM_rowsOf.2.1 15 = .ok (.iinc 2 1, 3) := by decide +kernel
theorem dM_rowsOf_18 : decode mM_rowsOf.2.1 18 = .ok (.goto (-12), 3) := by decide +kernel
theorem dM_rowsOf_21 : decode mM_rowsOf.2.1 21 = .ok (.aload_n 0, 1) := by decide +kernel
theorem dM_rowsOf_22 : decode mM_rowsOf.2.1 22 = .ok (.invokevirtual 397, 3) := by decide +kernel
theorem dM_rowsOf_25 : decode mM_rowsOf.2.1 25 = .ok (.ireturn, 1) := by decide +kernel
theorem dM_refusesRows_0 : decode mM_refusesRows.2.1 0 = .ok (.aload_n 0, 1) := by decide +kernel
theorem dM_refusesRows_1 : decode mM_refusesRows.2.1 1 = .ok (.getfield 281, 3) := by decide +kernel
theorem dM_refusesRows_4 : decode mM_refusesRows.2.1 4 = .ok (.ifnonnull 7, 3) := by decide +kernel
theorem dM_refusesRows_7 : decode mM_refusesRows.2.1 7 = .ok (.iconst 1, 1) := by decide +kernel
theorem dM_refusesRows_8 : decode mM_refusesRows.2.1 8 = .ok (.goto 18, 3) := by decide +kernel
theorem dM_refusesRows_11 : decode mM_refusesRows.2.1 11 = .ok (.iload_n 1, 1) := by decide +kernel
theorem dM_refusesRows_12 : decode mM_refusesRows.2.1 12 = .ok (.iconst 0, 1) := by decide +kernel
theorem dM_refusesRows_13 : decode mM_refusesRows.2.1 13 = .ok (.bipush 6, 2) := by decide +kernel
theorem dM_refusesRows_15 : decode mM_refusesRows.2.1 15 = .ok (.invokestatic 357, 3) := by decide +kernel
theorem dM_refusesRows_18 : decode mM_refusesRows.2.1 18 = .ok (.ifCond .eq 7, 3) := by decide +kernel
theorem dM_refusesRows_21 : decode mM_refusesRows.2.1 21 = .ok (.iconst 0, 1) := by decide +kernel
theorem dM_refusesRows_22 : decode mM_refusesRows.2.1 22 = .ok (.goto 4, 3) := by decide +kernel
theorem dM_refusesRows_25 : decode mM_refusesRows.2.1 25 = .ok (.iconst 2, 1) := by decide +kernel
theorem dM_refusesRows_26 : decode mM_refusesRows.2.1 26 = .ok (.ireturn, 1) := by decide +kernel
theorem dM_rows_0 : decode mM_rows.2.1 0 = .ok (.aload_n 0, 1) := by decide +kernel
theorem dM_rows_1 : decode mM_rows.2.1 1 = .ok (.iconst 0, 1) := by decide +kernel
theorem dM_rows_2 : decode mM_rows.2.1 2 = .ok (.putfield 46, 3) := by decide +kernel
theorem dM_rows_5 : decode mM_rows.2.1 5 = .ok (.aload_n 0, 1) := by decide +kernel
theorem dM_rows_6 : decode mM_rows.2.1 6 = .ok (.iload_n 1, 1) := by decide +kernel
theorem dM_rows_7 : decode mM_rows.2.1 7 = .ok (.invokevirtual 400, 3) := by decide +kernel
theorem dM_rows_10 : decode mM_rows.2.1 10 = .ok (.istore_n 2, 1) := by decide +kernel
theorem dM_rows_11 : decode mM_rows.2.1 11 = .ok (.iload_n 2, 1) := by decide +kernel
theorem dM_rows_12 : decode mM_rows.2.1 12 = .ok (.ifCond .le 11, 3) := by decide +kernel
theorem dM_rows_15 : decode mM_rows.2.1 15 = .ok (.aload_n 0, 1) := by decide +kernel
theorem dM_rows_16 : decode mM_rows.2.1 16 = .ok (.iload_n 2, 1) := by decide +kernel
theorem dM_rows_17 : decode mM_rows.2.1 17 = .ok (.invokevirtual 52, 3) := by decide +kernel
theorem dM_rows_20 : decode mM_rows.2.1 20 = .ok (.goto 12, 3) := by decide +kernel
theorem dM_rows_23 : decode mM_rows.2.1 23 = .ok (.aload_n 0, 1) := by decide +kernel
theorem dM_rows_24 : decode mM_rows.2.1 24 = .ok (.aload_n 0, 1) := by decide +kernel
theorem dM_rows_25 : decode mM_rows.2.1 25 = .ok (.iload_n 1, 1) := by decide +kernel
theorem dM_rows_26 : decode mM_rows.2.1 26 = .ok (.invokevirtual 403, 3) := by decide +kernel
theorem dM_rows_29 : decode mM_rows.2.1 29 = .ok (.invokevirtual 56, 3) := by decide +kernel
theorem dM_rows_32 : decode mM_rows.2.1 32 = .ok (.ireturn, 1) := by decide +kernel
theorem dM_lastBy_0 : decode mM_lastBy.2.1 0 = .ok (.aload_n 0, 1) := by decide +kernel
theorem dM_lastBy_1 : decode mM_lastBy.2.1 1 = .ok (.iconst 0, 1) := by decide +kernel
theorem dM_lastBy_2 : decode mM_lastBy.2.1 2 = .ok (.putfield 46, 3) := by decide +kernel
theorem dM_lastBy_5 : decode mM_lastBy.2.1 5 = .ok (.aload_n 0, 1) := by decide +kernel
theorem dM_lastBy_6 : decode mM_lastBy.2.1 6 = .ok (.iload_n 1, 1) := by decide +kernel
theorem dM_lastBy_7 : decode mM_lastBy.2.1 7 = .ok (.invokevirtual 400, 3) := by decide +kernel
theorem dM_lastBy_10 : decode mM_lastBy.2.1 10 = .ok (.istore_n 2, 1) := by decide +kernel
theorem dM_lastBy_11 : decode mM_lastBy.2.1 11 = .ok (.iload_n 2, 1) := by decide +kernel
theorem dM_lastBy_12 : decode mM_lastBy.2.1 12 = .ok (.ifCond .le 9, 3) := by decide +kernel
theorem dM_lastBy_15 : decode mM_lastBy.2.1 15 = .ok (.aload_n 0, 1) := by decide +kernel
theorem dM_lastBy_16 : decode mM_lastBy.2.1 16 = .ok (.iload_n 2, 1) := by decide +kernel
theorem dM_lastBy_17 : decode mM_lastBy.2.1 17 = .ok (.invokevirtual 52, 3) := by decide +kernel
theorem dM_lastBy_20 : decode mM_lastBy.2.1 20 = .ok (.ireturn, 1) := by decide +kernel
theorem dM_lastBy_21 : decode mM_lastBy.2.1 21 = .ok (.aload_n 0, 1) := by decide +kernel
theorem dM_lastBy_22 : decode mM_lastBy.2.1 22 = .ok (.iload_n 1, 1) := by decide +kernel
theorem dM_lastBy_23 : decode mM_lastBy.2.1 23 = .ok (.invokevirtual 403, 3) := by decide +kernel
theorem dM_lastBy_26 : decode mM_lastBy.2.1 26 = .ok (.pop, 1) := by decide +kernel
theorem dM_lastBy_27 : decode mM_lastBy.2.1 27 = .ok (.aload_n 0, 1) := by decide +kernel
theorem dM_lastBy_28 : decode mM_lastBy.2.1 28 = .ok (.aload_n 0, 1) := by decide +kernel
theorem dM_lastBy_29 : decode mM_lastBy.2.1 29 = .ok (.getfield 388, 3) := by decide +kernel
theorem dM_lastBy_32 : decode mM_lastBy.2.1 32 = .ok (.invokevirtual 56, 3) := by decide +kernel
theorem dM_lastBy_35 : decode mM_lastBy.2.1 35 = .ok (.ireturn, 1) := by decide +kernel
theorem dM_firstBy_0 : decode mM_firstBy.2.1 0 = .ok (.aload_n 0, 1) := by decide +kernel
theorem dM_firstBy_1 : decode mM_firstBy.2.1 1 = .ok (.iconst 0, 1) := by decide +kernel
theorem dM_firstBy_2 : decode mM_firstBy.2.1 2 = .ok (.putfield 46, 3) := by decide +kernel
theorem dM_firstBy_5 : decode mM_firstBy.2.1 5 = .ok (.aload_n 0, 1) := by decide +kernel
theorem dM_firstBy_6 : decode mM_firstBy.2.1 6 = .ok (.getfield 281, 3) := by decide +kernel
theorem dM_firstBy_9 : decode mM_firstBy.2.1 9 = .ok (.ifnull 15, 3) := by decide +kernel
theorem dM_firstBy_12 : decode mM_firstBy.2.1 12 = .ok (.iload_n 1, 1) := by decide +kernel
theorem dM_firstBy_13 : decode mM_firstBy.2.1 13 = .ok (.ifCond .lt 11, 3) := by decide +kernel
theorem dM_firstBy_16 : decode mM_firstBy.2.1 16 = .ok (.iload_n 1, 1) := by decide +kernel
theorem dM_firstBy_17 : decode mM_firstBy.2.1 17 = .ok (.aload_n 0, 1) := by decide +kernel
theorem dM_firstBy_18 : decode mM_firstBy.2.1 18 = .ok (.invokevirtual 336, 3) := by decide +kernel
theorem dM_firstBy_21 : decode mM_firstBy.2.1 21 = .ok (.if_icmp .lt 9, 3) := by decide +kernel
theorem dM_firstBy_24 : decode mM_firstBy.2.1 24 = .ok (.aload_n 0, 1) := by decide +kernel
theorem dM_firstBy_25 : decode mM_firstBy.2.1 25 = .ok (.iconst 1, 1) := by decide +kernel
theorem dM_firstBy_26 : decode mM_firstBy.2.1 26 = .ok (.invokevirtual 52, 3) := by decide +kernel
theorem dM_firstBy_29 : decode mM_firstBy.2.1 29 = .ok (.ireturn, 1) := by decide +kernel
theorem dM_firstBy_30 : decode mM_firstBy.2.1 30 = .ok (.iload_n 2, 1) := by decide +kernel
theorem dM_firstBy_31 : decode mM_firstBy.2.1 31 = .ok (.iconst 1, 1) := by decide +kernel
theorem dM_firstBy_32 : decode mM_firstBy.2.1 32 = .ok (.bipush 6, 2) := by decide +kernel
theorem dM_firstBy_34 : decode mM_firstBy.2.1 34 = .ok (.invokestatic 357, 3) := by decide +kernel
theorem dM_firstBy_37 : decode mM_firstBy.2.1 37 = .ok (.ifCond .ne 9, 3) := by decide +kernel
theorem dM_firstBy_40 : decode mM_firstBy.2.1 40 = .ok (.aload_n 0, 1) := by decide +kernel
theorem dM_firstBy_41 : decode mM_firstBy.2.1 41 = .ok (.iconst 2, 1) := by decide +kernel
theorem dM_firstBy_42 : decode mM_firstBy.2.1 42 = .ok (.invokevirtual 52, 3) := by decide +kernel
theorem dM_firstBy_45 : decode mM_firstBy.2.1 45 = .ok (.ireturn, 1) := by decide +kernel
theorem dM_firstBy_46 : decode mM_firstBy.2.1 46 = .ok (.aload_n 0, 1) := by decide +kernel
theorem dM_firstBy_47 : decode mM_firstBy.2.1 47 = .ok (.invokevirtual 391, 3) := by decide +kernel
theorem dM_firstBy_50 : decode mM_firstBy.2.1 50 = .ok (.aload_n 0, 1) := by decide +kernel
theorem dM_firstBy_51 : decode mM_firstBy.2.1 51 = .ok (.invokevirtual 283, 3) := by decide +kernel
theorem dM_firstBy_54 : decode mM_firstBy.2.1 54 = .ok (.aload_n 0, 1) := by decide +kernel
theorem dM_firstBy_55 : decode mM_firstBy.2.1 55 = .ok (.iload_n 1, 1) := by decide +kernel
theorem dM_firstBy_56 : decode mM_firstBy.2.1 56 = .ok (.invokevirtual 342, 3) := by decide +kernel
theorem dM_firstBy_59 : decode mM_firstBy.2.1 59 = .ok (.ifCond .ne 9, 3) := by decide +kernel
theorem dM_firstBy_62 : decode mM_firstBy.2.1 62 = .ok (.aload_n 0, 1) := by decide +kernel
theorem dM_firstBy_63 : decode mM_firstBy.2.1 63 = .ok (.iconst 0, 1) := by decide +kernel
theorem dM_firstBy_64 : decode mM_firstBy.2.1 64 = .ok (.invokevirtual 56, 3) := by decide +kernel
theorem dM_firstBy_67 : decode mM_firstBy.2.1 67 = .ok (.ireturn, 1) := by decide +kernel
theorem dM_firstBy_68 : decode mM_firstBy.2.1 68 = .ok (.aload_n 0, 1) := by decide +kernel
theorem dM_firstBy_69 : decode mM_firstBy.2.1 69 = .ok (.getfield 31, 3) := by decide +kernel
theorem dM_firstBy_72 : decode mM_firstBy.2.1 72 = .ok (.aload_n 0, 1) := by decide +kernel
theorem dM_firstBy_73 : decode mM_firstBy.2.1 73 = .ok (.invokevirtual 330, 3) := by decide +kernel
theorem dM_firstBy_76 : decode mM_firstBy.2.1 76 = .ok (.iconst 0, 1) := by decide +kernel
theorem dM_firstBy_77 : decode mM_firstBy.2.1 77 = .ok (.iastore, 1) := by decide +kernel
theorem dM_firstBy_78 : decode mM_firstBy.2.1 78 = .ok (.aload_n 0, 1) := by decide +kernel
theorem dM_firstBy_79 : decode mM_firstBy.2.1 79 = .ok (.iload_n 1, 1) := by decide +kernel
theorem dM_firstBy_80 : decode mM_firstBy.2.1 80 = .ok (.invokevirtual 345, 3) := by decide +kernel
theorem dM_firstBy_83 : decode mM_firstBy.2.1 83 = .ok (.pop, 1) := by decide +kernel
theorem dM_firstBy_84 : decode mM_firstBy.2.1 84 = .ok (.aload_n 0, 1) := by decide +kernel
theorem dM_firstBy_85 : decode mM_firstBy.2.1 85 = .ok (.getfield 31, 3) := by decide +kernel
theorem dM_firstBy_88 : decode mM_firstBy.2.1 88 = .ok (.aload_n 0, 1) := by decide +kernel
theorem dM_firstBy_89 : decode mM_firstBy.2.1 89 = .ok (.invokevirtual 330, 3) := by decide +kernel
theorem dM_firstBy_92 : decode mM_firstBy.2.1 92 = .ok (.iconst 1, 1) := by decide +kernel
theorem dM_firstBy_93 : decode mM_firstBy.2.1 93 = .ok (.iastore, 1) := by decide +kernel
theorem dM_firstBy_94 : decode mM_firstBy.2.1 94 = .ok (.iconst 1, 1) := by decide +kernel
theorem dM_firstBy_95 : decode mM_firstBy.2.1 95 = .ok (.istore_n 3, 1) := by decide +kernel
theorem dM_firstBy_96 : decode mM_firstBy.2.1 96 = .ok (.iload_n 3, 1) := by decide +kernel
theorem dM_firstBy_97 : decode mM_firstBy.2.1 97 = .ok (.iload_n 2, 1) := by decide +kernel
theorem dM_firstBy_98 : decode mM_firstBy.2.1 98 = .ok (.if_icmp .ge 13, 3) := by decide +kernel
theorem dM_firstBy_101 : decode mM_firstBy.2.1 101 = .ok (.aload_n 0, 1) := by decide +kernel
theorem dM_firstBy_102 : decode mM_firstBy.2.1 102 = .ok (.invokevirtual 394, 3) := by decide +kernel
theorem dM_firstBy_105 : decode mM_firstBy.2.1 105 = .ok (.iinc 3 1, 3) := by decide +kernel
theorem dM_firstBy_108 : decode mM_firstBy.2.1 108 = .ok (.goto (-12), 3) := by decide +kernel
theorem dM_firstBy_111 : decode mM_firstBy.2.1 111 = .ok (.aload_n 0, 1) := by decide +kernel
theorem dM_firstBy_112 : decode mM_firstBy.2.1 112 = .ok (.aload_n 0, 1) := by decide +kernel
theorem dM_firstBy_113 : decode mM_firstBy.2.1 113 = .ok (.invokevirtual 397, 3) := by decide +kernel
theorem dM_firstBy_116 : decode mM_firstBy.2.1 116 = .ok (.invokevirtual 56, 3) := by decide +kernel
theorem dM_firstBy_119 : decode mM_firstBy.2.1 119 = .ok (.ireturn, 1) := by decide +kernel
theorem dM_fewestSeen_0 : decode mM_fewestSeen.2.1 0 = .ok (.aload_n 0, 1) := by decide +kernel
theorem dM_fewestSeen_1 : decode mM_fewestSeen.2.1 1 = .ok (.iconst 0, 1) := by decide +kernel
theorem dM_fewestSeen_2 : decode mM_fewestSeen.2.1 2 = .ok (.putfield 46, 3) := by decide +kernel
theorem dM_fewestSeen_5 : decode mM_fewestSeen.2.1 5 = .ok (.aload_n 0, 1) := by decide +kernel
theorem dM_fewestSeen_6 : decode mM_fewestSeen.2.1 6 = .ok (.getfield 281, 3) := by decide +kernel
theorem dM_fewestSeen_9 : decode mM_fewestSeen.2.1 9 = .ok (.ifnonnull 9, 3) := by decide +kernel
theorem dM_fewestSeen_12 : decode mM_fewestSeen.2.1 12 = .ok (.aload_n 0, 1) := by decide +kernel
theorem dM_fewestSeen_13 : decode mM_fewestSeen.2.1 13 = .ok (.iconst 1, 1) := by decide +kernel
theorem dM_fewestSeen_14 : decode mM_fewestSeen.2.1 14 = .ok (.invokevirtual 52, 3) := by decide +kernel
theorem dM_fewestSeen_17 : decode mM_fewestSeen.2.1 17 = .ok (.ireturn, 1) := by decide +kernel
theorem dM_fewestSeen_18 : decode mM_fewestSeen.2.1 18 = .ok (.aload_n 0, 1) := by decide +kernel
theorem dM_fewestSeen_19 : decode mM_fewestSeen.2.1 19 = .ok (.invokevirtual 391, 3) := by decide +kernel
theorem dM_fewestSeen_22 : decode mM_fewestSeen.2.1 22 = .ok (.iconst 0, 1) := by decide +kernel
theorem dM_fewestSeen_23 : decode mM_fewestSeen.2.1 23 = .ok (.istore_n 1, 1) := by decide +kernel
theorem dM_fewestSeen_24 : decode mM_fewestSeen.2.1 24 = .ok (.iload_n 1, 1) := by decide +kernel
theorem dM_fewestSeen_25 : decode mM_fewestSeen.2.1 25 = .ok (.bipush 6, 2) := by decide +kernel
theorem dM_fewestSeen_27 : decode mM_fewestSeen.2.1 27 = .ok (.if_icmp .gt 32, 3) := by decide +kernel
theorem dM_fewestSeen_30 : decode mM_fewestSeen.2.1 30 = .ok (.aload_n 0, 1) := by decide +kernel
theorem dM_fewestSeen_31 : decode mM_fewestSeen.2.1 31 = .ok (.invokevirtual 397, 3) := by decide +kernel
theorem dM_fewestSeen_34 : decode mM_fewestSeen.2.1 34 = .ok (.ifCond .le 9, 3) := by decide +kernel
theorem dM_fewestSeen_37 : decode mM_fewestSeen.2.1 37 = .ok (.aload_n 0, 1) := by decide +kernel
theorem dM_fewestSeen_38 : decode mM_fewestSeen.2.1 38 = .ok (.iload_n 1, 1) := by decide +kernel
theorem dM_fewestSeen_39 : decode mM_fewestSeen.2.1 39 = .ok (.invokevirtual 56, 3) := by decide +kernel
theorem dM_fewestSeen_42 : decode mM_fewestSeen.2.1 42 = .ok (.ireturn, 1) := by decide +kernel
theorem dM_fewestSeen_43 : decode mM_fewestSeen.2.1 43 = .ok (.iload_n 1, 1) := by decide +kernel
theorem dM_fewestSeen_44 : decode mM_fewestSeen.2.1 44 = .ok (.bipush 6, 2) := by decide +kernel
theorem dM_fewestSeen_46 : decode mM_fewestSeen.2.1 46 = .ok (.if_icmp .ge 7, 3) := by decide +kernel
theorem dM_fewestSeen_49 : decode mM_fewestSeen.2.1 49 = .ok (.aload_n 0, 1) := by decide +kernel
theorem dM_fewestSeen_50 : decode mM_fewestSeen.2.1 50 = .ok (.invokevirtual 394, 3) := by decide +kernel
theorem dM_fewestSeen_53 : decode mM_fewestSeen.2.1 53 = .ok (.iinc 1 1, 3) := by decide +kernel
theorem dM_fewestSeen_56 : decode mM_fewestSeen.2.1 56 = .ok (.goto (-32), 3) := by decide +kernel
theorem dM_fewestSeen_59 : decode mM_fewestSeen.2.1 59 = .ok (.aload_n 0, 1) := by decide +kernel
theorem dM_fewestSeen_60 : decode mM_fewestSeen.2.1 60 = .ok (.bipush (-2), 2) := by decide +kernel
theorem dM_fewestSeen_62 : decode mM_fewestSeen.2.1 62 = .ok (.invokevirtual 56, 3) := by decide +kernel
theorem dM_fewestSeen_65 : decode mM_fewestSeen.2.1 65 = .ok (.ireturn, 1) := by decide +kernel
theorem fw_bd {c : Cfg} {f o : Nat → Nat} {i s : Nat} (hst : stN c ≤ 16) (hs : s ≤ stN c) (hi : i < spc c) (h2 : sumN f (spc c) ≤ 1048576) (h : ∀ g, dot c o g = sumN (fun j => f j * stp c g j) i + f i * svs c (ivN c i) g s) : ∀ j, j < spc c → o j ≤ 16777216 := by
  intro j hj
  have e := h (fun _ => 1)
  have e1 : dot c o (fun _ => 1) = sumN o (spc c) := sumN_cg (fun i _ => Nat.mul_one _)
  have e2 : sumN (fun j => f j * stp c (fun _ => 1) j) i ≤ 16 * sumN f i := by
    rw [← sumN_mulc]
    refine sumN_lef (fun i _ => ?_)
    rw [Nat.mul_comm 16]
    exact Nat.mul_le_mul_left _ (Nat.le_trans (svs_le (fun _ => Nat.le_refl _) _) hst)
  have e3 : f i * svs c (ivN c i) (fun _ => 1) s ≤ f i * 16 := Nat.mul_le_mul_left _ (Nat.le_trans (svs_le (fun _ => Nat.le_refl _) _) (by omega))
  have e4 : sumN f (i + 1) ≤ sumN f (spc c) := sumN_mono hi
  have e5 : sumN f (i + 1) = sumN f i + f i := rfl
  have e6 := sumN_at (f := o) hj
  omega
theorem lb_t : ∀ la : Nat, la < 4 → (16 + 2 ^ la) / 16 = 1 ∧ ∀ b : Nat, b < 4 → (16 + 2 ^ la).testBit b = (b == la) := by decide +kernel
theorem or_t {L la b : Nat} (hL : L < 16) (hl : la < 4) : (L ||| 2 ^ la) < 16 ∧ ((L ||| 2 ^ la).testBit b = true ↔ L.testBit b = true ∨ b = la) := by
  refine ⟨Nat.or_lt_two_pow (n := 4) hL (Nat.pow_lt_pow_right (by decide) hl), ?_⟩
  rw [Nat.testBit_or, Bool.or_eq_true, Nat.testBit_two_pow, decide_eq_true_eq]
  exact ⟨fun h => by rcases h with h | h; exact Or.inl h; exact Or.inr h.symm, fun h => by rcases h with h | h; exact Or.inl h; exact Or.inr h.symm⟩
theorem siP_iff {T : TL} {n : Nat} (hc : okC (c0T T)) : fitP (c0T T) (siP T) (n, 0) = true ↔ ∀ p, p < pN (c0T T) → plS 2 T p = -2 ∨ (pl (c0T T) n p : Int) = plS 2 T p :=
  (fitP_iff (c := c0T T) (f := tSi T 0) (s := tSi T 1) (q := (n, 0)) hc).trans (all2 (Q := fun p => plS 2 T p = -2 ∨ (pl (c0T T) n p : Int) = plS 2 T p) hc.2.1)
section Mod31
variable {G : GE} {V V' V1 V2 : Nat → Nat → Int} {σ : Shp} {K : Option AV → Mem → Prop} {l : Nat} {c : Cfg} {n : Nat} {S : PS} {T : TL}
theorem wM_asTold (hT : okT T) (hd : 0 < tDn T) (hM : moS σ l) (hl : laS σ l) (h64 : 64 ≤ l) (hL : LV V l T) (hK : ∀ V', XF V V' → AR (V' 56) (c0T T) (sc0 T).2.2 → K none (V', σ)) : Wp G 0 mM_asTold [vR 53] (V, σ) 0 0 K := by
  obtain ⟨L1, L2, L3, -, -⟩ := hL
  have L7 := L1.2.2.2.2.2.2.2
  obtain ⟨-, t1, t2, -, -, t5, -, t7, t8, t9, t10, -⟩ := hT
  have t5 := t5 hd
  have hdig := encN_dig (c := c0T T) (f := tAt T) (g := tLd T) (la := tLa T) (fun p _ => Nat.lt_succ_of_le (t9 p)) (fun d _ => Nat.lt_succ_of_le (t7 d).2)
  have fin : ∀ V' : Nat → Nat → Int, XF V V' → (∀ p, p < 2 → V' 56 p = tAt T p) → (∀ d, d < 4 → V' 56 (2 + d) = tLd T d ∧ V' 56 (7 + d) = tKd T d) → V' 56 6 = tLa T → V' 56 11 = 0 → K none (V', σ) := fun V' f a1 a2 a3 a4 => by
    refine hK V' f ⟨fun p hp => ?_, fun d hd => ?_, ?_, fun d hd => (a2 d hd).2, a4⟩
    · rw [a1 p hp]
      by_cases q : p < pN (c0T T)
      · rw [if_pos q]; exact congrArg _ (hdig.1 p q).symm
      · rw [if_neg q, (t10 p (Nat.le_of_not_lt q)).1]; rfl
    · rw [(a2 d hd).1]
      by_cases q : d < dN (c0T T)
      · rw [if_pos q]; exact congrArg _ (hdig.2.1 d q).symm
      · rw [if_neg q, (t8 d (Nat.le_of_not_lt q)).2]; rfl
    · rw [a3]
      exact congrArg _ hdig.2.2.symm
  refine wp_intro mM_asTold_i.1 [some (vR 53), none] rfl rfl (Nat.le_of_ble_eq_true rfl) ?_
  intro X hG F C
  have hm := C.rm
  have loop2 : ∀ (j d : Nat), d + j = 4 → ∀ (V1 : Nat → Nat → Int) (w : Int), XF V V1 → (∀ p, p < 2 → V1 56 p = tAt T p) → (∀ d', d' < d → V1 56 (2 + d') = tLd T d' ∧ V1 56 (7 + d') = tKd T d') → w = d → AW X 30 [some (vR 53), some (vI w)] [] (V1, σ) 0 0 := by
    intro j
    induction j with
    | zero =>
      intro d hj V1 w hX hI hJ hw
      have e7 : V1 l 7 = V l 7 := by rw [hX l (by omega)]
      have hx1 : ∀ (z : Int), up2 V1 56 (6 : Int).toNat z l = V1 l := fun z => up2_nea _ _ (by omega)
      refine aw_iload_1 (q := 31) F dM_asTold_30 rfl ?_
      refine aw_iconst (q := 32) F dM_asTold_31 rfl (by decide) ?_
      refine aw_icmp_ge (q := 35) (t := 76) F dM_asTold_32 rfl (by decide) (fun c32 => ?_) (fun c32 => by omega)
      refine aw_aload_0 (q := 77) F dM_asTold_76 rfl ?_
      refine av_getaE (q := 80) F fM_21 dM_asTold_77 rfl rfl (by first | exact hM.o | exact hl.o | exact hM.a55 | exact hM.a56 | exact hM.a59 | exact hM.a62 | exact hl.a1 | exact hl.a2 | exact hl.a3 | exact hl.a4) hM.p16 ?_
      refine aw_bipush (q := 82) F dM_asTold_80 rfl (by decide) ?_
      refine aw_aload_0 (q := 83) F dM_asTold_82 rfl ?_
      refine av_getaE (q := 86) F fM_281 dM_asTold_83 rfl rfl (by first | exact hM.o | exact hl.o | exact hM.a55 | exact hM.a56 | exact hM.a59 | exact hM.a62 | exact hl.a1 | exact hl.a2 | exact hl.a3 | exact hl.a4) hM.p3 ?_
      refine av_geti (q := 89) F fM_245 dM_asTold_86 rfl rfl (by first | exact hM.o | exact hl.o | exact hM.a55 | exact hM.a56 | exact hM.a59 | exact hM.a62 | exact hl.a1 | exact hl.a2 | exact hl.a3 | exact hl.a4) ?_
      rw [e7]
      refine aw_iconst (q := 90) F dM_asTold_89 rfl (by decide) ?_
      refine aw_icmp_ne (q := 93) (t := 97) F dM_asTold_90 rfl (by decide) (fun c90 => ?_) (fun c90 => ?_)
      · refine aw_aload_0 (q := 98) F dM_asTold_97 rfl ?_
        refine av_getaE (q := 101) F fM_281 dM_asTold_98 rfl rfl (by first | exact hM.o | exact hl.o | exact hM.a55 | exact hM.a56 | exact hM.a59 | exact hM.a62 | exact hl.a1 | exact hl.a2 | exact hl.a3 | exact hl.a4) hM.p3 ?_
        refine av_geti (q := 104) F fM_245 dM_asTold_101 rfl rfl (by first | exact hM.o | exact hl.o | exact hM.a55 | exact hM.a56 | exact hM.a59 | exact hM.a62 | exact hl.a1 | exact hl.a2 | exact hl.a3 | exact hl.a4) ?_
        try rw [e7]
        refine av_iastore (q := 105) F dM_asTold_104 rfl (by first | exact hM.o | exact hl.o | exact hM.a55 | exact hM.a56 | exact hM.a59 | exact hM.a62 | exact hl.a1 | exact hl.a2 | exact hl.a3 | exact hl.a4) (by omega) (by omega) ?_
        refine aw_aload_0 (q := 106) F dM_asTold_105 rfl ?_
        refine av_getaE (q := 109) F fM_21 dM_asTold_106 rfl rfl (by first | exact hM.o | exact hl.o | exact hM.a55 | exact hM.a56 | exact hM.a59 | exact hM.a62 | exact hl.a1 | exact hl.a2 | exact hl.a3 | exact hl.a4) hM.p16 ?_
        refine aw_bipush (q := 111) F dM_asTold_109 rfl (by decide) ?_
        refine aw_iconst (q := 112) F dM_asTold_111 rfl (by decide) ?_
        refine av_iastore (q := 113) F dM_asTold_112 rfl (by first | exact hM.o | exact hl.o | exact hM.a55 | exact hM.a56 | exact hM.a59 | exact hM.a62 | exact hl.a1 | exact hl.a2 | exact hl.a3 | exact hl.a4) (by omega) (by omega) ?_
        refine aw_vret F C dM_asTold_113 rfl (Nat.le_refl _) (Nat.le_refl _) ?_
        refine fin _ (fun b hb => by rw [up2_nea _ _ hb, up2_nea _ _ hb]; exact hX b hb) (fun p hp => ?_) (fun d' hd' => ?_) ?_ ?_
        · rw [up2_nek _ _ (show p ≠ (11 : Int).toNat by have : (11 : Int).toNat = 11 := rfl; omega), up2_nek _ _ (show p ≠ (6 : Int).toNat by have : (6 : Int).toNat = 6 := rfl; omega)]; exact hI p hp
        · rw [up2_nek _ _ (show 2 + d' ≠ (11 : Int).toNat by have : (11 : Int).toNat = 11 := rfl; omega), up2_nek _ _ (show 2 + d' ≠ (6 : Int).toNat by have : (6 : Int).toNat = 6 := rfl; omega), up2_nek _ _ (show 7 + d' ≠ (11 : Int).toNat by have : (11 : Int).toNat = 11 := rfl; omega), up2_nek _ _ (show 7 + d' ≠ (6 : Int).toNat by have : (6 : Int).toNat = 6 := rfl; omega)]; exact hJ d' (by omega)
        · rw [up2_nek _ _ (show 6 ≠ (11 : Int).toNat by decide)]
          refine (up2_same _ _ _ _).trans ?_
          rcases L7 with q | q
          · first | (exfalso; exact c90 q.1) | (rw [q.2]; rfl)
          · first | exact q | (exfalso; omega)
        · exact up2_same _ _ _ _
      · refine aw_iconst (q := 94) F dM_asTold_93 rfl (by decide) ?_
        refine aw_goto (t := 104) F dM_asTold_94 (by decide) ?_
        try rw [e7]
        refine av_iastore (q := 105) F dM_asTold_104 rfl (by first | exact hM.o | exact hl.o | exact hM.a55 | exact hM.a56 | exact hM.a59 | exact hM.a62 | exact hl.a1 | exact hl.a2 | exact hl.a3 | exact hl.a4) (by omega) (by omega) ?_
        refine aw_aload_0 (q := 106) F dM_asTold_105 rfl ?_
        refine av_getaE (q := 109) F fM_21 dM_asTold_106 rfl rfl (by first | exact hM.o | exact hl.o | exact hM.a55 | exact hM.a56 | exact hM.a59 | exact hM.a62 | exact hl.a1 | exact hl.a2 | exact hl.a3 | exact hl.a4) hM.p16 ?_
        refine aw_bipush (q := 111) F dM_asTold_109 rfl (by decide) ?_
        refine aw_iconst (q := 112) F dM_asTold_111 rfl (by decide) ?_
        refine av_iastore (q := 113) F dM_asTold_112 rfl (by first | exact hM.o | exact hl.o | exact hM.a55 | exact hM.a56 | exact hM.a59 | exact hM.a62 | exact hl.a1 | exact hl.a2 | exact hl.a3 | exact hl.a4) (by omega) (by omega) ?_
        refine aw_vret F C dM_asTold_113 rfl (Nat.le_refl _) (Nat.le_refl _) ?_
        refine fin _ (fun b hb => by rw [up2_nea _ _ hb, up2_nea _ _ hb]; exact hX b hb) (fun p hp => ?_) (fun d' hd' => ?_) ?_ ?_
        · rw [up2_nek _ _ (show p ≠ (11 : Int).toNat by have : (11 : Int).toNat = 11 := rfl; omega), up2_nek _ _ (show p ≠ (6 : Int).toNat by have : (6 : Int).toNat = 6 := rfl; omega)]; exact hI p hp
        · rw [up2_nek _ _ (show 2 + d' ≠ (11 : Int).toNat by have : (11 : Int).toNat = 11 := rfl; omega), up2_nek _ _ (show 2 + d' ≠ (6 : Int).toNat by have : (6 : Int).toNat = 6 := rfl; omega), up2_nek _ _ (show 7 + d' ≠ (11 : Int).toNat by have : (11 : Int).toNat = 11 := rfl; omega), up2_nek _ _ (show 7 + d' ≠ (6 : Int).toNat by have : (6 : Int).toNat = 6 := rfl; omega)]; exact hJ d' (by omega)
        · rw [up2_nek _ _ (show 6 ≠ (11 : Int).toNat by decide)]
          refine (up2_same _ _ _ _).trans ?_
          rcases L7 with q | q
          · first | (exfalso; exact c90 q.1) | (rw [q.2]; rfl)
          · first | exact q | (exfalso; omega)
        · exact up2_same _ _ _ _
    | succ j ih =>
      intro d hj V1 w hX hI hJ hw
      have eL : V1 (l + 2) w.toNat = tLd T d := by rw [hX (l + 2) (by omega), show w.toNat = d by omega]; exact (L2 d (by omega)).2
      have eK : ∀ z : Int, up2 V1 56 (2 + w).toNat z (l + 1) w.toNat = tKd T d := fun z => by rw [up2_nea _ _ (by omega), hX (l + 1) (by omega), show w.toNat = d by omega]; exact (L2 d (by omega)).1
      refine aw_iload_1 (q := 31) F dM_asTold_30 rfl ?_
      refine aw_iconst (q := 32) F dM_asTold_31 rfl (by decide) ?_
      refine aw_icmp_ge (q := 35) (t := 76) F dM_asTold_32 rfl (by decide) (fun c32 => by omega) (fun c32 => ?_)
      refine aw_aload_0 (q := 36) F dM_asTold_35 rfl ?_
      refine av_getaE (q := 39) F fM_21 dM_asTold_36 rfl rfl (by first | exact hM.o | exact hl.o | exact hM.a55 | exact hM.a56 | exact hM.a59 | exact hM.a62 | exact hl.a1 | exact hl.a2 | exact hl.a3 | exact hl.a4) hM.p16 ?_
      refine aw_iconst (q := 40) F dM_asTold_39 rfl (by decide) ?_
      refine aw_iload_1 (q := 41) F dM_asTold_40 rfl ?_
      refine aw_iadd (q := 42) F dM_asTold_41 rfl (by constructor <;> omega) ?_
      refine aw_aload_0 (q := 43) F dM_asTold_42 rfl ?_
      refine av_getaE (q := 46) F fM_281 dM_asTold_43 rfl rfl (by first | exact hM.o | exact hl.o | exact hM.a55 | exact hM.a56 | exact hM.a59 | exact hM.a62 | exact hl.a1 | exact hl.a2 | exact hl.a3 | exact hl.a4) hM.p3 ?_
      refine av_getaE (q := 49) F fM_247 dM_asTold_46 rfl rfl (by first | exact hM.o | exact hl.o | exact hM.a55 | exact hM.a56 | exact hM.a59 | exact hM.a62 | exact hl.a1 | exact hl.a2 | exact hl.a3 | exact hl.a4) hl.p10 ?_
      refine aw_iload_1 (q := 50) F dM_asTold_49 rfl ?_
      refine av_iaload (q := 51) F dM_asTold_50 rfl (by first | exact hM.o | exact hl.o | exact hM.a55 | exact hM.a56 | exact hM.a59 | exact hM.a62 | exact hl.a1 | exact hl.a2 | exact hl.a3 | exact hl.a4) (by omega) (by omega) ?_
      rw [eL]
      refine av_iastore (q := 52) F dM_asTold_51 rfl (by first | exact hM.o | exact hl.o | exact hM.a55 | exact hM.a56 | exact hM.a59 | exact hM.a62 | exact hl.a1 | exact hl.a2 | exact hl.a3 | exact hl.a4) (by omega) (by omega) ?_
      refine aw_aload_0 (q := 53) F dM_asTold_52 rfl ?_
      refine av_getaE (q := 56) F fM_21 dM_asTold_53 rfl rfl (by first | exact hM.o | exact hl.o | exact hM.a55 | exact hM.a56 | exact hM.a59 | exact hM.a62 | exact hl.a1 | exact hl.a2 | exact hl.a3 | exact hl.a4) hM.p16 ?_
      refine aw_bipush (q := 58) F dM_asTold_56 rfl (by decide) ?_
      refine aw_iload_1 (q := 59) F dM_asTold_58 rfl ?_
      refine aw_iadd (q := 60) F dM_asTold_59 rfl (by constructor <;> omega) ?_
      refine aw_aload_0 (q := 61) F dM_asTold_60 rfl ?_
      refine av_getaE (q := 64) F fM_281 dM_asTold_61 rfl rfl (by first | exact hM.o | exact hl.o | exact hM.a55 | exact hM.a56 | exact hM.a59 | exact hM.a62 | exact hl.a1 | exact hl.a2 | exact hl.a3 | exact hl.a4) hM.p3 ?_
      refine av_getaE (q := 67) F fM_233 dM_asTold_64 rfl rfl (by first | exact hM.o | exact hl.o | exact hM.a55 | exact hM.a56 | exact hM.a59 | exact hM.a62 | exact hl.a1 | exact hl.a2 | exact hl.a3 | exact hl.a4) hl.p9 ?_
      refine aw_iload_1 (q := 68) F dM_asTold_67 rfl ?_
      refine av_iaload (q := 69) F dM_asTold_68 rfl (by first | exact hM.o | exact hl.o | exact hM.a55 | exact hM.a56 | exact hM.a59 | exact hM.a62 | exact hl.a1 | exact hl.a2 | exact hl.a3 | exact hl.a4) (by omega) (by omega) ?_
      rw [eK]
      refine av_iastore (q := 70) F dM_asTold_69 rfl (by first | exact hM.o | exact hl.o | exact hM.a55 | exact hM.a56 | exact hM.a59 | exact hM.a62 | exact hl.a1 | exact hl.a2 | exact hl.a3 | exact hl.a4) (by omega) (by omega) ?_
      refine aw_iinc_1 (q := 73) F dM_asTold_70 rfl trivial (by constructor <;> omega) ?_
      refine aw_goto (t := 30) F dM_asTold_73 (by decide) ?_
      refine ih (d + 1) (by omega) _ _ (fun b hb => by rw [up2_nea _ _ hb, up2_nea _ _ hb]; exact hX b hb) (fun p hp => ?_) (fun d' hd' => ?_) (by omega)
      · rw [up2_nek _ _ (by omega), up2_nek _ _ (by omega)]; exact hI p hp
      · rw [show (2 + w).toNat = 2 + d by omega, show (7 + w).toNat = 7 + d by omega]
        by_cases e : d' = d
        · rw [e, up2_nek _ _ (by omega), up2_same, up2_same]; exact ⟨rfl, rfl⟩
        · rw [up2_nek _ _ (by omega), up2_nek _ _ (by omega), up2_nek _ _ (by omega), up2_nek _ _ (by omega)]; exact hJ d' (by omega)
  have loop1 : ∀ (j p : Nat), p + j = 2 → ∀ (V1 : Nat → Nat → Int) (w : Int), XF V V1 → (∀ p', p' < p → V1 56 p' = tAt T p') → w = p → AW X 2 [some (vR 53), some (vI w)] [] (V1, σ) 0 0 := by
    intro j
    induction j with
    | zero =>
      intro p hj V1 w hX hI hw
      refine aw_iload_1 (q := 3) F dM_asTold_2 rfl ?_
      refine aw_iconst (q := 4) F dM_asTold_3 rfl (by decide) ?_
      refine aw_icmp_ge (q := 7) (t := 28) F dM_asTold_4 rfl (by decide) (fun c4 => ?_) (fun c4 => by omega)
      refine aw_iconst (q := 29) F dM_asTold_28 rfl (by decide) ?_
      refine aw_istore_1 (q := 30) F dM_asTold_29 rfl trivial ?_
      exact loop2 4 0 rfl V1 _ hX (fun p' hp' => hI p' (by omega)) (fun d' hd' => absurd hd' (by omega)) rfl
    | succ j ih =>
      intro p hj V1 w hX hI hw
      have eA : V1 (l + 3) w.toNat = tAt T p := by rw [hX (l + 3) (by omega), show w.toNat = p by omega]; exact L3 p (by omega)
      refine aw_iload_1 (q := 3) F dM_asTold_2 rfl ?_
      refine aw_iconst (q := 4) F dM_asTold_3 rfl (by decide) ?_
      refine aw_icmp_ge (q := 7) (t := 28) F dM_asTold_4 rfl (by decide) (fun c4 => by omega) (fun c4 => ?_)
      refine aw_aload_0 (q := 8) F dM_asTold_7 rfl ?_
      refine av_getaE (q := 11) F fM_21 dM_asTold_8 rfl rfl (by first | exact hM.o | exact hl.o | exact hM.a55 | exact hM.a56 | exact hM.a59 | exact hM.a62 | exact hl.a1 | exact hl.a2 | exact hl.a3 | exact hl.a4) hM.p16 ?_
      refine aw_iload_1 (q := 12) F dM_asTold_11 rfl ?_
      refine aw_aload_0 (q := 13) F dM_asTold_12 rfl ?_
      refine av_getaE (q := 16) F fM_281 dM_asTold_13 rfl rfl (by first | exact hM.o | exact hl.o | exact hM.a55 | exact hM.a56 | exact hM.a59 | exact hM.a62 | exact hl.a1 | exact hl.a2 | exact hl.a3 | exact hl.a4) hM.p3 ?_
      refine av_getaE (q := 19) F fM_259 dM_asTold_16 rfl rfl (by first | exact hM.o | exact hl.o | exact hM.a55 | exact hM.a56 | exact hM.a59 | exact hM.a62 | exact hl.a1 | exact hl.a2 | exact hl.a3 | exact hl.a4) hl.p11 ?_
      refine aw_iload_1 (q := 20) F dM_asTold_19 rfl ?_
      refine av_iaload (q := 21) F dM_asTold_20 rfl (by first | exact hM.o | exact hl.o | exact hM.a55 | exact hM.a56 | exact hM.a59 | exact hM.a62 | exact hl.a1 | exact hl.a2 | exact hl.a3 | exact hl.a4) (by omega) (by omega) ?_
      rw [eA]
      refine av_iastore (q := 22) F dM_asTold_21 rfl (by first | exact hM.o | exact hl.o | exact hM.a55 | exact hM.a56 | exact hM.a59 | exact hM.a62 | exact hl.a1 | exact hl.a2 | exact hl.a3 | exact hl.a4) (by omega) (by omega) ?_
      refine aw_iinc_1 (q := 25) F dM_asTold_22 rfl trivial (by constructor <;> omega) ?_
      refine aw_goto (t := 2) F dM_asTold_25 (by decide) ?_
      refine ih (p + 1) (by omega) _ _ (fun b hb => by rw [up2_nea _ _ hb]; exact hX b hb) (fun p' hp' => ?_) (by omega)
      rw [show w.toNat = p by omega]
      by_cases e : p' = p
      · rw [e, up2_same]
      · rw [up2_nek _ _ (by omega)]; exact hI p' (by omega)
  refine aw_iconst (q := 1) F dM_asTold_0 rfl (by decide) ?_
  refine aw_istore_1 (q := 2) F dM_asTold_1 rfl trivial ?_
  exact loop1 2 0 rfl V _ (fun _ _ => rfl) (fun p' hp' => absurd hp' (by omega)) rfl
end Mod31
