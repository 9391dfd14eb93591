theorem dM_moves_0 : decode mM_moves.2.1 0 = .ok (.iload_n 2, 1) := by decide +kernel
theorem dM_moves_1 : decode mM_moves.2.1 1 = .ok (.ifCond .ne 5, 3) := by decide +kernel
theorem dM_moves_4 : decode mM_moves.2.1 4 = .ok (.iconst 1, 1) := by decide +kernel
theorem dM_moves_5 : decode mM_moves.2.1 5 = .ok (.ireturn, 1) := by decide +kernel
theorem dM_moves_6 : decode mM_moves.2.1 6 = .ok (.iload_n 2, 1) := by decide +kernel
theorem dM_moves_7 : decode mM_moves.2.1 7 = .ok (.iconst 1, 1) := by decide +kernel
theorem dM_moves_8 : decode mM_moves.2.1 8 = .ok (.isub, 1) := by decide +kernel
theorem dM_moves_9 : decode mM_moves.2.1 9 = .ok (.aload_n 0, 1) := by decide +kernel
theorem dM_moves_10 : decode mM_moves.2.1 10 = .ok (.getfield 281, 3) := by decide +kernel
theorem dM_moves_13 : decode mM_moves.2.1 13 = .ok (.getfield 183, 3) := by decide +kernel
theorem dM_moves_16 : decode mM_moves.2.1 16 = .ok (.irem, 1) := by decide +kernel
theorem dM_moves_17 : decode mM_moves.2.1 17 = .ok (.istore_n 3, 1) := by decide +kernel
theorem dM_moves_18 : decode mM_moves.2.1 18 = .ok (.iload_n 2, 1) := by decide +kernel
theorem dM_moves_19 : decode mM_moves.2.1 19 = .ok (.iconst 1, 1) := by decide +kernel
theorem dM_moves_20 : decode mM_moves.2.1 20 = .ok (.isub, 1) := by decide +kernel
theorem dM_moves_21 : decode mM_moves.2.1 21 = .ok (.aload_n 0, 1) := by decide +kernel
theorem dM_moves_22 : decode mM_moves.2.1 22 = .ok (.getfield 281, 3) := by decide +kernel
theorem dM_moves_25 : decode mM_moves.2.1 25 = .ok (.getfield 183, 3) := by decide +kernel
theorem dM_moves_28 : decode mM_moves.2.1 28 = .ok (.idiv, 1) := by decide +kernel
theorem dM_moves_29 : decode mM_moves.2.1 29 = .ok (.istore 4, 2) := by decide +kernel
theorem dM_moves_31 : decode mM_moves.2.1 31 = .ok (.aload_n 0, 1) := by decide +kernel
theorem dM_moves_32 : decode mM_moves.2.1 32 = .ok (.getfield 21, 3) := by decide +kernel
theorem dM_moves_35 : decode mM_moves.2.1 35 = .ok (.iload_n 1, 1) := by decide +kernel
theorem dM_moves_36 : decode mM_moves.2.1 36 = .ok (.iaload, 1) := by decide +kernel
theorem dM_moves_37 : decode mM_moves.2.1 37 = .ok (.ifCond .ne 7, 3) := by decide +kernel
theorem dM_moves_40 : decode mM_moves.2.1 40 = .ok (.iconst 1, 1) := by decide +kernel
theorem dM_moves_41 : decode mM_moves.2.1 41 = .ok (.goto 4, 3) := by decide +kernel
theorem dM_moves_44 : decode mM_moves.2.1 44 = .ok (.iconst 0, 1) := by decide +kernel
theorem dM_moves_45 : decode mM_moves.2.1 45 = .ok (.istore 5, 2) := by decide +kernel
theorem dM_moves_47 : decode mM_moves.2.1 47 = .ok (.iload 4, 2) := by decide +kernel
theorem dM_moves_49 : decode mM_moves.2.1 49 = .ok (.ifCond .ne 27, 3) := by decide +kernel
theorem dM_moves_52 : decode mM_moves.2.1 52 = .ok (.iload 5, 2) := by decide +kernel
theorem dM_moves_54 : decode mM_moves.2.1 54 = .ok (.ifCond .eq 18, 3) := by decide +kernel
theorem dM_moves_57 : decode mM_moves.2.1 57 = .ok (.aload_n 0, 1) := by decide +kernel
theorem dM_moves_58 : decode mM_moves.2.1 58 = .ok (.iload_n 3, 1) := by decide +kernel
theorem dM_moves_59 : decode mM_moves.2.1 59 = .ok (.iconst 1, 1) := by decide +kernel
theorem dM_moves_60 : decode mM_moves.2.1 60 = .ok (.iload_n 1, 1) := by decide +kernel
theorem dM_moves_61 : decode mM_moves.2.1 61 = .ok (.ishl, 1) := by decide +kernel
theorem dM_moves_62 : decode mM_moves.2.1 62 = .ok (.invokevirtual 305, 3) := by decide +kernel
theorem dM_moves_65 : decode mM_moves.2.1 65 = .ok (.ifCond .eq 7, 3) := by decide +kernel
theorem dM_moves_68 : decode mM_moves.2.1 68 = .ok (.iconst 1, 1) := by decide +kernel
theorem dM_moves_69 : decode mM_moves.2.1 69 = .ok (.goto 30, 3) := by decide +kernel
theorem dM_moves_72 : decode mM_moves.2.1 72 = .ok (.iconst 0, 1) := by decide +kernel
theorem dM_moves_73 : decode mM_moves.2.1 73 = .ok (.goto 26, 3) := by decide +kernel
theorem dM_moves_76 : decode mM_moves.2.1 76 = .ok (.iload 4, 2) := by decide +kernel
theorem dM_moves_78 : decode mM_moves.2.1 78 = .ok (.iconst 1, 1) := by decide +kernel
theorem dM_moves_79 : decode mM_moves.2.1 79 = .ok (.if_icmp .ne 14, 3) := by decide +kernel
theorem dM_moves_82 : decode mM_moves.2.1 82 = .ok (.aload_n 0, 1) := by decide +kernel
theorem dM_moves_83 : decode mM_moves.2.1 83 = .ok (.iload_n 3, 1) := by decide +kernel
theorem dM_moves_84 : decode mM_moves.2.1 84 = .ok (.iconst 1, 1) := by decide +kernel
theorem dM_moves_85 : decode mM_moves.2.1 85 = .ok (.iload_n 1, 1) := by decide +kernel
theorem dM_moves_86 : decode mM_moves.2.1 86 = .ok (.ishl, 1) := by decide +kernel
theorem dM_moves_87 : decode mM_moves.2.1 87 = .ok (.invokevirtual 311, 3) := by decide +kernel
theorem dM_moves_90 : decode mM_moves.2.1 90 = .ok (.goto 9, 3) := by decide +kernel
theorem dM_moves_93 : decode mM_moves.2.1 93 = .ok (.aload_n 0, 1) := by decide +kernel
theorem dM_moves_94 : decode mM_moves.2.1 94 = .ok (.iload_n 1, 1) := by decide +kernel
theorem dM_moves_95 : decode mM_moves.2.1 95 = .ok (.iload_n 3, 1) := by decide +kernel
theorem dM_moves_96 : decode mM_moves.2.1 96 = .ok (.invokevirtual 314, 3) := by decide +kernel
theorem dM_moves_99 : decode mM_moves.2.1 99 = .ok (.istore 6, 2) := by decide +kernel
theorem dM_moves_101 : decode mM_moves.2.1 101 = .ok (.iload 6, 2) := by decide +kernel
theorem dM_moves_103 : decode mM_moves.2.1 103 = .ok (.ifCond .ne 5, 3) := by decide +kernel
theorem dM_moves_106 : decode mM_moves.2.1 106 = .ok (.iconst 0, 1) := by decide +kernel
theorem dM_moves_107 : decode mM_moves.2.1 107 = .ok (.ireturn, 1) := by decide +kernel
theorem dM_moves_108 : decode mM_moves.2.1 108 = .ok (.iload 4, 2) := by decide +kernel
theorem dM_moves_110 : decode mM_moves.2.1 110 = .ok (.ifCond .ne 11, 3) := by decide +kernel
theorem dM_moves_113 : decode mM_moves.2.1 113 = .ok (.aload_n 0, 1) := by decide +kernel
theorem dM_moves_114 : decode mM_moves.2.1 114 = .ok (.iload_n 3, 1) := by decide +kernel
theorem dM_moves_115 : decode mM_moves.2.1 115 = .ok (.invokevirtual 320, 3) := by decide +kernel
theorem dM_moves_118 : decode mM_moves.2.1 118 = .ok (.goto 23, 3) := by decide +kernel
theorem dM_moves_121 : decode mM_moves.2.1 121 = .ok (.iload 4, 2) := by decide +kernel
theorem dM_moves_123 : decode mM_moves.2.1 123 = .ok (.iconst 1, 1) := by decide +kernel
theorem dM_moves_124 : decode mM_moves.2.1 124 = .ok (.if_icmp .ne 11, 3) := by decide +kernel
theorem dM_moves_127 : decode mM_moves.2.1 127 = .ok (.aload_n 0, 1) := by decide +kernel
theorem dM_moves_128 : decode mM_moves.2.1 128 = .ok (.iload_n 3, 1) := by decide +kernel
theorem dM_moves_129 : decode mM_moves.2.1 129 = .ok (.invokevirtual 317, 3) := by decide +kernel
theorem dM_moves_132 : decode mM_moves.2.1 132 = .ok (.goto 9, 3) := by decide +kernel
theorem dM_moves_135 : decode mM_moves.2.1 135 = .ok (.aload_n 0, 1) := by decide +kernel
theorem dM_moves_136 : decode mM_moves.2.1 136 = .ok (.iload_n 1, 1) := by decide +kernel
theorem dM_moves_137 : decode mM_moves.2.1 137 = .ok (.iload_n 3, 1) := by decide +kernel
theorem dM_moves_138 : decode mM_moves.2.1 138 = .ok (.invokevirtual 323, 3) := by decide +kernel
theorem dM_moves_141 : decode mM_moves.2.1 141 = .ok (.iconst 1, 1) := by decide +kernel
theorem dM_moves_142 : decode mM_moves.2.1 142 = .ok (.ireturn, 1) := by decide +kernel
theorem dM_moveChoices_0 : decode mM_moveChoices.2.1 0 = .ok (.iconst 1, 1) := by decide +kernel
theorem dM_moveChoices_1 : decode mM_moveChoices.2.1 1 = .ok (.iconst 3, 1) := by decide +kernel
theorem dM_moveChoices_2 : decode mM_moveChoices.2.1 2 = .ok (.aload_n 0, 1) := by decide +kernel
theorem dM_moveChoices_3 : decode mM_moveChoices.2.1 3 = .ok (.getfield 281, 3) := by decide +kernel
theorem dM_moveChoices_6 : decode mM_moveChoices.2.1 6 = .ok (.getfield 183, 3) := by decide +kernel
theorem dM_moveChoices_9 : decode mM_moveChoices.2.1 9 = .ok (.imul, 1) := by decide +kernel
theorem dM_moveChoices_10 : decode mM_moveChoices.2.1 10 = .ok (.iadd, 1) := by decide +kernel
theorem dM_moveChoices_11 : decode mM_moveChoices.2.1 11 = .ok (.ireturn, 1) := by decide +kernel
theorem dM_isIn_0 : decode mM_isIn.2.1 0 = .ok (.aload_n 0, 1) := by decide +kernel
theorem dM_isIn_1 : decode mM_isIn.2.1 1 = .ok (.invokevirtual 348, 3) := by decide +kernel
theorem dM_isIn_4 : decode mM_isIn.2.1 4 = .ok (.iconst 0, 1) := by decide +kernel
theorem dM_isIn_5 : decode mM_isIn.2.1 5 = .ok (.istore 4, 2) := by decide +kernel
theorem dM_isIn_7 : decode mM_isIn.2.1 7 = .ok (.iload 4, 2) := by decide +kernel
theorem dM_isIn_9 : decode mM_isIn.2.1 9 = .ok (.iload_n 3, 1) := by decide +kernel
theorem dM_isIn_10 : decode mM_isIn.2.1 10 = .ok (.if_icmp .ge 39, 3) := by decide +kernel
theorem dM_isIn_13 : decode mM_isIn.2.1 13 = .ok (.aload_n 0, 1) := by decide +kernel
theorem dM_isIn_14 : decode mM_isIn.2.1 14 = .ok (.iload 4, 2) := by decide +kernel
theorem dM_isIn_16 : decode mM_isIn.2.1 16 = .ok (.iconst 2, 1) := by decide +kernel
theorem dM_isIn_17 : decode mM_isIn.2.1 17 = .ok (.irem, 1) := by decide +kernel
theorem dM_isIn_18 : decode mM_isIn.2.1 18 = .ok (.ifCond .ne 7, 3) := by decide +kernel
theorem dM_isIn_21 : decode mM_isIn.2.1 21 = .ok (.iload_n 1, 1) := by decide +kernel
theorem dM_isIn_22 : decode mM_isIn.2.1 22 = .ok (.goto 6, 3) := by decide +kernel
theorem dM_isIn_25 : decode mM_isIn.2.1 25 = .ok (.iconst 1, 1) := by decide +kernel
theorem dM_isIn_26 : decode mM_isIn.2.1 26 = .ok (.iload_n 1, 1) := by decide +kernel
theorem dM_isIn_27 : decode mM_isIn.2.1 27 = .ok (.isub, 1) := by decide +kernel
theorem dM_isIn_28 : decode mM_isIn.2.1 28 = .ok (.aload_n 0, 1) := by decide +kernel
theorem dM_isIn_29 : decode mM_isIn.2.1 29 = .ok (.getfield 43, 3) := by decide +kernel
theorem dM_isIn_32 : decode mM_isIn.2.1 32 = .ok (.iload 4, 2) := by decide +kernel
theorem dM_isIn_34 : decode mM_isIn.2.1 34 = .ok (.iaload, 1) := by decide +kernel
theorem dM_isIn_35 : decode mM_isIn.2.1 35 = .ok (.invokevirtual 409, 3) := by decide +kernel
theorem dM_isIn_38 : decode mM_isIn.2.1 38 = .ok (.ifCond .ne 5, 3) := by decide +kernel
theorem dM_isIn_41 : decode mM_isIn.2.1 41 = .ok (.iconst (-1), 1) := by decide +kernel
theorem dM_isIn_42 : decode mM_isIn.2.1 42 = .ok (.ireturn, 1) := by decide +kernel
theorem dM_isIn_43 : decode mM_isIn.2.1 43 = .ok (.iinc 4 1, 3) := by decide +kernel
theorem dM_isIn_46 : decode mM_isIn.2.1 46 = .ok (.goto (-39), 3) := by decide +kernel
theorem dM_isIn_49 : decode mM_isIn.2.1 49 = .ok (.aload_n 0, 1) := by decide +kernel
theorem dM_isIn_50 : decode mM_isIn.2.1 50 = .ok (.getfield 21, 3) := by decide +kernel
theorem dM_isIn_53 : decode mM_isIn.2.1 53 = .ok (.iload_n 1, 1) := by decide +kernel
theorem dM_isIn_54 : decode mM_isIn.2.1 54 = .ok (.iaload, 1) := by decide +kernel
theorem dM_isIn_55 : decode mM_isIn.2.1 55 = .ok (.iload_n 2, 1) := by decide +kernel
theorem dM_isIn_56 : decode mM_isIn.2.1 56 = .ok (.iconst 1, 1) := by decide +kernel
theorem dM_isIn_57 : decode mM_isIn.2.1 57 = .ok (.iadd, 1) := by decide +kernel
theorem dM_isIn_58 : decode mM_isIn.2.1 58 = .ok (.if_icmp .ne 7, 3) := by decide +kernel
theorem dM_isIn_61 : decode mM_isIn.2.1 61 = .ok (.iconst 1, 1) := by decide +kernel
theorem dM_isIn_62 : decode mM_isIn.2.1 62 = .ok (.goto 4, 3) := by decide +kernel
theorem dM_isIn_65 : decode mM_isIn.2.1 65 = .ok (.iconst 0, 1) := by decide +kernel
theorem dM_isIn_66 : decode mM_isIn.2.1 66 = .ok (.ireturn, 1) := by decide +kernel
theorem dM_argues_0 : decode mM_argues.2.1 0 = .ok (.iconst 1, 1) := by decide +kernel
theorem dM_argues_1 : decode mM_argues.2.1 1 = .ok (.istore 4, 2) := by decide +kernel
theorem dM_argues_3 : decode mM_argues.2.1 3 = .ok (.iconst 0, 1) := by decide +kernel
theorem dM_argues_4 : decode mM_argues.2.1 4 = .ok (.istore 5, 2) := by decide +kernel
theorem dM_argues_6 : decode mM_argues.2.1 6 = .ok (.iload 5, 2) := by decide +kernel
theorem dM_argues_8 : decode mM_argues.2.1 8 = .ok (.iload_n 3, 1) := by decide +kernel
theorem dM_argues_9 : decode mM_argues.2.1 9 = .ok (.if_icmp .ge 18, 3) := by decide +kernel
theorem dM_argues_12 : decode mM_argues.2.1 12 = .ok (.iload 4, 2) := by decide +kernel
theorem dM_argues_14 : decode mM_argues.2.1 14 = .ok (.aload_n 0, 1) := by decide +kernel
theorem dM_argues_15 : decode mM_argues.2.1 15 = .ok (.invokevirtual 412, 3) := by decide +kernel
theorem dM_argues_18 : decode mM_argues.2.1 18 = .ok (.imul, 1) := by decide +kernel
theorem dM_argues_19 : decode mM_argues.2.1 19 = .ok (.istore 4, 2) := by decide +kernel
theorem dM_argues_21 : decode mM_argues.2.1 21 = .ok (.iinc 5 1, 3) := by decide +kernel
theorem dM_argues_24 : decode mM_argues.2.1 24 = .ok (.goto (-18), 3) := by decide +kernel
theorem dM_argues_27 : decode mM_argues.2.1 27 = .ok (.iconst 0, 1) := by decide +kernel
theorem dM_argues_28 : decode mM_argues.2.1 28 = .ok (.istore 5, 2) := by decide +kernel
theorem dM_argues_30 : decode mM_argues.2.1 30 = .ok (.iload 5, 2) := by decide +kernel
theorem dM_argues_32 : decode mM_argues.2.1 32 = .ok (.iload 4, 2) := by decide +kernel
theorem dM_argues_34 : decode mM_argues.2.1 34 = .ok (.if_icmp .ge 66, 3) := by decide +kernel
theorem dM_argues_37 : decode mM_argues.2.1 37 = .ok (.iload 5, 2) := by decide +kernel
theorem dM_argues_39 : decode mM_argues.2.1 39 = .ok (.istore 6, 2) := by decide +kernel
theorem dM_argues_41 : decode mM_argues.2.1 41 = .ok (.iload_n 3, 1) := by decide +kernel
theorem dM_argues_42 : decode mM_argues.2.1 42 = .ok (.iconst 1, 1) := by decide +kernel
theorem dM_argues_43 : decode mM_argues.2.1 43 = .ok (.isub, 1) := by decide +kernel
theorem dM_argues_44 : decode mM_argues.2.1 44 = .ok (.istore 7, 2) := by decide +kernel
theorem dM_argues_46 : decode mM_argues.2.1 46 = .ok (.iload 7, 2) := by decide +kernel
theorem dM_argues_48 : decode mM_argues.2.1 48 = .ok (.ifCond .lt 32, 3) := by decide +kernel
theorem dM_argues_51 : decode mM_argues.2.1 51 = .ok (.aload_n 0, 1) := by decide +kernel
theorem dM_argues_52 : decode mM_argues.2.1 52 = .ok (.getfield 43, 3) := by decide +kernel
theorem dM_argues_55 : decode mM_argues.2.1 55 = .ok (.iload 7, 2) := by decide +kernel
theorem dM_argues_57 : decode mM_argues.2.1 57 = .ok (.iload 6, 2) := by decide +kernel
theorem dM_argues_59 : decode mM_argues.2.1 59 = .ok (.aload_n 0, 1) := by decide +kernel
theorem dM_argues_60 : decode mM_argues.2.1 60 = .ok (.invokevirtual 412, 3) := by decide +kernel
theorem dM_argues_63 : decode mM_argues.2.1 63 = .ok (.irem, 1) := by decide +kernel
theorem dM_argues_64 : decode mM_argues.2.1 64 = .ok (.iastore, 1) := by decide +kernel
theorem dM_argues_65 : decode mM_argues.2.1 65 = .ok (.iload 6, 2) := by decide +kernel
theorem dM_argues_67 : decode mM_argues.2.1 67 = .ok (.aload_n 0, 1) := by decide +kernel
theorem dM_argues_68 : decode mM_argues.2.1 68 = .ok (.invokevirtual 412, 3) := by decide +kernel
theorem dM_argues_71 : decode mM_argues.2.1 71 = .ok (.idiv, 1) := by decide +kernel
theorem dM_argues_72 : decode mM_argues.2.1 72 = .ok (.istore 6, 2) := by decide +kernel
theorem dM_argues_74 : decode mM_argues.2.1 74 = .ok (.iinc 7 (-1), 3) := by decide +kernel
theorem dM_argues_77 : decode mM_argues.2.1 77 = .ok (.goto (-31), 3) := by decide +kernel
theorem dM_argues_80 : decode mM_argues.2.1 80 = .ok (.aload_n 0, 1) := by decide +kernel
theorem dM_argues_81 : decode mM_argues.2.1 81 = .ok (.getfield 40, 3) := by decide +kernel
theorem dM_argues_84 : decode mM_argues.2.1 84 = .ok (.iload 5, 2) := by decide +kernel
theorem dM_argues_86 : decode mM_argues.2.1 86 = .ok (.aload_n 0, 1) := by decide +kernel
theorem dM_argues_87 : decode mM_argues.2.1 87 = .ok (.iload_n 1, 1) := by decide +kernel
theorem dM_argues_88 : decode mM_argues.2.1 88 = .ok (.iload_n 2, 1) := by decide +kernel
theorem dM_argues_89 : decode mM_argues.2.1 89 = .ok (.iload_n 3, 1) := by decide +kernel
theorem dM_argues_90 : decode mM_argues.2.1 90 = .ok (.invokevirtual 415, 3) := by decide +kernel
theorem dM_argues_93 : decode mM_argues.2.1 93 = .ok (.iastore, 1) := by decide +kernel
theorem dM_argues_94 : decode mM_argues.2.1 94 = .ok (.iinc 5 1, 3) := by decide +kernel
theorem dM_argues_97 : decode mM_argues.2.1 97 = .ok (.goto (-67), 3) := by decide +kernel
theorem dM_argues_100 : decode mM_argues.2.1 100 = .ok (.iload_n 3, 1) := by decide +kernel
theorem dM_argues_101 : decode mM_argues.2.1 101 = .ok (.iconst 1, 1) := by decide +kernel
theorem dM_argues_102 : decode mM_argues.2.1 102 = .ok (.isub, 1) := by decide +kernel
theorem dM_argues_103 : decode mM_argues.2.1 103 = .ok (.istore 5, 2) := by decide +kernel
theorem dM_argues_105 : decode mM_argues.2.1 105 = .ok (.iload 5, 2) := by decide +kernel
theorem dM_argues_107 : decode mM_argues.2.1 107 = .ok (.ifCond .le 64, 3) := by decide +kernel
theorem dM_argues_110 : decode mM_argues.2.1 110 = .ok (.iload 4, 2) := by decide +kernel
theorem dM_argues_112 : decode mM_argues.2.1 112 = .ok (.aload_n 0, 1) := by decide +kernel
theorem dM_argues_113 : decode mM_argues.2.1 113 = .ok (.invokevirtual 412, 3) := by decide +kernel
theorem dM_argues_116 : decode mM_argues.2.1 116 = .ok (.idiv, 1) := by decide +kernel
theorem dM_argues_117 : decode mM_argues.2.1 117 = .ok (.istore 4, 2) := by decide +kernel
theorem dM_argues_119 : decode mM_argues.2.1 119 = .ok (.iconst 0, 1) := by decide +kernel
theorem dM_argues_120 : decode mM_argues.2.1 120 = .ok (.istore 6, 2) := by decide +kernel
theorem dM_argues_122 : decode mM_argues.2.1 122 = .ok (.iload 6, 2) := by decide +kernel
theorem dM_argues_124 : decode mM_argues.2.1 124 = .ok (.iload 4, 2) := by decide +kernel
theorem dM_argues_126 : decode mM_argues.2.1 126 = .ok (.if_icmp .ge 39, 3) := by decide +kernel
theorem dM_argues_129 : decode mM_argues.2.1 129 = .ok (.aload_n 0, 1) := by decide +kernel
theorem dM_argues_130 : decode mM_argues.2.1 130 = .ok (.getfield 40, 3) := by decide +kernel
theorem dM_argues_133 : decode mM_argues.2.1 133 = .ok (.iload 6, 2) := by decide +kernel
theorem dM_argues_135 : decode mM_argues.2.1 135 = .ok (.aload_n 0, 1) := by decide +kernel
theorem dM_argues_136 : decode mM_argues.2.1 136 = .ok (.iload 6, 2) := by decide +kernel
theorem dM_argues_138 : decode mM_argues.2.1 138 = .ok (.aload_n 0, 1) := by decide +kernel
theorem dM_argues_139 : decode mM_argues.2.1 139 = .ok (.invokevirtual 412, 3) := by decide +kernel
theorem dM_argues_142 : decode mM_argues.2.1 142 = .ok (.imul, 1) := by decide +kernel
theorem dM_argues_143 : decode mM_argues.2.1 143 = .ok (.iload 5, 2) := by decide +kernel
theorem dM_argues_145 : decode mM_argues.2.1 145 = .ok (.iconst 2, 1) := by decide +kernel
theorem dM_argues_146 : decode mM_argues.2.1 146 = .ok (.irem, 1) := by decide +kernel
theorem dM_argues_147 : decode mM_argues.2.1 147 = .ok (.ifCond .ne 7, 3) := by decide +kernel
theorem dM_argues_150 : decode mM_argues.2.1 150 = .ok (.iconst 1, 1) := by decide +kernel
theorem dM_argues_151 : decode mM_argues.2.1 151 = .ok (.goto 4, 3) := by decide +kernel
theorem dM_argues_154 : decode mM_argues.2.1 154 = .ok (.iconst 0, 1) := by decide +kernel
theorem dM_argues_155 : decode mM_argues.2.1 155 = .ok (.invokevirtual 419, 3) := by decide +kernel
theorem dM_argues_158 : decode mM_argues.2.1 158 = .ok (.iastore, 1) := by decide +kernel
theorem dM_argues_159 : decode mM_argues.2.1 159 = .ok (.iinc 6 1, 3) := by decide +kernel
theorem dM_argues_162 : decode mM_argues.2.1 162 = .ok (.goto (-40), 3) := by decide +kernel
theorem dM_argues_165 : decode mM_argues.2.1 165 = .ok (.iinc 5 (-1), 3) := by decide +kernel
theorem dM_argues_168 : decode mM_argues.2.1 168 = .ok (.goto (-63), 3) := by decide +kernel
theorem dM_argues_171 : decode mM_argues.2.1 171 = .ok (.return_, 1) := by decide +kernel
theorem dM_bestFrom_0 : decode mM_bestFrom.2.1 0 = .ok (.iconst (-1), 1) := by decide +kernel
theorem dM_bestFrom_1 : decode mM_bestFrom.2.1 1 = .ok (.istore_n 3, 1) := by decide +kernel
theorem dM_bestFrom_2 : decode mM_bestFrom.2.1 2 = .ok (.iload_n 1, 1) := by decide +kernel
theorem dM_bestFrom_3 : decode mM_bestFrom.2.1 3 = .ok (.istore 4, 2) := by decide +kernel
theorem dM_bestFrom_5 : decode mM_bestFrom.2.1 5 = .ok (.iload 4, 2) := by decide +kernel
theorem dM_bestFrom_7 : decode mM_bestFrom.2.1 7 = .ok (.iload_n 1, 1) := by decide +kernel
theorem dM_bestFrom_8 : decode mM_bestFrom.2.1 8 = .ok (.aload_n 0, 1) := by decide +kernel
theorem dM_bestFrom_9 : decode mM_bestFrom.2.1 9 = .ok (.invokevirtual 412, 3) := by decide +kernel
theorem dM_bestFrom_12 : decode mM_bestFrom.2.1 12 = .ok (.iadd, 1) := by decide +kernel
theorem dM_bestFrom_13 : decode mM_bestFrom.2.1 13 = .ok (.if_icmp .ge 65, 3) := by decide +kernel
theorem dM_bestFrom_16 : decode mM_bestFrom.2.1 16 = .ok (.aload_n 0, 1) := by decide +kernel
theorem dM_bestFrom_17 : decode mM_bestFrom.2.1 17 = .ok (.getfield 40, 3) := by decide +kernel
theorem dM_bestFrom_20 : decode mM_bestFrom.2.1 20 = .ok (.iload 4, 2) := by decide +kernel
theorem dM_bestFrom_22 : decode mM_bestFrom.2.1 22 = .ok (.iaload, 1) := by decide +kernel
theorem dM_bestFrom_23 : decode mM_bestFrom.2.1 23 = .ok (.iconst (-1), 1) := by decide +kernel
theorem dM_bestFrom_24 : decode mM_bestFrom.2.1 24 = .ok (.if_icmp .ne 6, 3) := by decide +kernel
theorem dM_bestFrom_27 : decode mM_bestFrom.2.1 27 = .ok (.goto 45, 3) := by decide +kernel
theorem dM_bestFrom_30 : decode mM_bestFrom.2.1 30 = .ok (.iload_n 3, 1) := by decide +kernel
theorem dM_bestFrom_31 : decode mM_bestFrom.2.1 31 = .ok (.iconst (-1), 1) := by decide +kernel
theorem dM_bestFrom_32 : decode mM_bestFrom.2.1 32 = .ok (.if_icmp .eq 32, 3) := by decide +kernel
theorem dM_bestFrom_35 : decode mM_bestFrom.2.1 35 = .ok (.iload_n 2, 1) := by decide +kernel
theorem dM_bestFrom_36 : decode mM_bestFrom.2.1 36 = .ok (.ifCond .eq 17, 3) := by decide +kernel
theorem dM_bestFrom_39 : decode mM_bestFrom.2.1 39 = .ok (.aload_n 0, 1) := by decide +kernel
theorem dM_bestFrom_40 : decode mM_bestFrom.2.1 40 = .ok (.getfield 40, 3) := by decide +kernel
theorem dM_bestFrom_43 : decode mM_bestFrom.2.1 43 = .ok (.iload 4, 2) := by decide +kernel
theorem dM_bestFrom_45 : decode mM_bestFrom.2.1 45 = .ok (.iaload, 1) := by decide +kernel
theorem dM_bestFrom_46 : decode mM_bestFrom.2.1 46 = .ok (.iload_n 3, 1) := by decide +kernel
theorem dM_bestFrom_47 : decode mM_bestFrom.2.1 47 = .ok (.if_icmp .le 25, 3) := by decide +kernel
theorem dM_bestFrom_50 : decode mM_bestFrom.2.1 50 = .ok (.goto 14, 3) := by decide +kernel
theorem dM_bestFrom_53 : decode mM_bestFrom.2.1 53 = .ok (.aload_n 0, 1) := by decide +kernel
theorem dM_bestFrom_54 : decode mM_bestFrom.2.1 54 = .ok (.getfield 40, 3) := by decide +kernel
theorem dM_bestFrom_57 : decode mM_bestFrom.2.1 57 = .ok (.iload 4, 2) := by decide +kernel
theorem dM_bestFrom_59 : decode mM_bestFrom.2.1 59 = .ok (.iaload, 1) := by decide +kernel
theorem dM_bestFrom_60 : decode mM_bestFrom.2.1 60 = .ok (.iload_n 3, 1) := by decide +kernel
theorem dM_bestFrom_61 : decode mM_bestFrom.2.1 61 = .ok (.if_icmp .ge 11, 3) := by decide +kernel
theorem dM_bestFrom_64 : decode mM_bestFrom.2.1 64 = .ok (.aload_n 0, 1) := by decide +kernel
theorem dM_bestFrom_65 : decode mM_bestFrom.2.1 65 = .ok (.getfield 40, 3) := by decide +kernel
theorem dM_bestFrom_68 : decode mM_bestFrom.2.1 68 = .ok (.iload 4, 2) := by decide +kernel
theorem dM_bestFrom_70 : decode mM_bestFrom.2.1 70 = .ok (.iaload, 1) := by decide +kernel
theorem dM_bestFrom_71 : decode mM_bestFrom.2.1 71 = .ok (.istore_n 3, 1) := by decide +kernel
theorem dM_bestFrom_72 : decode mM_bestFrom.2.1 72 = .ok (.iinc 4 1, 3) := by decide +kernel
theorem dM_bestFrom_75 : decode mM_bestFrom.2.1 75 = .ok (.goto (-70), 3) := by decide +kernel
theorem dM_bestFrom_78 : decode mM_bestFrom.2.1 78 = .ok (.iload_n 3, 1) := by decide +kernel
theorem dM_bestFrom_79 : decode mM_bestFrom.2.1 79 = .ok (.ireturn, 1) := by decide +kernel
theorem dM_refusesGame_0 : decode mM_refusesGame.2.1 0 = .ok (.aload_n 0, 1) := by decide +kernel
theorem dM_refusesGame_1 : decode mM_refusesGame.2.1 1 = .ok (.iload_n 1, 1) := by decide +kernel
theorem dM_refusesGame_2 : decode mM_refusesGame.2.1 2 = .ok (.invokevirtual 361, 3) := by decide +kernel
theorem dM_refusesGame_5 : decode mM_refusesGame.2.1 5 = .ok (.ifCond .eq 22, 3) := by decide +kernel
theorem dM_refusesGame_8 : decode mM_refusesGame.2.1 8 = .ok (.aload_n 0, 1) := by decide +kernel
theorem dM_refusesGame_9 : decode mM_refusesGame.2.1 9 = .ok (.iload_n 2, 1) := by decide +kernel
theorem dM_refusesGame_10 : decode mM_refusesGame.2.1 10 = .ok (.invokevirtual 354, 3) := by decide +kernel
theorem dM_refusesGame_13 : decode mM_refusesGame.2.1 13 = .ok (.ifCond .eq 14, 3) := by decide +kernel
theorem dM_refusesGame_16 : decode mM_refusesGame.2.1 16 = .ok (.aload_n 0, 1) := by decide +kernel
theorem dM_refusesGame_17 : decode mM_refusesGame.2.1 17 = .ok (.getfield 281, 3) := by decide +kernel
theorem dM_refusesGame_20 : decode mM_refusesGame.2.1 20 = .ok (.getfield 253, 3) := by decide +kernel
theorem dM_refusesGame_23 : decode mM_refusesGame.2.1 23 = .ok (.iconst 2, 1) := by decide +kernel
theorem dM_refusesGame_24 : decode mM_refusesGame.2.1 24 = .ok (.if_icmp .ge 7, 3) := by decide +kernel
theorem dM_refusesGame_27 : decode mM_refusesGame.2.1 27 = .ok (.iconst 1, 1) := by decide +kernel
theorem dM_refusesGame_28 : decode mM_refusesGame.2.1 28 = .ok (.goto 18, 3) := by decide +kernel
theorem dM_refusesGame_31 : decode mM_refusesGame.2.1 31 = .ok (.iload_n 3, 1) := by decide +kernel
theorem dM_refusesGame_32 : decode mM_refusesGame.2.1 32 = .ok (.iload 4, 2) := by decide +kernel
theorem dM_refusesGame_34 : decode mM_refusesGame.2.1 34 = .ok (.iconst 4, 1) := by decide +kernel
theorem dM_refusesGame_35 : decode mM_refusesGame.2.1 35 = .ok (.invokestatic 357, 3) := by decide +kernel
theorem dM_refusesGame_38 : decode mM_refusesGame.2.1 38 = .ok (.ifCond .eq 7, 3) := by decide +kernel
theorem dM_refusesGame_41 : decode mM_refusesGame.2.1 41 = .ok (.iconst 0, 1) := by decide +kernel
theorem dM_refusesGame_42 : decode mM_refusesGame.2.1 42 = .ok (.goto 4, 3) := by decide +kernel
theorem dM_refusesGame_45 : decode mM_refusesGame.2.1 45 = .ok (.iconst 2, 1) := by decide +kernel
theorem dM_refusesGame_46 : decode mM_refusesGame.2.1 46 = .ok (.ireturn, 1) := by decide +kernel
theorem dM_gets_0 : decode mM_gets.2.1 0 = .ok (.aload_n 0, 1) := by decide +kernel
theorem dM_gets_1 : decode mM_gets.2.1 1 = .ok (.iconst 0, 1) := by decide +kernel
theorem dM_gets_2 : decode mM_gets.2.1 2 = .ok (.putfield 46, 3) := by decide +kernel
theorem dM_gets_5 : decode mM_gets.2.1 5 = .ok (.aload_n 0, 1) := by decide +kernel
theorem dM_gets_6 : decode mM_gets.2.1 6 = .ok (.iload_n 1, 1) := by decide +kernel
theorem dM_gets_7 : decode mM_gets.2.1 7 = .ok (.iload_n 2, 1) := by decide +kernel
theorem dM_gets_8 : decode mM_gets.2.1 8 = .ok (.iload_n 3, 1) := by decide +kernel
theorem dM_gets_9 : decode mM_gets.2.1 9 = .ok (.iconst 0, 1) := by decide +kernel
theorem dM_gets_10 : decode mM_gets.2.1 10 = .ok (.invokevirtual 423, 3) := by decide +kernel
theorem dM_gets_13 : decode mM_gets.2.1 13 = .ok (.istore 4, 2) := by decide +kernel
theorem dM_gets_15 : decode mM_gets.2.1 15 = .ok (.iload 4, 2) := by decide +kernel
theorem dM_gets_17 : decode mM_gets.2.1 17 = .ok (.ifCond .le 10, 3) := by decide +kernel
theorem dM_gets_20 : decode mM_gets.2.1 20 = .ok (.aload_n 0, 1) := by decide +kernel
theorem dM_gets_21 : decode mM_gets.2.1 21 = .ok (.iload 4, 2) := by decide +kernel
theorem dM_gets_23 : decode mM_gets.2.1 23 = .ok (.invokevirtual 52, 3) := by decide +kernel
theorem dM_gets_26 : decode mM_gets.2.1 26 = .ok (.ireturn, 1) := by decide +kernel
theorem dM_gets_27 : decode mM_gets.2.1 27 = .ok (.aload_n 0, 1) := by decide +kernel
theorem dM_gets_28 : decode mM_gets.2.1 28 = .ok (.iload_n 1, 1) := by decide +kernel
theorem dM_gets_29 : decode mM_gets.2.1 29 = .ok (.iload_n 2, 1) := by decide +kernel
theorem dM_gets_30 : decode mM_gets.2.1 30 = .ok (.iload_n 3, 1) := by decide +kernel
theorem dM_gets_31 : decode mM_gets.2.1 31 = .ok (.invokevirtual 427, 3) := by decide +kernel
theorem dM_gets_34 : decode mM_gets.2.1 34 = .ok (.aload_n 0, 1) := by decide +kernel
theorem dM_gets_35 : decode mM_gets.2.1 35 = .ok (.iload_n 3, 1) := by decide +kernel
theorem dM_gets_36 : decode mM_gets.2.1 36 = .ok (.ifCond .ne 12, 3) := by decide +kernel
theorem dM_gets_39 : decode mM_gets.2.1 39 = .ok (.aload_n 0, 1) := by decide +kernel
theorem dM_gets_40 : decode mM_gets.2.1 40 = .ok (.getfield 40, 3) := by decide +kernel
theorem dM_gets_43 : decode mM_gets.2.1 43 = .ok (.iconst 0, 1) := by decide +kernel
theorem dM_gets_44 : decode mM_gets.2.1 44 = .ok (.iaload, 1) := by decide +kernel
theorem dM_gets_45 : decode mM_gets.2.1 45 = .ok (.goto 9, 3) := by decide +kernel
theorem dM_gets_48 : decode mM_gets.2.1 48 = .ok (.aload_n 0, 1) := by decide +kernel
theorem dM_gets_49 : decode mM_gets.2.1 49 = .ok (.iconst 0, 1) := by decide +kernel
theorem dM_gets_50 : decode mM_gets.2.1 50 = .ok (.iconst 1, 1) := by decide +kernel
theorem dM_gets_51 : decode mM_gets.2.1 51 = .ok (.invokevirtual 419, 3) := by decide +kernel
theorem dM_gets_54 : decode mM_gets.2.1 54 = .ok (.invokevirtual 56, 3) := by decide +kernel
theorem dM_gets_57 : decode mM_gets.2.1 57 = .ok (.ireturn, 1) := by decide +kernel
theorem dM_opensWith_0 : decode mM_opensWith.2.1 0 = .ok (.aload_n 0, 1) := by decide +kernel
theorem dM_opensWith_1 : decode mM_opensWith.2.1 1 = .ok (.iconst 0, 1) := by decide +kernel
theorem dM_opensWith_2 : decode mM_opensWith.2.1 2 = .ok (.putfield 46, 3) := by decide +kernel
theorem dM_opensWith_5 : decode mM_opensWith.2.1 5 = .ok (.aload_n 0, 1) := by decide +kernel
theorem dM_opensWith_6 : decode mM_opensWith.2.1 6 = .ok (.iload_n 1, 1) := by decide +kernel
theorem dM_opensWith_7 : decode mM_opensWith.2.1 7 = .ok (.iload_n 2, 1) := by decide +kernel
theorem dM_opensWith_8 : decode mM_opensWith.2.1 8 = .ok (.iload_n 3, 1) := by decide +kernel
theorem dM_opensWith_9 : decode mM_opensWith.2.1 9 = .ok (.iconst 1, 1) := by decide +kernel
theorem dM_opensWith_10 : decode mM_opensWith.2.1 10 = .ok (.invokevirtual 423, 3) := by decide +kernel
theorem dM_opensWith_13 : decode mM_opensWith.2.1 13 = .ok (.istore 4, 2) := by decide +kernel
theorem dM_opensWith_15 : decode mM_opensWith.2.1 15 = .ok (.iload 4, 2) := by decide +kernel
theorem dM_opensWith_17 : decode mM_opensWith.2.1 17 = .ok (.ifCond .le 10, 3) := by decide +kernel
theorem dM_opensWith_20 : decode mM_opensWith.2.1 20 = .ok (.aload_n 0, 1) := by decide +kernel
theorem dM_opensWith_21 : decode mM_opensWith.2.1 21 = .ok (.iload 4, 2) := by decide +kernel
theorem dM_opensWith_23 : decode mM_opensWith.2.1 23 = .ok (.invokevirtual 52, 3) := by decide +kernel
theorem dM_opensWith_26 : decode mM_opensWith.2.1 26 = .ok (.ireturn, 1) := by decide +kernel
theorem dM_opensWith_27 : decode mM_opensWith.2.1 27 = .ok (.aload_n 0, 1) := by decide +kernel
theorem dM_opensWith_28 : decode mM_opensWith.2.1 28 = .ok (.iload_n 1, 1) := by decide +kernel
theorem dM_opensWith_29 : decode mM_opensWith.2.1 29 = .ok (.iload_n 2, 1) := by decide +kernel
theorem dM_opensWith_30 : decode mM_opensWith.2.1 30 = .ok (.iload_n 3, 1) := by decide +kernel
theorem dM_opensWith_31 : decode mM_opensWith.2.1 31 = .ok (.invokevirtual 427, 3) := by decide +kernel
theorem dM_opensWith_34 : decode mM_opensWith.2.1 34 = .ok (.aload_n 0, 1) := by decide +kernel
theorem dM_opensWith_35 : decode mM_opensWith.2.1 35 = .ok (.iconst 0, 1) := by decide +kernel
theorem dM_opensWith_36 : decode mM_opensWith.2.1 36 = .ok (.iconst 1, 1) := by decide +kernel
theorem dM_opensWith_37 : decode mM_opensWith.2.1 37 = .ok (.invokevirtual 419, 3) := by decide +kernel
theorem dM_opensWith_40 : decode mM_opensWith.2.1 40 = .ok (.iconst 1, 1) := by decide +kernel
theorem dM_opensWith_41 : decode mM_opensWith.2.1 41 = .ok (.if_icmp .ne 13, 3) := by decide +kernel
theorem dM_opensWith_44 : decode mM_opensWith.2.1 44 = .ok (.aload_n 0, 1) := by decide +kernel
theorem dM_opensWith_45 : decode mM_opensWith.2.1 45 = .ok (.getfield 40, 3) := by decide +kernel
theorem dM_opensWith_48 : decode mM_opensWith.2.1 48 = .ok (.iconst 0, 1) := by decide +kernel
theorem dM_opensWith_49 : decode mM_opensWith.2.1 49 = .ok (.iaload, 1) := by decide +kernel
theorem dM_opensWith_50 : decode mM_opensWith.2.1 50 = .ok (.iconst 1, 1) := by decide +kernel
theorem dM_opensWith_51 : decode mM_opensWith.2.1 51 = .ok (.if_icmp .ne 10, 3) := by decide +kernel
theorem dM_opensWith_54 : decode mM_opensWith.2.1 54 = .ok (.aload_n 0, 1) := by decide +kernel
theorem dM_opensWith_55 : decode mM_opensWith.2.1 55 = .ok (.bipush (-2), 2) := by decide +kernel
theorem dM_opensWith_57 : decode mM_opensWith.2.1 57 = .ok (.invokevirtual 56, 3) := by decide +kernel
theorem dM_opensWith_60 : decode mM_opensWith.2.1 60 = .ok (.ireturn, 1) := by decide +kernel
theorem dM_opensWith_61 : decode mM_opensWith.2.1 61 = .ok (.iconst 1, 1) := by decide +kernel
theorem dM_opensWith_62 : decode mM_opensWith.2.1 62 = .ok (.istore 5, 2) := by decide +kernel
theorem dM_opensWith_64 : decode mM_opensWith.2.1 64 = .ok (.aload_n 0, 1) := by decide +kernel
theorem dM_opensWith_65 : decode mM_opensWith.2.1 65 = .ok (.getfield 40, 3) := by decide +kernel
theorem dM_opensWith_68 : decode mM_opensWith.2.1 68 = .ok (.iload 5, 2) := by decide +kernel
theorem dM_opensWith_70 : decode mM_opensWith.2.1 70 = .ok (.iaload, 1) := by decide +kernel
theorem dM_opensWith_71 : decode mM_opensWith.2.1 71 = .ok (.iconst 1, 1) := by decide +kernel
theorem dM_opensWith_72 : decode mM_opensWith.2.1 72 = .ok (.if_icmp .eq 9, 3) := by decide +kernel
theorem dM_opensWith_75 : decode mM_opensWith.2.1 75 = .ok (.iinc 5 1, 3) := by decide +kernel
theorem dM_opensWith_78 : decode mM_opensWith.2.1 78 = .ok (.goto (-14), 3) := by decide +kernel
theorem dM_opensWith_81 : decode mM_opensWith.2.1 81 = .ok (.iload 5, 2) := by decide +kernel
theorem dM_opensWith_83 : decode mM_opensWith.2.1 83 = .ok (.iconst 1, 1) := by decide +kernel
theorem dM_opensWith_84 : decode mM_opensWith.2.1 84 = .ok (.isub, 1) := by decide +kernel
theorem dM_opensWith_85 : decode mM_opensWith.2.1 85 = .ok (.istore 6, 2) := by decide +kernel
theorem dM_opensWith_87 : decode mM_opensWith.2.1 87 = .ok (.aload_n 0, 1) := by decide +kernel
theorem dM_opensWith_88 : decode mM_opensWith.2.1 88 = .ok (.iload 6, 2) := by decide +kernel
theorem dM_opensWith_90 : decode mM_opensWith.2.1 90 = .ok (.iconst 2, 1) := by decide +kernel
theorem dM_opensWith_91 : decode mM_opensWith.2.1 91 = .ok (.aload_n 0, 1) := by decide +kernel
theorem dM_opensWith_92 : decode mM_opensWith.2.1 92 = .ok (.getfield 281, 3) := by decide +kernel
theorem dM_opensWith_95 : decode mM_opensWith.2.1 95 = .ok (.getfield 183, 3) := by decide +kernel
theorem dM_opensWith_98 : decode mM_opensWith.2.1 98 = .ok (.imul, 1) := by decide +kernel
theorem dM_opensWith_99 : decode mM_opensWith.2.1 99 = .ok (.if_icmp .ge 8, 3) := by decide +kernel
theorem dM_opensWith_102 : decode mM_opensWith.2.1 102 = .ok (.iload 6, 2) := by decide +kernel
theorem dM_opensWith_104 : decode mM_opensWith.2.1 104 = .ok (.goto 15, 3) := by decide +kernel
theorem dM_opensWith_107 : decode mM_opensWith.2.1 107 = .ok (.iload 6, 2) := by decide +kernel
theorem dM_opensWith_109 : decode mM_opensWith.2.1 109 = .ok (.aload_n 0, 1) := by decide +kernel
theorem dM_opensWith_110 : decode mM_opensWith.2.1 110 = .ok (.getfield 281, 3) := by decide +kernel
theorem dM_opensWith_113 : decode mM_opensWith.2.1 113 = .ok (.getfield 183, 3) := by decide +kernel
theorem dM_opensWith_116 : decode mM_opensWith.2.1 116 = .ok (.iload_n 1, 1) := by decide +kernel
theorem dM_opensWith_117 : decode mM_opensWith.2.1 117 = .ok (.imul, 1) := by decide +kernel
theorem dM_opensWith_118 : decode mM_opensWith.2.1 118 = .ok (.iadd, 1) := by decide +kernel
theorem dM_opensWith_119 : decode mM_opensWith.2.1 119 = .ok (.invokevirtual 56, 3) := by decide +kernel
theorem dM_opensWith_122 : decode mM_opensWith.2.1 122 = .ok (.ireturn, 1) := by decide +kernel
/-- a person's choices: nothing, then opens, shuts, goes -/
def mc (c : Cfg) : Nat := 1 + 3 * dN c
def stO (c : Cfg) (p j : Nat) : Nat := if j < 2 * dN c then j else j + dN c * p
def mvN (c : Cfg) (p n j : Nat) : Option Nat := if j = 0 then some n else if mayN c n (2 ^ p) (stO c p (j - 1)) then some (aftN c n (stO c p (j - 1))) else none
theorem stO_dm {c : Cfg} {p i : Nat} (hi : i < dN c * 3) : (i / dN c = 0 → stO c p i = i % dN c) ∧ (i / dN c = 1 → stO c p i = dN c + i % dN c) ∧ (i / dN c = 2 → stO c p i = dN c * (2 + p) + i % dN c) := by
  have h := Nat.div_add_mod i (dN c)
  obtain ⟨hD, hm, hr⟩ := divmod_lt hi
  unfold stO
  generalize i / dN c = row at *
  generalize i % dN c = dd at *
  refine ⟨fun e => ?_, fun e => ?_, fun e => ?_⟩
  · subst e; rw [Nat.mul_zero] at h; rw [if_pos (by omega)]; omega
  · subst e; rw [Nat.mul_one] at h; rw [if_pos (by omega)]; omega
  · subst e; rw [if_neg (by omega), Nat.mul_add]; omega
theorem stO_lt {c : Cfg} {p i : Nat} (hp : p < pN c) (hi : i < dN c * 3) : stO c p i < stN c := by
  obtain ⟨h0, h1, h2⟩ := stO_dm (p := p) hi
  obtain ⟨hD, hm, hr⟩ := divmod_lt hi
  have hg := go_lt (c := c) (p := p) hm hp
  have h3 : dN c * (2 + p) = dN c * 2 + dN c * p := Nat.mul_add _ _ _
  rcases (show i / dN c = 0 ∨ i / dN c = 1 ∨ i / dN c = 2 by generalize i / dN c = row at hr; clear h0 h1 h2 hg h3; omega) with e | e | e
  · rw [h0 e]; omega
  · rw [h1 e]; omega
  · rw [h2 e]; exact hg
theorem stO_mono {c : Cfg} {p i j : Nat} (h : i < j) : stO c p i < stO c p j := by
  unfold stO
  by_cases a : i < 2 * dN c
  · rw [if_pos a]
    by_cases b : j < 2 * dN c
    · rw [if_pos b]; exact h
    · rw [if_neg b]; omega
  · rw [if_neg a, if_neg (by omega)]; omega
theorem stO_sur {c : Cfg} {n p k : Nat} (hk : k < stN c) (hm : mayN c n (2 ^ p) k = true) : ∃ i, i < dN c * 3 ∧ stO c p i = k := by
  have h := Nat.div_add_mod k (dN c)
  obtain ⟨hD, hm1, hm2⟩ := divmod_lt (s := k) (D := dN c) (R := 2 + pN c) (by have : stN c = dN c * (2 + pN c) := rfl; omega)
  by_cases a : k < 2 * dN c
  · exact ⟨k, by omega, by unfold stO; rw [if_pos a]⟩
  · unfold mayN at hm
    have hr : 2 ≤ k / dN c := (Nat.le_div_iff_mul_le hD).mpr (by omega)
    generalize k % dN c = dd at *
    generalize k / dN c = row at *
    rw [if_neg (by omega), if_neg (by omega), Bool.and_eq_true, Nat.testBit_two_pow, decide_eq_true_eq] at hm
    refine ⟨2 * dN c + dd, by omega, ?_⟩
    unfold stO
    have e : row = 2 + p := by omega
    subst e
    rw [if_neg (by omega), ← h, Nat.mul_add]
    omega
theorem inP_one : ∀ h : Nat, h < 4 → ∀ p : Nat, p < 2 → h &&& 2 ^ p = if h.testBit p then 2 ^ p else 0 := by decide +kernel
theorem mO_0 (c : Cfg) (n d : Nat) : mO c n 0 d = false := by
  cases h : mO c n 0 d
  · rfl
  · exact absurd rfl (mO_iff.mp h).2.2.1
theorem mO_one {c : Cfg} {n p d : Nat} (hc : okC c) (hp : p < pN c) : mO c n (inP c n 0 &&& 2 ^ p) d = (pl c n p == 0 && mO c n (2 ^ p) d) := by
  have hp2 : pN c ≤ 2 := hc.2.1
  have ht : (inP c n 0).testBit p = (pl c n p == 0) := by
    unfold inP
    rw [bsum_tb, decide_eq_true hp, Bool.true_and]
  rw [inP_one _ (inP_lt hc n 0) p (by omega), ht]
  cases pl c n p == 0
  · rw [if_neg Bool.false_ne_true, mO_0]; rfl
  · rw [if_pos rfl]; rfl
theorem mv_0 (c : Cfg) (p n : Nat) : mvN c p n 0 = some n := rfl
theorem mv_s (c : Cfg) (p n i : Nat) : mvN c p n (i + 1) = if mayN c n (2 ^ p) (stO c p i) then some (aftN c n (stO c p i)) else none := rfl
theorem mv_O {c : Cfg} {p n i : Nat} (hc : okC c) (hp : p < pN c) (hi : i < dN c * 3) (h : i / dN c = 0) : mvN c p n (i + 1) = if (pl c n p == 0 && mO c n (2 ^ p) (i % dN c)) = true then some (aO c n (i % dN c)) else none := by
  have hm := (divmod_lt hi).2.1
  rw [mv_s, (stO_dm hi).1 h, may_open hm, mO_one hc hp, aft_open hm]
theorem mv_S {c : Cfg} {p n i : Nat} (hi : i < dN c * 3) (h : i / dN c = 1) : mvN c p n (i + 1) = if mS c n (2 ^ p) (i % dN c) = true then some (aS c n (i % dN c)) else none := by
  have hm := (divmod_lt hi).2.1
  rw [mv_s, (stO_dm hi).2.1 h, may_shut hm, aft_shut hm]
theorem mv_G {c : Cfg} {p n i : Nat} (hi : i < dN c * 3) (h : i / dN c = 2) : mvN c p n (i + 1) = if mG c n p (i % dN c) = true then some (aG c n p (i % dN c)) else none := by
  have hm := (divmod_lt hi).2.1
  rw [mv_s, (stO_dm hi).2.2 h, may_go hm, aft_go hm, Nat.testBit_two_pow, decide_eq_true rfl, Bool.true_and]
theorem mv_lt {c : Cfg} {p n j m : Nat} (hp : p < pN c) (hn : n < spc c) (hj : j < mc c) (h : mvN c p n j = some m) : m < spc c := by
  unfold mc at hj
  match j, hj, h with
  | 0, _, h => cases h; exact hn
  | i + 1, hj, h =>
    rw [mv_s] at h
    cases hm : mayN c n (2 ^ p) (stO c p i) with
    | false => rw [hm, if_neg Bool.false_ne_true] at h; cases h
    | true =>
      rw [hm, if_pos rfl] at h
      cases h
      exact aft_lt hn (stO_lt hp (by omega)) hm
-- moves as a number
def pcd (c : Cfg) (sk : Nat) : Nat → Nat → Nat → Option Nat
  | 0, _, n => some n
  | k + 1, q, n => (pcd c sk k (q / mc c) n).bind (fun m => mvN c (mvr sk (k % 2 == 0)) m (q % mc c))
def vlM (F : Nat → Bool) : Option Nat → Int
  | none => -1
  | some m => bz (F m)
def vlG (c : Cfg) (p go N n k q : Nat) : Int := vlM (fun m => gI c p go (N - k) m (k % 2 == 0)) (pcd c p k q n)
theorem vlM_r (F : Nat → Bool) (o : Option Nat) : -1 ≤ vlM F o ∧ vlM F o ≤ 1 := by
  cases o with
  | none => exact ⟨by show (-1 : Int) ≤ -1; omega, by show (-1 : Int) ≤ 1; omega⟩
  | some m => show -1 ≤ bz (F m) ∧ bz (F m) ≤ 1; cases F m <;> decide
theorem mc_pos (c : Cfg) : 0 < mc c := by unfold mc; omega
theorem pcd_s {c : Cfg} {sk k q n N : Nat} (hk : k < N) : pcd c sk (k + 1) (q / mc c ^ (N - (k + 1))) n = (pcd c sk k (q / mc c ^ (N - k)) n).bind (fun m => mvN c (mvr sk (k % 2 == 0)) m (q / mc c ^ (N - 1 - k) % mc c)) := by
  rw [pcd, Nat.div_div_eq_div_mul, ← Nat.pow_succ, show (N - (k + 1)).succ = N - k by omega, show N - 1 - k = N - (k + 1) by omega]
theorem pcd_none {c : Cfg} {sk q n N : Nat} : ∀ j k, k + j = N → pcd c sk k (q / mc c ^ (N - k)) n = none → pcd c sk N q n = none
  | 0, k, hk, h => by rw [show k = N by omega, Nat.sub_self, Nat.pow_zero, Nat.div_one] at h; exact h
  | j + 1, k, hk, h => by
    refine pcd_none j (k + 1) (by omega) ?_
    rw [pcd_s (by omega), h]
    rfl
def bsF (b : Bool) (w : Nat → Int) : Nat → Int
  | 0 => -1
  | k + 1 => if w k = -1 then bsF b w k else if bsF b w k = -1 ∨ (if b then bsF b w k < w k else w k < bsF b w k) then w k else bsF b w k
def BF (b : Bool) (w : Nat → Int) (k : Nat) (r : Int) : Prop := (r = -1 ∧ ∀ j, j < k → w j = -1) ∨ (r = bz b ∧ ∃ j, j < k ∧ w j = bz b) ∨ (r = bz (!b) ∧ (∃ j, j < k ∧ w j ≠ -1) ∧ ∀ j, j < k → w j ≠ bz b)
theorem bsF_sp (b : Bool) (w : Nat → Int) : ∀ k, (∀ j, j < k → -1 ≤ w j ∧ w j ≤ 1) → BF b w k (bsF b w k)
  | 0, _ => Or.inl ⟨rfl, fun j hj => absurd hj (by omega)⟩
  | k + 1, h => by
    have hk := h k (by omega)
    have hb : bz true = 1 ∧ bz false = 0 := ⟨rfl, rfl⟩
    rw [bsF]
    rcases bsF_sp b w k (fun j hj => h j (by omega)) with ⟨e, g⟩ | ⟨e, j, g1, g2⟩ | ⟨e, ⟨j, g1, g2⟩, g3⟩
    · by_cases q : w k = -1
      · rw [if_pos q]
        refine Or.inl ⟨e, fun j hj => ?_⟩
        by_cases x : j = k
        · rw [x]; exact q
        · exact g j (by omega)
      · rw [if_neg q, if_pos (Or.inl e)]
        by_cases x : w k = bz b
        · exact Or.inr (Or.inl ⟨x, k, by omega, x⟩)
        · refine Or.inr (Or.inr ⟨?_, ⟨k, by omega, q⟩, fun j hj => ?_⟩)
          · cases b
            · show w k = 1; rw [hb.2] at x; omega
            · show w k = 0; rw [hb.1] at x; omega
          · by_cases y : j = k
            · rw [y]; exact x
            · rw [g j (by omega)]; cases b <;> decide
    · have hne : bsF b w k ≠ -1 := by rw [e]; cases b <;> decide
      by_cases q : w k = -1
      · rw [if_pos q]
        exact Or.inr (Or.inl ⟨e, j, by omega, g2⟩)
      · rw [if_neg q, if_neg]
        · exact Or.inr (Or.inl ⟨e, j, by omega, g2⟩)
        · rintro (x | x)
          · exact hne x
          · rw [e] at x
            cases b
            · rw [if_neg Bool.false_ne_true] at x; have x : w k < 0 := x; omega
            · rw [if_pos rfl] at x; have x : 1 < w k := x; omega
    · have hne : bsF b w k ≠ -1 := by rw [e]; cases b <;> decide
      by_cases q : w k = -1
      · rw [if_pos q]
        refine Or.inr (Or.inr ⟨e, ⟨j, by omega, g2⟩, fun i hi => ?_⟩)
        by_cases y : i = k
        · rw [y, q]; cases b <;> decide
        · exact g3 i (by omega)
      · rw [if_neg q]
        by_cases x : w k = bz b
        · rw [if_pos]
          · exact Or.inr (Or.inl ⟨x, k, by omega, x⟩)
          · refine Or.inr ?_
            rw [e, x]
            cases b <;> decide
        · rw [if_neg]
          · refine Or.inr (Or.inr ⟨e, ⟨j, by omega, g2⟩, fun i hi => ?_⟩)
            by_cases y : i = k
            · rw [y]; exact x
            · exact g3 i (by omega)
          · rintro (z | z)
            · exact hne z
            · rw [e] at z
              cases b
              · rw [if_neg Bool.false_ne_true] at z
                have z : w k < 1 := z
                have x : w k ≠ 0 := x
                omega
              · rw [if_pos rfl] at z
                have z : 0 < w k := z
                have x : w k ≠ 1 := x
                omega
theorem BF.one {b : Bool} {w : Nat → Int} {k : Nat} {r s : Int} (h : BF b w k r) (g : BF b w k s) : r = s := by
  have hx : bz b ≠ -1 := by cases b <;> decide
  rcases h with ⟨e, h1⟩ | ⟨e, j, h1, h2⟩ | ⟨e, ⟨j, h1, h2⟩, h3⟩ <;> rcases g with ⟨e', g1⟩ | ⟨e', i, g1, g2⟩ | ⟨e', ⟨i, g1, g2⟩, g3⟩
  · rw [e, e']
  · exact absurd ((h1 i g1).symm.trans g2) (fun q => hx q.symm)
  · exact absurd (h1 i g1) g2
  · exact absurd ((g1 j h1).symm.trans h2) (fun q => hx q.symm)
  · rw [e, e']
  · exact absurd h2 (g3 j h1)
  · exact absurd (g1 j h1) h2
  · exact absurd g2 (h3 i g1)
  · rw [e, e']
theorem vlM_eq {F : Nat → Bool} {o : Option Nat} {b : Bool} : vlM F o = bz b ↔ ∃ m, o = some m ∧ F m = b := by
  cases o with
  | none => exact ⟨fun h => absurd (show (-1 : Int) = bz b from h) (by cases b <;> decide), fun ⟨m, h, _⟩ => by cases h⟩
  | some m => exact ⟨fun h => ⟨m, rfl, bz_inj h⟩, fun ⟨k, h, g⟩ => by cases h; show bz (F m) = bz b; rw [g]⟩
theorem gI_any {c : Cfg} {p go l m : Nat} {b : Bool} (hc2 : mvr p b < pN c) : gI c p go (l + 1) m b = b ↔ ∃ j m', j < mc c ∧ mvN c (mvr p b) m j = some m' ∧ gI c p go l m' (!b) = b := by
  rw [gI]
  by_cases h : gI c p go l m (!b) = b
  · rw [if_pos (beq_iff_eq.mpr h)]
    exact ⟨fun _ => ⟨0, m, mc_pos c, rfl, h⟩, fun _ => rfl⟩
  · rw [if_neg (fun e => h (beq_iff_eq.mp e))]
    have hx : (!b) ≠ b := by cases b <;> decide
    constructor
    · intro g
      refine Classical.byContradiction fun hn => ?_
      rw [anyB_no (fun k hk => ?_), if_neg Bool.false_ne_true] at g
      · exact hx g
      · cases ht : mayN c m (2 ^ mvr p b) k
        · rfl
        · rw [Bool.true_and]
          refine beq_eq_false_iff_ne.mpr fun e => hn ?_
          obtain ⟨i, i1, i2⟩ := stO_sur hk ht
          refine ⟨i + 1, _, by unfold mc; omega, ?_, e⟩
          rw [mv_s, i2, ht, if_pos rfl]
    · rintro ⟨j, m', h1, h2, h3⟩
      unfold mc at h1
      match j, h1, h2 with
      | 0, _, h2 => cases h2; exact absurd h3 h
      | i + 1, h1, h2 =>
        rw [mv_s] at h2
        cases hm : mayN c m (2 ^ mvr p b) (stO c (mvr p b) i) with
        | false => rw [hm, if_neg Bool.false_ne_true] at h2; cases h2
        | true =>
          rw [hm, if_pos rfl] at h2
          cases h2
          rw [anyB_yes (k := stO c (mvr p b) i) (by rw [hm, h3]; simp) (stO_lt hc2 (by omega)), if_pos rfl]
theorem par_s (k : Nat) : ((k + 1) % 2 == 0) = !(k % 2 == 0) := by
  rcases (show k % 2 = 0 ∨ k % 2 = 1 by omega) with e | e
  · rw [e, show (k + 1) % 2 = 1 by omega]; rfl
  · rw [e, show (k + 1) % 2 = 0 by omega]; rfl
theorem mvr_lt {p : Nat} (hp : p < 2) (b : Bool) : mvr p b < 2 := by
  unfold mvr; split <;> omega
theorem vlG_s {c : Cfg} {p go N n k q : Nat} (hp : p < 2) (hc2 : pN c = 2) (hk : k < N) : bsF (k % 2 == 0) (fun j => vlG c p go N n (k + 1) (q * mc c + j)) (mc c) = vlG c p go N n k q := by
  have hM := mc_pos c
  have hb := mvr_lt hp (k % 2 == 0)
  refine BF.one (bsF_sp _ _ _ (fun j _ => vlM_r _ _)) ?_
  have e : ∀ j, j < mc c → pcd c p (k + 1) (q * mc c + j) n = (pcd c p k q n).bind (fun m => mvN c (mvr p (k % 2 == 0)) m j) := fun j hj => by
    rw [pcd, show (q * mc c + j) / mc c = q by rw [Nat.mul_comm, Nat.mul_add_div hM, Nat.div_eq_of_lt hj, Nat.add_zero], show (q * mc c + j) % mc c = j by rw [Nat.mul_comm, Nat.mul_add_mod, Nat.mod_eq_of_lt hj]]
  unfold vlG
  cases hs : pcd c p k q n with
  | none => exact Or.inl ⟨rfl, fun j hj => by show vlM _ (pcd c p (k + 1) (q * mc c + j) n) = -1; rw [e j hj, hs]; rfl⟩
  | some m =>
    have g := gI_any (c := c) (p := p) (go := go) (l := N - (k + 1)) (m := m) (b := k % 2 == 0) (by omega)
    rw [show N - (k + 1) + 1 = N - k by omega] at g
    have w0 : ∀ j, j < mc c → vlM (fun m => gI c p go (N - (k + 1)) m ((k + 1) % 2 == 0)) (pcd c p (k + 1) (q * mc c + j) n) = vlM (fun m => gI c p go (N - (k + 1)) m (!(k % 2 == 0))) (mvN c (mvr p (k % 2 == 0)) m j) := fun j hj => by
      rw [e j hj, hs, par_s]; rfl
    by_cases h : gI c p go (N - k) m (k % 2 == 0) = (k % 2 == 0)
    · refine Or.inr (Or.inl ⟨by show bz (gI c p go (N - k) m (k % 2 == 0)) = _; rw [h], ?_⟩)
      obtain ⟨j, m', h1, h2, h3⟩ := g.mp h
      exact ⟨j, h1, by show vlM _ _ = _; rw [w0 j h1]; exact vlM_eq.mpr ⟨m', h2, h3⟩⟩
    · refine Or.inr (Or.inr ⟨?_, ⟨0, hM, ?_⟩, fun j hj hh => ?_⟩)
      · show bz (gI c p go (N - k) m (k % 2 == 0)) = bz (!(k % 2 == 0))
        clear g w0 e hb
        generalize gI c p go (N - k) m (k % 2 == 0) = a at h
        generalize (k % 2 == 0) = b at h
        cases a <;> cases b <;> first | rfl | exact absurd rfl h
      · show vlM _ _ ≠ -1
        rw [w0 0 hM, mv_0]
        show bz (gI c p go (N - (k + 1)) m (!(k % 2 == 0))) ≠ -1
        cases gI c p go (N - (k + 1)) m (!(k % 2 == 0)) <;> decide
      · have hh : vlM _ _ = bz _ := hh
        rw [w0 j hj] at hh
        obtain ⟨m', h2, h3⟩ := vlM_eq.mp hh
        exact h (g.mpr ⟨j, m', hj, h2, h3⟩)
/-- the first move of an opening, as the reference finds it -/
theorem op_fm {c : Cfg} {p go N n i : Nat} (hp : p < 2) (hc2 : pN c = 2) (hi : i < dN c * 3) (h1 : vlG c p go (N + 1) n 1 (i + 1) = 1) (h2 : ∀ i', i' < i → vlG c p go (N + 1) n 1 (i' + 1) ≠ 1) : fbF (fmK c p go N n true) (stN c) = (stO c p i : Nat) := by
  have e : ∀ i, i < dN c * 3 → vlG c p go (N + 1) n 1 (i + 1) = vlM (fun m => gI c p go N m false) (mvN c p n (i + 1)) := fun i hi => by
    unfold vlG
    rw [pcd, pcd, Nat.mod_eq_of_lt (show i + 1 < mc c by unfold mc; omega)]
    rfl
  have f : ∀ i, i < dN c * 3 → (vlG c p go (N + 1) n 1 (i + 1) = 1 ↔ fmK c p go N n true (stO c p i) = true) := fun i hi => by
    rw [e i hi, mv_s]
    unfold fmK
    show vlM _ _ = bz true ↔ (mayN c n (2 ^ p) (stO c p i) && (gI c p go N (aftN c n (stO c p i)) false == true)) = true
    cases mayN c n (2 ^ p) (stO c p i)
    · exact ⟨fun h => absurd (show (-1 : Int) = 1 from h) (by decide), fun h => by cases h⟩
    · rw [if_pos rfl, Bool.true_and, beq_iff_eq]
      exact ⟨fun h => bz_inj h, fun h => by show bz (gI c p go N (aftN c n (stO c p i)) false) = bz true; rw [h]⟩
  refine fbF_some ((f i hi).mp h1) (fun k hk => ?_) (stO_lt (by omega) hi)
  cases hf : fmK c p go N n true k
  · rfl
  · have hm : mayN c n (2 ^ p) k = true := by
      unfold fmK at hf
      rw [Bool.and_eq_true] at hf
      exact hf.1
    obtain ⟨i', a1, a2⟩ := stO_sur (Nat.lt_trans hk (stO_lt (by omega) hi)) hm
    rw [← a2] at hf
    have h3 : i' < i := Classical.byContradiction fun q => by
      rcases Nat.lt_or_eq_of_le (Nat.le_of_not_lt q) with q | q
      · have := stO_mono (c := c) (p := p) q; omega
      · rw [← q] at a2; omega
    exact absurd ((f i' a1).mpr hf) (h2 i' h3)
theorem op_no {c : Cfg} {p go N n : Nat} (hp : p < 2) (hc2 : pN c = 2) (h : gI c p go (N + 1) n true = false) : fbF (fmK c p go N n true) (stN c) = -1 := by
  refine fbF_none fun k hk => ?_
  cases hf : fmK c p go N n true k
  · rfl
  · unfold fmK at hf
    rw [Bool.and_eq_true, beq_iff_eq] at hf
    obtain ⟨i', a1, a2⟩ := stO_sur hk hf.1
    have := (gI_any (c := c) (p := p) (go := go) (l := N) (m := n) (b := true) (show p < pN c by omega)).mpr ⟨i' + 1, aftN c n k, by unfold mc; omega, by
      rw [mv_s]
      show (if mayN c n (2 ^ p) (stO c p i') = true then some (aftN c n (stO c p i')) else none) = _
      rw [show stO c p i' = k from a2]
      exact if_pos hf.1, hf.2⟩
    rw [h] at this
    cases this
theorem pwM {c : Cfg} (hc : okC c) {k : Nat} (hk : k ≤ 4) : mc c ^ k ≤ 28561 := by
  have h : mc c ≤ 13 := by unfold mc; have := hc.1; omega
  exact Nat.le_trans (Nat.pow_le_pow_left h k) (show 13 ^ k ≤ 13 ^ 4 from Nat.pow_le_pow_right (by decide) hk)
