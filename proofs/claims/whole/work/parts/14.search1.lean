theorem dS_add_0 : decode mS_add.2.1 0 = .ok (.iload_n 1, 1) := by decide +kernel
theorem dS_add_1 : decode mS_add.2.1 1 = .ok (.bipush 6, 2) := by decide +kernel
theorem dS_add_3 : decode mS_add.2.1 3 = .ok (.ishr, 1) := by decide +kernel
theorem dS_add_4 : decode mS_add.2.1 4 = .ok (.istore_n 3, 1) := by decide +kernel
theorem dS_add_5 : decode mS_add.2.1 5 = .ok (.iload_n 3, 1) := by decide +kernel
theorem dS_add_6 : decode mS_add.2.1 6 = .ok (.ifCond .lt 24, 3) := by decide +kernel
theorem dS_add_9 : decode mS_add.2.1 9 = .ok (.iload_n 3, 1) := by decide +kernel
theorem dS_add_10 : decode mS_add.2.1 10 = .ok (.aload_n 0, 1) := by decide +kernel
theorem dS_add_11 : decode mS_add.2.1 11 = .ok (.getfield 22, 3) := by decide +kernel
theorem dS_add_14 : decode mS_add.2.1 14 = .ok (.arraylength, 1) := by decide +kernel
theorem dS_add_15 : decode mS_add.2.1 15 = .ok (.if_icmp .ge 15, 3) := by decide +kernel
theorem dS_add_18 : decode mS_add.2.1 18 = .ok (.aload_n 0, 1) := by decide +kernel
theorem dS_add_19 : decode mS_add.2.1 19 = .ok (.getfield 44, 3) := by decide +kernel
theorem dS_add_22 : decode mS_add.2.1 22 = .ok (.aload_n 0, 1) := by decide +kernel
theorem dS_add_23 : decode mS_add.2.1 23 = .ok (.getfield 18, 3) := by decide +kernel
theorem dS_add_26 : decode mS_add.2.1 26 = .ok (.arraylength, 1) := by decide +kernel
theorem dS_add_27 : decode mS_add.2.1 27 = .ok (.if_icmp .lt 4, 3) := by decide +kernel
theorem dS_add_30 : decode mS_add.2.1 30 = .ok (.return_, 1) := by decide +kernel
theorem dS_add_31 : decode mS_add.2.1 31 = .ok (.lconst 1, 1) := by decide +kernel
theorem dS_add_32 : decode mS_add.2.1 32 = .ok (.iload_n 1, 1) := by decide +kernel
theorem dS_add_33 : decode mS_add.2.1 33 = .ok (.bipush 63, 2) := by decide +kernel
theorem dS_add_35 : decode mS_add.2.1 35 = .ok (.iand, 1) := by decide +kernel
theorem dS_add_36 : decode mS_add.2.1 36 = .ok (.lshl, 1) := by decide +kernel
theorem dS_add_37 : decode mS_add.2.1 37 = .ok (.lstore 4, 2) := by decide +kernel
theorem dS_add_39 : decode mS_add.2.1 39 = .ok (.aload_n 0, 1) := by decide +kernel
theorem dS_add_40 : decode mS_add.2.1 40 = .ok (.getfield 22, 3) := by decide +kernel
theorem dS_add_43 : decode mS_add.2.1 43 = .ok (.iload_n 3, 1) := by decide +kernel
theorem dS_add_44 : decode mS_add.2.1 44 = .ok (.laload, 1) := by decide +kernel
theorem dS_add_45 : decode mS_add.2.1 45 = .ok (.lload 4, 2) := by decide +kernel
theorem dS_add_47 : decode mS_add.2.1 47 = .ok (.land, 1) := by decide +kernel
theorem dS_add_48 : decode mS_add.2.1 48 = .ok (.lconst 0, 1) := by decide +kernel
theorem dS_add_49 : decode mS_add.2.1 49 = .ok (.lcmp, 1) := by decide +kernel
theorem dS_add_50 : decode mS_add.2.1 50 = .ok (.ifCond .eq 4, 3) := by decide +kernel
theorem dS_add_53 : decode mS_add.2.1 53 = .ok (.return_, 1) := by decide +kernel
theorem dS_add_54 : decode mS_add.2.1 54 = .ok (.aload_n 0, 1) := by decide +kernel
theorem dS_add_55 : decode mS_add.2.1 55 = .ok (.getfield 22, 3) := by decide +kernel
theorem dS_add_58 : decode mS_add.2.1 58 = .ok (.iload_n 3, 1) := by decide +kernel
theorem dS_add_59 : decode mS_add.2.1 59 = .ok (.dup2, 1) := by decide +kernel
theorem dS_add_60 : decode mS_add.2.1 60 = .ok (.laload, 1) := by decide +kernel
theorem dS_add_61 : decode mS_add.2.1 61 = .ok (.lload 4, 2) := by decide +kernel
theorem dS_add_63 : decode mS_add.2.1 63 = .ok (.lor, 1) := by decide +kernel
theorem dS_add_64 : decode mS_add.2.1 64 = .ok (.lastore, 1) := by decide +kernel
theorem dS_add_65 : decode mS_add.2.1 65 = .ok (.aload_n 0, 1) := by decide +kernel
theorem dS_add_66 : decode mS_add.2.1 66 = .ok (.getfield 18, 3) := by decide +kernel
theorem dS_add_69 : decode mS_add.2.1 69 = .ok (.aload_n 0, 1) := by decide +kernel
theorem dS_add_70 : decode mS_add.2.1 70 = .ok (.getfield 44, 3) := by decide +kernel
theorem dS_add_73 : decode mS_add.2.1 73 = .ok (.iload_n 2, 1) := by decide +kernel
theorem dS_add_74 : decode mS_add.2.1 74 = .ok (.bipush 16, 2) := by decide +kernel
theorem dS_add_76 : decode mS_add.2.1 76 = .ok (.ishl, 1) := by decide +kernel
theorem dS_add_77 : decode mS_add.2.1 77 = .ok (.iload_n 1, 1) := by decide +kernel
theorem dS_add_78 : decode mS_add.2.1 78 = .ok (.ior, 1) := by decide +kernel
theorem dS_add_79 : decode mS_add.2.1 79 = .ok (.iastore, 1) := by decide +kernel
theorem dS_add_80 : decode mS_add.2.1 80 = .ok (.aload_n 0, 1) := by decide +kernel
theorem dS_add_81 : decode mS_add.2.1 81 = .ok (.dup, 1) := by decide +kernel
theorem dS_add_82 : decode mS_add.2.1 82 = .ok (.getfield 44, 3) := by decide +kernel
theorem dS_add_85 : decode mS_add.2.1 85 = .ok (.iconst 1, 1) := by decide +kernel
theorem dS_add_86 : decode mS_add.2.1 86 = .ok (.iadd, 1) := by decide +kernel
theorem dS_add_87 : decode mS_add.2.1 87 = .ok (.putfield 44, 3) := by decide +kernel
theorem dS_add_90 : decode mS_add.2.1 90 = .ok (.aload_n 0, 1) := by decide +kernel
theorem dS_add_91 : decode mS_add.2.1 91 = .ok (.dup, 1) := by decide +kernel
theorem dS_add_92 : decode mS_add.2.1 92 = .ok (.getfield 47, 3) := by decide +kernel
theorem dS_add_95 : decode mS_add.2.1 95 = .ok (.iconst 1, 1) := by decide +kernel
theorem dS_add_96 : decode mS_add.2.1 96 = .ok (.aload_n 0, 1) := by decide +kernel
theorem dS_add_97 : decode mS_add.2.1 97 = .ok (.getfield 12, 3) := by decide +kernel
theorem dS_add_100 : decode mS_add.2.1 100 = .ok (.iload_n 1, 1) := by decide +kernel
theorem dS_add_101 : decode mS_add.2.1 101 = .ok (.invokevirtual 67, 3) := by decide +kernel
theorem dS_add_104 : decode mS_add.2.1 104 = .ok (.ishl, 1) := by decide +kernel
theorem dS_add_105 : decode mS_add.2.1 105 = .ok (.ior, 1) := by decide +kernel
theorem dS_add_106 : decode mS_add.2.1 106 = .ok (.putfield 47, 3) := by decide +kernel
theorem dS_add_109 : decode mS_add.2.1 109 = .ok (.return_, 1) := by decide +kernel
theorem dS_arrangementAt_0 : decode mS_arrangementAt.2.1 0 = .ok (.iload_n 1, 1) := by decide +kernel
theorem dS_arrangementAt_1 : decode mS_arrangementAt.2.1 1 = .ok (.ifCond .lt 23, 3) := by decide +kernel
theorem dS_arrangementAt_4 : decode mS_arrangementAt.2.1 4 = .ok (.iload_n 1, 1) := by decide +kernel
theorem dS_arrangementAt_5 : decode mS_arrangementAt.2.1 5 = .ok (.aload_n 0, 1) := by decide +kernel
theorem dS_arrangementAt_6 : decode mS_arrangementAt.2.1 6 = .ok (.getfield 44, 3) := by decide +kernel
theorem dS_arrangementAt_9 : decode mS_arrangementAt.2.1 9 = .ok (.if_icmp .ge 15, 3) := by decide +kernel
theorem dS_arrangementAt_12 : decode mS_arrangementAt.2.1 12 = .ok (.aload_n 0, 1) := by decide +kernel
theorem dS_arrangementAt_13 : decode mS_arrangementAt.2.1 13 = .ok (.getfield 18, 3) := by decide +kernel
theorem dS_arrangementAt_16 : decode mS_arrangementAt.2.1 16 = .ok (.iload_n 1, 1) := by decide +kernel
theorem dS_arrangementAt_17 : decode mS_arrangementAt.2.1 17 = .ok (.iaload, 1) := by decide +kernel
theorem dS_arrangementAt_18 : decode mS_arrangementAt.2.1 18 = .ok (.ldc 71, 2) := by decide +kernel
theorem dS_arrangementAt_20 : decode mS_arrangementAt.2.1 20 = .ok (.iand, 1) := by decide +kernel
theorem dS_arrangementAt_21 : decode mS_arrangementAt.2.1 21 = .ok (.goto 4, 3) := by decide +kernel
theorem dS_arrangementAt_24 : decode mS_arrangementAt.2.1 24 = .ok (.iconst 0, 1) := by decide +kernel
theorem dS_arrangementAt_25 : decode mS_arrangementAt.2.1 25 = .ok (.ireturn, 1) := by decide +kernel
theorem dS_cameFrom_0 : decode mS_cameFrom.2.1 0 = .ok (.iload_n 1, 1) := by decide +kernel
theorem dS_cameFrom_1 : decode mS_cameFrom.2.1 1 = .ok (.ifCond .lt 23, 3) := by decide +kernel
theorem dS_cameFrom_4 : decode mS_cameFrom.2.1 4 = .ok (.iload_n 1, 1) := by decide +kernel
theorem dS_cameFrom_5 : decode mS_cameFrom.2.1 5 = .ok (.aload_n 0, 1) := by decide +kernel
theorem dS_cameFrom_6 : decode mS_cameFrom.2.1 6 = .ok (.getfield 44, 3) := by decide +kernel
theorem dS_cameFrom_9 : decode mS_cameFrom.2.1 9 = .ok (.if_icmp .ge 15, 3) := by decide +kernel
theorem dS_cameFrom_12 : decode mS_cameFrom.2.1 12 = .ok (.aload_n 0, 1) := by decide +kernel
theorem dS_cameFrom_13 : decode mS_cameFrom.2.1 13 = .ok (.getfield 18, 3) := by decide +kernel
theorem dS_cameFrom_16 : decode mS_cameFrom.2.1 16 = .ok (.iload_n 1, 1) := by decide +kernel
theorem dS_cameFrom_17 : decode mS_cameFrom.2.1 17 = .ok (.iaload, 1) := by decide +kernel
theorem dS_cameFrom_18 : decode mS_cameFrom.2.1 18 = .ok (.bipush 16, 2) := by decide +kernel
theorem dS_cameFrom_20 : decode mS_cameFrom.2.1 20 = .ok (.iushr, 1) := by decide +kernel
theorem dS_cameFrom_21 : decode mS_cameFrom.2.1 21 = .ok (.goto 4, 3) := by decide +kernel
theorem dS_cameFrom_24 : decode mS_cameFrom.2.1 24 = .ok (.iconst 0, 1) := by decide +kernel
theorem dS_cameFrom_25 : decode mS_cameFrom.2.1 25 = .ok (.ireturn, 1) := by decide +kernel
theorem dS_expand_0 : decode mS_expand.2.1 0 = .ok (.aload_n 0, 1) := by decide +kernel
theorem dS_expand_1 : decode mS_expand.2.1 1 = .ok (.getfield 12, 3) := by decide +kernel
theorem dS_expand_4 : decode mS_expand.2.1 4 = .ok (.aload_n 0, 1) := by decide +kernel
theorem dS_expand_5 : decode mS_expand.2.1 5 = .ok (.iload_n 1, 1) := by decide +kernel
theorem dS_expand_6 : decode mS_expand.2.1 6 = .ok (.invokevirtual 75, 3) := by decide +kernel
theorem dS_expand_9 : decode mS_expand.2.1 9 = .ok (.invokevirtual 78, 3) := by decide +kernel
theorem dS_expand_12 : decode mS_expand.2.1 12 = .ok (.iconst 0, 1) := by decide +kernel
theorem dS_expand_13 : decode mS_expand.2.1 13 = .ok (.istore_n 3, 1) := by decide +kernel
theorem dS_expand_14 : decode mS_expand.2.1 14 = .ok (.aload_n 0, 1) := by decide +kernel
theorem dS_expand_15 : decode mS_expand.2.1 15 = .ok (.getfield 12, 3) := by decide +kernel
theorem dS_expand_18 : decode mS_expand.2.1 18 = .ok (.invokevirtual 81, 3) := by decide +kernel
theorem dS_expand_21 : decode mS_expand.2.1 21 = .ok (.istore 4, 2) := by decide +kernel
theorem dS_expand_23 : decode mS_expand.2.1 23 = .ok (.iconst 0, 1) := by decide +kernel
theorem dS_expand_24 : decode mS_expand.2.1 24 = .ok (.istore 5, 2) := by decide +kernel
theorem dS_expand_26 : decode mS_expand.2.1 26 = .ok (.iload 5, 2) := by decide +kernel
theorem dS_expand_28 : decode mS_expand.2.1 28 = .ok (.aload_n 0, 1) := by decide +kernel
theorem dS_expand_29 : decode mS_expand.2.1 29 = .ok (.getfield 12, 3) := by decide +kernel
theorem dS_expand_32 : decode mS_expand.2.1 32 = .ok (.getfield 84, 3) := by decide +kernel
theorem dS_expand_35 : decode mS_expand.2.1 35 = .ok (.if_icmp .ge 45, 3) := by decide +kernel
theorem dS_expand_38 : decode mS_expand.2.1 38 = .ok (.iload_n 2, 1) := by decide +kernel
theorem dS_expand_39 : decode mS_expand.2.1 39 = .ok (.iconst 2, 1) := by decide +kernel
theorem dS_expand_40 : decode mS_expand.2.1 40 = .ok (.if_icmp .eq 40, 3) := by decide +kernel
theorem dS_expand_43 : decode mS_expand.2.1 43 = .ok (.aload_n 0, 1) := by decide +kernel
theorem dS_expand_44 : decode mS_expand.2.1 44 = .ok (.getfield 12, 3) := by decide +kernel
theorem dS_expand_47 : decode mS_expand.2.1 47 = .ok (.iload 5, 2) := by decide +kernel
theorem dS_expand_49 : decode mS_expand.2.1 49 = .ok (.iload 4, 2) := by decide +kernel
theorem dS_expand_51 : decode mS_expand.2.1 51 = .ok (.invokevirtual 87, 3) := by decide +kernel
theorem dS_expand_54 : decode mS_expand.2.1 54 = .ok (.ifCond .eq 20, 3) := by decide +kernel
theorem dS_expand_57 : decode mS_expand.2.1 57 = .ok (.aload_n 0, 1) := by decide +kernel
theorem dS_expand_58 : decode mS_expand.2.1 58 = .ok (.aload_n 0, 1) := by decide +kernel
theorem dS_expand_59 : decode mS_expand.2.1 59 = .ok (.getfield 12, 3) := by decide +kernel
theorem dS_expand_62 : decode mS_expand.2.1 62 = .ok (.iload 5, 2) := by decide +kernel
theorem dS_expand_64 : decode mS_expand.2.1 64 = .ok (.invokevirtual 91, 3) := by decide +kernel
theorem dS_expand_67 : decode mS_expand.2.1 67 = .ok (.iload_n 1, 1) := by decide +kernel
theorem dS_expand_68 : decode mS_expand.2.1 68 = .ok (.invokevirtual 57, 3) := by decide +kernel
theorem dS_expand_71 : decode mS_expand.2.1 71 = .ok (.iinc 3 1, 3) := by decide +kernel
theorem dS_expand_74 : decode mS_expand.2.1 74 = .ok (.iinc 5 1, 3) := by decide +kernel
theorem dS_expand_77 : decode mS_expand.2.1 77 = .ok (.goto (-51), 3) := by decide +kernel
theorem dS_expand_80 : decode mS_expand.2.1 80 = .ok (.iconst 0, 1) := by decide +kernel
theorem dS_expand_81 : decode mS_expand.2.1 81 = .ok (.istore 5, 2) := by decide +kernel
theorem dS_expand_83 : decode mS_expand.2.1 83 = .ok (.iload 5, 2) := by decide +kernel
theorem dS_expand_85 : decode mS_expand.2.1 85 = .ok (.aload_n 0, 1) := by decide +kernel
theorem dS_expand_86 : decode mS_expand.2.1 86 = .ok (.getfield 12, 3) := by decide +kernel
theorem dS_expand_89 : decode mS_expand.2.1 89 = .ok (.getfield 84, 3) := by decide +kernel
theorem dS_expand_92 : decode mS_expand.2.1 92 = .ok (.if_icmp .ge 45, 3) := by decide +kernel
theorem dS_expand_95 : decode mS_expand.2.1 95 = .ok (.iload_n 2, 1) := by decide +kernel
theorem dS_expand_96 : decode mS_expand.2.1 96 = .ok (.iconst 1, 1) := by decide +kernel
theorem dS_expand_97 : decode mS_expand.2.1 97 = .ok (.if_icmp .eq 40, 3) := by decide +kernel
theorem dS_expand_100 : decode mS_expand.2.1 100 = .ok (.aload_n 0, 1) := by decide +kernel
theorem dS_expand_101 : decode mS_expand.2.1 101 = .ok (.getfield 12, 3) := by decide +kernel
theorem dS_expand_104 : decode mS_expand.2.1 104 = .ok (.iload 5, 2) := by decide +kernel
theorem dS_expand_106 : decode mS_expand.2.1 106 = .ok (.iload 4, 2) := by decide +kernel
theorem dS_expand_108 : decode mS_expand.2.1 108 = .ok (.invokevirtual 94, 3) := by decide +kernel
theorem dS_expand_111 : decode mS_expand.2.1 111 = .ok (.ifCond .eq 20, 3) := by decide +kernel
theorem dS_expand_114 : decode mS_expand.2.1 114 = .ok (.aload_n 0, 1) := by decide +kernel
theorem dS_expand_115 : decode mS_expand.2.1 115 = .ok (.aload_n 0, 1) := by decide +kernel
theorem dS_expand_116 : decode mS_expand.2.1 116 = .ok (.getfield 12, 3) := by decide +kernel
theorem dS_expand_119 : decode mS_expand.2.1 119 = .ok (.iload 5, 2) := by decide +kernel
theorem dS_expand_121 : decode mS_expand.2.1 121 = .ok (.invokevirtual 97, 3) := by decide +kernel
theorem dS_expand_124 : decode mS_expand.2.1 124 = .ok (.iload_n 1, 1) := by decide +kernel
theorem dS_expand_125 : decode mS_expand.2.1 125 = .ok (.invokevirtual 57, 3) := by decide +kernel
theorem dS_expand_128 : decode mS_expand.2.1 128 = .ok (.iinc 3 1, 3) := by decide +kernel
theorem dS_expand_131 : decode mS_expand.2.1 131 = .ok (.iinc 5 1, 3) := by decide +kernel
theorem dS_expand_134 : decode mS_expand.2.1 134 = .ok (.goto (-51), 3) := by decide +kernel
theorem dS_expand_137 : decode mS_expand.2.1 137 = .ok (.iconst 0, 1) := by decide +kernel
theorem dS_expand_138 : decode mS_expand.2.1 138 = .ok (.istore 5, 2) := by decide +kernel
theorem dS_expand_140 : decode mS_expand.2.1 140 = .ok (.iload 5, 2) := by decide +kernel
theorem dS_expand_142 : decode mS_expand.2.1 142 = .ok (.aload_n 0, 1) := by decide +kernel
theorem dS_expand_143 : decode mS_expand.2.1 143 = .ok (.getfield 12, 3) := by decide +kernel
theorem dS_expand_146 : decode mS_expand.2.1 146 = .ok (.getfield 100, 3) := by decide +kernel
theorem dS_expand_149 : decode mS_expand.2.1 149 = .ok (.if_icmp .ge 20, 3) := by decide +kernel
theorem dS_expand_152 : decode mS_expand.2.1 152 = .ok (.iload_n 3, 1) := by decide +kernel
theorem dS_expand_153 : decode mS_expand.2.1 153 = .ok (.aload_n 0, 1) := by decide +kernel
theorem dS_expand_154 : decode mS_expand.2.1 154 = .ok (.iload 5, 2) := by decide +kernel
theorem dS_expand_156 : decode mS_expand.2.1 156 = .ok (.iload_n 1, 1) := by decide +kernel
theorem dS_expand_157 : decode mS_expand.2.1 157 = .ok (.iload_n 2, 1) := by decide +kernel
theorem dS_expand_158 : decode mS_expand.2.1 158 = .ok (.invokevirtual 103, 3) := by decide +kernel
theorem dS_expand_161 : decode mS_expand.2.1 161 = .ok (.iadd, 1) := by decide +kernel
theorem dS_expand_162 : decode mS_expand.2.1 162 = .ok (.istore_n 3, 1) := by decide +kernel
theorem dS_expand_163 : decode mS_expand.2.1 163 = .ok (.iinc 5 1, 3) := by decide +kernel
theorem dS_expand_166 : decode mS_expand.2.1 166 = .ok (.goto (-26), 3) := by decide +kernel
theorem dS_expand_169 : decode mS_expand.2.1 169 = .ok (.aload_n 0, 1) := by decide +kernel
theorem dS_expand_170 : decode mS_expand.2.1 170 = .ok (.dup, 1) := by decide +kernel
theorem dS_expand_171 : decode mS_expand.2.1 171 = .ok (.getfield 50, 3) := by decide +kernel
theorem dS_expand_174 : decode mS_expand.2.1 174 = .ok (.iload_n 3, 1) := by decide +kernel
theorem dS_expand_175 : decode mS_expand.2.1 175 = .ok (.ifCond .ne 7, 3) := by decide +kernel
theorem dS_expand_178 : decode mS_expand.2.1 178 = .ok (.iconst 1, 1) := by decide +kernel
theorem dS_expand_179 : decode mS_expand.2.1 179 = .ok (.goto 4, 3) := by decide +kernel
theorem dS_expand_182 : decode mS_expand.2.1 182 = .ok (.iconst 0, 1) := by decide +kernel
theorem dS_expand_183 : decode mS_expand.2.1 183 = .ok (.iadd, 1) := by decide +kernel
theorem dS_expand_184 : decode mS_expand.2.1 184 = .ok (.putfield 50, 3) := by decide +kernel
theorem dS_expand_187 : decode mS_expand.2.1 187 = .ok (.return_, 1) := by decide +kernel
theorem dS_expandGoing_0 : decode mS_expandGoing.2.1 0 = .ok (.iconst 0, 1) := by decide +kernel
theorem dS_expandGoing_1 : decode mS_expandGoing.2.1 1 = .ok (.istore 4, 2) := by decide +kernel
theorem dS_expandGoing_3 : decode mS_expandGoing.2.1 3 = .ok (.iconst 0, 1) := by decide +kernel
theorem dS_expandGoing_4 : decode mS_expandGoing.2.1 4 = .ok (.istore 5, 2) := by decide +kernel
theorem dS_expandGoing_6 : decode mS_expandGoing.2.1 6 = .ok (.iload 5, 2) := by decide +kernel
theorem dS_expandGoing_8 : decode mS_expandGoing.2.1 8 = .ok (.aload_n 0, 1) := by decide +kernel
theorem dS_expandGoing_9 : decode mS_expandGoing.2.1 9 = .ok (.getfield 12, 3) := by decide +kernel
theorem dS_expandGoing_12 : decode mS_expandGoing.2.1 12 = .ok (.getfield 84, 3) := by decide +kernel
theorem dS_expandGoing_15 : decode mS_expandGoing.2.1 15 = .ok (.if_icmp .ge 71, 3) := by decide +kernel
theorem dS_expandGoing_18 : decode mS_expandGoing.2.1 18 = .ok (.aload_n 0, 1) := by decide +kernel
theorem dS_expandGoing_19 : decode mS_expandGoing.2.1 19 = .ok (.getfield 12, 3) := by decide +kernel
theorem dS_expandGoing_22 : decode mS_expandGoing.2.1 22 = .ok (.getfield 107, 3) := by decide +kernel
theorem dS_expandGoing_25 : decode mS_expandGoing.2.1 25 = .ok (.iload 5, 2) := by decide +kernel
theorem dS_expandGoing_27 : decode mS_expandGoing.2.1 27 = .ok (.iaload, 1) := by decide +kernel
theorem dS_expandGoing_28 : decode mS_expandGoing.2.1 28 = .ok (.iconst 1, 1) := by decide +kernel
theorem dS_expandGoing_29 : decode mS_expandGoing.2.1 29 = .ok (.if_icmp .ne 7, 3) := by decide +kernel
theorem dS_expandGoing_32 : decode mS_expandGoing.2.1 32 = .ok (.iconst 2, 1) := by decide +kernel
theorem dS_expandGoing_33 : decode mS_expandGoing.2.1 33 = .ok (.goto 4, 3) := by decide +kernel
theorem dS_expandGoing_36 : decode mS_expandGoing.2.1 36 = .ok (.iconst 1, 1) := by decide +kernel
theorem dS_expandGoing_37 : decode mS_expandGoing.2.1 37 = .ok (.istore 6, 2) := by decide +kernel
theorem dS_expandGoing_39 : decode mS_expandGoing.2.1 39 = .ok (.iload_n 3, 1) := by decide +kernel
theorem dS_expandGoing_40 : decode mS_expandGoing.2.1 40 = .ok (.ifCond .eq 9, 3) := by decide +kernel
theorem dS_expandGoing_43 : decode mS_expandGoing.2.1 43 = .ok (.iload_n 3, 1) := by decide +kernel
theorem dS_expandGoing_44 : decode mS_expandGoing.2.1 44 = .ok (.iload 6, 2) := by decide +kernel
theorem dS_expandGoing_46 : decode mS_expandGoing.2.1 46 = .ok (.if_icmp .ne 34, 3) := by decide +kernel
theorem dS_expandGoing_49 : decode mS_expandGoing.2.1 49 = .ok (.aload_n 0, 1) := by decide +kernel
theorem dS_expandGoing_50 : decode mS_expandGoing.2.1 50 = .ok (.getfield 12, 3) := by decide +kernel
theorem dS_expandGoing_53 : decode mS_expandGoing.2.1 53 = .ok (.iload_n 1, 1) := by decide +kernel
theorem dS_expandGoing_54 : decode mS_expandGoing.2.1 54 = .ok (.iload 5, 2) := by decide +kernel
theorem dS_expandGoing_56 : decode mS_expandGoing.2.1 56 = .ok (.invokevirtual 110, 3) := by decide +kernel
theorem dS_expandGoing_59 : decode mS_expandGoing.2.1 59 = .ok (.ifCond .eq 21, 3) := by decide +kernel
theorem dS_expandGoing_62 : decode mS_expandGoing.2.1 62 = .ok (.aload_n 0, 1) := by decide +kernel
theorem dS_expandGoing_63 : decode mS_expandGoing.2.1 63 = .ok (.aload_n 0, 1) := by decide +kernel
theorem dS_expandGoing_64 : decode mS_expandGoing.2.1 64 = .ok (.getfield 12, 3) := by decide +kernel
theorem dS_expandGoing_67 : decode mS_expandGoing.2.1 67 = .ok (.iload_n 1, 1) := by decide +kernel
theorem dS_expandGoing_68 : decode mS_expandGoing.2.1 68 = .ok (.iload 5, 2) := by decide +kernel
theorem dS_expandGoing_70 : decode mS_expandGoing.2.1 70 = .ok (.invokevirtual 113, 3) := by decide +kernel
theorem dS_expandGoing_73 : decode mS_expandGoing.2.1 73 = .ok (.iload_n 2, 1) := by decide +kernel
theorem dS_expandGoing_74 : decode mS_expandGoing.2.1 74 = .ok (.invokevirtual 57, 3) := by decide +kernel
theorem dS_expandGoing_77 : decode mS_expandGoing.2.1 77 = .ok (.iinc 4 1, 3) := by decide +kernel
theorem dS_expandGoing_80 : decode mS_expandGoing.2.1 80 = .ok (.iinc 5 1, 3) := by decide +kernel
theorem dS_expandGoing_83 : decode mS_expandGoing.2.1 83 = .ok (.goto (-77), 3) := by decide +kernel
theorem dS_expandGoing_86 : decode mS_expandGoing.2.1 86 = .ok (.iload 4, 2) := by decide +kernel
theorem dS_expandGoing_88 : decode mS_expandGoing.2.1 88 = .ok (.ireturn, 1) := by decide +kernel
theorem dS_firstFit_0 : decode mS_firstFit.2.1 0 = .ok (.iconst 0, 1) := by decide +kernel
theorem dS_firstFit_1 : decode mS_firstFit.2.1 1 = .ok (.istore_n 2, 1) := by decide +kernel
theorem dS_firstFit_2 : decode mS_firstFit.2.1 2 = .ok (.iload_n 2, 1) := by decide +kernel
theorem dS_firstFit_3 : decode mS_firstFit.2.1 3 = .ok (.aload_n 0, 1) := by decide +kernel
theorem dS_firstFit_4 : decode mS_firstFit.2.1 4 = .ok (.getfield 18, 3) := by decide +kernel
theorem dS_firstFit_7 : decode mS_firstFit.2.1 7 = .ok (.arraylength, 1) := by decide +kernel
theorem dS_firstFit_8 : decode mS_firstFit.2.1 8 = .ok (.if_icmp .ge 48, 3) := by decide +kernel
theorem dS_firstFit_11 : decode mS_firstFit.2.1 11 = .ok (.aload_n 0, 1) := by decide +kernel
theorem dS_firstFit_12 : decode mS_firstFit.2.1 12 = .ok (.getfield 41, 3) := by decide +kernel
theorem dS_firstFit_15 : decode mS_firstFit.2.1 15 = .ok (.aload_n 0, 1) := by decide +kernel
theorem dS_firstFit_16 : decode mS_firstFit.2.1 16 = .ok (.getfield 44, 3) := by decide +kernel
theorem dS_firstFit_19 : decode mS_firstFit.2.1 19 = .ok (.if_icmp .ge 37, 3) := by decide +kernel
theorem dS_firstFit_22 : decode mS_firstFit.2.1 22 = .ok (.aload_n 0, 1) := by decide +kernel
theorem dS_firstFit_23 : decode mS_firstFit.2.1 23 = .ok (.getfield 47, 3) := by decide +kernel
theorem dS_firstFit_26 : decode mS_firstFit.2.1 26 = .ok (.iload_n 1, 1) := by decide +kernel
theorem dS_firstFit_27 : decode mS_firstFit.2.1 27 = .ok (.iand, 1) := by decide +kernel
theorem dS_firstFit_28 : decode mS_firstFit.2.1 28 = .ok (.ifCond .ne 28, 3) := by decide +kernel
theorem dS_firstFit_31 : decode mS_firstFit.2.1 31 = .ok (.aload_n 0, 1) := by decide +kernel
theorem dS_firstFit_32 : decode mS_firstFit.2.1 32 = .ok (.aload_n 0, 1) := by decide +kernel
theorem dS_firstFit_33 : decode mS_firstFit.2.1 33 = .ok (.getfield 41, 3) := by decide +kernel
theorem dS_firstFit_36 : decode mS_firstFit.2.1 36 = .ok (.iconst 0, 1) := by decide +kernel
theorem dS_firstFit_37 : decode mS_firstFit.2.1 37 = .ok (.invokevirtual 72, 3) := by decide +kernel
theorem dS_firstFit_40 : decode mS_firstFit.2.1 40 = .ok (.aload_n 0, 1) := by decide +kernel
theorem dS_firstFit_41 : decode mS_firstFit.2.1 41 = .ok (.dup, 1) := by decide +kernel
theorem dS_firstFit_42 : decode mS_firstFit.2.1 42 = .ok (.getfield 41, 3) := by decide +kernel
theorem dS_firstFit_45 : decode mS_firstFit.2.1 45 = .ok (.iconst 1, 1) := by decide +kernel
theorem dS_firstFit_46 : decode mS_firstFit.2.1 46 = .ok (.iadd, 1) := by decide +kernel
theorem dS_firstFit_47 : decode mS_firstFit.2.1 47 = .ok (.putfield 41, 3) := by decide +kernel
theorem dS_firstFit_50 : decode mS_firstFit.2.1 50 = .ok (.iinc 2 1, 3) := by decide +kernel
theorem dS_firstFit_53 : decode mS_firstFit.2.1 53 = .ok (.goto (-51), 3) := by decide +kernel
theorem dS_firstFit_56 : decode mS_firstFit.2.1 56 = .ok (.aload_n 0, 1) := by decide +kernel
theorem dS_firstFit_57 : decode mS_firstFit.2.1 57 = .ok (.getfield 47, 3) := by decide +kernel
theorem dS_firstFit_60 : decode mS_firstFit.2.1 60 = .ok (.iload_n 1, 1) := by decide +kernel
theorem dS_firstFit_61 : decode mS_firstFit.2.1 61 = .ok (.iand, 1) := by decide +kernel
theorem dS_firstFit_62 : decode mS_firstFit.2.1 62 = .ok (.ifCond .ne 5, 3) := by decide +kernel
theorem dS_firstFit_65 : decode mS_firstFit.2.1 65 = .ok (.iconst (-1), 1) := by decide +kernel
theorem dS_firstFit_66 : decode mS_firstFit.2.1 66 = .ok (.ireturn, 1) := by decide +kernel
theorem dS_firstFit_67 : decode mS_firstFit.2.1 67 = .ok (.iconst 0, 1) := by decide +kernel
theorem dS_firstFit_68 : decode mS_firstFit.2.1 68 = .ok (.istore_n 2, 1) := by decide +kernel
theorem dS_firstFit_69 : decode mS_firstFit.2.1 69 = .ok (.iload_n 2, 1) := by decide +kernel
theorem dS_firstFit_70 : decode mS_firstFit.2.1 70 = .ok (.aload_n 0, 1) := by decide +kernel
theorem dS_firstFit_71 : decode mS_firstFit.2.1 71 = .ok (.getfield 44, 3) := by decide +kernel
theorem dS_firstFit_74 : decode mS_firstFit.2.1 74 = .ok (.if_icmp .ge 30, 3) := by decide +kernel
theorem dS_firstFit_77 : decode mS_firstFit.2.1 77 = .ok (.iload_n 1, 1) := by decide +kernel
theorem dS_firstFit_78 : decode mS_firstFit.2.1 78 = .ok (.aload_n 0, 1) := by decide +kernel
theorem dS_firstFit_79 : decode mS_firstFit.2.1 79 = .ok (.getfield 12, 3) := by decide +kernel
theorem dS_firstFit_82 : decode mS_firstFit.2.1 82 = .ok (.aload_n 0, 1) := by decide +kernel
theorem dS_firstFit_83 : decode mS_firstFit.2.1 83 = .ok (.iload_n 2, 1) := by decide +kernel
theorem dS_firstFit_84 : decode mS_firstFit.2.1 84 = .ok (.invokevirtual 75, 3) := by decide +kernel
theorem dS_firstFit_87 : decode mS_firstFit.2.1 87 = .ok (.invokevirtual 67, 3) := by decide +kernel
theorem dS_firstFit_90 : decode mS_firstFit.2.1 90 = .ok (.ishr, 1) := by decide +kernel
theorem dS_firstFit_91 : decode mS_firstFit.2.1 91 = .ok (.iconst 1, 1) := by decide +kernel
theorem dS_firstFit_92 : decode mS_firstFit.2.1 92 = .ok (.iand, 1) := by decide +kernel
theorem dS_firstFit_93 : decode mS_firstFit.2.1 93 = .ok (.ifCond .eq 5, 3) := by decide +kernel
theorem dS_firstFit_96 : decode mS_firstFit.2.1 96 = .ok (.iload_n 2, 1) := by decide +kernel
theorem dS_firstFit_97 : decode mS_firstFit.2.1 97 = .ok (.ireturn, 1) := by decide +kernel
theorem dS_firstFit_98 : decode mS_firstFit.2.1 98 = .ok (.iinc 2 1, 3) := by decide +kernel
theorem dS_firstFit_101 : decode mS_firstFit.2.1 101 = .ok (.goto (-32), 3) := by decide +kernel
theorem dS_firstFit_104 : decode mS_firstFit.2.1 104 = .ok (.iconst (-1), 1) := by decide +kernel
theorem dS_firstFit_105 : decode mS_firstFit.2.1 105 = .ok (.ireturn, 1) := by decide +kernel
theorem dS_finish_0 : decode mS_finish.2.1 0 = .ok (.iconst 0, 1) := by decide +kernel
theorem dS_finish_1 : decode mS_finish.2.1 1 = .ok (.istore_n 1, 1) := by decide +kernel
theorem dS_finish_2 : decode mS_finish.2.1 2 = .ok (.iload_n 1, 1) := by decide +kernel
theorem dS_finish_3 : decode mS_finish.2.1 3 = .ok (.aload_n 0, 1) := by decide +kernel
theorem dS_finish_4 : decode mS_finish.2.1 4 = .ok (.getfield 18, 3) := by decide +kernel
theorem dS_finish_7 : decode mS_finish.2.1 7 = .ok (.arraylength, 1) := by decide +kernel
theorem dS_finish_8 : decode mS_finish.2.1 8 = .ok (.if_icmp .ge 39, 3) := by decide +kernel
theorem dS_finish_11 : decode mS_finish.2.1 11 = .ok (.aload_n 0, 1) := by decide +kernel
theorem dS_finish_12 : decode mS_finish.2.1 12 = .ok (.getfield 41, 3) := by decide +kernel
theorem dS_finish_15 : decode mS_finish.2.1 15 = .ok (.aload_n 0, 1) := by decide +kernel
theorem dS_finish_16 : decode mS_finish.2.1 16 = .ok (.getfield 44, 3) := by decide +kernel
theorem dS_finish_19 : decode mS_finish.2.1 19 = .ok (.if_icmp .ge 28, 3) := by decide +kernel
theorem dS_finish_22 : decode mS_finish.2.1 22 = .ok (.aload_n 0, 1) := by decide +kernel
theorem dS_finish_23 : decode mS_finish.2.1 23 = .ok (.aload_n 0, 1) := by decide +kernel
theorem dS_finish_24 : decode mS_finish.2.1 24 = .ok (.getfield 41, 3) := by decide +kernel
theorem dS_finish_27 : decode mS_finish.2.1 27 = .ok (.iconst 0, 1) := by decide +kernel
theorem dS_finish_28 : decode mS_finish.2.1 28 = .ok (.invokevirtual 72, 3) := by decide +kernel
theorem dS_finish_31 : decode mS_finish.2.1 31 = .ok (.aload_n 0, 1) := by decide +kernel
theorem dS_finish_32 : decode mS_finish.2.1 32 = .ok (.dup, 1) := by decide +kernel
theorem dS_finish_33 : decode mS_finish.2.1 33 = .ok (.getfield 41, 3) := by decide +kernel
theorem dS_finish_36 : decode mS_finish.2.1 36 = .ok (.iconst 1, 1) := by decide +kernel
theorem dS_finish_37 : decode mS_finish.2.1 37 = .ok (.iadd, 1) := by decide +kernel
theorem dS_finish_38 : decode mS_finish.2.1 38 = .ok (.putfield 41, 3) := by decide +kernel
theorem dS_finish_41 : decode mS_finish.2.1 41 = .ok (.iinc 1 1, 3) := by decide +kernel
theorem dS_finish_44 : decode mS_finish.2.1 44 = .ok (.goto (-42), 3) := by decide +kernel
theorem dS_finish_47 : decode mS_finish.2.1 47 = .ok (.return_, 1) := by decide +kernel
theorem dS_spread_0 : decode mS_spread.2.1 0 = .ok (.iconst 0, 1) := by decide +kernel
theorem dS_spread_1 : decode mS_spread.2.1 1 = .ok (.istore_n 2, 1) := by decide +kernel
theorem dS_spread_2 : decode mS_spread.2.1 2 = .ok (.iload_n 2, 1) := by decide +kernel
theorem dS_spread_3 : decode mS_spread.2.1 3 = .ok (.aload_n 1, 1) := by decide +kernel
theorem dS_spread_4 : decode mS_spread.2.1 4 = .ok (.arraylength, 1) := by decide +kernel
theorem dS_spread_5 : decode mS_spread.2.1 5 = .ok (.if_icmp .ge 60, 3) := by decide +kernel
theorem dS_spread_8 : decode mS_spread.2.1 8 = .ok (.aload_n 0, 1) := by decide +kernel
theorem dS_spread_9 : decode mS_spread.2.1 9 = .ok (.getfield 44, 3) := by decide +kernel
theorem dS_spread_12 : decode mS_spread.2.1 12 = .ok (.istore_n 3, 1) := by decide +kernel
theorem dS_spread_13 : decode mS_spread.2.1 13 = .ok (.aload_n 0, 1) := by decide +kernel
theorem dS_spread_14 : decode mS_spread.2.1 14 = .ok (.getfield 41, 3) := by decide +kernel
theorem dS_spread_17 : decode mS_spread.2.1 17 = .ok (.istore 4, 2) := by decide +kernel
theorem dS_spread_19 : decode mS_spread.2.1 19 = .ok (.iload 4, 2) := by decide +kernel
theorem dS_spread_21 : decode mS_spread.2.1 21 = .ok (.iload_n 3, 1) := by decide +kernel
theorem dS_spread_22 : decode mS_spread.2.1 22 = .ok (.if_icmp .ge 30, 3) := by decide +kernel
theorem dS_spread_25 : decode mS_spread.2.1 25 = .ok (.iload_n 2, 1) := by decide +kernel
theorem dS_spread_26 : decode mS_spread.2.1 26 = .ok (.ifCond .le 26, 3) := by decide +kernel
theorem dS_spread_29 : decode mS_spread.2.1 29 = .ok (.aload_n 0, 1) := by decide +kernel
theorem dS_spread_30 : decode mS_spread.2.1 30 = .ok (.iload 4, 2) := by decide +kernel
theorem dS_spread_32 : decode mS_spread.2.1 32 = .ok (.iconst 0, 1) := by decide +kernel
theorem dS_spread_33 : decode mS_spread.2.1 33 = .ok (.invokevirtual 72, 3) := by decide +kernel
theorem dS_spread_36 : decode mS_spread.2.1 36 = .ok (.aload_n 0, 1) := by decide +kernel
theorem dS_spread_37 : decode mS_spread.2.1 37 = .ok (.dup, 1) := by decide +kernel
theorem dS_spread_38 : decode mS_spread.2.1 38 = .ok (.getfield 41, 3) := by decide +kernel
theorem dS_spread_41 : decode mS_spread.2.1 41 = .ok (.iconst 1, 1) := by decide +kernel
theorem dS_spread_42 : decode mS_spread.2.1 42 = .ok (.iadd, 1) := by decide +kernel
theorem dS_spread_43 : decode mS_spread.2.1 43 = .ok (.putfield 41, 3) := by decide +kernel
theorem dS_spread_46 : decode mS_spread.2.1 46 = .ok (.iinc 4 1, 3) := by decide +kernel
theorem dS_spread_49 : decode mS_spread.2.1 49 = .ok (.goto (-30), 3) := by decide +kernel
theorem dS_spread_52 : decode mS_spread.2.1 52 = .ok (.aload_n 1, 1) := by decide +kernel
theorem dS_spread_53 : decode mS_spread.2.1 53 = .ok (.iload_n 2, 1) := by decide +kernel
theorem dS_spread_54 : decode mS_spread.2.1 54 = .ok (.aload_n 0, 1) := by decide +kernel
theorem dS_spread_55 : decode mS_spread.2.1 55 = .ok (.getfield 44, 3) := by decide +kernel
theorem dS_spread_58 : decode mS_spread.2.1 58 = .ok (.iastore, 1) := by decide +kernel
theorem dS_spread_59 : decode mS_spread.2.1 59 = .ok (.iinc 2 1, 3) := by decide +kernel
theorem dS_spread_62 : decode mS_spread.2.1 62 = .ok (.goto (-60), 3) := by decide +kernel
theorem dS_spread_65 : decode mS_spread.2.1 65 = .ok (.return_, 1) := by decide +kernel
theorem dS_depthOf_0 : decode mS_depthOf.2.1 0 = .ok (.iload_n 1, 1) := by decide +kernel
theorem dS_depthOf_1 : decode mS_depthOf.2.1 1 = .ok (.ifCond .lt 11, 3) := by decide +kernel
theorem dS_depthOf_4 : decode mS_depthOf.2.1 4 = .ok (.iload_n 1, 1) := by decide +kernel
theorem dS_depthOf_5 : decode mS_depthOf.2.1 5 = .ok (.aload_n 0, 1) := by decide +kernel
theorem dS_depthOf_6 : decode mS_depthOf.2.1 6 = .ok (.getfield 44, 3) := by decide +kernel
theorem dS_depthOf_9 : decode mS_depthOf.2.1 9 = .ok (.if_icmp .lt 6, 3) := by decide +kernel
theorem dS_depthOf_12 : decode mS_depthOf.2.1 12 = .ok (.bipush (-2), 2) := by decide +kernel
theorem dS_depthOf_14 : decode mS_depthOf.2.1 14 = .ok (.ireturn, 1) := by decide +kernel
theorem dS_depthOf_15 : decode mS_depthOf.2.1 15 = .ok (.iconst 0, 1) := by decide +kernel
theorem dS_depthOf_16 : decode mS_depthOf.2.1 16 = .ok (.istore_n 2, 1) := by decide +kernel
theorem dS_depthOf_17 : decode mS_depthOf.2.1 17 = .ok (.iload_n 1, 1) := by decide +kernel
theorem dS_depthOf_18 : decode mS_depthOf.2.1 18 = .ok (.istore_n 3, 1) := by decide +kernel
theorem dS_depthOf_19 : decode mS_depthOf.2.1 19 = .ok (.iconst 0, 1) := by decide +kernel
theorem dS_depthOf_20 : decode mS_depthOf.2.1 20 = .ok (.istore 4, 2) := by decide +kernel
theorem dS_depthOf_22 : decode mS_depthOf.2.1 22 = .ok (.iload 4, 2) := by decide +kernel
theorem dS_depthOf_24 : decode mS_depthOf.2.1 24 = .ok (.aload_n 0, 1) := by decide +kernel
theorem dS_depthOf_25 : decode mS_depthOf.2.1 25 = .ok (.getfield 44, 3) := by decide +kernel
theorem dS_depthOf_28 : decode mS_depthOf.2.1 28 = .ok (.if_icmp .ge 22, 3) := by decide +kernel
theorem dS_depthOf_31 : decode mS_depthOf.2.1 31 = .ok (.iload_n 3, 1) := by decide +kernel
theorem dS_depthOf_32 : decode mS_depthOf.2.1 32 = .ok (.ifCond .le 18, 3) := by decide +kernel
theorem dS_depthOf_35 : decode mS_depthOf.2.1 35 = .ok (.aload_n 0, 1) := by decide +kernel
theorem dS_depthOf_36 : decode mS_depthOf.2.1 36 = .ok (.iload_n 3, 1) := by decide +kernel
theorem dS_depthOf_37 : decode mS_depthOf.2.1 37 = .ok (.invokevirtual 117, 3) := by decide +kernel
theorem dS_depthOf_40 : decode mS_depthOf.2.1 40 = .ok (.istore_n 3, 1) := by decide +kernel
theorem dS_depthOf_41 : decode mS_depthOf.2.1 41 = .ok (.iinc 2 1, 3) := by decide +kernel
theorem dS_depthOf_44 : decode mS_depthOf.2.1 44 = .ok (.iinc 4 1, 3) := by decide +kernel
theorem dS_depthOf_47 : decode mS_depthOf.2.1 47 = .ok (.goto (-25), 3) := by decide +kernel
theorem dS_depthOf_50 : decode mS_depthOf.2.1 50 = .ok (.iload_n 2, 1) := by decide +kernel
theorem dS_depthOf_51 : decode mS_depthOf.2.1 51 = .ok (.ireturn, 1) := by decide +kernel
theorem dS_stepOnTheWay_0 : decode mS_stepOnTheWay.2.1 0 = .ok (.aload_n 0, 1) := by decide +kernel
theorem dS_stepOnTheWay_1 : decode mS_stepOnTheWay.2.1 1 = .ok (.iload_n 1, 1) := by decide +kernel
theorem dS_stepOnTheWay_2 : decode mS_stepOnTheWay.2.1 2 = .ok (.invokevirtual 120, 3) := by decide +kernel
theorem dS_stepOnTheWay_5 : decode mS_stepOnTheWay.2.1 5 = .ok (.istore_n 3, 1) := by decide +kernel
theorem dS_stepOnTheWay_6 : decode mS_stepOnTheWay.2.1 6 = .ok (.iload_n 2, 1) := by decide +kernel
theorem dS_stepOnTheWay_7 : decode mS_stepOnTheWay.2.1 7 = .ok (.ifCond .lt 8, 3) := by decide +kernel
theorem dS_stepOnTheWay_10 : decode mS_stepOnTheWay.2.1 10 = .ok (.iload_n 2, 1) := by decide +kernel
theorem dS_stepOnTheWay_11 : decode mS_stepOnTheWay.2.1 11 = .ok (.iload_n 3, 1) := by decide +kernel
theorem dS_stepOnTheWay_12 : decode mS_stepOnTheWay.2.1 12 = .ok (.if_icmp .lt 5, 3) := by decide +kernel
theorem dS_stepOnTheWay_15 : decode mS_stepOnTheWay.2.1 15 = .ok (.iconst (-1), 1) := by decide +kernel
theorem dS_stepOnTheWay_16 : decode mS_stepOnTheWay.2.1 16 = .ok (.ireturn, 1) := by decide +kernel
theorem dS_stepOnTheWay_17 : decode mS_stepOnTheWay.2.1 17 = .ok (.iload_n 1, 1) := by decide +kernel
theorem dS_stepOnTheWay_18 : decode mS_stepOnTheWay.2.1 18 = .ok (.istore 4, 2) := by decide +kernel
theorem dS_stepOnTheWay_20 : decode mS_stepOnTheWay.2.1 20 = .ok (.iload_n 3, 1) := by decide +kernel
theorem dS_stepOnTheWay_21 : decode mS_stepOnTheWay.2.1 21 = .ok (.iconst 1, 1) := by decide +kernel
theorem dS_stepOnTheWay_22 : decode mS_stepOnTheWay.2.1 22 = .ok (.isub, 1) := by decide +kernel
theorem dS_stepOnTheWay_23 : decode mS_stepOnTheWay.2.1 23 = .ok (.istore 5, 2) := by decide +kernel
theorem dS_stepOnTheWay_25 : decode mS_stepOnTheWay.2.1 25 = .ok (.iload 5, 2) := by decide +kernel
theorem dS_stepOnTheWay_27 : decode mS_stepOnTheWay.2.1 27 = .ok (.iload_n 2, 1) := by decide +kernel
theorem dS_stepOnTheWay_28 : decode mS_stepOnTheWay.2.1 28 = .ok (.if_icmp .le 17, 3) := by decide +kernel
theorem dS_stepOnTheWay_31 : decode mS_stepOnTheWay.2.1 31 = .ok (.aload_n 0, 1) := by decide +kernel
theorem dS_stepOnTheWay_32 : decode mS_stepOnTheWay.2.1 32 = .ok (.iload 4, 2) := by decide +kernel
theorem dS_stepOnTheWay_34 : decode mS_stepOnTheWay.2.1 34 = .ok (.invokevirtual 117, 3) := by decide +kernel
theorem dS_stepOnTheWay_37 : decode mS_stepOnTheWay.2.1 37 = .ok (.istore 4, 2) := by decide +kernel
theorem dS_stepOnTheWay_39 : decode mS_stepOnTheWay.2.1 39 = .ok (.iinc 5 (-1), 3) := by decide +kernel
theorem dS_stepOnTheWay_42 : decode mS_stepOnTheWay.2.1 42 = .ok (.goto (-17), 3) := by decide +kernel
theorem dS_stepOnTheWay_45 : decode mS_stepOnTheWay.2.1 45 = .ok (.aload_n 0, 1) := by decide +kernel
theorem dS_stepOnTheWay_46 : decode mS_stepOnTheWay.2.1 46 = .ok (.getfield 12, 3) := by decide +kernel
theorem dS_stepOnTheWay_49 : decode mS_stepOnTheWay.2.1 49 = .ok (.aload_n 0, 1) := by decide +kernel
theorem dS_stepOnTheWay_50 : decode mS_stepOnTheWay.2.1 50 = .ok (.aload_n 0, 1) := by decide +kernel
theorem dS_stepOnTheWay_51 : decode mS_stepOnTheWay.2.1 51 = .ok (.iload 4, 2) := by decide +kernel
theorem dS_stepOnTheWay_53 : decode mS_stepOnTheWay.2.1 53 = .ok (.invokevirtual 117, 3) := by decide +kernel
theorem dS_stepOnTheWay_56 : decode mS_stepOnTheWay.2.1 56 = .ok (.invokevirtual 75, 3) := by decide +kernel
theorem dS_stepOnTheWay_59 : decode mS_stepOnTheWay.2.1 59 = .ok (.invokevirtual 78, 3) := by decide +kernel
theorem dS_stepOnTheWay_62 : decode mS_stepOnTheWay.2.1 62 = .ok (.iconst 0, 1) := by decide +kernel
theorem dS_stepOnTheWay_63 : decode mS_stepOnTheWay.2.1 63 = .ok (.istore 5, 2) := by decide +kernel
theorem dS_stepOnTheWay_65 : decode mS_stepOnTheWay.2.1 65 = .ok (.iload 5, 2) := by decide +kernel
theorem dS_stepOnTheWay_67 : decode mS_stepOnTheWay.2.1 67 = .ok (.aload_n 0, 1) := by decide +kernel
theorem dS_stepOnTheWay_68 : decode mS_stepOnTheWay.2.1 68 = .ok (.getfield 12, 3) := by decide +kernel
theorem dS_stepOnTheWay_71 : decode mS_stepOnTheWay.2.1 71 = .ok (.getfield 123, 3) := by decide +kernel
theorem dS_stepOnTheWay_74 : decode mS_stepOnTheWay.2.1 74 = .ok (.if_icmp .ge 49, 3) := by decide +kernel
theorem dS_stepOnTheWay_77 : decode mS_stepOnTheWay.2.1 77 = .ok (.aload_n 0, 1) := by decide +kernel
theorem dS_stepOnTheWay_78 : decode mS_stepOnTheWay.2.1 78 = .ok (.getfield 12, 3) := by decide +kernel
theorem dS_stepOnTheWay_81 : decode mS_stepOnTheWay.2.1 81 = .ok (.iload 5, 2) := by decide +kernel
theorem dS_stepOnTheWay_83 : decode mS_stepOnTheWay.2.1 83 = .ok (.aload_n 0, 1) := by decide +kernel
theorem dS_stepOnTheWay_84 : decode mS_stepOnTheWay.2.1 84 = .ok (.getfield 12, 3) := by decide +kernel
theorem dS_stepOnTheWay_87 : decode mS_stepOnTheWay.2.1 87 = .ok (.invokevirtual 81, 3) := by decide +kernel
theorem dS_stepOnTheWay_90 : decode mS_stepOnTheWay.2.1 90 = .ok (.invokevirtual 126, 3) := by decide +kernel
theorem dS_stepOnTheWay_93 : decode mS_stepOnTheWay.2.1 93 = .ok (.ifCond .eq 24, 3) := by decide +kernel
theorem dS_stepOnTheWay_96 : decode mS_stepOnTheWay.2.1 96 = .ok (.aload_n 0, 1) := by decide +kernel
theorem dS_stepOnTheWay_97 : decode mS_stepOnTheWay.2.1 97 = .ok (.getfield 12, 3) := by decide +kernel
theorem dS_stepOnTheWay_100 : decode mS_stepOnTheWay.2.1 100 = .ok (.iload 5, 2) := by decide +kernel
theorem dS_stepOnTheWay_102 : decode mS_stepOnTheWay.2.1 102 = .ok (.invokevirtual 129, 3) := by decide +kernel
theorem dS_stepOnTheWay_105 : decode mS_stepOnTheWay.2.1 105 = .ok (.aload_n 0, 1) := by decide +kernel
theorem dS_stepOnTheWay_106 : decode mS_stepOnTheWay.2.1 106 = .ok (.iload 4, 2) := by decide +kernel
theorem dS_stepOnTheWay_108 : decode mS_stepOnTheWay.2.1 108 = .ok (.invokevirtual 75, 3) := by decide +kernel
theorem dS_stepOnTheWay_111 : decode mS_stepOnTheWay.2.1 111 = .ok (.if_icmp .ne 6, 3) := by decide +kernel
theorem dS_stepOnTheWay_114 : decode mS_stepOnTheWay.2.1 114 = .ok (.iload 5, 2) := by decide +kernel
theorem dS_stepOnTheWay_116 : decode mS_stepOnTheWay.2.1 116 = .ok (.ireturn, 1) := by decide +kernel
theorem dS_stepOnTheWay_117 : decode mS_stepOnTheWay.2.1 117 = .ok (.iinc 5 1, 3) := by decide +kernel
theorem dS_stepOnTheWay_120 : decode mS_stepOnTheWay.2.1 120 = .ok (.goto (-55), 3) := by decide +kernel
theorem dS_stepOnTheWay_123 : decode mS_stepOnTheWay.2.1 123 = .ok (.iconst (-1), 1) := by decide +kernel
theorem dS_stepOnTheWay_124 : decode mS_stepOnTheWay.2.1 124 = .ok (.ireturn, 1) := by decide +kernel
theorem dS_fewestShut_0 : decode mS_fewestShut.2.1 0 = .ok (.iconst 0, 1) := by decide +kernel
theorem dS_fewestShut_1 : decode mS_fewestShut.2.1 1 = .ok (.istore_n 2, 1) := by decide +kernel
theorem dS_fewestShut_2 : decode mS_fewestShut.2.1 2 = .ok (.iconst 0, 1) := by decide +kernel
theorem dS_fewestShut_3 : decode mS_fewestShut.2.1 3 = .ok (.istore_n 3, 1) := by decide +kernel
theorem dS_fewestShut_4 : decode mS_fewestShut.2.1 4 = .ok (.iload_n 3, 1) := by decide +kernel
theorem dS_fewestShut_5 : decode mS_fewestShut.2.1 5 = .ok (.aload_n 0, 1) := by decide +kernel
theorem dS_fewestShut_6 : decode mS_fewestShut.2.1 6 = .ok (.getfield 18, 3) := by decide +kernel
theorem dS_fewestShut_9 : decode mS_fewestShut.2.1 9 = .ok (.arraylength, 1) := by decide +kernel
theorem dS_fewestShut_10 : decode mS_fewestShut.2.1 10 = .ok (.if_icmp .gt 99, 3) := by decide +kernel
theorem dS_fewestShut_13 : decode mS_fewestShut.2.1 13 = .ok (.iload_n 2, 1) := by decide +kernel
theorem dS_fewestShut_14 : decode mS_fewestShut.2.1 14 = .ok (.istore 4, 2) := by decide +kernel
theorem dS_fewestShut_16 : decode mS_fewestShut.2.1 16 = .ok (.iload 4, 2) := by decide +kernel
theorem dS_fewestShut_18 : decode mS_fewestShut.2.1 18 = .ok (.aload_n 0, 1) := by decide +kernel
theorem dS_fewestShut_19 : decode mS_fewestShut.2.1 19 = .ok (.getfield 44, 3) := by decide +kernel
theorem dS_fewestShut_22 : decode mS_fewestShut.2.1 22 = .ok (.if_icmp .ge 26, 3) := by decide +kernel
theorem dS_fewestShut_25 : decode mS_fewestShut.2.1 25 = .ok (.iload 4, 2) := by decide +kernel
theorem dS_fewestShut_27 : decode mS_fewestShut.2.1 27 = .ok (.aload_n 0, 1) := by decide +kernel
theorem dS_fewestShut_28 : decode mS_fewestShut.2.1 28 = .ok (.getfield 18, 3) := by decide +kernel
theorem dS_fewestShut_31 : decode mS_fewestShut.2.1 31 = .ok (.arraylength, 1) := by decide +kernel
theorem dS_fewestShut_32 : decode mS_fewestShut.2.1 32 = .ok (.if_icmp .ge 16, 3) := by decide +kernel
theorem dS_fewestShut_35 : decode mS_fewestShut.2.1 35 = .ok (.aload_n 0, 1) := by decide +kernel
theorem dS_fewestShut_36 : decode mS_fewestShut.2.1 36 = .ok (.iload 4, 2) := by decide +kernel
theorem dS_fewestShut_38 : decode mS_fewestShut.2.1 38 = .ok (.iconst 1, 1) := by decide +kernel
theorem dS_fewestShut_39 : decode mS_fewestShut.2.1 39 = .ok (.invokevirtual 72, 3) := by decide +kernel
theorem dS_fewestShut_42 : decode mS_fewestShut.2.1 42 = .ok (.iinc 4 1, 3) := by decide +kernel
theorem dS_fewestShut_45 : decode mS_fewestShut.2.1 45 = .ok (.goto (-29), 3) := by decide +kernel
theorem dS_fewestShut_48 : decode mS_fewestShut.2.1 48 = .ok (.aload_n 0, 1) := by decide +kernel
theorem dS_fewestShut_49 : decode mS_fewestShut.2.1 49 = .ok (.getfield 47, 3) := by decide +kernel
theorem dS_fewestShut_52 : decode mS_fewestShut.2.1 52 = .ok (.iload_n 1, 1) := by decide +kernel
theorem dS_fewestShut_53 : decode mS_fewestShut.2.1 53 = .ok (.iand, 1) := by decide +kernel
theorem dS_fewestShut_54 : decode mS_fewestShut.2.1 54 = .ok (.ifCond .eq 5, 3) := by decide +kernel
theorem dS_fewestShut_57 : decode mS_fewestShut.2.1 57 = .ok (.iload_n 3, 1) := by decide +kernel
theorem dS_fewestShut_58 : decode mS_fewestShut.2.1 58 = .ok (.ireturn, 1) := by decide +kernel
theorem dS_fewestShut_59 : decode mS_fewestShut.2.1 59 = .ok (.aload_n 0, 1) := by decide +kernel
theorem dS_fewestShut_60 : decode mS_fewestShut.2.1 60 = .ok (.getfield 44, 3) := by decide +kernel
theorem dS_fewestShut_63 : decode mS_fewestShut.2.1 63 = .ok (.istore 4, 2) := by decide +kernel
theorem dS_fewestShut_65 : decode mS_fewestShut.2.1 65 = .ok (.iload_n 2, 1) := by decide +kernel
theorem dS_fewestShut_66 : decode mS_fewestShut.2.1 66 = .ok (.istore 5, 2) := by decide +kernel
theorem dS_fewestShut_68 : decode mS_fewestShut.2.1 68 = .ok (.iload 5, 2) := by decide +kernel
theorem dS_fewestShut_70 : decode mS_fewestShut.2.1 70 = .ok (.iload 4, 2) := by decide +kernel
theorem dS_fewestShut_72 : decode mS_fewestShut.2.1 72 = .ok (.if_icmp .ge 16, 3) := by decide +kernel
theorem dS_fewestShut_75 : decode mS_fewestShut.2.1 75 = .ok (.aload_n 0, 1) := by decide +kernel
theorem dS_fewestShut_76 : decode mS_fewestShut.2.1 76 = .ok (.iload 5, 2) := by decide +kernel
theorem dS_fewestShut_78 : decode mS_fewestShut.2.1 78 = .ok (.iconst 2, 1) := by decide +kernel
theorem dS_fewestShut_79 : decode mS_fewestShut.2.1 79 = .ok (.invokevirtual 72, 3) := by decide +kernel
theorem dS_fewestShut_82 : decode mS_fewestShut.2.1 82 = .ok (.iinc 5 1, 3) := by decide +kernel
theorem dS_fewestShut_85 : decode mS_fewestShut.2.1 85 = .ok (.goto (-17), 3) := by decide +kernel
theorem dS_fewestShut_88 : decode mS_fewestShut.2.1 88 = .ok (.aload_n 0, 1) := by decide +kernel
theorem dS_fewestShut_89 : decode mS_fewestShut.2.1 89 = .ok (.getfield 44, 3) := by decide +kernel
theorem dS_fewestShut_92 : decode mS_fewestShut.2.1 92 = .ok (.iload 4, 2) := by decide +kernel
theorem dS_fewestShut_94 : decode mS_fewestShut.2.1 94 = .ok (.if_icmp .ne 6, 3) := by decide +kernel
theorem dS_fewestShut_97 : decode mS_fewestShut.2.1 97 = .ok (.bipush (-2), 2) := by decide +kernel
theorem dS_fewestShut_99 : decode mS_fewestShut.2.1 99 = .ok (.ireturn, 1) := by decide +kernel
theorem dS_fewestShut_100 : decode mS_fewestShut.2.1 100 = .ok (.iload 4, 2) := by decide +kernel
theorem dS_fewestShut_102 : decode mS_fewestShut.2.1 102 = .ok (.istore_n 2, 1) := by decide +kernel
theorem dS_fewestShut_103 : decode mS_fewestShut.2.1 103 = .ok (.iinc 3 1, 3) := by decide +kernel
theorem dS_fewestShut_106 : decode mS_fewestShut.2.1 106 = .ok (.goto (-102), 3) := by decide +kernel
theorem dS_fewestShut_109 : decode mS_fewestShut.2.1 109 = .ok (.bipush (-2), 2) := by decide +kernel
theorem dS_fewestShut_111 : decode mS_fewestShut.2.1 111 = .ok (.ireturn, 1) := by decide +kernel
theorem dS_begin_0 : decode mS_begin.2.1 0 = .ok (.aload_n 0, 1) := by decide +kernel
theorem dS_begin_1 : decode mS_begin.2.1 1 = .ok (.getfield 12, 3) := by decide +kernel
theorem dS_begin_4 : decode mS_begin.2.1 4 = .ok (.aload_n 1, 1) := by decide +kernel
theorem dS_begin_5 : decode mS_begin.2.1 5 = .ok (.invokevirtual 26, 3) := by decide +kernel
theorem dS_begin_8 : decode mS_begin.2.1 8 = .ok (.aload_n 0, 1) := by decide +kernel
theorem dS_begin_9 : decode mS_begin.2.1 9 = .ok (.getfield 12, 3) := by decide +kernel
theorem dS_begin_12 : decode mS_begin.2.1 12 = .ok (.iload_n 2, 1) := by decide +kernel
theorem dS_begin_13 : decode mS_begin.2.1 13 = .ok (.invokevirtual 30, 3) := by decide +kernel
theorem dS_begin_16 : decode mS_begin.2.1 16 = .ok (.aload_n 0, 1) := by decide +kernel
theorem dS_begin_17 : decode mS_begin.2.1 17 = .ok (.aload_n 0, 1) := by decide +kernel
theorem dS_begin_18 : decode mS_begin.2.1 18 = .ok (.getfield 12, 3) := by decide +kernel
theorem dS_begin_21 : decode mS_begin.2.1 21 = .ok (.getfield 34, 3) := by decide +kernel
theorem dS_begin_24 : decode mS_begin.2.1 24 = .ok (.invokevirtual 38, 3) := by decide +kernel
theorem dS_begin_27 : decode mS_begin.2.1 27 = .ok (.aload_n 0, 1) := by decide +kernel
theorem dS_begin_28 : decode mS_begin.2.1 28 = .ok (.iconst 0, 1) := by decide +kernel
theorem dS_begin_29 : decode mS_begin.2.1 29 = .ok (.putfield 41, 3) := by decide +kernel
theorem dS_begin_32 : decode mS_begin.2.1 32 = .ok (.aload_n 0, 1) := by decide +kernel
theorem dS_begin_33 : decode mS_begin.2.1 33 = .ok (.iconst 0, 1) := by decide +kernel
theorem dS_begin_34 : decode mS_begin.2.1 34 = .ok (.putfield 44, 3) := by decide +kernel
theorem dS_begin_37 : decode mS_begin.2.1 37 = .ok (.aload_n 0, 1) := by decide +kernel
theorem dS_begin_38 : decode mS_begin.2.1 38 = .ok (.iconst 0, 1) := by decide +kernel
theorem dS_begin_39 : decode mS_begin.2.1 39 = .ok (.putfield 47, 3) := by decide +kernel
theorem dS_begin_42 : decode mS_begin.2.1 42 = .ok (.aload_n 0, 1) := by decide +kernel
theorem dS_begin_43 : decode mS_begin.2.1 43 = .ok (.iconst 0, 1) := by decide +kernel
theorem dS_begin_44 : decode mS_begin.2.1 44 = .ok (.putfield 50, 3) := by decide +kernel
theorem dS_begin_47 : decode mS_begin.2.1 47 = .ok (.aload_n 0, 1) := by decide +kernel
theorem dS_begin_48 : decode mS_begin.2.1 48 = .ok (.aload_n 0, 1) := by decide +kernel
theorem dS_begin_49 : decode mS_begin.2.1 49 = .ok (.getfield 12, 3) := by decide +kernel
theorem dS_begin_52 : decode mS_begin.2.1 52 = .ok (.invokevirtual 53, 3) := by decide +kernel
theorem dS_begin_55 : decode mS_begin.2.1 55 = .ok (.iconst 0, 1) := by decide +kernel
theorem dS_begin_56 : decode mS_begin.2.1 56 = .ok (.invokevirtual 57, 3) := by decide +kernel
theorem dS_begin_59 : decode mS_begin.2.1 59 = .ok (.return_, 1) := by decide +kernel
theorem dS_makeRoom_0 : decode mS_makeRoom.2.1 0 = .ok (.aload_n 0, 1) := by decide +kernel
theorem dS_makeRoom_1 : decode mS_makeRoom.2.1 1 = .ok (.getfield 18, 3) := by decide +kernel
theorem dS_makeRoom_4 : decode mS_makeRoom.2.1 4 = .ok (.arraylength, 1) := by decide +kernel
theorem dS_makeRoom_5 : decode mS_makeRoom.2.1 5 = .ok (.iload_n 1, 1) := by decide +kernel
theorem dS_makeRoom_6 : decode mS_makeRoom.2.1 6 = .ok (.if_icmp .ge 25, 3) := by decide +kernel
theorem dS_makeRoom_9 : decode mS_makeRoom.2.1 9 = .ok (.aload_n 0, 1) := by decide +kernel
theorem dS_makeRoom_10 : decode mS_makeRoom.2.1 10 = .ok (.iload_n 1, 1) := by decide +kernel
theorem dS_makeRoom_11 : decode mS_makeRoom.2.1 11 = .ok (.newarray .int, 2) := by decide +kernel
theorem dS_makeRoom_13 : decode mS_makeRoom.2.1 13 = .ok (.putfield 18, 3) := by decide +kernel
theorem dS_makeRoom_16 : decode mS_makeRoom.2.1 16 = .ok (.aload_n 0, 1) := by decide +kernel
theorem dS_makeRoom_17 : decode mS_makeRoom.2.1 17 = .ok (.iload_n 1, 1) := by decide +kernel
theorem dS_makeRoom_18 : decode mS_makeRoom.2.1 18 = .ok (.bipush 64, 2) := by decide +kernel
theorem dS_makeRoom_20 : decode mS_makeRoom.2.1 20 = .ok (.idiv, 1) := by decide +kernel
theorem dS_makeRoom_21 : decode mS_makeRoom.2.1 21 = .ok (.iconst 1, 1) := by decide +kernel
theorem dS_makeRoom_22 : decode mS_makeRoom.2.1 22 = .ok (.iadd, 1) := by decide +kernel
theorem dS_makeRoom_23 : decode mS_makeRoom.2.1 23 = .ok (.newarray .long, 2) := by decide +kernel
theorem dS_makeRoom_25 : decode mS_makeRoom.2.1 25 = .ok (.putfield 22, 3) := by decide +kernel
theorem dS_makeRoom_28 : decode mS_makeRoom.2.1 28 = .ok (.goto 11, 3) := by decide +kernel
theorem dS_makeRoom_31 : decode mS_makeRoom.2.1 31 = .ok (.aload_n 0, 1) := by decide +kernel
theorem dS_makeRoom_32 : decode mS_makeRoom.2.1 32 = .ok (.getfield 22, 3) := by decide +kernel
theorem dS_makeRoom_35 : decode mS_makeRoom.2.1 35 = .ok (.lconst 0, 1) := by decide +kernel
theorem dS_makeRoom_36 : decode mS_makeRoom.2.1 36 = .ok (.invokestatic 61, 3) := by decide +kernel
theorem dS_makeRoom_39 : decode mS_makeRoom.2.1 39 = .ok (.return_, 1) := by decide +kernel
theorem dS_rank_0 : decode mS_rank.2.1 0 = .ok (.iconst 0, 1) := by decide +kernel
theorem dS_rank_1 : decode mS_rank.2.1 1 = .ok (.istore_n 2, 1) := by decide +kernel
theorem dS_rank_2 : decode mS_rank.2.1 2 = .ok (.iconst 0, 1) := by decide +kernel
theorem dS_rank_3 : decode mS_rank.2.1 3 = .ok (.istore_n 3, 1) := by decide +kernel
theorem dS_rank_4 : decode mS_rank.2.1 4 = .ok (.iload_n 3, 1) := by decide +kernel
theorem dS_rank_5 : decode mS_rank.2.1 5 = .ok (.aload_n 1, 1) := by decide +kernel
theorem dS_rank_6 : decode mS_rank.2.1 6 = .ok (.arraylength, 1) := by decide +kernel
theorem dS_rank_7 : decode mS_rank.2.1 7 = .ok (.if_icmp .ge 34, 3) := by decide +kernel
theorem dS_rank_10 : decode mS_rank.2.1 10 = .ok (.iload_n 3, 1) := by decide +kernel
theorem dS_rank_11 : decode mS_rank.2.1 11 = .ok (.aload_n 0, 1) := by decide +kernel
theorem dS_rank_12 : decode mS_rank.2.1 12 = .ok (.getfield 22, 3) := by decide +kernel
theorem dS_rank_15 : decode mS_rank.2.1 15 = .ok (.arraylength, 1) := by decide +kernel
theorem dS_rank_16 : decode mS_rank.2.1 16 = .ok (.if_icmp .ge 25, 3) := by decide +kernel
theorem dS_rank_19 : decode mS_rank.2.1 19 = .ok (.aload_n 1, 1) := by decide +kernel
theorem dS_rank_20 : decode mS_rank.2.1 20 = .ok (.iload_n 3, 1) := by decide +kernel
theorem dS_rank_21 : decode mS_rank.2.1 21 = .ok (.iload_n 2, 1) := by decide +kernel
theorem dS_rank_22 : decode mS_rank.2.1 22 = .ok (.iastore, 1) := by decide +kernel
theorem dS_rank_23 : decode mS_rank.2.1 23 = .ok (.iload_n 2, 1) := by decide +kernel
theorem dS_rank_24 : decode mS_rank.2.1 24 = .ok (.aload_n 0, 1) := by decide +kernel
theorem dS_rank_25 : decode mS_rank.2.1 25 = .ok (.getfield 22, 3) := by decide +kernel
theorem dS_rank_28 : decode mS_rank.2.1 28 = .ok (.iload_n 3, 1) := by decide +kernel
theorem dS_rank_29 : decode mS_rank.2.1 29 = .ok (.laload, 1) := by decide +kernel
theorem dS_rank_30 : decode mS_rank.2.1 30 = .ok (.invokestatic 132, 3) := by decide +kernel
theorem dS_rank_33 : decode mS_rank.2.1 33 = .ok (.iadd, 1) := by decide +kernel
theorem dS_rank_34 : decode mS_rank.2.1 34 = .ok (.istore_n 2, 1) := by decide +kernel
theorem dS_rank_35 : decode mS_rank.2.1 35 = .ok (.iinc 3 1, 3) := by decide +kernel
theorem dS_rank_38 : decode mS_rank.2.1 38 = .ok (.goto (-34), 3) := by decide +kernel
theorem dS_rank_41 : decode mS_rank.2.1 41 = .ok (.return_, 1) := by decide +kernel
theorem dS_markWords_0 : decode mS_markWords.2.1 0 = .ok (.aload_n 0, 1) := by decide +kernel
theorem dS_markWords_1 : decode mS_markWords.2.1 1 = .ok (.getfield 22, 3) := by decide +kernel
theorem dS_markWords_4 : decode mS_markWords.2.1 4 = .ok (.arraylength, 1) := by decide +kernel
theorem dS_markWords_5 : decode mS_markWords.2.1 5 = .ok (.ireturn, 1) := by decide +kernel
theorem dS_rankOf_0 : decode mS_rankOf.2.1 0 = .ok (.iload_n 1, 1) := by decide +kernel
theorem dS_rankOf_1 : decode mS_rankOf.2.1 1 = .ok (.bipush 6, 2) := by decide +kernel
theorem dS_rankOf_3 : decode mS_rankOf.2.1 3 = .ok (.ishr, 1) := by decide +kernel
theorem dS_rankOf_4 : decode mS_rankOf.2.1 4 = .ok (.istore_n 3, 1) := by decide +kernel
theorem dS_rankOf_5 : decode mS_rankOf.2.1 5 = .ok (.iload_n 3, 1) := by decide +kernel
theorem dS_rankOf_6 : decode mS_rankOf.2.1 6 = .ok (.ifCond .lt 18, 3) := by decide +kernel
theorem dS_rankOf_9 : decode mS_rankOf.2.1 9 = .ok (.iload_n 3, 1) := by decide +kernel
theorem dS_rankOf_10 : decode mS_rankOf.2.1 10 = .ok (.aload_n 2, 1) := by decide +kernel
theorem dS_rankOf_11 : decode mS_rankOf.2.1 11 = .ok (.arraylength, 1) := by decide +kernel
theorem dS_rankOf_12 : decode mS_rankOf.2.1 12 = .ok (.if_icmp .ge 12, 3) := by decide +kernel
theorem dS_rankOf_15 : decode mS_rankOf.2.1 15 = .ok (.iload_n 3, 1) := by decide +kernel
theorem dS_rankOf_16 : decode mS_rankOf.2.1 16 = .ok (.aload_n 0, 1) := by decide +kernel
theorem dS_rankOf_17 : decode mS_rankOf.2.1 17 = .ok (.getfield 22, 3) := by decide +kernel
theorem dS_rankOf_20 : decode mS_rankOf.2.1 20 = .ok (.arraylength, 1) := by decide +kernel
theorem dS_rankOf_21 : decode mS_rankOf.2.1 21 = .ok (.if_icmp .lt 5, 3) := by decide +kernel
theorem dS_rankOf_24 : decode mS_rankOf.2.1 24 = .ok (.iconst 0, 1) := by decide +kernel
theorem dS_rankOf_25 : decode mS_rankOf.2.1 25 = .ok (.ireturn, 1) := by decide +kernel
theorem dS_rankOf_26 : decode mS_rankOf.2.1 26 = .ok (.lconst 1, 1) := by decide +kernel
theorem dS_rankOf_27 : decode mS_rankOf.2.1 27 = .ok (.iload_n 1, 1) := by decide +kernel
theorem dS_rankOf_28 : decode mS_rankOf.2.1 28 = .ok (.bipush 63, 2) := by decide +kernel
theorem dS_rankOf_30 : decode mS_rankOf.2.1 30 = .ok (.iand, 1) := by decide +kernel
theorem dS_rankOf_31 : decode mS_rankOf.2.1 31 = .ok (.lshl, 1) := by decide +kernel
theorem dS_rankOf_32 : decode mS_rankOf.2.1 32 = .ok (.lconst 1, 1) := by decide +kernel
theorem dS_rankOf_33 : decode mS_rankOf.2.1 33 = .ok (.lsub, 1) := by decide +kernel
theorem dS_rankOf_34 : decode mS_rankOf.2.1 34 = .ok (.lstore 4, 2) := by decide +kernel
theorem dS_rankOf_36 : decode mS_rankOf.2.1 36 = .ok (.aload_n 2, 1) := by decide +kernel
theorem dS_rankOf_37 : decode mS_rankOf.2.1 37 = .ok (.iload_n 3, 1) := by decide +kernel
theorem dS_rankOf_38 : decode mS_rankOf.2.1 38 = .ok (.iaload, 1) := by decide +kernel
theorem dS_rankOf_39 : decode mS_rankOf.2.1 39 = .ok (.aload_n 0, 1) := by decide +kernel
theorem dS_rankOf_40 : decode mS_rankOf.2.1 40 = .ok (.getfield 22, 3) := by decide +kernel
theorem dS_rankOf_43 : decode mS_rankOf.2.1 43 = .ok (.iload_n 3, 1) := by decide +kernel
theorem dS_rankOf_44 : decode mS_rankOf.2.1 44 = .ok (.laload, 1) := by decide +kernel
theorem dS_rankOf_45 : decode mS_rankOf.2.1 45 = .ok (.lload 4, 2) := by decide +kernel
theorem dS_rankOf_47 : decode mS_rankOf.2.1 47 = .ok (.land, 1) := by decide +kernel
theorem dS_rankOf_48 : decode mS_rankOf.2.1 48 = .ok (.invokestatic 132, 3) := by decide +kernel
theorem dS_rankOf_51 : decode mS_rankOf.2.1 51 = .ok (.iadd, 1) := by decide +kernel
theorem dS_rankOf_52 : decode mS_rankOf.2.1 52 = .ok (.ireturn, 1) := by decide +kernel
/-- a 32 bit number as an int holds it -/
noncomputable def s32 (m : Nat) : Int := Classical.choose (⟨_, rfl⟩ : ∃ w : Int, w = (nI m).toInt)
theorem s32_eq (m : Nat) : s32 m = (nI m).toInt := Classical.choose_spec (⟨_, rfl⟩ : ∃ w : Int, w = (nI m).toInt)
theorem s32_of (m : Nat) : Int32.ofInt (s32 m) = nI m := by rw [s32_eq]; exact Int32.ofInt_toInt _
theorem s32_small {m : Nat} (h : m < 2147483648) : s32 m = m := by rw [s32_eq]; exact nI_toInt h
theorem s32_or (a b : Nat) : zor (s32 a) (s32 b) = s32 (a ||| b) := by rw [zor_eq, s32_of, s32_of, fa_or, s32_eq]
theorem s32_shl {x s : Nat} (hs : s < 32) (h : x * 2 ^ s < 4294967296) : zshl x s = s32 (x * 2 ^ s) := by
  rw [zshl_eq, ofN, ofN, pk_shlN _ s (sh_amt s hs) (by omega), s32_eq]
theorem s32_lo {m : Nat} (h : m < 4294967296) : zand (s32 m) 65535 = (m % 65536 : Nat) := by
  rw [zand_eq, s32_of, show (65535 : Int) = ((65535 : Nat) : Int) from rfl, ofN, pk_andN (by omega) 16 (by rw [pk_tn (by decide)]), nI_toInt (by omega)]
theorem s32_hi {m : Nat} (h : m < 4294967296) : zushr (s32 m) 16 = (m / 65536 : Nat) := by
  rw [zushr_eq, s32_of, show (16 : Int) = ((16 : Nat) : Int) from rfl, ofN, pk_ushrN (by omega) _ 16 (by decide +kernel), nI_toInt (by omega)]
-- a search's queue: numbers, and whence each came
def addL (L : List (Nat × Nat)) (n f : Nat) : List (Nat × Nat) := if n ∈ L.map Prod.fst then L else L ++ [(n, f)]
def metL (c : Cfg) (L : List (Nat × Nat)) : Nat := L.foldl (fun m q => m ||| 2 ^ (q.1 % wB c (pN c))) 0
theorem metL_add (c : Cfg) (L : List (Nat × Nat)) (q : Nat × Nat) : metL c (L ++ [q]) = metL c L ||| 2 ^ (q.1 % wB c (pN c)) := by
  unfold metL
  rw [List.foldl_append]
  rfl
theorem wB_p25 {c : Cfg} (hc : okC c) : wB c (pN c) ≤ 25 := by
  have h1 : wB c (pN c) ≤ 5 ^ pN c := Nat.pow_le_pow_left (Bs_le hc) _
  have h2 : 5 ^ pN c ≤ 5 ^ 2 := Nat.pow_le_pow_right (by decide) hc.2.1
  omega
theorem metL_lt {c : Cfg} (hc : okC c) (L : List (Nat × Nat)) : metL c L < 2 ^ 25 := by
  have h25 := wB_p25 hc
  have key : ∀ (L : List (Nat × Nat)) (m : Nat), m < 2 ^ 25 → L.foldl (fun m q => m ||| 2 ^ (q.1 % wB c (pN c))) m < 2 ^ 25 := by
    intro L
    induction L with
    | nil => intro m h; exact h
    | cons q L ih =>
      intro m h
      refine ih _ (Nat.or_lt_two_pow h (Nat.pow_lt_pow_right (by decide) ?_))
      have := Nat.mod_lt q.1 (wB_pos c (pN c))
      omega
  exact key L 0 (by decide)
/-- the shape of a Search at s, its queue qn of length Q, its marks kn of length M -/
def sS0 (σ : Shp) (s qn kn Q M : Nat) : Prop := sO σ s 5 ∧ sP σ s 0 = s + 1 ∧ hS σ (s + 1) ∧ sP σ s 5 = qn ∧ sP σ s 6 = kn ∧ sA σ qn 11 Q ∧ sA σ kn 12 M ∧ qn ≠ kn ∧ (qn < s ∨ s + 6 < qn) ∧ (kn < s ∨ s + 6 < kn) ∧ Q ≤ 62500
abbrev sS (σ : Shp) (s qn kn Q : Nat) : Prop := sS0 σ s qn kn Q (Q / 64 + 1)
section SS0
variable {σ : Shp} {s qn kn Q M : Nat}
theorem sS0.o (h : sS0 σ s qn kn Q M) : sO σ s 5 := h.1
theorem sS0.p0 (h : sS0 σ s qn kn Q M) : sP σ s 0 = s + 1 := h.2.1
theorem sS0.h (h : sS0 σ s qn kn Q M) : hS σ (s + 1) := h.2.2.1
theorem sS0.ho (h : sS0 σ s qn kn Q M) : sO σ (s + 1) 2 := h.2.2.1.o
theorem sS0.p5 (h : sS0 σ s qn kn Q M) : sP σ s 5 = qn := h.2.2.2.1
theorem sS0.p6 (h : sS0 σ s qn kn Q M) : sP σ s 6 = kn := h.2.2.2.2.1
theorem sS0.q (h : sS0 σ s qn kn Q M) : sA σ qn 11 Q := h.2.2.2.2.2.1
theorem sS0.k (h : sS0 σ s qn kn Q M) : sA σ kn 12 M := h.2.2.2.2.2.2.1
theorem sS0.qk (h : sS0 σ s qn kn Q M) : qn ≠ kn := h.2.2.2.2.2.2.2.1
theorem sS0.qs (h : sS0 σ s qn kn Q M) : qn < s ∨ s + 6 < qn := h.2.2.2.2.2.2.2.2.1
theorem sS0.ks (h : sS0 σ s qn kn Q M) : kn < s ∨ s + 6 < kn := h.2.2.2.2.2.2.2.2.2.1
theorem sS0.le (h : sS0 σ s qn kn Q M) : Q ≤ 62500 := h.2.2.2.2.2.2.2.2.2.2
end SS0
/-- marks: which numbers are met -/
def mkR (V : Nat → Nat → Int) (kn M : Nat) (P : Nat → Prop) [DecidablePred P] : Prop := ∃ mk : Nat → Nat, (∀ w, w < M → V kn w = sg (mk w) ∧ mk w < 18446744073709551616) ∧ ∀ x, x < 64 * M → (mk (x / 64)).testBit (x % 64) = decide (P x)
def SV (V : Nat → Nat → Int) (s qn kn Q : Nat) (c : Cfg) (L : List (Nat × Nat)) : Prop :=
  V s 1 = L.length ∧ V s 2 = metL c L ∧ (∀ i q, L[i]? = some q → V qn i = s32 (q.2 * 65536 + q.1)) ∧ mkR V kn (Q / 64 + 1) (fun x => x ∈ L.map Prod.fst) ∧ (L.map Prod.fst).Nodup ∧ (∀ q ∈ L, q.1 < spc c ∧ q.2 < 65536) ∧ spc c ≤ Q
def addF (V V' : Nat → Nat → Int) (s qn kn : Nat) : Prop := (∀ b, b ≠ s → b ≠ qn → b ≠ kn → V' b = V b) ∧ ∀ j, j ≠ 1 → j ≠ 2 → V' s j = V s j
theorem addF.rf (V : Nat → Nat → Int) (s qn kn : Nat) : addF V V s qn kn := ⟨fun _ _ _ _ => rfl, fun _ _ _ => rfl⟩
theorem addF.tr {V V1 V2 : Nat → Nat → Int} {s qn kn : Nat} (h : addF V V1 s qn kn) (g : addF V1 V2 s qn kn) : addF V V2 s qn kn := ⟨fun b h1 h2 h3 => (g.1 b h1 h2 h3).trans (h.1 b h1 h2 h3), fun j h1 h2 => (g.2 j h1 h2).trans (h.2 j h1 h2)⟩
theorem nodup_le : ∀ (n : Nat) (l : List Nat), l.Nodup → (∀ x ∈ l, x < n) → l.length ≤ n
  | 0, l, _, h => by
    cases l with
    | nil => exact Nat.le_refl _
    | cons a l => exact absurd (h a List.mem_cons_self) (by omega)
  | n + 1, l, hn, h => by
    have h1 := nodup_le n (l.filter (fun x => decide (x ≠ n))) (hn.filter _) (fun x hx => by
      have := List.mem_filter.mp hx
      have h2 := h x this.1
      have h3 : x ≠ n := by simpa using this.2
      omega)
    have h4 : l.length ≤ (l.filter (fun x => decide (x ≠ n))).length + 1 := by
      have h5 : (l.filter (fun x => decide (x = n))).length ≤ 1 := by
        have h6 : (l.filter (fun x => decide (x = n))).Nodup := hn.filter _
        match hl : l.filter (fun x => decide (x = n)), h6 with
        | [], _ => simp
        | [a], _ => simp
        | a :: b :: t, h6 =>
          have ha : a ∈ l.filter (fun x => decide (x = n)) := by rw [hl]; simp
          have hb : b ∈ l.filter (fun x => decide (x = n)) := by rw [hl]; simp
          have ea : a = n := by simpa using (List.mem_filter.mp ha).2
          have eb : b = n := by simpa using (List.mem_filter.mp hb).2
          rw [ea, eb] at h6
          simp at h6
      have h7 : ∀ l : List Nat, l.length = (l.filter (fun x => decide (x = n))).length + (l.filter (fun x => decide (x ≠ n))).length := by
        intro l
        induction l with
        | nil => rfl
        | cons a l ih =>
          by_cases ha : a = n
          · simp [ha] at ih ⊢; omega
          · simp [ha] at ih ⊢; omega
      have h8 := h7 l
      omega
    omega
theorem addL_in {L : List (Nat × Nat)} {n f : Nat} (h : n ∈ L.map Prod.fst) : addL L n f = L := by unfold addL; rw [if_pos h]
theorem addL_out {L : List (Nat × Nat)} {n f : Nat} (h : n ∉ L.map Prod.fst) : addL L n f = L ++ [(n, f)] := by unfold addL; rw [if_neg h]
theorem SV.room {V : Nat → Nat → Int} {s qn kn Q : Nat} {c : Cfg} {L : List (Nat × Nat)} (h : SV V s qn kn Q c L) {n : Nat} (hn : n < spc c) (hx : n ∉ L.map Prod.fst) : L.length < spc c := by
  have h1 := nodup_le (spc c) (n :: L.map Prod.fst) (List.nodup_cons.mpr ⟨hx, h.2.2.2.2.1⟩) (fun x hx => by
    rcases List.mem_cons.mp hx with rfl | hx
    · exact hn
    · obtain ⟨q, hq, rfl⟩ := List.mem_map.mp hx
      exact (h.2.2.2.2.2.1 q hq).1)
  simp at h1
  omega
theorem SV.len {V : Nat → Nat → Int} {s qn kn Q : Nat} {c : Cfg} {L : List (Nat × Nat)} (h : SV V s qn kn Q c L) : L.length ≤ spc c := by
  have h1 := nodup_le (spc c) (L.map Prod.fst) h.2.2.2.2.1 (fun x hx => by
    obtain ⟨q, hq, rfl⟩ := List.mem_map.mp hx
    exact (h.2.2.2.2.2.1 q hq).1)
  simpa using h1
section Search1
variable {G : GE} {V : Nat → Nat → Int} {σ : Shp} {s qn kn Q : Nat} {K : Option AV → Mem → Prop} {c : Cfg} {L : List (Nat × Nat)}
theorem wS_arrangementAt {x : Int} {i : Nat} {q : Nat × Nat} (hx : x = i) (hq : L[i]? = some q) (hs : sS σ s qn kn Q) (hV : SV V s qn kn Q c L) (hK : K (some (vI q.1)) (V, σ)) : Wp G 0 mS_arrangementAt [vR s, vI x] (V, σ) 0 0 K := by
  have hl := hV.len
  obtain ⟨v1, -, vq, -, -, vb, vs⟩ := hV
  have hi : i < L.length := (List.getElem?_eq_some_iff.mp hq).1
  have hb := vb q (List.mem_of_getElem? hq)
  have hQ := hs.le
  refine wp_intro mS_arrangementAt_i.1 [some (vR s), some (vI x)] rfl rfl (Nat.le_of_ble_eq_true rfl) ?_
  intro X hG F C
  have hm := C.rm
  refine aw_iload_1 (q := 1) F dS_arrangementAt_0 rfl ?_
  refine aw_if_lt (q := 4) (t := 24) F dS_arrangementAt_1 rfl (by decide) (fun c1 => by omega) (fun c1 => ?_)
  refine aw_iload_1 (q := 5) F dS_arrangementAt_4 rfl ?_
  refine aw_aload_0 (q := 6) F dS_arrangementAt_5 rfl ?_
  refine av_geti (q := 9) F fS_44 dS_arrangementAt_6 rfl rfl (by first | exact hs.o | exact hs.ho | exact hs.q | exact hs.k) ?_
  refine aw_icmp_ge (q := 12) (t := 24) F dS_arrangementAt_9 rfl (by decide) (fun c9 => by omega) (fun c9 => ?_)
  refine aw_aload_0 (q := 13) F dS_arrangementAt_12 rfl ?_
  refine av_getaE (q := 16) F fS_18 dS_arrangementAt_13 rfl rfl (by first | exact hs.o | exact hs.ho | exact hs.q | exact hs.k) hs.p5 ?_
  refine aw_iload_1 (q := 17) F dS_arrangementAt_16 rfl ?_
  refine av_iaload (q := 18) F dS_arrangementAt_17 rfl (by first | exact hs.o | exact hs.ho | exact hs.q | exact hs.k) (by omega) (by omega) ?_
  refine aw_ldc (q := 20) (z := 65535) F dS_arrangementAt_18 rfl kS_71 (by decide) ?_
  rw [show x.toNat = i by omega, vq i q hq]
  refine aw_iand (q := 21) F dS_arrangementAt_20 rfl ?_
  rw [s32_lo (by omega)]
  refine aw_goto (t := 25) F dS_arrangementAt_21 (by decide) ?_
  refine aw_iret F C dS_arrangementAt_25 rfl (Nat.le_refl _) (Nat.le_refl _) ?_
  refine kI hK ?_; omega
theorem wS_cameFrom {x : Int} {i : Nat} {q : Nat × Nat} (hx : x = i) (hq : L[i]? = some q) (hs : sS σ s qn kn Q) (hV : SV V s qn kn Q c L) (hK : K (some (vI q.2)) (V, σ)) : Wp G 0 mS_cameFrom [vR s, vI x] (V, σ) 0 0 K := by
  have hl := hV.len
  obtain ⟨v1, -, vq, -, -, vb, vs⟩ := hV
  have hi : i < L.length := (List.getElem?_eq_some_iff.mp hq).1
  have hb := vb q (List.mem_of_getElem? hq)
  have hQ := hs.le
  refine wp_intro mS_cameFrom_i.1 [some (vR s), some (vI x)] rfl rfl (Nat.le_of_ble_eq_true rfl) ?_
  intro X hG F C
  have hm := C.rm
  refine aw_iload_1 (q := 1) F dS_cameFrom_0 rfl ?_
  refine aw_if_lt (q := 4) (t := 24) F dS_cameFrom_1 rfl (by decide) (fun c1 => by omega) (fun c1 => ?_)
  refine aw_iload_1 (q := 5) F dS_cameFrom_4 rfl ?_
  refine aw_aload_0 (q := 6) F dS_cameFrom_5 rfl ?_
  refine av_geti (q := 9) F fS_44 dS_cameFrom_6 rfl rfl (by first | exact hs.o | exact hs.ho | exact hs.q | exact hs.k) ?_
  refine aw_icmp_ge (q := 12) (t := 24) F dS_cameFrom_9 rfl (by decide) (fun c9 => by omega) (fun c9 => ?_)
  refine aw_aload_0 (q := 13) F dS_cameFrom_12 rfl ?_
  refine av_getaE (q := 16) F fS_18 dS_cameFrom_13 rfl rfl (by first | exact hs.o | exact hs.ho | exact hs.q | exact hs.k) hs.p5 ?_
  refine aw_iload_1 (q := 17) F dS_cameFrom_16 rfl ?_
  refine av_iaload (q := 18) F dS_cameFrom_17 rfl (by first | exact hs.o | exact hs.ho | exact hs.q | exact hs.k) (by omega) (by omega) ?_
  refine aw_bipush (q := 20) F dS_cameFrom_18 rfl (by decide) ?_
  rw [show x.toNat = i by omega, vq i q hq]
  refine aw_iushr (q := 21) F dS_cameFrom_20 rfl ?_
  rw [s32_hi (by omega)]
  refine aw_goto (t := 25) F dS_cameFrom_21 (by decide) ?_
  refine aw_iret F C dS_cameFrom_25 rfl (Nat.le_refl _) (Nat.le_refl _) ?_
  refine kI hK ?_; omega
theorem wS_add {x y : Int} {n f m : Nat} (hx : x = n) (hy : y = f) (hn : n < spc c) (hf : f < 65536) (hs : sS σ s qn kn Q) (hH : HH V (s + 1) c m) (hV : SV V s qn kn Q c L) (hK : ∀ V', addF V V' s qn kn → SV V' s qn kn Q c (addL L n f) → K none (V', σ)) : Wp G 1 mS_add [vR s, vI x, vI y] (V, σ) 0 0 K := by
  have hVV := hV
  obtain ⟨v1, v2, vq, ⟨mk, mk1, mk2⟩, vn, vb, vs⟩ := hV
  have hc := hH.1
  have hQ := hs.le
  have hll := hVV.len
  have hsp := spc_le hc
  have h25 := wB_p25 hc
  have hml := metL_lt hc L
  have ew : zshr x 6 = (n / 64 : Nat) := by rw [hx, show (6 : Int) = ((6 : Nat) : Int) from rfl, zshr_i ⟨by omega, by omega⟩ (by decide)]; simp
  have ea : zand x 63 = (n % 64 : Nat) := by rw [hx, show (63 : Int) = ((63 : Nat) : Int) from rfl, zand_mask 6 (by decide) rfl]; simp
  have es : yshl 1 (n % 64 : Nat) = sg (2 ^ (n % 64)) := by rw [show (1 : Int) = sg 1 by rw [sg_small (by decide)]; rfl, yshl_s (by omega), Nat.one_mul]
  have hw : n / 64 < Q / 64 + 1 := by omega
  obtain ⟨m1, m2⟩ := mk1 (n / 64) hw
  have mt := mk2 n (by omega)
  have hp64 : 2 ^ (n % 64) ≤ 2 ^ 63 := Nat.pow_le_pow_right (by decide) (by omega)
  have eb : yand (V kn (n / 64)) (sg (2 ^ (n % 64))) = sg (mk (n / 64) &&& 2 ^ (n % 64)) := by rw [m1, yand_s]
  have ez : ycmp (sg (mk (n / 64) &&& 2 ^ (n % 64))) 0 = 0 ↔ n ∉ L.map Prod.fst := by
    have h1 : sg (mk (n / 64) &&& 2 ^ (n % 64)) = 0 ↔ mk (n / 64) &&& 2 ^ (n % 64) = 0 := ⟨fun h => sg_inj (Nat.lt_of_le_of_lt Nat.and_le_right (by omega)) (by decide) (h.trans sg_0.symm), fun h => by rw [h, sg_0]⟩
    have h2 : mk (n / 64) &&& 2 ^ (n % 64) = 0 ↔ (mk (n / 64)).testBit (n % 64) = false := by
      constructor
      · intro h
        have h3 : (mk (n / 64) &&& 2 ^ (n % 64)).testBit (n % 64) = false := by rw [h]; simp
        rw [Nat.testBit_and] at h3
        simpa using h3
      · intro h
        apply Nat.eq_of_testBit_eq
        intro i
        rw [Nat.testBit_and, Nat.zero_testBit]
        by_cases hi : n % 64 = i
        · rw [← hi, h]; rfl
        · rw [Nat.testBit_two_pow_of_ne hi, Bool.and_false]
    have h3 : ycmp (sg (mk (n / 64) &&& 2 ^ (n % 64))) 0 = 0 ↔ sg (mk (n / 64) &&& 2 ^ (n % 64)) = 0 := by
      unfold ycmp
      constructor
      · intro h; split at h
        · omega
        · split at h
          · assumption
          · omega
      · intro h; rw [h]; decide
    rw [h3, h1, h2, mt]
    simp
  have eq : zor (zshl y 16) x = s32 (f * 65536 + n) := by
    have g1 := Nat.two_pow_add_eq_or_of_lt (i := 16) (b := n) (by omega) f
    rw [hy, show (16 : Int) = ((16 : Nat) : Int) from rfl, s32_shl (by decide) (by omega), hx, ← s32_small (m := n) (by omega), s32_or]
    congr 1
    rw [Nat.mul_comm, ← g1]
  have hpm := Nat.mod_lt n (wB_pos c (pN c))
  have em : zor (metL c L) (zshl 1 (n % wB c (pN c) : Nat)) = (metL c (L ++ [(n, f)]) : Nat) := by
    have h1 := metL_lt hc (L ++ [(n, f)])
    rw [metL_add] at h1 ⊢
    simp only at h1 ⊢
    rw [shl1 (by omega) (by omega), Int.toNat_natCast, zor_n (by omega)]
  have hsq : s ≠ qn := by have := hs.qs; omega
  have hsk : s ≠ kn := by have := hs.ks; omega
  have hqk := hs.qk
  have hq1 : s + 1 ≠ qn := by have := hs.qs; omega
  have hk1 : s + 1 ≠ kn := by have := hs.ks; omega
  refine wp_intro mS_add_i.1 [some (vR s), some (vI x), some (vI y), none, none, none] rfl rfl (Nat.le_of_ble_eq_true rfl) ?_
  intro X hG F C
  have hm := C.rm
  refine aw_iload_1 (q := 1) F dS_add_0 rfl ?_
  refine aw_bipush (q := 3) F dS_add_1 rfl (by decide) ?_
  refine aw_ishr (q := 4) F dS_add_3 rfl ?_
  rw [ew]
  refine aw_istore_3 (q := 5) F dS_add_4 rfl trivial ?_
  refine aw_iload_3 (q := 6) F dS_add_5 rfl ?_
  refine aw_if_lt (q := 9) (t := 30) F dS_add_6 rfl (by decide) (fun c6 => by omega) (fun c6 => ?_)
  refine aw_iload_3 (q := 10) F dS_add_9 rfl ?_
  refine aw_aload_0 (q := 11) F dS_add_10 rfl ?_
  refine av_getaE (q := 14) F fS_22 dS_add_11 rfl rfl (by first | exact hs.o | exact hs.ho | exact hs.q | exact hs.k) hs.p6 ?_
  refine av_alen (q := 15) F dS_add_14 rfl (by first | exact hs.o | exact hs.ho | exact hs.q | exact hs.k) (by decide) (by omega) ?_
  refine aw_icmp_ge (q := 18) (t := 30) F dS_add_15 rfl (by decide) (fun c15 => by omega) (fun c15 => ?_)
  refine aw_aload_0 (q := 19) F dS_add_18 rfl ?_
  refine av_geti (q := 22) F fS_44 dS_add_19 rfl rfl (by first | exact hs.o | exact hs.ho | exact hs.q | exact hs.k) ?_
  refine aw_aload_0 (q := 23) F dS_add_22 rfl ?_
  refine av_getaE (q := 26) F fS_18 dS_add_23 rfl rfl (by first | exact hs.o | exact hs.ho | exact hs.q | exact hs.k) hs.p5 ?_
  refine av_alen (q := 27) F dS_add_26 rfl (by first | exact hs.o | exact hs.ho | exact hs.q | exact hs.k) (by decide) (by omega) ?_
  refine aw_icmp_lt (q := 30) (t := 31) F dS_add_27 rfl (by decide) (fun c27 => ?_) (fun c27 => ?_)
  · refine aw_lconst (q := 32) (z := 1) F dS_add_31 rfl rfl ?_
    refine aw_iload_1 (q := 33) F dS_add_32 rfl ?_
    refine aw_bipush (q := 35) F dS_add_33 rfl (by decide) ?_
    refine aw_iand (q := 36) F dS_add_35 rfl ?_
    rw [ea]
    refine aw_lshl (q := 37) F dS_add_36 rfl ?_
    rw [es]
    refine aw_lstore_4 (q := 39) F dS_add_37 rfl trivial ?_
    refine aw_aload_0 (q := 40) F dS_add_39 rfl ?_
    refine av_getaE (q := 43) F fS_22 dS_add_40 rfl rfl (by first | exact hs.o | exact hs.ho | exact hs.q | exact hs.k) hs.p6 ?_
    refine aw_iload_3 (q := 44) F dS_add_43 rfl ?_
    refine av_laload (q := 45) F dS_add_44 rfl (by first | exact hs.o | exact hs.ho | exact hs.q | exact hs.k) (by omega) (by omega) ?_
    refine aw_lload_4 (q := 47) F dS_add_45 rfl ?_
    rw [Int.toNat_natCast]
    refine aw_land (q := 48) F dS_add_47 rfl ?_
    rw [eb]
    refine aw_lconst (q := 49) (z := 0) F dS_add_48 rfl rfl ?_
    refine aw_lcmp (q := 50) F dS_add_49 rfl ?_
    refine aw_if_eq (q := 53) (t := 54) F dS_add_50 rfl (by decide) (fun c50 => ?_) (fun c50 => ?_)
    · refine aw_aload_0 (q := 55) F dS_add_54 rfl ?_
      refine av_getaE (q := 58) F fS_22 dS_add_55 rfl rfl (by first | exact hs.o | exact hs.ho | exact hs.q | exact hs.k) hs.p6 ?_
      refine aw_iload_3 (q := 59) F dS_add_58 rfl ?_
      refine aw_dup2 (q := 60) F dS_add_59 rfl trivial trivial ?_
      refine av_laload (q := 61) F dS_add_60 rfl (by first | exact hs.o | exact hs.ho | exact hs.q | exact hs.k) (by omega) (by omega) ?_
      refine aw_lload_4 (q := 63) F dS_add_61 rfl ?_
      rw [Int.toNat_natCast, m1]
      refine aw_lor (q := 64) F dS_add_63 rfl ?_
      rw [yor_s]
      refine av_lastore (q := 65) F dS_add_64 rfl (by first | exact hs.o | exact hs.ho | exact hs.q | exact hs.k) (by omega) (by omega) ?_
      rw [Int.toNat_natCast]
      refine aw_aload_0 (q := 66) F dS_add_65 rfl ?_
      refine av_getaE (q := 69) F fS_18 dS_add_66 rfl rfl (by first | exact hs.o | exact hs.ho | exact hs.q | exact hs.k) hs.p5 ?_
      refine aw_aload_0 (q := 70) F dS_add_69 rfl ?_
      refine av_geti (q := 73) F fS_44 dS_add_70 rfl rfl (by first | exact hs.o | exact hs.ho | exact hs.q | exact hs.k) ?_
      rw [up2_nea _ _ hsk, v1]
      refine aw_iload_2 (q := 74) F dS_add_73 rfl ?_
      refine aw_bipush (q := 76) F dS_add_74 rfl (by decide) ?_
      refine aw_ishl (q := 77) F dS_add_76 rfl ?_
      refine aw_iload_1 (q := 78) F dS_add_77 rfl ?_
      refine aw_ior (q := 79) F dS_add_78 rfl ?_
      rw [eq]
      refine av_iastore (q := 80) F dS_add_79 rfl (by first | exact hs.o | exact hs.ho | exact hs.q | exact hs.k) (by omega) (by omega) ?_
      rw [Int.toNat_natCast]
      refine aw_aload_0 (q := 81) F dS_add_80 rfl ?_
      refine aw_dup (q := 82) F dS_add_81 rfl trivial ?_
      refine av_geti (q := 85) F fS_44 dS_add_82 rfl rfl (by first | exact hs.o | exact hs.ho | exact hs.q | exact hs.k) ?_
      rw [up2_nea _ _ hsq, up2_nea _ _ hsk, v1]
      refine aw_iconst (q := 86) F dS_add_85 rfl (by decide) ?_
      refine aw_iadd (q := 87) F dS_add_86 rfl (by constructor <;> omega) ?_
      refine av_puti (q := 90) F fS_44 dS_add_87 rfl rfl (wr_5_1 _) (by first | exact hs.o | exact hs.ho | exact hs.q | exact hs.k) ?_
      refine aw_aload_0 (q := 91) F dS_add_90 rfl ?_
      refine aw_dup (q := 92) F dS_add_91 rfl trivial ?_
      refine av_geti (q := 95) F fS_47 dS_add_92 rfl rfl (by first | exact hs.o | exact hs.ho | exact hs.q | exact hs.k) ?_
      rw [up2_nek _ _ (show (2 : Nat) ≠ 1 by decide), up2_nea _ _ hsq, up2_nea _ _ hsk, v2]
      refine aw_iconst (q := 96) F dS_add_95 rfl (by decide) ?_
      refine aw_aload_0 (q := 97) F dS_add_96 rfl ?_
      refine av_getaE (q := 100) F fS_12 dS_add_97 rfl rfl (by first | exact hs.o | exact hs.ho | exact hs.q | exact hs.k) hs.p0 ?_
      refine aw_iload_1 (q := 101) F dS_add_100 rfl ?_
      have hHH : HH (up2 (up2 (up2 V kn (n / 64) (sg (mk (n / 64) ||| 2 ^ (n % 64)))) qn L.length (s32 (f * 65536 + n))) s 1 (↑L.length + 1)) (s + 1) c m := by
        have e : ∀ b, b ≠ s → b ≠ qn → b ≠ kn → (up2 (up2 (up2 V kn (n / 64) (sg (mk (n / 64) ||| 2 ^ (n % 64)))) qn L.length (s32 (f * 65536 + n))) s 1 (↑L.length + 1)) b = V b := fun b h1 h2 h3 => by rw [up2_nea _ _ h1, up2_nea _ _ h2, up2_nea _ _ h3]
        have q1 := hs.qs; have q2 := hs.ks
        unfold HH HW HA
        rw [e (s + 1) (by omega) (by omega) (by omega), e (s + 1 + 1) (by omega) (by omega) (by omega), e (s + 1 + 2) (by omega) (by omega) (by omega), e (s + 1 + 3) (by omega) (by omega) (by omega), e (s + 1 + 4) (by omega) (by omega) (by omega), e (s + 1 + 5) (by omega) (by omega) (by omega)]
        exact hH
      refine av_callV1 (q := 104) (ci := 2) F hm mH_placingOf_i mH_placingOf_n lS_67 dS_add_101 rfl rfl rfl (by exact hs.ho) (by decide) (Nat.le_refl _) (Nat.le_refl _) (Nat.le_of_ble_eq_true rfl) (wH_placingOf (c := c) (n := m) hx hs.h hHH ?_)
      refine aw_ishl (q := 105) F dS_add_104 rfl ?_
      refine aw_ior (q := 106) F dS_add_105 rfl ?_
      rw [em]
      refine av_puti (q := 109) F fS_47 dS_add_106 rfl rfl (wr_5_2 _) (by first | exact hs.o | exact hs.ho | exact hs.q | exact hs.k) ?_
      refine aw_vret F C dS_add_109 rfl (Nat.le_refl _) (Nat.le_refl _) ?_
      have hout : n ∉ L.map Prod.fst := ez.mp c50
      have hroom := hVV.room hn hout
      refine hK _ ⟨fun b h1 h2 h3 => by rw [up2_nea _ _ h1, up2_nea _ _ h1, up2_nea _ _ h2, up2_nea _ _ h3], fun j h1 h2 => by rw [up2_nek _ _ h2, up2_nek _ _ h1, up2_nea _ _ hsq, up2_nea _ _ hsk]⟩ ?_
      rw [addL_out hout]
      refine ⟨?_, ?_, fun i q hq => ?_, ⟨fun w => if w = n / 64 then mk w ||| 2 ^ (n % 64) else mk w, fun w hw => ?_, fun z hz => ?_⟩, ?_, fun q hq => ?_, vs⟩
      · rw [up2_nek _ _ (by decide), up2_same]; simp
      · rw [up2_same]
      · rw [up2_nea _ _ (Ne.symm hsq), up2_nea _ _ (Ne.symm hsq)]
        by_cases hi : i < L.length
        · rw [List.getElem?_append_left hi] at hq
          rw [up2_nek _ _ (by omega), up2_nea _ _ hqk]
          exact vq i q hq
        · have hi2 := (List.getElem?_eq_some_iff.mp hq).1
          simp at hi2
          have hi3 : i = L.length := by omega
          subst hi3
          simp at hq
          rw [up2_same, ← hq]
      · rw [up2_nea _ _ (Ne.symm hsk), up2_nea _ _ (Ne.symm hsk), up2_nea _ _ (Ne.symm hqk)]
        obtain ⟨w1, w2⟩ := mk1 w hw
        by_cases hwn : w = n / 64
        · simp only [if_pos hwn]; rw [hwn, up2_same]
          exact ⟨rfl, Nat.or_lt_two_pow (n := 64) (by omega) (by omega)⟩
        · simp only [if_neg hwn]; rw [up2_nek _ _ hwn]
          exact ⟨w1, w2⟩
      · have h1 := mk2 z hz
        have hmem : (z ∈ (L ++ [(n, f)]).map Prod.fst) ↔ (z ∈ L.map Prod.fst ∨ z = n) := by simp
        by_cases hwn : z / 64 = n / 64
        · simp only [if_pos hwn]
          rw [Nat.testBit_or, h1]
          by_cases hzn : z = n
          · rw [hzn]; simp
          · rw [Nat.testBit_two_pow_of_ne (by omega), Bool.or_false]
            simp only [decide_eq_decide, hmem]
            exact ⟨Or.inl, fun h => h.elim id (fun h => absurd h hzn)⟩
        · simp only [if_neg hwn]
          rw [h1]
          simp only [decide_eq_decide, hmem]
          exact ⟨Or.inl, fun h => h.elim id (fun h => absurd (by rw [h]) hwn)⟩
      · rw [List.map_append]
        simp only [List.map_cons, List.map_nil]
        exact List.nodup_append.mpr ⟨vn, by simp, fun a ha b hb => by simp at hb; rw [hb]; intro e; exact hout (e ▸ ha)⟩
      · rcases List.mem_append.mp hq with hq | hq
        · exact vb q hq
        · simp at hq
          rw [hq]
          exact ⟨hn, hf⟩
    · refine aw_vret F C dS_add_53 rfl (Nat.le_refl _) (Nat.le_refl _) ?_
      refine hK V (addF.rf V s qn kn) ?_
      have hin : n ∈ L.map Prod.fst := Decidable.byContradiction fun h => c50 (ez.mpr h)
      rw [addL_in hin]; exact hVV
  · refine aw_vret F C dS_add_30 rfl (Nat.le_refl _) (Nat.le_refl _) ?_
    refine hK V (addF.rf V s qn kn) ?_
    have hin : n ∈ L.map Prod.fst := Decidable.byContradiction fun h => by have := hVV.room hn h; omega
    rw [addL_in hin]; exact hVV
end Search1
