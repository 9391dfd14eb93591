theorem dM_door_0 : decode mM_door.2.1 0 = .ok (.aload_n 0, 1) := by decide +kernel
theorem dM_door_1 : decode mM_door.2.1 1 = .ok (.iconst 0, 1) := by decide +kernel
theorem dM_door_2 : decode mM_door.2.1 2 = .ok (.putfield 46, 3) := by decide +kernel
theorem dM_door_5 : decode mM_door.2.1 5 = .ok (.aload_n 0, 1) := by decide +kernel
theorem dM_door_6 : decode mM_door.2.1 6 = .ok (.iload_n 1, 1) := by decide +kernel
theorem dM_door_7 : decode mM_door.2.1 7 = .ok (.invokevirtual 354, 3) := by decide +kernel
theorem dM_door_10 : decode mM_door.2.1 10 = .ok (.ifCond .eq 12, 3) := by decide +kernel
theorem dM_door_13 : decode mM_door.2.1 13 = .ok (.iload_n 2, 1) := by decide +kernel
theorem dM_door_14 : decode mM_door.2.1 14 = .ok (.iconst 0, 1) := by decide +kernel
theorem dM_door_15 : decode mM_door.2.1 15 = .ok (.iconst 5, 1) := by decide +kernel
theorem dM_door_16 : decode mM_door.2.1 16 = .ok (.invokestatic 357, 3) := by decide +kernel
theorem dM_door_19 : decode mM_door.2.1 19 = .ok (.ifCond .ne 9, 3) := by decide +kernel
theorem dM_door_22 : decode mM_door.2.1 22 = .ok (.aload_n 0, 1) := by decide +kernel
theorem dM_door_23 : decode mM_door.2.1 23 = .ok (.iconst 1, 1) := by decide +kernel
theorem dM_door_24 : decode mM_door.2.1 24 = .ok (.invokevirtual 52, 3) := by decide +kernel
theorem dM_door_27 : decode mM_door.2.1 27 = .ok (.ireturn, 1) := by decide +kernel
theorem dM_door_28 : decode mM_door.2.1 28 = .ok (.aload_n 0, 1) := by decide +kernel
theorem dM_door_29 : decode mM_door.2.1 29 = .ok (.invokevirtual 348, 3) := by decide +kernel
theorem dM_door_32 : decode mM_door.2.1 32 = .ok (.iload_n 2, 1) := by decide +kernel
theorem dM_door_33 : decode mM_door.2.1 33 = .ok (.tableswitch 106 0 4 #[35, 49, 62, 78, 94], 35) := by decide +kernel
theorem dM_door_68 : decode mM_door.2.1 68 = .ok (.aload_n 0, 1) := by decide +kernel
theorem dM_door_69 : decode mM_door.2.1 69 = .ok (.aload_n 0, 1) := by decide +kernel
theorem dM_door_70 : decode mM_door.2.1 70 = .ok (.getfield 17, 3) := by decide +kernel
theorem dM_door_73 : decode mM_door.2.1 73 = .ok (.bipush 7, 2) := by decide +kernel
theorem dM_door_75 : decode mM_door.2.1 75 = .ok (.iload_n 1, 1) := by decide +kernel
theorem dM_door_76 : decode mM_door.2.1 76 = .ok (.iadd, 1) := by decide +kernel
theorem dM_door_77 : decode mM_door.2.1 77 = .ok (.iaload, 1) := by decide +kernel
theorem dM_door_78 : decode mM_door.2.1 78 = .ok (.invokevirtual 56, 3) := by decide +kernel
theorem dM_door_81 : decode mM_door.2.1 81 = .ok (.ireturn, 1) := by decide +kernel
theorem dM_door_82 : decode mM_door.2.1 82 = .ok (.aload_n 0, 1) := by decide +kernel
theorem dM_door_83 : decode mM_door.2.1 83 = .ok (.aload_n 0, 1) := by decide +kernel
theorem dM_door_84 : decode mM_door.2.1 84 = .ok (.getfield 17, 3) := by decide +kernel
theorem dM_door_87 : decode mM_door.2.1 87 = .ok (.iconst 2, 1) := by decide +kernel
theorem dM_door_88 : decode mM_door.2.1 88 = .ok (.iload_n 1, 1) := by decide +kernel
theorem dM_door_89 : decode mM_door.2.1 89 = .ok (.iadd, 1) := by decide +kernel
theorem dM_door_90 : decode mM_door.2.1 90 = .ok (.iaload, 1) := by decide +kernel
theorem dM_door_91 : decode mM_door.2.1 91 = .ok (.invokevirtual 56, 3) := by decide +kernel
theorem dM_door_94 : decode mM_door.2.1 94 = .ok (.ireturn, 1) := by decide +kernel
theorem dM_door_95 : decode mM_door.2.1 95 = .ok (.aload_n 0, 1) := by decide +kernel
theorem dM_door_96 : decode mM_door.2.1 96 = .ok (.aload_n 0, 1) := by decide +kernel
theorem dM_door_97 : decode mM_door.2.1 97 = .ok (.getfield 281, 3) := by decide +kernel
theorem dM_door_100 : decode mM_door.2.1 100 = .ok (.getfield 239, 3) := by decide +kernel
theorem dM_door_103 : decode mM_door.2.1 103 = .ok (.iload_n 1, 1) := by decide +kernel
theorem dM_door_104 : decode mM_door.2.1 104 = .ok (.ishr, 1) := by decide +kernel
theorem dM_door_105 : decode mM_door.2.1 105 = .ok (.iconst 1, 1) := by decide +kernel
theorem dM_door_106 : decode mM_door.2.1 106 = .ok (.iand, 1) := by decide +kernel
theorem dM_door_107 : decode mM_door.2.1 107 = .ok (.invokevirtual 56, 3) := by decide +kernel
theorem dM_door_110 : decode mM_door.2.1 110 = .ok (.ireturn, 1) := by decide +kernel
theorem dM_door_111 : decode mM_door.2.1 111 = .ok (.aload_n 0, 1) := by decide +kernel
theorem dM_door_112 : decode mM_door.2.1 112 = .ok (.aload_n 0, 1) := by decide +kernel
theorem dM_door_113 : decode mM_door.2.1 113 = .ok (.getfield 17, 3) := by decide +kernel
theorem dM_door_116 : decode mM_door.2.1 116 = .ok (.bipush 11, 2) := by decide +kernel
theorem dM_door_118 : decode mM_door.2.1 118 = .ok (.iaload, 1) := by decide +kernel
theorem dM_door_119 : decode mM_door.2.1 119 = .ok (.iload_n 1, 1) := by decide +kernel
theorem dM_door_120 : decode mM_door.2.1 120 = .ok (.ishr, 1) := by decide +kernel
theorem dM_door_121 : decode mM_door.2.1 121 = .ok (.iconst 1, 1) := by decide +kernel
theorem dM_door_122 : decode mM_door.2.1 122 = .ok (.iand, 1) := by decide +kernel
theorem dM_door_123 : decode mM_door.2.1 123 = .ok (.invokevirtual 56, 3) := by decide +kernel
theorem dM_door_126 : decode mM_door.2.1 126 = .ok (.ireturn, 1) := by decide +kernel
theorem dM_door_127 : decode mM_door.2.1 127 = .ok (.aload_n 0, 1) := by decide +kernel
theorem dM_door_128 : decode mM_door.2.1 128 = .ok (.aload_n 0, 1) := by decide +kernel
theorem dM_door_129 : decode mM_door.2.1 129 = .ok (.iload_n 1, 1) := by decide +kernel
theorem dM_door_130 : decode mM_door.2.1 130 = .ok (.iconst 1, 1) := by decide +kernel
theorem dM_door_131 : decode mM_door.2.1 131 = .ok (.iadd, 1) := by decide +kernel
theorem dM_door_132 : decode mM_door.2.1 132 = .ok (.invokevirtual 302, 3) := by decide +kernel
theorem dM_door_135 : decode mM_door.2.1 135 = .ok (.invokevirtual 56, 3) := by decide +kernel
theorem dM_door_138 : decode mM_door.2.1 138 = .ok (.ireturn, 1) := by decide +kernel
theorem dM_door_139 : decode mM_door.2.1 139 = .ok (.aload_n 0, 1) := by decide +kernel
theorem dM_door_140 : decode mM_door.2.1 140 = .ok (.aload_n 0, 1) := by decide +kernel
theorem dM_door_141 : decode mM_door.2.1 141 = .ok (.getfield 17, 3) := by decide +kernel
theorem dM_door_144 : decode mM_door.2.1 144 = .ok (.bipush 6, 2) := by decide +kernel
theorem dM_door_146 : decode mM_door.2.1 146 = .ok (.iaload, 1) := by decide +kernel
theorem dM_door_147 : decode mM_door.2.1 147 = .ok (.iload_n 1, 1) := by decide +kernel
theorem dM_door_148 : decode mM_door.2.1 148 = .ok (.if_icmp .ne 7, 3) := by decide +kernel
theorem dM_door_151 : decode mM_door.2.1 151 = .ok (.iconst 1, 1) := by decide +kernel
theorem dM_door_152 : decode mM_door.2.1 152 = .ok (.goto 4, 3) := by decide +kernel
theorem dM_door_155 : decode mM_door.2.1 155 = .ok (.iconst 0, 1) := by decide +kernel
theorem dM_door_156 : decode mM_door.2.1 156 = .ok (.invokevirtual 56, 3) := by decide +kernel
theorem dM_door_159 : decode mM_door.2.1 159 = .ok (.ireturn, 1) := by decide +kernel
theorem dM_person_0 : decode mM_person.2.1 0 = .ok (.aload_n 0, 1) := by decide +kernel
theorem dM_person_1 : decode mM_person.2.1 1 = .ok (.iconst 0, 1) := by decide +kernel
theorem dM_person_2 : decode mM_person.2.1 2 = .ok (.putfield 46, 3) := by decide +kernel
theorem dM_person_5 : decode mM_person.2.1 5 = .ok (.aload_n 0, 1) := by decide +kernel
theorem dM_person_6 : decode mM_person.2.1 6 = .ok (.iload_n 1, 1) := by decide +kernel
theorem dM_person_7 : decode mM_person.2.1 7 = .ok (.invokevirtual 361, 3) := by decide +kernel
theorem dM_person_10 : decode mM_person.2.1 10 = .ok (.ifCond .eq 12, 3) := by decide +kernel
theorem dM_person_13 : decode mM_person.2.1 13 = .ok (.iload_n 2, 1) := by decide +kernel
theorem dM_person_14 : decode mM_person.2.1 14 = .ok (.iconst 0, 1) := by decide +kernel
theorem dM_person_15 : decode mM_person.2.1 15 = .ok (.iconst 4, 1) := by decide +kernel
theorem dM_person_16 : decode mM_person.2.1 16 = .ok (.invokestatic 357, 3) := by decide +kernel
theorem dM_person_19 : decode mM_person.2.1 19 = .ok (.ifCond .ne 9, 3) := by decide +kernel
theorem dM_person_22 : decode mM_person.2.1 22 = .ok (.aload_n 0, 1) := by decide +kernel
theorem dM_person_23 : decode mM_person.2.1 23 = .ok (.iconst 1, 1) := by decide +kernel
theorem dM_person_24 : decode mM_person.2.1 24 = .ok (.invokevirtual 52, 3) := by decide +kernel
theorem dM_person_27 : decode mM_person.2.1 27 = .ok (.ireturn, 1) := by decide +kernel
theorem dM_person_28 : decode mM_person.2.1 28 = .ok (.aload_n 0, 1) := by decide +kernel
theorem dM_person_29 : decode mM_person.2.1 29 = .ok (.iload_n 2, 1) := by decide +kernel
theorem dM_person_30 : decode mM_person.2.1 30 = .ok (.ifCond .ne 12, 3) := by decide +kernel
theorem dM_person_33 : decode mM_person.2.1 33 = .ok (.aload_n 0, 1) := by decide +kernel
theorem dM_person_34 : decode mM_person.2.1 34 = .ok (.getfield 17, 3) := by decide +kernel
theorem dM_person_37 : decode mM_person.2.1 37 = .ok (.iload_n 1, 1) := by decide +kernel
theorem dM_person_38 : decode mM_person.2.1 38 = .ok (.iaload, 1) := by decide +kernel
theorem dM_person_39 : decode mM_person.2.1 39 = .ok (.goto 37, 3) := by decide +kernel
theorem dM_person_42 : decode mM_person.2.1 42 = .ok (.iload_n 2, 1) := by decide +kernel
theorem dM_person_43 : decode mM_person.2.1 43 = .ok (.iconst 1, 1) := by decide +kernel
theorem dM_person_44 : decode mM_person.2.1 44 = .ok (.if_icmp .ne 17, 3) := by decide +kernel
theorem dM_person_47 : decode mM_person.2.1 47 = .ok (.aload_n 0, 1) := by decide +kernel
theorem dM_person_48 : decode mM_person.2.1 48 = .ok (.getfield 281, 3) := by decide +kernel
theorem dM_person_51 : decode mM_person.2.1 51 = .ok (.getfield 265, 3) := by decide +kernel
theorem dM_person_54 : decode mM_person.2.1 54 = .ok (.iload_n 1, 1) := by decide +kernel
theorem dM_person_55 : decode mM_person.2.1 55 = .ok (.ishr, 1) := by decide +kernel
theorem dM_person_56 : decode mM_person.2.1 56 = .ok (.iconst 1, 1) := by decide +kernel
theorem dM_person_57 : decode mM_person.2.1 57 = .ok (.iand, 1) := by decide +kernel
theorem dM_person_58 : decode mM_person.2.1 58 = .ok (.goto 18, 3) := by decide +kernel
theorem dM_person_61 : decode mM_person.2.1 61 = .ok (.aload_n 0, 1) := by decide +kernel
theorem dM_person_62 : decode mM_person.2.1 62 = .ok (.getfield 281, 3) := by decide +kernel
theorem dM_person_65 : decode mM_person.2.1 65 = .ok (.getfield 268, 3) := by decide +kernel
theorem dM_person_68 : decode mM_person.2.1 68 = .ok (.iconst 2, 1) := by decide +kernel
theorem dM_person_69 : decode mM_person.2.1 69 = .ok (.iload_n 2, 1) := by decide +kernel
theorem dM_person_70 : decode mM_person.2.1 70 = .ok (.iconst 2, 1) := by decide +kernel
theorem dM_person_71 : decode mM_person.2.1 71 = .ok (.isub, 1) := by decide +kernel
theorem dM_person_72 : decode mM_person.2.1 72 = .ok (.imul, 1) := by decide +kernel
theorem dM_person_73 : decode mM_person.2.1 73 = .ok (.iload_n 1, 1) := by decide +kernel
theorem dM_person_74 : decode mM_person.2.1 74 = .ok (.iadd, 1) := by decide +kernel
theorem dM_person_75 : decode mM_person.2.1 75 = .ok (.iaload, 1) := by decide +kernel
theorem dM_person_76 : decode mM_person.2.1 76 = .ok (.invokevirtual 56, 3) := by decide +kernel
theorem dM_person_79 : decode mM_person.2.1 79 = .ok (.ireturn, 1) := by decide +kernel
theorem dM_last_0 : decode mM_last.2.1 0 = .ok (.aload_n 0, 1) := by decide +kernel
theorem dM_last_1 : decode mM_last.2.1 1 = .ok (.iconst 0, 1) := by decide +kernel
theorem dM_last_2 : decode mM_last.2.1 2 = .ok (.putfield 46, 3) := by decide +kernel
theorem dM_last_5 : decode mM_last.2.1 5 = .ok (.aload_n 0, 1) := by decide +kernel
theorem dM_last_6 : decode mM_last.2.1 6 = .ok (.getfield 281, 3) := by decide +kernel
theorem dM_last_9 : decode mM_last.2.1 9 = .ok (.ifnonnull 11, 3) := by decide +kernel
theorem dM_last_12 : decode mM_last.2.1 12 = .ok (.aload_n 0, 1) := by decide +kernel
theorem dM_last_13 : decode mM_last.2.1 13 = .ok (.iconst 1, 1) := by decide +kernel
theorem dM_last_14 : decode mM_last.2.1 14 = .ok (.invokevirtual 52, 3) := by decide +kernel
theorem dM_last_17 : decode mM_last.2.1 17 = .ok (.goto 14, 3) := by decide +kernel
theorem dM_last_20 : decode mM_last.2.1 20 = .ok (.aload_n 0, 1) := by decide +kernel
theorem dM_last_21 : decode mM_last.2.1 21 = .ok (.aload_n 0, 1) := by decide +kernel
theorem dM_last_22 : decode mM_last.2.1 22 = .ok (.getfield 17, 3) := by decide +kernel
theorem dM_last_25 : decode mM_last.2.1 25 = .ok (.bipush 6, 2) := by decide +kernel
theorem dM_last_27 : decode mM_last.2.1 27 = .ok (.iaload, 1) := by decide +kernel
theorem dM_last_28 : decode mM_last.2.1 28 = .ok (.invokevirtual 56, 3) := by decide +kernel
theorem dM_last_31 : decode mM_last.2.1 31 = .ok (.ireturn, 1) := by decide +kernel
theorem dM_can_0 : decode mM_can.2.1 0 = .ok (.aload_n 0, 1) := by decide +kernel
theorem dM_can_1 : decode mM_can.2.1 1 = .ok (.iconst 0, 1) := by decide +kernel
theorem dM_can_2 : decode mM_can.2.1 2 = .ok (.putfield 46, 3) := by decide +kernel
theorem dM_can_5 : decode mM_can.2.1 5 = .ok (.aload_n 0, 1) := by decide +kernel
theorem dM_can_6 : decode mM_can.2.1 6 = .ok (.getfield 281, 3) := by decide +kernel
theorem dM_can_9 : decode mM_can.2.1 9 = .ok (.ifnull 15, 3) := by decide +kernel
theorem dM_can_12 : decode mM_can.2.1 12 = .ok (.iload_n 1, 1) := by decide +kernel
theorem dM_can_13 : decode mM_can.2.1 13 = .ok (.ifCond .lt 11, 3) := by decide +kernel
theorem dM_can_16 : decode mM_can.2.1 16 = .ok (.iload_n 1, 1) := by decide +kernel
theorem dM_can_17 : decode mM_can.2.1 17 = .ok (.aload_n 0, 1) := by decide +kernel
theorem dM_can_18 : decode mM_can.2.1 18 = .ok (.invokevirtual 336, 3) := by decide +kernel
theorem dM_can_21 : decode mM_can.2.1 21 = .ok (.if_icmp .lt 9, 3) := by decide +kernel
theorem dM_can_24 : decode mM_can.2.1 24 = .ok (.aload_n 0, 1) := by decide +kernel
theorem dM_can_25 : decode mM_can.2.1 25 = .ok (.iconst 1, 1) := by decide +kernel
theorem dM_can_26 : decode mM_can.2.1 26 = .ok (.invokevirtual 52, 3) := by decide +kernel
theorem dM_can_29 : decode mM_can.2.1 29 = .ok (.ireturn, 1) := by decide +kernel
theorem dM_can_30 : decode mM_can.2.1 30 = .ok (.aload_n 0, 1) := by decide +kernel
theorem dM_can_31 : decode mM_can.2.1 31 = .ok (.invokevirtual 348, 3) := by decide +kernel
theorem dM_can_34 : decode mM_can.2.1 34 = .ok (.aload_n 0, 1) := by decide +kernel
theorem dM_can_35 : decode mM_can.2.1 35 = .ok (.aload_n 0, 1) := by decide +kernel
theorem dM_can_36 : decode mM_can.2.1 36 = .ok (.iload_n 1, 1) := by decide +kernel
theorem dM_can_37 : decode mM_can.2.1 37 = .ok (.invokevirtual 342, 3) := by decide +kernel
theorem dM_can_40 : decode mM_can.2.1 40 = .ok (.ifCond .eq 7, 3) := by decide +kernel
theorem dM_can_43 : decode mM_can.2.1 43 = .ok (.iconst 1, 1) := by decide +kernel
theorem dM_can_44 : decode mM_can.2.1 44 = .ok (.goto 4, 3) := by decide +kernel
theorem dM_can_47 : decode mM_can.2.1 47 = .ok (.iconst 0, 1) := by decide +kernel
theorem dM_can_48 : decode mM_can.2.1 48 = .ok (.invokevirtual 56, 3) := by decide +kernel
theorem dM_can_51 : decode mM_can.2.1 51 = .ok (.ireturn, 1) := by decide +kernel
theorem dM_seenNow_0 : decode mM_seenNow.2.1 0 = .ok (.iconst 0, 1) := by decide +kernel
theorem dM_seenNow_1 : decode mM_seenNow.2.1 1 = .ok (.istore_n 1, 1) := by decide +kernel
theorem dM_seenNow_2 : decode mM_seenNow.2.1 2 = .ok (.iconst 0, 1) := by decide +kernel
theorem dM_seenNow_3 : decode mM_seenNow.2.1 3 = .ok (.istore_n 2, 1) := by decide +kernel
theorem dM_seenNow_4 : decode mM_seenNow.2.1 4 = .ok (.iload_n 2, 1) := by decide +kernel
theorem dM_seenNow_5 : decode mM_seenNow.2.1 5 = .ok (.aload_n 0, 1) := by decide +kernel
theorem dM_seenNow_6 : decode mM_seenNow.2.1 6 = .ok (.getfield 281, 3) := by decide +kernel
theorem dM_seenNow_9 : decode mM_seenNow.2.1 9 = .ok (.getfield 183, 3) := by decide +kernel
theorem dM_seenNow_12 : decode mM_seenNow.2.1 12 = .ok (.if_icmp .ge 39, 3) := by decide +kernel
theorem dM_seenNow_15 : decode mM_seenNow.2.1 15 = .ok (.iload_n 1, 1) := by decide +kernel
theorem dM_seenNow_16 : decode mM_seenNow.2.1 16 = .ok (.aload_n 0, 1) := by decide +kernel
theorem dM_seenNow_17 : decode mM_seenNow.2.1 17 = .ok (.getfield 17, 3) := by decide +kernel
theorem dM_seenNow_20 : decode mM_seenNow.2.1 20 = .ok (.iconst 2, 1) := by decide +kernel
theorem dM_seenNow_21 : decode mM_seenNow.2.1 21 = .ok (.iload_n 2, 1) := by decide +kernel
theorem dM_seenNow_22 : decode mM_seenNow.2.1 22 = .ok (.iadd, 1) := by decide +kernel
theorem dM_seenNow_23 : decode mM_seenNow.2.1 23 = .ok (.iaload, 1) := by decide +kernel
theorem dM_seenNow_24 : decode mM_seenNow.2.1 24 = .ok (.ifCond .le 18, 3) := by decide +kernel
theorem dM_seenNow_27 : decode mM_seenNow.2.1 27 = .ok (.iconst 1, 1) := by decide +kernel
theorem dM_seenNow_28 : decode mM_seenNow.2.1 28 = .ok (.aload_n 0, 1) := by decide +kernel
theorem dM_seenNow_29 : decode mM_seenNow.2.1 29 = .ok (.getfield 17, 3) := by decide +kernel
theorem dM_seenNow_32 : decode mM_seenNow.2.1 32 = .ok (.iconst 2, 1) := by decide +kernel
theorem dM_seenNow_33 : decode mM_seenNow.2.1 33 = .ok (.iload_n 2, 1) := by decide +kernel
theorem dM_seenNow_34 : decode mM_seenNow.2.1 34 = .ok (.iadd, 1) := by decide +kernel
theorem dM_seenNow_35 : decode mM_seenNow.2.1 35 = .ok (.iaload, 1) := by decide +kernel
theorem dM_seenNow_36 : decode mM_seenNow.2.1 36 = .ok (.iconst 1, 1) := by decide +kernel
theorem dM_seenNow_37 : decode mM_seenNow.2.1 37 = .ok (.isub, 1) := by decide +kernel
theorem dM_seenNow_38 : decode mM_seenNow.2.1 38 = .ok (.ishl, 1) := by decide +kernel
theorem dM_seenNow_39 : decode mM_seenNow.2.1 39 = .ok (.goto 4, 3) := by decide +kernel
theorem dM_seenNow_42 : decode mM_seenNow.2.1 42 = .ok (.iconst 0, 1) := by decide +kernel
theorem dM_seenNow_43 : decode mM_seenNow.2.1 43 = .ok (.ior, 1) := by decide +kernel
theorem dM_seenNow_44 : decode mM_seenNow.2.1 44 = .ok (.istore_n 1, 1) := by decide +kernel
theorem dM_seenNow_45 : decode mM_seenNow.2.1 45 = .ok (.iinc 2 1, 3) := by decide +kernel
theorem dM_seenNow_48 : decode mM_seenNow.2.1 48 = .ok (.goto (-44), 3) := by decide +kernel
theorem dM_seenNow_51 : decode mM_seenNow.2.1 51 = .ok (.iload_n 1, 1) := by decide +kernel
theorem dM_seenNow_52 : decode mM_seenNow.2.1 52 = .ok (.ireturn, 1) := by decide +kernel
theorem dM_seen_0 : decode mM_seen.2.1 0 = .ok (.aload_n 0, 1) := by decide +kernel
theorem dM_seen_1 : decode mM_seen.2.1 1 = .ok (.iconst 0, 1) := by decide +kernel
theorem dM_seen_2 : decode mM_seen.2.1 2 = .ok (.putfield 46, 3) := by decide +kernel
theorem dM_seen_5 : decode mM_seen.2.1 5 = .ok (.aload_n 0, 1) := by decide +kernel
theorem dM_seen_6 : decode mM_seen.2.1 6 = .ok (.getfield 281, 3) := by decide +kernel
theorem dM_seen_9 : decode mM_seen.2.1 9 = .ok (.ifnonnull 11, 3) := by decide +kernel
theorem dM_seen_12 : decode mM_seen.2.1 12 = .ok (.aload_n 0, 1) := by decide +kernel
theorem dM_seen_13 : decode mM_seen.2.1 13 = .ok (.iconst 1, 1) := by decide +kernel
theorem dM_seen_14 : decode mM_seen.2.1 14 = .ok (.invokevirtual 52, 3) := by decide +kernel
theorem dM_seen_17 : decode mM_seen.2.1 17 = .ok (.goto 11, 3) := by decide +kernel
theorem dM_seen_20 : decode mM_seen.2.1 20 = .ok (.aload_n 0, 1) := by decide +kernel
theorem dM_seen_21 : decode mM_seen.2.1 21 = .ok (.aload_n 0, 1) := by decide +kernel
theorem dM_seen_22 : decode mM_seen.2.1 22 = .ok (.invokevirtual 367, 3) := by decide +kernel
theorem dM_seen_25 : decode mM_seen.2.1 25 = .ok (.invokevirtual 56, 3) := by decide +kernel
theorem dM_seen_28 : decode mM_seen.2.1 28 = .ok (.ireturn, 1) := by decide +kernel
theorem dM_shutIn_0 : decode mM_shutIn.2.1 0 = .ok (.aload_n 0, 1) := by decide +kernel
theorem dM_shutIn_1 : decode mM_shutIn.2.1 1 = .ok (.iconst 0, 1) := by decide +kernel
theorem dM_shutIn_2 : decode mM_shutIn.2.1 2 = .ok (.putfield 46, 3) := by decide +kernel
theorem dM_shutIn_5 : decode mM_shutIn.2.1 5 = .ok (.aload_n 0, 1) := by decide +kernel
theorem dM_shutIn_6 : decode mM_shutIn.2.1 6 = .ok (.getfield 281, 3) := by decide +kernel
theorem dM_shutIn_9 : decode mM_shutIn.2.1 9 = .ok (.ifnonnull 9, 3) := by decide +kernel
theorem dM_shutIn_12 : decode mM_shutIn.2.1 12 = .ok (.aload_n 0, 1) := by decide +kernel
theorem dM_shutIn_13 : decode mM_shutIn.2.1 13 = .ok (.iconst 1, 1) := by decide +kernel
theorem dM_shutIn_14 : decode mM_shutIn.2.1 14 = .ok (.invokevirtual 52, 3) := by decide +kernel
theorem dM_shutIn_17 : decode mM_shutIn.2.1 17 = .ok (.ireturn, 1) := by decide +kernel
theorem dM_shutIn_18 : decode mM_shutIn.2.1 18 = .ok (.iconst 0, 1) := by decide +kernel
theorem dM_shutIn_19 : decode mM_shutIn.2.1 19 = .ok (.istore_n 1, 1) := by decide +kernel
theorem dM_shutIn_20 : decode mM_shutIn.2.1 20 = .ok (.iconst 0, 1) := by decide +kernel
theorem dM_shutIn_21 : decode mM_shutIn.2.1 21 = .ok (.istore_n 2, 1) := by decide +kernel
theorem dM_shutIn_22 : decode mM_shutIn.2.1 22 = .ok (.iload_n 2, 1) := by decide +kernel
theorem dM_shutIn_23 : decode mM_shutIn.2.1 23 = .ok (.aload_n 0, 1) := by decide +kernel
theorem dM_shutIn_24 : decode mM_shutIn.2.1 24 = .ok (.getfield 281, 3) := by decide +kernel
theorem dM_shutIn_27 : decode mM_shutIn.2.1 27 = .ok (.getfield 253, 3) := by decide +kernel
theorem dM_shutIn_30 : decode mM_shutIn.2.1 30 = .ok (.if_icmp .ge 46, 3) := by decide +kernel
theorem dM_shutIn_33 : decode mM_shutIn.2.1 33 = .ok (.iload_n 1, 1) := by decide +kernel
theorem dM_shutIn_34 : decode mM_shutIn.2.1 34 = .ok (.aload_n 0, 1) := by decide +kernel
theorem dM_shutIn_35 : decode mM_shutIn.2.1 35 = .ok (.getfield 17, 3) := by decide +kernel
theorem dM_shutIn_38 : decode mM_shutIn.2.1 38 = .ok (.iload_n 2, 1) := by decide +kernel
theorem dM_shutIn_39 : decode mM_shutIn.2.1 39 = .ok (.iaload, 1) := by decide +kernel
theorem dM_shutIn_40 : decode mM_shutIn.2.1 40 = .ok (.ifCond .le 27, 3) := by decide +kernel
theorem dM_shutIn_43 : decode mM_shutIn.2.1 43 = .ok (.aload_n 0, 1) := by decide +kernel
theorem dM_shutIn_44 : decode mM_shutIn.2.1 44 = .ok (.invokevirtual 367, 3) := by decide +kernel
theorem dM_shutIn_47 : decode mM_shutIn.2.1 47 = .ok (.aload_n 0, 1) := by decide +kernel
theorem dM_shutIn_48 : decode mM_shutIn.2.1 48 = .ok (.getfield 17, 3) := by decide +kernel
theorem dM_shutIn_51 : decode mM_shutIn.2.1 51 = .ok (.iload_n 2, 1) := by decide +kernel
theorem dM_shutIn_52 : decode mM_shutIn.2.1 52 = .ok (.iaload, 1) := by decide +kernel
theorem dM_shutIn_53 : decode mM_shutIn.2.1 53 = .ok (.iconst 1, 1) := by decide +kernel
theorem dM_shutIn_54 : decode mM_shutIn.2.1 54 = .ok (.isub, 1) := by decide +kernel
theorem dM_shutIn_55 : decode mM_shutIn.2.1 55 = .ok (.invokestatic 241, 3) := by decide +kernel
theorem dM_shutIn_58 : decode mM_shutIn.2.1 58 = .ok (.ifCond .ne 9, 3) := by decide +kernel
theorem dM_shutIn_61 : decode mM_shutIn.2.1 61 = .ok (.iconst 1, 1) := by decide +kernel
theorem dM_shutIn_62 : decode mM_shutIn.2.1 62 = .ok (.iload_n 2, 1) := by decide +kernel
theorem dM_shutIn_63 : decode mM_shutIn.2.1 63 = .ok (.ishl, 1) := by decide +kernel
theorem dM_shutIn_64 : decode mM_shutIn.2.1 64 = .ok (.goto 4, 3) := by decide +kernel
theorem dM_shutIn_67 : decode mM_shutIn.2.1 67 = .ok (.iconst 0, 1) := by decide +kernel
theorem dM_shutIn_68 : decode mM_shutIn.2.1 68 = .ok (.ior, 1) := by decide +kernel
theorem dM_shutIn_69 : decode mM_shutIn.2.1 69 = .ok (.istore_n 1, 1) := by decide +kernel
theorem dM_shutIn_70 : decode mM_shutIn.2.1 70 = .ok (.iinc 2 1, 3) := by decide +kernel
theorem dM_shutIn_73 : decode mM_shutIn.2.1 73 = .ok (.goto (-51), 3) := by decide +kernel
theorem dM_shutIn_76 : decode mM_shutIn.2.1 76 = .ok (.aload_n 0, 1) := by decide +kernel
theorem dM_shutIn_77 : decode mM_shutIn.2.1 77 = .ok (.iload_n 1, 1) := by decide +kernel
theorem dM_shutIn_78 : decode mM_shutIn.2.1 78 = .ok (.invokevirtual 56, 3) := by decide +kernel
theorem dM_shutIn_81 : decode mM_shutIn.2.1 81 = .ok (.ireturn, 1) := by decide +kernel
theorem dM_size_0 : decode mM_size.2.1 0 = .ok (.aload_n 0, 1) := by decide +kernel
theorem dM_size_1 : decode mM_size.2.1 1 = .ok (.iconst 0, 1) := by decide +kernel
theorem dM_size_2 : decode mM_size.2.1 2 = .ok (.putfield 46, 3) := by decide +kernel
theorem dM_size_5 : decode mM_size.2.1 5 = .ok (.iload_n 1, 1) := by decide +kernel
theorem dM_size_6 : decode mM_size.2.1 6 = .ok (.bipush 12, 2) := by decide +kernel
theorem dM_size_8 : decode mM_size.2.1 8 = .ok (.if_icmp .ne 8, 3) := by decide +kernel
theorem dM_size_11 : decode mM_size.2.1 11 = .ok (.aload_n 0, 1) := by decide +kernel
theorem dM_size_12 : decode mM_size.2.1 12 = .ok (.getfield 274, 3) := by decide +kernel
theorem dM_size_15 : decode mM_size.2.1 15 = .ok (.ireturn, 1) := by decide +kernel
theorem dM_size_16 : decode mM_size.2.1 16 = .ok (.iload_n 1, 1) := by decide +kernel
theorem dM_size_17 : decode mM_size.2.1 17 = .ok (.iconst 0, 1) := by decide +kernel
theorem dM_size_18 : decode mM_size.2.1 18 = .ok (.bipush 11, 2) := by decide +kernel
theorem dM_size_20 : decode mM_size.2.1 20 = .ok (.invokestatic 357, 3) := by decide +kernel
theorem dM_size_23 : decode mM_size.2.1 23 = .ok (.ifCond .ne 5, 3) := by decide +kernel
theorem dM_size_26 : decode mM_size.2.1 26 = .ok (.iconst (-1), 1) := by decide +kernel
theorem dM_size_27 : decode mM_size.2.1 27 = .ok (.ireturn, 1) := by decide +kernel
theorem dM_size_28 : decode mM_size.2.1 28 = .ok (.aload_n 0, 1) := by decide +kernel
theorem dM_size_29 : decode mM_size.2.1 29 = .ok (.getfield 281, 3) := by decide +kernel
theorem dM_size_32 : decode mM_size.2.1 32 = .ok (.ifnonnull 5, 3) := by decide +kernel
theorem dM_size_35 : decode mM_size.2.1 35 = .ok (.iconst 0, 1) := by decide +kernel
theorem dM_size_36 : decode mM_size.2.1 36 = .ok (.ireturn, 1) := by decide +kernel
theorem dM_size_37 : decode mM_size.2.1 37 = .ok (.iload_n 1, 1) := by decide +kernel
theorem dM_size_38 : decode mM_size.2.1 38 = .ok (.tableswitch 138 0 10 #[58, 66, 74, 82, 93, 101, 109, 120, 120, 120, 133], 58) := by decide +kernel
theorem dM_size_96 : decode mM_size.2.1 96 = .ok (.aload_n 0, 1) := by decide +kernel
theorem dM_size_97 : decode mM_size.2.1 97 = .ok (.getfield 281, 3) := by decide +kernel
theorem dM_size_100 : decode mM_size.2.1 100 = .ok (.getfield 151, 3) := by decide +kernel
theorem dM_size_103 : decode mM_size.2.1 103 = .ok (.ireturn, 1) := by decide +kernel
theorem dM_size_104 : decode mM_size.2.1 104 = .ok (.aload_n 0, 1) := by decide +kernel
theorem dM_size_105 : decode mM_size.2.1 105 = .ok (.getfield 281, 3) := by decide +kernel
theorem dM_size_108 : decode mM_size.2.1 108 = .ok (.getfield 183, 3) := by decide +kernel
theorem dM_size_111 : decode mM_size.2.1 111 = .ok (.ireturn, 1) := by decide +kernel
theorem dM_size_112 : decode mM_size.2.1 112 = .ok (.aload_n 0, 1) := by decide +kernel
theorem dM_size_113 : decode mM_size.2.1 113 = .ok (.getfield 281, 3) := by decide +kernel
theorem dM_size_116 : decode mM_size.2.1 116 = .ok (.getfield 253, 3) := by decide +kernel
theorem dM_size_119 : decode mM_size.2.1 119 = .ok (.ireturn, 1) := by decide +kernel
theorem dM_size_120 : decode mM_size.2.1 120 = .ok (.aload_n 0, 1) := by decide +kernel
theorem dM_size_121 : decode mM_size.2.1 121 = .ok (.getfield 281, 3) := by decide +kernel
theorem dM_size_124 : decode mM_size.2.1 124 = .ok (.getfield 239, 3) := by decide +kernel
theorem dM_size_127 : decode mM_size.2.1 127 = .ok (.invokestatic 296, 3) := by decide +kernel
theorem dM_size_130 : decode mM_size.2.1 130 = .ok (.ireturn, 1) := by decide +kernel
theorem dM_size_131 : decode mM_size.2.1 131 = .ok (.aload_n 0, 1) := by decide +kernel
theorem dM_size_132 : decode mM_size.2.1 132 = .ok (.getfield 281, 3) := by decide +kernel
theorem dM_size_135 : decode mM_size.2.1 135 = .ok (.getfield 250, 3) := by decide +kernel
theorem dM_size_138 : decode mM_size.2.1 138 = .ok (.ireturn, 1) := by decide +kernel
theorem dM_size_139 : decode mM_size.2.1 139 = .ok (.aload_n 0, 1) := by decide +kernel
theorem dM_size_140 : decode mM_size.2.1 140 = .ok (.getfield 281, 3) := by decide +kernel
theorem dM_size_143 : decode mM_size.2.1 143 = .ok (.getfield 262, 3) := by decide +kernel
theorem dM_size_146 : decode mM_size.2.1 146 = .ok (.ireturn, 1) := by decide +kernel
theorem dM_size_147 : decode mM_size.2.1 147 = .ok (.aload_n 0, 1) := by decide +kernel
theorem dM_size_148 : decode mM_size.2.1 148 = .ok (.getfield 281, 3) := by decide +kernel
theorem dM_size_151 : decode mM_size.2.1 151 = .ok (.getfield 265, 3) := by decide +kernel
theorem dM_size_154 : decode mM_size.2.1 154 = .ok (.invokestatic 296, 3) := by decide +kernel
theorem dM_size_157 : decode mM_size.2.1 157 = .ok (.ireturn, 1) := by decide +kernel
theorem dM_size_158 : decode mM_size.2.1 158 = .ok (.aload_n 0, 1) := by decide +kernel
theorem dM_size_159 : decode mM_size.2.1 159 = .ok (.getfield 281, 3) := by decide +kernel
theorem dM_size_162 : decode mM_size.2.1 162 = .ok (.getfield 271, 3) := by decide +kernel
theorem dM_size_165 : decode mM_size.2.1 165 = .ok (.iload_n 1, 1) := by decide +kernel
theorem dM_size_166 : decode mM_size.2.1 166 = .ok (.bipush 7, 2) := by decide +kernel
theorem dM_size_168 : decode mM_size.2.1 168 = .ok (.isub, 1) := by decide +kernel
theorem dM_size_169 : decode mM_size.2.1 169 = .ok (.iaload, 1) := by decide +kernel
theorem dM_size_170 : decode mM_size.2.1 170 = .ok (.ireturn, 1) := by decide +kernel
theorem dM_size_171 : decode mM_size.2.1 171 = .ok (.aload_n 0, 1) := by decide +kernel
theorem dM_size_172 : decode mM_size.2.1 172 = .ok (.getfield 290, 3) := by decide +kernel
theorem dM_size_175 : decode mM_size.2.1 175 = .ok (.ireturn, 1) := by decide +kernel
theorem dM_size_176 : decode mM_size.2.1 176 = .ok (.aload_n 0, 1) := by decide +kernel
theorem dM_size_177 : decode mM_size.2.1 177 = .ok (.getfield 293, 3) := by decide +kernel
theorem dM_size_180 : decode mM_size.2.1 180 = .ok (.ireturn, 1) := by decide +kernel
section Mod20
variable {G : GE} {V : Nat → Nat → Int} {σ : Shp} {K : Option AV → Mem → Prop} {l : Nat} {c : Cfg} {n : Nat} {S : PS}
theorem MK.same {r : Option AV} (hK : MK K V σ l S r) (h : MW V σ l S) : K r (up2 V 53 0 0, σ) := hK _ h.th (MR.f53 (fun _ _ => rfl))
theorem wM_fault (h : MW V σ l S) (hK : MK K V σ l S (some (vI (psF S)))) : Wp G 0 mM_fault [vR 53] (V, σ) 0 0 K := by
  have hM := h.mo
  refine wp_intro mM_fault_i.1 [some (vR 53)] rfl rfl (Nat.le_of_ble_eq_true rfl) ?_
  intro X hG F C
  have hm := C.rm
  refine aw_aload_0 (q := 1) F dM_fault_0 rfl ?_
  refine aw_iconst (q := 2) F dM_fault_1 rfl (by decide) ?_
  refine av_puti (q := 5) F fM_46 dM_fault_2 rfl rfl (wr_9_0 _) (by first | exact hM.o | exact hl.o | exact hM.a55 | exact hM.a56 | exact hM.a59 | exact hM.a60 | exact hM.a61 | exact hM.a62 | exact hl.a4 | exact hl.a5) ?_
  refine aw_aload_0 (q := 6) F dM_fault_5 rfl ?_
  refine av_geti (q := 9) F fM_104 dM_fault_6 rfl rfl (by first | exact hM.o | exact hl.o | exact hM.a55 | exact hM.a56 | exact hM.a59 | exact hM.a60 | exact hM.a61 | exact hM.a62 | exact hl.a4 | exact hl.a5) ?_
  refine aw_iret F C dM_fault_9 rfl (Nat.le_refl _) (Nat.le_refl _) ?_
  rw [h.th.f.2.2.2.1]; exact hK.same h
theorem wM_where (h : MW V σ l S) (hK : MK K V σ l S (some (vI (if psR S = 4 then psL S else -1)))) : Wp G 0 mM_where [vR 53] (V, σ) 0 0 K := by
  have hM := h.mo
  refine wp_intro mM_where_i.1 [some (vR 53)] rfl rfl (Nat.le_of_ble_eq_true rfl) ?_
  intro X hG F C
  have hm := C.rm
  refine aw_aload_0 (q := 1) F dM_where_0 rfl ?_
  refine aw_iconst (q := 2) F dM_where_1 rfl (by decide) ?_
  refine av_puti (q := 5) F fM_46 dM_where_2 rfl rfl (wr_9_0 _) (by first | exact hM.o | exact hl.o | exact hM.a55 | exact hM.a56 | exact hM.a59 | exact hM.a60 | exact hM.a61 | exact hM.a62 | exact hl.a4 | exact hl.a5) ?_
  refine aw_aload_0 (q := 6) F dM_where_5 rfl ?_
  refine av_geti (q := 9) F fM_9 dM_where_6 rfl rfl (by first | exact hM.o | exact hl.o | exact hM.a55 | exact hM.a56 | exact hM.a59 | exact hM.a60 | exact hM.a61 | exact hM.a62 | exact hl.a4 | exact hl.a5) ?_
  refine aw_iret F C dM_where_9 rfl (Nat.le_refl _) (Nat.le_refl _) ?_
  rw [h.th.f.2.1]; exact hK.same h
theorem wM_trouble (h : MW V σ l S) (hK : MK K V σ l S (some (vI (psR S)))) : Wp G 0 mM_trouble [vR 53] (V, σ) 0 0 K := by
  have hM := h.mo
  refine wp_intro mM_trouble_i.1 [some (vR 53)] rfl rfl (Nat.le_of_ble_eq_true rfl) ?_
  intro X hG F C
  have hm := C.rm
  refine aw_aload_0 (q := 1) F dM_trouble_0 rfl ?_
  refine aw_iconst (q := 2) F dM_trouble_1 rfl (by decide) ?_
  refine av_puti (q := 5) F fM_46 dM_trouble_2 rfl rfl (wr_9_0 _) (by first | exact hM.o | exact hl.o | exact hM.a55 | exact hM.a56 | exact hM.a59 | exact hM.a60 | exact hM.a61 | exact hM.a62 | exact hl.a4 | exact hl.a5) ?_
  refine aw_aload_0 (q := 6) F dM_trouble_5 rfl ?_
  refine av_geti (q := 9) F fM_49 dM_trouble_6 rfl rfl (by first | exact hM.o | exact hl.o | exact hM.a55 | exact hM.a56 | exact hM.a59 | exact hM.a60 | exact hM.a61 | exact hM.a62 | exact hl.a4 | exact hl.a5) ?_
  refine aw_iret F C dM_trouble_9 rfl (Nat.le_refl _) (Nat.le_refl _) ?_
  rw [h.th.f.1]; exact hK.same h
theorem wM_thrown (h : MW V σ l S) (hK : K (some (vI (V 53 0))) (V, σ)) : Wp G 0 mM_thrown [vR 53] (V, σ) 0 0 K := by
  have hM := h.mo
  refine wp_intro mM_thrown_i.1 [some (vR 53)] rfl rfl (Nat.le_of_ble_eq_true rfl) ?_
  intro X hG F C
  have hm := C.rm
  refine aw_aload_0 (q := 1) F dM_thrown_0 rfl ?_
  refine av_geti (q := 4) F fM_46 dM_thrown_1 rfl rfl (by first | exact hM.o | exact hl.o | exact hM.a55 | exact hM.a56 | exact hM.a59 | exact hM.a60 | exact hM.a61 | exact hM.a62 | exact hl.a4 | exact hl.a5) ?_
  refine aw_iret F C dM_thrown_4 rfl (Nat.le_refl _) (Nat.le_refl _) ?_
  exact hK
theorem noS_0 {r : Int} {f : Int → AV} (hd : ¬ 0 < tDn (psT S)) (hK : MK K V σ l (noS S) (some (f (noL S r)))) : MK K V σ l (setR S 1) (some (f (-1))) := by
  unfold noS noL at hK
  rw [if_neg hd, if_neg hd] at hK
  exact hK
theorem noS_1 {r : Int} {f : Int → AV} (hd : 0 < tDn (psT S)) (hK : MK K V σ l (noS S) (some (f (noL S r)))) : MK K V σ l (setR S 0) (some (f r)) := by
  unfold noS noL at hK
  rw [if_pos hd, if_pos hd] at hK
  exact hK
theorem wM_last (h : MW V σ l S) (hK : MK K V σ l (noS S) (some (vI (noL S (lst (psC S) (psA S)))))) : Wp G 1 mM_last [vR 53] (V, σ) 0 0 K := by
  have hM := h.mo
  refine wp_intro mM_last_i.1 [some (vR 53)] rfl rfl (Nat.le_of_ble_eq_true rfl) ?_
  intro X hG F C
  have hm := C.rm
  refine aw_aload_0 (q := 1) F dM_last_0 rfl ?_
  refine aw_iconst (q := 2) F dM_last_1 rfl (by decide) ?_
  refine av_puti (q := 5) F fM_46 dM_last_2 rfl rfl (wr_9_0 _) (by first | exact hM.o | exact hl.o | exact hM.a55 | exact hM.a56 | exact hM.a59 | exact hM.a60 | exact hM.a61 | exact hM.a62 | exact hl.a4 | exact hl.a5) ?_
  refine aw_aload_0 (q := 6) F dM_last_5 rfl ?_
  refine av_getaE (q := 9) F fM_281 dM_last_6 rfl rfl (by first | exact hM.o | exact hl.o | exact hM.a55 | exact hM.a56 | exact hM.a59 | exact hM.a60 | exact hM.a61 | exact hM.a62 | exact hl.a4 | exact hl.a5) hM.p3 ?_
  refine aw_ifnonnull (q := 12) (t := 20) F dM_last_9 rfl (by decide) (fun c9 => ?_) (fun c9 => ?_)
  · refine aw_aload_0 (q := 21) F dM_last_20 rfl ?_
    refine aw_aload_0 (q := 22) F dM_last_21 rfl ?_
    refine av_getaE (q := 25) F fM_17 dM_last_22 rfl rfl (by first | exact hM.o | exact hl.o | exact hM.a55 | exact hM.a56 | exact hM.a59 | exact hM.a60 | exact hM.a61 | exact hM.a62 | exact hl.a4 | exact hl.a5) hM.p15 ?_
    refine aw_bipush (q := 27) F dM_last_25 rfl (by decide) ?_
    refine av_iaload (q := 28) F dM_last_27 rfl (by first | exact hM.o | exact hl.o | exact hM.a55 | exact hM.a56 | exact hM.a59 | exact hM.a60 | exact hM.a61 | exact hM.a62 | exact hl.a4 | exact hl.a5) (by omega) (by omega) ?_
    rw [show (6 : Int).toNat = 6 from rfl, up2_nea _ _ (by decide), (h.wa (h.pos c9)).1.2.2.1]
    refine av_callV1 (q := 31) (ci := 9) F hm mM_good_i mM_good_n lM_56 dM_last_28 rfl rfl rfl (by first | exact hM.o | exact hl.o | exact hM.a55 | exact hM.a56 | exact hM.a59 | exact hM.a60 | exact hM.a61 | exact hM.a62 | exact hl.a4 | exact hl.a5) (by decide) (Nat.le_refl _) (Nat.le_refl _) (Nat.le_of_ble_eq_true rfl) (wM_good hM ?_)
    refine aw_iret F C dM_last_31 rfl (Nat.le_refl _) (Nat.le_refl _) ?_
    first | exact MK.fin0 (noS_0 (f := vI) (by rw [h.zer c9]; decide) hK) h (by decide) | exact MK.fin0 (noS_1 (f := vI) (h.pos c9) hK) h (by decide)
  · refine aw_aload_0 (q := 13) F dM_last_12 rfl ?_
    refine aw_iconst (q := 14) F dM_last_13 rfl (by decide) ?_
    refine av_callV1 (q := 17) (ci := 9) F hm mM_refused_i mM_refused_n lM_52 dM_last_14 rfl rfl rfl (by first | exact hM.o | exact hl.o | exact hM.a55 | exact hM.a56 | exact hM.a59 | exact hM.a60 | exact hM.a61 | exact hM.a62 | exact hl.a4 | exact hl.a5) (by decide) (Nat.le_refl _) (Nat.le_refl _) (Nat.le_of_ble_eq_true rfl) (wM_refused hM ?_)
    refine aw_goto (t := 31) F dM_last_17 (by decide) ?_
    refine aw_iret F C dM_last_31 rfl (Nat.le_refl _) (Nat.le_refl _) ?_
    first | exact MK.fin0 (noS_0 (f := vI) (by rw [h.zer c9]; decide) hK) h (by decide) | exact MK.fin0 (noS_1 (f := vI) (h.pos c9) hK) h (by decide)
theorem wM_can {x : Int} (h : MW V σ l S) (hK : MK K V σ l (setR S (wy (0 ≤ x ∧ x < stN (psC S)) True)) (some (vI (rfD (wy (0 ≤ x ∧ x < stN (psC S)) True) (bz (mayN (psC S) (psA S) (allP (psC S)) x.toNat)) (-1))))) : Wp G 3 mM_can [vR 53, vI x] (V, σ) 0 0 K := by
  obtain ⟨g, r1, -⟩ := m3 vI hK
  have hM := h.mo
  have e0 : l = 0 → stN (psC S) = 0 := fun e => by show tDn (psT S) * _ = 0; rw [h.zer e, Nat.zero_mul]
  refine wp_intro mM_can_i.1 [some (vR 53), some (vI x)] rfl rfl (Nat.le_of_ble_eq_true rfl) ?_
  intro X hG F C
  have hm := C.rm
  refine aw_aload_0 (q := 1) F dM_can_0 rfl ?_
  refine aw_iconst (q := 2) F dM_can_1 rfl (by decide) ?_
  refine av_puti (q := 5) F fM_46 dM_can_2 rfl rfl (wr_9_0 _) (by first | exact hM.o | exact hl.o | exact hM.a55 | exact hM.a56 | exact hM.a59 | exact hM.a60 | exact hM.a61 | exact hM.a62 | exact hl.a4 | exact hl.a5) ?_
  refine aw_aload_0 (q := 6) F dM_can_5 rfl ?_
  refine av_getaE (q := 9) F fM_281 dM_can_6 rfl rfl (by first | exact hM.o | exact hl.o | exact hM.a55 | exact hM.a56 | exact hM.a59 | exact hM.a60 | exact hM.a61 | exact hM.a62 | exact hl.a4 | exact hl.a5) hM.p3 ?_
  refine aw_ifnull (q := 12) (t := 24) F dM_can_9 rfl (by decide) (fun c9 => ?_) (fun c9 => ?_)
  · refine aw_aload_0 (q := 25) F dM_can_24 rfl ?_
    refine aw_iconst (q := 26) F dM_can_25 rfl (by decide) ?_
    refine av_callV1 (q := 29) (ci := 9) F hm mM_refused_i mM_refused_n lM_52 dM_can_26 rfl rfl rfl (by first | exact hM.o | exact hl.o | exact hM.a55 | exact hM.a56 | exact hM.a59 | exact hM.a60 | exact hM.a61 | exact hM.a62 | exact hl.a4 | exact hl.a5) (by decide) (Nat.le_refl _) (Nat.le_refl _) (Nat.le_of_ble_eq_true rfl) (wM_refused hM ?_)
    refine aw_iret F C dM_can_29 rfl (Nat.le_refl _) (Nat.le_refl _) ?_
    first | exact MK.fin0 (r1 (by have := e0 c9; omega)) h (by decide) | exact MK.fin0 (r1 (by omega)) h (by decide)
  · have hd := h.pos c9
    have hl := h.la hd
    refine aw_iload_1 (q := 13) F dM_can_12 rfl ?_
    refine aw_if_lt (q := 16) (t := 24) F dM_can_13 rfl (by decide) (fun c13 => ?_) (fun c13 => ?_)
    · refine aw_aload_0 (q := 25) F dM_can_24 rfl ?_
      refine aw_iconst (q := 26) F dM_can_25 rfl (by decide) ?_
      refine av_callV1 (q := 29) (ci := 9) F hm mM_refused_i mM_refused_n lM_52 dM_can_26 rfl rfl rfl (by first | exact hM.o | exact hl.o | exact hM.a55 | exact hM.a56 | exact hM.a59 | exact hM.a60 | exact hM.a61 | exact hM.a62 | exact hl.a4 | exact hl.a5) (by decide) (Nat.le_refl _) (Nat.le_refl _) (Nat.le_of_ble_eq_true rfl) (wM_refused hM ?_)
      refine aw_iret F C dM_can_29 rfl (Nat.le_refl _) (Nat.le_refl _) ?_
      first | exact MK.fin0 (r1 (by have := e0 c9; omega)) h (by decide) | exact MK.fin0 (r1 (by omega)) h (by decide)
    · refine aw_iload_1 (q := 17) F dM_can_16 rfl ?_
      refine aw_aload_0 (q := 18) F dM_can_17 rfl ?_
      refine av_callV0 (q := 21) (ci := 9) F hm mM_stepsMany_i mM_stepsMany_n lM_336 dM_can_18 rfl rfl rfl (by first | exact hM.o | exact hl.o | exact hM.a55 | exact hM.a56 | exact hM.a59 | exact hM.a60 | exact hM.a61 | exact hM.a62 | exact hl.a4 | exact hl.a5) (by decide) (Nat.le_refl _) (Nat.le_refl _) (Nat.le_of_ble_eq_true rfl) (wM_stepsMany hM hl (h.th.lc hd) h.hc ?_)
      refine aw_icmp_lt (q := 24) (t := 30) F dM_can_21 rfl (by decide) (fun c21 => ?_) (fun c21 => ?_)
      · refine aw_aload_0 (q := 31) F dM_can_30 rfl ?_
        refine av_callV0 (q := 34) (ci := 9) F hm mM_works_i mM_works_n lM_348 dM_can_31 rfl rfl rfl (by first | exact hM.o | exact hl.o | exact hM.a55 | exact hM.a56 | exact hM.a59 | exact hM.a60 | exact hM.a61 | exact hM.a62 | exact hl.a4 | exact hl.a5) (by decide) (Nat.le_refl _) (Nat.le_refl _) (Nat.le_of_ble_eq_true rfl) (wM_works hM (fun V2 f31 g31 => ?_))
        have hX : XF (up2 V 53 0 0) V2 := f31
        refine aw_aload_0 (q := 35) F dM_can_34 rfl ?_
        refine aw_aload_0 (q := 36) F dM_can_35 rfl ?_
        refine aw_iload_1 (q := 37) F dM_can_36 rfl ?_
        refine av_callV1 (q := 40) (ci := 9) F hm mM_canStep_i mM_canStep_n lM_342 dM_can_37 rfl rfl rfl (by first | exact hM.o | exact hl.o | exact hM.a55 | exact hM.a56 | exact hM.a59 | exact hM.a60 | exact hM.a61 | exact hM.a62 | exact hl.a4 | exact hl.a5) (by decide) (Nat.le_refl _) (Nat.le_refl _) (Nat.le_of_ble_eq_true rfl) (wM_canStep (s := x.toNat) (by omega) (by omega) hM hl (hX.lc (h.h64 hd) (h.th.lc hd)) (AR.now h.th hd g31) h.hc (fun c37 => ?_) (fun c37 => ?_))
        · refine aw_if_eq (q := 43) (t := 47) F dM_can_40 rfl (by decide) (fun c40 => absurd c40 (by decide)) (fun c40 => ?_)
          refine aw_iconst (q := 44) F dM_can_43 rfl (by decide) ?_
          refine aw_goto (t := 48) F dM_can_44 (by decide) ?_
          refine av_callV1 (q := 51) (ci := 9) F hm mM_good_i mM_good_n lM_56 dM_can_48 rfl rfl rfl (by first | exact hM.o | exact hl.o | exact hM.a55 | exact hM.a56 | exact hM.a59 | exact hM.a60 | exact hM.a61 | exact hM.a62 | exact hl.a4 | exact hl.a5) (by decide) (Nat.le_refl _) (Nat.le_refl _) (Nat.le_of_ble_eq_true rfl) (wM_good hM ?_)
          refine aw_iret F C dM_can_51 rfl (Nat.le_refl _) (Nat.le_refl _) ?_
          refine MK.fin (S := S) ?_ h (by decide) ((MF.rf _).xf hX) (h.th.q.xf hX)
          have g' := g (by omega) trivial
          rw [c37] at g'
          exact g'
        · refine aw_if_eq (q := 43) (t := 47) F dM_can_40 rfl (by decide) (fun c40 => ?_) (fun c40 => absurd c40 (by decide))
          refine aw_iconst (q := 48) F dM_can_47 rfl (by decide) ?_
          refine av_callV1 (q := 51) (ci := 9) F hm mM_good_i mM_good_n lM_56 dM_can_48 rfl rfl rfl (by first | exact hM.o | exact hl.o | exact hM.a55 | exact hM.a56 | exact hM.a59 | exact hM.a60 | exact hM.a61 | exact hM.a62 | exact hl.a4 | exact hl.a5) (by decide) (Nat.le_refl _) (Nat.le_refl _) (Nat.le_of_ble_eq_true rfl) (wM_good hM ?_)
          refine aw_iret F C dM_can_51 rfl (Nat.le_refl _) (Nat.le_refl _) ?_
          refine MK.fin (S := S) ?_ h (by decide) ((MF.rf _).xf hX) (h.th.q.xf hX)
          have g' := g (by omega) trivial
          rw [c37] at g'
          exact g'
      · refine aw_aload_0 (q := 25) F dM_can_24 rfl ?_
        refine aw_iconst (q := 26) F dM_can_25 rfl (by decide) ?_
        refine av_callV1 (q := 29) (ci := 9) F hm mM_refused_i mM_refused_n lM_52 dM_can_26 rfl rfl rfl (by first | exact hM.o | exact hl.o | exact hM.a55 | exact hM.a56 | exact hM.a59 | exact hM.a60 | exact hM.a61 | exact hM.a62 | exact hl.a4 | exact hl.a5) (by decide) (Nat.le_refl _) (Nat.le_refl _) (Nat.le_of_ble_eq_true rfl) (wM_refused hM ?_)
        refine aw_iret F C dM_can_29 rfl (Nat.le_refl _) (Nat.le_refl _) ?_
        first | exact MK.fin0 (r1 (by have := e0 c9; omega)) h (by decide) | exact MK.fin0 (r1 (by omega)) h (by decide)
theorem wM_door {x w : Int} (h : MW V σ l S) (hK : MK K V σ l (setR S (wy ((0 ≤ x ∧ x < tDn (psT S)) ∧ 0 ≤ w ∧ w ≤ 5) True)) (some (vI (rfD (wy ((0 ≤ x ∧ x < tDn (psT S)) ∧ 0 ≤ w ∧ w ≤ 5) True) (vDoor S x.toNat w) (-1))))) : Wp G 2 mM_door [vR 53, vI x, vI w] (V, σ) 0 0 K := by
  obtain ⟨g, r1, -⟩ := m3 vI hK
  have hM := h.mo
  have hc := h.hc
  have hd4 : tDn (psT S) ≤ 4 := hc.1
  have hlk : lkC (psC S) < 2147483648 := by have : lkC (psC S) < 16 := hc.2.2.1; omega
  have hnl : nlC (psC S) < 2147483648 := by have : nlC (psC S) < 16 := hc.2.2.2.2.2; omega
  refine wp_intro mM_door_i.1 [some (vR 53), some (vI x), some (vI w)] rfl rfl (Nat.le_of_ble_eq_true rfl) ?_
  intro X hG F C
  have hm := C.rm
  refine aw_aload_0 (q := 1) F dM_door_0 rfl ?_
  refine aw_iconst (q := 2) F dM_door_1 rfl (by decide) ?_
  refine av_puti (q := 5) F fM_46 dM_door_2 rfl rfl (wr_9_0 _) (by first | exact hM.o | exact hl.o | exact hM.a55 | exact hM.a56 | exact hM.a59 | exact hM.a60 | exact hM.a61 | exact hM.a62 | exact hl.a4 | exact hl.a5) ?_
  refine aw_aload_0 (q := 6) F dM_door_5 rfl ?_
  refine aw_iload_1 (q := 7) F dM_door_6 rfl ?_
  refine av_callV1 (q := 10) (ci := 9) F hm mM_isDoor_i mM_isDoor_n lM_354 dM_door_7 rfl rfl rfl (by first | exact hM.o | exact hl.o | exact hM.a55 | exact hM.a56 | exact hM.a59 | exact hM.a60 | exact hM.a61 | exact hM.a62 | exact hl.a4 | exact hl.a5) (by decide) (Nat.le_refl _) (Nat.le_refl _) (Nat.le_of_ble_eq_true rfl) (wM_isDoor (D := tDn (psT S)) hM h.zer h.th.dr (fun c7 => ?_) (fun c7 => ?_))
  · refine aw_if_eq (q := 13) (t := 22) F dM_door_10 rfl (by decide) (fun c10 => absurd c10 (by decide)) (fun c10 => ?_)
    refine aw_iload_2 (q := 14) F dM_door_13 rfl ?_
    refine aw_iconst (q := 15) F dM_door_14 rfl (by decide) ?_
    refine aw_iconst (q := 16) F dM_door_15 rfl (by decide) ?_
    refine av_callS3 (q := 19) F hm mM_in_i mM_in_n lM_357 dM_door_16 rfl (by decide) (Nat.le_refl _) (Nat.le_refl _) (Nat.le_of_ble_eq_true rfl) (wM_in (fun d16 => ?_) (fun d16 => ?_))
    · refine aw_if_ne (q := 22) (t := 28) F dM_door_19 rfl (by decide) (fun c19 => ?_) (fun c19 => absurd c19 (by decide))
      have hd : 0 < tDn (psT S) := by omega
      have hl := h.la hd
      have hA := (h.th (z := 0)).wa hd
      refine aw_aload_0 (q := 29) F dM_door_28 rfl ?_
      refine av_callV0 (q := 32) (ci := 9) F hm mM_works_i mM_works_n lM_348 dM_door_29 rfl rfl rfl (by first | exact hM.o | exact hl.o | exact hM.a55 | exact hM.a56 | exact hM.a59 | exact hM.a60 | exact hM.a61 | exact hM.a62 | exact hl.a4 | exact hl.a5) (by decide) (Nat.le_refl _) (Nat.le_refl _) (Nat.le_of_ble_eq_true rfl) (wM_works hM (fun V2 f29 g29 => ?_))
      have hX : XF (up2 V 53 0 0) V2 := f29
      have hA2 := AR.now h.th hd g29
      have e55 : V2 55 = up2 V 53 0 0 55 := hX 55 (by decide)
      have hC2 := hX.lc (h.h64 hd) (h.th.lc hd)
      have h55 : AR (V2 55) (psC S) (psA S) := by rw [e55]; exact hA.1
      have gg : ∀ r : Int, r = vDoor S x.toNat w → K (some (vI r)) (up2 (up2 V2 53 1 0) 53 2 (-1), σ) := fun r hr => by rw [hr]; exact MK.fin (S := S) (g ⟨c7, d16⟩ trivial) h (by decide) ((MF.rf _).xf hX) (h.th.q.xf hX)
      refine aw_iload_2 (q := 33) F dM_door_32 rfl ?_
      refine aw_table (t := 139) F (fun i => [68, 82, 95, 111, 127].getD i 0) dM_door_33 (by decide) (by decide) (by decide) (fun i hi c33 => ?_) (fun c33 => ?_)
      · match i, hi, c33 with
        | 0, _, c33 =>
          show AW X 68 _ _ _ _ _
          refine aw_aload_0 (q := 69) F dM_door_68 rfl ?_
          refine aw_aload_0 (q := 70) F dM_door_69 rfl ?_
          refine av_getaE (q := 73) F fM_17 dM_door_70 rfl rfl (by first | exact hM.o | exact hl.o | exact hM.a55 | exact hM.a56 | exact hM.a59 | exact hM.a60 | exact hM.a61 | exact hM.a62 | exact hl.a4 | exact hl.a5) hM.p15 ?_
          refine aw_bipush (q := 75) F dM_door_73 rfl (by decide) ?_
          refine aw_iload_1 (q := 76) F dM_door_75 rfl ?_
          refine aw_iadd (q := 77) F dM_door_76 rfl (by constructor <;> omega) ?_
          refine av_iaload (q := 78) F dM_door_77 rfl (by first | exact hM.o | exact hl.o | exact hM.a55 | exact hM.a56 | exact hM.a59 | exact hM.a60 | exact hM.a61 | exact hM.a62 | exact hl.a4 | exact hl.a5) (by omega) (by omega) ?_
          rw [show (7 + x).toNat = 7 + x.toNat by omega, h55.2.2.2.1 x.toNat (by omega)]
          refine av_callV1 (q := 81) (ci := 9) F hm mM_good_i mM_good_n lM_56 dM_door_78 rfl rfl rfl (by first | exact hM.o | exact hl.o | exact hM.a55 | exact hM.a56 | exact hM.a59 | exact hM.a60 | exact hM.a61 | exact hM.a62 | exact hl.a4 | exact hl.a5) (by decide) (Nat.le_refl _) (Nat.le_refl _) (Nat.le_of_ble_eq_true rfl) (wM_good hM ?_)
          refine aw_iret F C dM_door_81 rfl (Nat.le_refl _) (Nat.le_refl _) ?_
          first | (exfalso; omega) | (refine gg _ ?_; rw [show w = 0 by omega]; rfl)
        | 1, _, c33 =>
          show AW X 82 _ _ _ _ _
          refine aw_aload_0 (q := 83) F dM_door_82 rfl ?_
          refine aw_aload_0 (q := 84) F dM_door_83 rfl ?_
          refine av_getaE (q := 87) F fM_17 dM_door_84 rfl rfl (by first | exact hM.o | exact hl.o | exact hM.a55 | exact hM.a56 | exact hM.a59 | exact hM.a60 | exact hM.a61 | exact hM.a62 | exact hl.a4 | exact hl.a5) hM.p15 ?_
          refine aw_iconst (q := 88) F dM_door_87 rfl (by decide) ?_
          refine aw_iload_1 (q := 89) F dM_door_88 rfl ?_
          refine aw_iadd (q := 90) F dM_door_89 rfl (by constructor <;> omega) ?_
          refine av_iaload (q := 91) F dM_door_90 rfl (by first | exact hM.o | exact hl.o | exact hM.a55 | exact hM.a56 | exact hM.a59 | exact hM.a60 | exact hM.a61 | exact hM.a62 | exact hl.a4 | exact hl.a5) (by omega) (by omega) ?_
          rw [show (2 + x).toNat = 2 + x.toNat by omega, ar_ld h55 (by omega) (show x.toNat < tDn (psT S) by omega)]
          refine av_callV1 (q := 94) (ci := 9) F hm mM_good_i mM_good_n lM_56 dM_door_91 rfl rfl rfl (by first | exact hM.o | exact hl.o | exact hM.a55 | exact hM.a56 | exact hM.a59 | exact hM.a60 | exact hM.a61 | exact hM.a62 | exact hl.a4 | exact hl.a5) (by decide) (Nat.le_refl _) (Nat.le_refl _) (Nat.le_of_ble_eq_true rfl) (wM_good hM ?_)
          refine aw_iret F C dM_door_94 rfl (Nat.le_refl _) (Nat.le_refl _) ?_
          first | (exfalso; omega) | (refine gg _ ?_; rw [show w = 1 by omega]; rfl)
        | 2, _, c33 =>
          show AW X 95 _ _ _ _ _
          refine aw_aload_0 (q := 96) F dM_door_95 rfl ?_
          refine aw_aload_0 (q := 97) F dM_door_96 rfl ?_
          refine av_getaE (q := 100) F fM_281 dM_door_97 rfl rfl (by first | exact hM.o | exact hl.o | exact hM.a55 | exact hM.a56 | exact hM.a59 | exact hM.a60 | exact hM.a61 | exact hM.a62 | exact hl.a4 | exact hl.a5) hM.p3 ?_
          refine av_geti (q := 103) F fM_239 dM_door_100 rfl rfl (by first | exact hM.o | exact hl.o | exact hM.a55 | exact hM.a56 | exact hM.a59 | exact hM.a60 | exact hM.a61 | exact hM.a62 | exact hl.a4 | exact hl.a5) ?_
          rw [hC2.2.2.1]
          refine aw_iload_1 (q := 104) F dM_door_103 rfl ?_
          refine aw_ishr (q := 105) F dM_door_104 rfl ?_
          refine aw_iconst (q := 106) F dM_door_105 rfl (by decide) ?_
          refine aw_iand (q := 107) F dM_door_106 rfl ?_
          rw [show x = ((x.toNat : Nat) : Int) by omega, bit_n hlk (by omega)]
          refine av_callV1 (q := 110) (ci := 9) F hm mM_good_i mM_good_n lM_56 dM_door_107 rfl rfl rfl (by first | exact hM.o | exact hl.o | exact hM.a55 | exact hM.a56 | exact hM.a59 | exact hM.a60 | exact hM.a61 | exact hM.a62 | exact hl.a4 | exact hl.a5) (by decide) (Nat.le_refl _) (Nat.le_refl _) (Nat.le_of_ble_eq_true rfl) (wM_good hM ?_)
          refine aw_iret F C dM_door_110 rfl (Nat.le_refl _) (Nat.le_refl _) ?_
          first | (exfalso; omega) | (refine gg _ ?_; rw [show w = 2 by omega]; rfl)
        | 3, _, c33 =>
          show AW X 111 _ _ _ _ _
          refine aw_aload_0 (q := 112) F dM_door_111 rfl ?_
          refine aw_aload_0 (q := 113) F dM_door_112 rfl ?_
          refine av_getaE (q := 116) F fM_17 dM_door_113 rfl rfl (by first | exact hM.o | exact hl.o | exact hM.a55 | exact hM.a56 | exact hM.a59 | exact hM.a60 | exact hM.a61 | exact hM.a62 | exact hl.a4 | exact hl.a5) hM.p15 ?_
          refine aw_bipush (q := 118) F dM_door_116 rfl (by decide) ?_
          refine av_iaload (q := 119) F dM_door_118 rfl (by first | exact hM.o | exact hl.o | exact hM.a55 | exact hM.a56 | exact hM.a59 | exact hM.a60 | exact hM.a61 | exact hM.a62 | exact hl.a4 | exact hl.a5) (by omega) (by omega) ?_
          rw [show (11 : Int).toNat = 11 from rfl, h55.2.2.2.2]
          refine aw_iload_1 (q := 120) F dM_door_119 rfl ?_
          refine aw_ishr (q := 121) F dM_door_120 rfl ?_
          refine aw_iconst (q := 122) F dM_door_121 rfl (by decide) ?_
          refine aw_iand (q := 123) F dM_door_122 rfl ?_
          rw [show x = ((x.toNat : Nat) : Int) by omega, bit_n hnl (by omega)]
          refine av_callV1 (q := 126) (ci := 9) F hm mM_good_i mM_good_n lM_56 dM_door_123 rfl rfl rfl (by first | exact hM.o | exact hl.o | exact hM.a55 | exact hM.a56 | exact hM.a59 | exact hM.a60 | exact hM.a61 | exact hM.a62 | exact hl.a4 | exact hl.a5) (by decide) (Nat.le_refl _) (Nat.le_refl _) (Nat.le_of_ble_eq_true rfl) (wM_good hM ?_)
          refine aw_iret F C dM_door_126 rfl (Nat.le_refl _) (Nat.le_refl _) ?_
          first | (exfalso; omega) | (refine gg _ ?_; rw [show w = 3 by omega]; rfl)
        | 4, _, c33 =>
          show AW X 127 _ _ _ _ _
          refine aw_aload_0 (q := 128) F dM_door_127 rfl ?_
          refine aw_aload_0 (q := 129) F dM_door_128 rfl ?_
          refine aw_iload_1 (q := 130) F dM_door_129 rfl ?_
          refine aw_iconst (q := 131) F dM_door_130 rfl (by decide) ?_
          refine aw_iadd (q := 132) F dM_door_131 rfl (by constructor <;> omega) ?_
          refine av_callV1 (q := 135) (ci := 9) F hm mM_inPlace_i mM_inPlace_n lM_302 dM_door_132 rfl rfl rfl (by first | exact hM.o | exact hl.o | exact hM.a55 | exact hM.a56 | exact hM.a59 | exact hM.a60 | exact hM.a61 | exact hM.a62 | exact hl.a4 | exact hl.a5) (by decide) (Nat.le_refl _) (Nat.le_refl _) (Nat.le_of_ble_eq_true rfl) (wM_inPlace (r := x.toNat + 1) (by omega) hM hl hC2 hA2 hc ?_)
          refine av_callV1 (q := 138) (ci := 9) F hm mM_good_i mM_good_n lM_56 dM_door_135 rfl rfl rfl (by first | exact hM.o | exact hl.o | exact hM.a55 | exact hM.a56 | exact hM.a59 | exact hM.a60 | exact hM.a61 | exact hM.a62 | exact hl.a4 | exact hl.a5) (by decide) (Nat.le_refl _) (Nat.le_refl _) (Nat.le_of_ble_eq_true rfl) (wM_good hM ?_)
          refine aw_iret F C dM_door_138 rfl (Nat.le_refl _) (Nat.le_refl _) ?_
          first | (exfalso; omega) | (refine gg _ ?_; rw [show w = 4 by omega]; rfl)
        | i + 5, hi, _ => exact absurd hi (by show ¬ i + 5 < 5; omega)
      · refine aw_aload_0 (q := 140) F dM_door_139 rfl ?_
        refine aw_aload_0 (q := 141) F dM_door_140 rfl ?_
        refine av_getaE (q := 144) F fM_17 dM_door_141 rfl rfl (by first | exact hM.o | exact hl.o | exact hM.a55 | exact hM.a56 | exact hM.a59 | exact hM.a60 | exact hM.a61 | exact hM.a62 | exact hl.a4 | exact hl.a5) hM.p15 ?_
        refine aw_bipush (q := 146) F dM_door_144 rfl (by decide) ?_
        refine av_iaload (q := 147) F dM_door_146 rfl (by first | exact hM.o | exact hl.o | exact hM.a55 | exact hM.a56 | exact hM.a59 | exact hM.a60 | exact hM.a61 | exact hM.a62 | exact hl.a4 | exact hl.a5) (by omega) (by omega) ?_
        rw [show (6 : Int).toNat = 6 from rfl, h55.2.2.1]
        refine aw_iload_1 (q := 148) F dM_door_147 rfl ?_
        refine aw_icmp_ne (q := 151) (t := 155) F dM_door_148 rfl (by decide) (fun c148 => ?_) (fun c148 => ?_)
        · refine aw_iconst (q := 156) F dM_door_155 rfl (by decide) ?_
          refine av_callV1 (q := 159) (ci := 9) F hm mM_good_i mM_good_n lM_56 dM_door_156 rfl rfl rfl (by first | exact hM.o | exact hl.o | exact hM.a55 | exact hM.a56 | exact hM.a59 | exact hM.a60 | exact hM.a61 | exact hM.a62 | exact hl.a4 | exact hl.a5) (by decide) (Nat.le_refl _) (Nat.le_refl _) (Nat.le_of_ble_eq_true rfl) (wM_good hM ?_)
          refine aw_iret F C dM_door_159 rfl (Nat.le_refl _) (Nat.le_refl _) ?_
          first | (exfalso; omega) | (refine gg _ ?_; rw [show w = 5 by omega]; show _ = (if lst (psC S) (psA S) = x.toNat then (1 : Int) else 0); first | rw [if_pos (by omega)] | rw [if_neg (by omega)])
        · refine aw_iconst (q := 152) F dM_door_151 rfl (by decide) ?_
          refine aw_goto (t := 156) F dM_door_152 (by decide) ?_
          refine av_callV1 (q := 159) (ci := 9) F hm mM_good_i mM_good_n lM_56 dM_door_156 rfl rfl rfl (by first | exact hM.o | exact hl.o | exact hM.a55 | exact hM.a56 | exact hM.a59 | exact hM.a60 | exact hM.a61 | exact hM.a62 | exact hl.a4 | exact hl.a5) (by decide) (Nat.le_refl _) (Nat.le_refl _) (Nat.le_of_ble_eq_true rfl) (wM_good hM ?_)
          refine aw_iret F C dM_door_159 rfl (Nat.le_refl _) (Nat.le_refl _) ?_
          first | (exfalso; omega) | (refine gg _ ?_; rw [show w = 5 by omega]; show _ = (if lst (psC S) (psA S) = x.toNat then (1 : Int) else 0); first | rw [if_pos (by omega)] | rw [if_neg (by omega)])
    · refine aw_if_ne (q := 22) (t := 28) F dM_door_19 rfl (by decide) (fun c19 => absurd c19 (by decide)) (fun c19 => ?_)
      refine aw_aload_0 (q := 23) F dM_door_22 rfl ?_
      refine aw_iconst (q := 24) F dM_door_23 rfl (by decide) ?_
      refine av_callV1 (q := 27) (ci := 9) F hm mM_refused_i mM_refused_n lM_52 dM_door_24 rfl rfl rfl (by first | exact hM.o | exact hl.o | exact hM.a55 | exact hM.a56 | exact hM.a59 | exact hM.a60 | exact hM.a61 | exact hM.a62 | exact hl.a4 | exact hl.a5) (by decide) (Nat.le_refl _) (Nat.le_refl _) (Nat.le_of_ble_eq_true rfl) (wM_refused hM ?_)
      refine aw_iret F C dM_door_27 rfl (Nat.le_refl _) (Nat.le_refl _) ?_
      exact MK.fin0 (r1 (by omega)) h (by decide)
  · refine aw_if_eq (q := 13) (t := 22) F dM_door_10 rfl (by decide) (fun c10 => ?_) (fun c10 => absurd c10 (by decide))
    refine aw_aload_0 (q := 23) F dM_door_22 rfl ?_
    refine aw_iconst (q := 24) F dM_door_23 rfl (by decide) ?_
    refine av_callV1 (q := 27) (ci := 9) F hm mM_refused_i mM_refused_n lM_52 dM_door_24 rfl rfl rfl (by first | exact hM.o | exact hl.o | exact hM.a55 | exact hM.a56 | exact hM.a59 | exact hM.a60 | exact hM.a61 | exact hM.a62 | exact hl.a4 | exact hl.a5) (by decide) (Nat.le_refl _) (Nat.le_refl _) (Nat.le_of_ble_eq_true rfl) (wM_refused hM ?_)
    refine aw_iret F C dM_door_27 rfl (Nat.le_refl _) (Nat.le_refl _) ?_
    exact MK.fin0 (r1 (by omega)) h (by decide)
theorem wM_person {x w : Int} (h : MW V σ l S) (hK : MK K V σ l (setR S (wy ((0 ≤ x ∧ x < tPn (psT S)) ∧ 0 ≤ w ∧ w ≤ 4) True)) (some (vI (rfD (wy ((0 ≤ x ∧ x < tPn (psT S)) ∧ 0 ≤ w ∧ w ≤ 4) True) (vPers S x.toNat w) (-1))))) : Wp G 2 mM_person [vR 53, vI x, vI w] (V, σ) 0 0 K := by
  obtain ⟨g, r1, -⟩ := m3 vI hK
  have hM := h.mo
  have hc := h.hc
  have hp2 : tPn (psT S) ≤ 2 := hc.2.1
  have hky : kyC (psC S) < 2147483648 := by have : kyC (psC S) < 4 := hc.2.2.2.1; omega
  refine wp_intro mM_person_i.1 [some (vR 53), some (vI x), some (vI w)] rfl rfl (Nat.le_of_ble_eq_true rfl) ?_
  intro X hG F C
  have hm := C.rm
  refine aw_aload_0 (q := 1) F dM_person_0 rfl ?_
  refine aw_iconst (q := 2) F dM_person_1 rfl (by decide) ?_
  refine av_puti (q := 5) F fM_46 dM_person_2 rfl rfl (wr_9_0 _) (by first | exact hM.o | exact hl.o | exact hM.a55 | exact hM.a56 | exact hM.a59 | exact hM.a60 | exact hM.a61 | exact hM.a62 | exact hl.a4 | exact hl.a5) ?_
  refine aw_aload_0 (q := 6) F dM_person_5 rfl ?_
  refine aw_iload_1 (q := 7) F dM_person_6 rfl ?_
  refine av_callV1 (q := 10) (ci := 9) F hm mM_isPerson_i mM_isPerson_n lM_361 dM_person_7 rfl rfl rfl (by first | exact hM.o | exact hl.o | exact hM.a55 | exact hM.a56 | exact hM.a59 | exact hM.a60 | exact hM.a61 | exact hM.a62 | exact hl.a4 | exact hl.a5) (by decide) (Nat.le_refl _) (Nat.le_refl _) (Nat.le_of_ble_eq_true rfl) (wM_isPerson (D := tPn (psT S)) hM h.pz h.th.pr (fun c7 => ?_) (fun c7 => ?_))
  · refine aw_if_eq (q := 13) (t := 22) F dM_person_10 rfl (by decide) (fun c10 => absurd c10 (by decide)) (fun c10 => ?_)
    refine aw_iload_2 (q := 14) F dM_person_13 rfl ?_
    refine aw_iconst (q := 15) F dM_person_14 rfl (by decide) ?_
    refine aw_iconst (q := 16) F dM_person_15 rfl (by decide) ?_
    refine av_callS3 (q := 19) F hm mM_in_i mM_in_n lM_357 dM_person_16 rfl (by decide) (Nat.le_refl _) (Nat.le_refl _) (Nat.le_of_ble_eq_true rfl) (wM_in (fun d16 => ?_) (fun d16 => ?_))
    · refine aw_if_ne (q := 22) (t := 28) F dM_person_19 rfl (by decide) (fun c19 => ?_) (fun c19 => absurd c19 (by decide))
      have hd : 0 < tDn (psT S) := h.pos (fun e => by have := h.pz e; omega)
      have hl := h.la hd
      have h55 := ((h.th (z := 0)).wa hd).1
      have hC2 := (h.th (z := 0)).lc hd
      have hL := (h.th (z := 0)).lv hd
      have gg : ∀ r : Int, r = vPers S x.toNat w → K (some (vI r)) (up2 (up2 (up2 V 53 0 0) 53 1 0) 53 2 (-1), σ) := fun r hr => by rw [hr]; exact MK.fin0 (g ⟨c7, d16⟩ trivial) h (by decide)
      refine aw_aload_0 (q := 29) F dM_person_28 rfl ?_
      refine aw_iload_2 (q := 30) F dM_person_29 rfl ?_
      refine aw_if_ne (q := 33) (t := 42) F dM_person_30 rfl (by decide) (fun c30 => ?_) (fun c30 => ?_)
      · refine aw_iload_2 (q := 43) F dM_person_42 rfl ?_
        refine aw_iconst (q := 44) F dM_person_43 rfl (by decide) ?_
        refine aw_icmp_ne (q := 47) (t := 61) F dM_person_44 rfl (by decide) (fun c44 => ?_) (fun c44 => ?_)
        · refine aw_aload_0 (q := 62) F dM_person_61 rfl ?_
          refine av_getaE (q := 65) F fM_281 dM_person_62 rfl rfl (by first | exact hM.o | exact hl.o | exact hM.a55 | exact hM.a56 | exact hM.a59 | exact hM.a60 | exact hM.a61 | exact hM.a62 | exact hl.a4 | exact hl.a5) hM.p3 ?_
          refine av_getaE (q := 68) F fM_268 dM_person_65 rfl rfl (by first | exact hM.o | exact hl.o | exact hM.a55 | exact hM.a56 | exact hM.a59 | exact hM.a60 | exact hM.a61 | exact hM.a62 | exact hl.a4 | exact hl.a5) hl.p12 ?_
          refine aw_iconst (q := 69) F dM_person_68 rfl (by decide) ?_
          refine aw_iload_2 (q := 70) F dM_person_69 rfl ?_
          refine aw_iconst (q := 71) F dM_person_70 rfl (by decide) ?_
          refine aw_isub (q := 72) F dM_person_71 rfl (by constructor <;> omega) ?_
          refine aw_imul (q := 73) F dM_person_72 rfl (by constructor <;> omega) ?_
          refine aw_iload_1 (q := 74) F dM_person_73 rfl ?_
          refine aw_iadd (q := 75) F dM_person_74 rfl (by constructor <;> omega) ?_
          refine av_iaload (q := 76) F dM_person_75 rfl (by first | exact hM.o | exact hl.o | exact hM.a55 | exact hM.a56 | exact hM.a59 | exact hM.a60 | exact hM.a61 | exact hM.a62 | exact hl.a4 | exact hl.a5) (by omega) (by omega) ?_
          try rw [show (2 * (w - 2) + x).toNat = 2 * (w - 2).toNat + x.toNat by omega, hL.2.2.2.1 (w - 2).toNat x.toNat (by omega) (by omega)]
          refine av_callV1 (q := 79) (ci := 9) F hm mM_good_i mM_good_n lM_56 dM_person_76 rfl rfl rfl (by first | exact hM.o | exact hl.o | exact hM.a55 | exact hM.a56 | exact hM.a59 | exact hM.a60 | exact hM.a61 | exact hM.a62 | exact hl.a4 | exact hl.a5) (by decide) (Nat.le_refl _) (Nat.le_refl _) (Nat.le_of_ble_eq_true rfl) (wM_good hM ?_)
          refine aw_iret F C dM_person_79 rfl (Nat.le_refl _) (Nat.le_refl _) ?_
          first | (refine gg _ ?_; rw [show w = 0 by omega]; rfl) | (refine gg _ ?_; rw [show w = 1 by omega]; rfl) | (refine gg _ ?_; rcases (show w = 2 ∨ w = 3 ∨ w = 4 by omega) with e | e | e <;> rw [e] <;> rfl)
        · refine aw_aload_0 (q := 48) F dM_person_47 rfl ?_
          refine av_getaE (q := 51) F fM_281 dM_person_48 rfl rfl (by first | exact hM.o | exact hl.o | exact hM.a55 | exact hM.a56 | exact hM.a59 | exact hM.a60 | exact hM.a61 | exact hM.a62 | exact hl.a4 | exact hl.a5) hM.p3 ?_
          refine av_geti (q := 54) F fM_265 dM_person_51 rfl rfl (by first | exact hM.o | exact hl.o | exact hM.a55 | exact hM.a56 | exact hM.a59 | exact hM.a60 | exact hM.a61 | exact hM.a62 | exact hl.a4 | exact hl.a5) ?_
          rw [hC2.2.2.2]
          refine aw_iload_1 (q := 55) F dM_person_54 rfl ?_
          refine aw_ishr (q := 56) F dM_person_55 rfl ?_
          refine aw_iconst (q := 57) F dM_person_56 rfl (by decide) ?_
          refine aw_iand (q := 58) F dM_person_57 rfl ?_
          rw [show x = ((x.toNat : Nat) : Int) by omega, bit_n hky (by omega)]
          refine aw_goto (t := 76) F dM_person_58 (by decide) ?_
          try rw [show (2 * (w - 2) + x).toNat = 2 * (w - 2).toNat + x.toNat by omega, hL.2.2.2.1 (w - 2).toNat x.toNat (by omega) (by omega)]
          refine av_callV1 (q := 79) (ci := 9) F hm mM_good_i mM_good_n lM_56 dM_person_76 rfl rfl rfl (by first | exact hM.o | exact hl.o | exact hM.a55 | exact hM.a56 | exact hM.a59 | exact hM.a60 | exact hM.a61 | exact hM.a62 | exact hl.a4 | exact hl.a5) (by decide) (Nat.le_refl _) (Nat.le_refl _) (Nat.le_of_ble_eq_true rfl) (wM_good hM ?_)
          refine aw_iret F C dM_person_79 rfl (Nat.le_refl _) (Nat.le_refl _) ?_
          first | (refine gg _ ?_; rw [show w = 0 by omega]; rfl) | (refine gg _ ?_; rw [show w = 1 by omega]; rfl) | (refine gg _ ?_; rcases (show w = 2 ∨ w = 3 ∨ w = 4 by omega) with e | e | e <;> rw [e] <;> rfl)
      · refine aw_aload_0 (q := 34) F dM_person_33 rfl ?_
        refine av_getaE (q := 37) F fM_17 dM_person_34 rfl rfl (by first | exact hM.o | exact hl.o | exact hM.a55 | exact hM.a56 | exact hM.a59 | exact hM.a60 | exact hM.a61 | exact hM.a62 | exact hl.a4 | exact hl.a5) hM.p15 ?_
        refine aw_iload_1 (q := 38) F dM_person_37 rfl ?_
        refine av_iaload (q := 39) F dM_person_38 rfl (by first | exact hM.o | exact hl.o | exact hM.a55 | exact hM.a56 | exact hM.a59 | exact hM.a60 | exact hM.a61 | exact hM.a62 | exact hl.a4 | exact hl.a5) (by omega) (by omega) ?_
        rw [ar_pl h55 (by omega) (show x.toNat < tPn (psT S) by omega)]
        refine aw_goto (t := 76) F dM_person_39 (by decide) ?_
        try rw [show (2 * (w - 2) + x).toNat = 2 * (w - 2).toNat + x.toNat by omega, hL.2.2.2.1 (w - 2).toNat x.toNat (by omega) (by omega)]
        refine av_callV1 (q := 79) (ci := 9) F hm mM_good_i mM_good_n lM_56 dM_person_76 rfl rfl rfl (by first | exact hM.o | exact hl.o | exact hM.a55 | exact hM.a56 | exact hM.a59 | exact hM.a60 | exact hM.a61 | exact hM.a62 | exact hl.a4 | exact hl.a5) (by decide) (Nat.le_refl _) (Nat.le_refl _) (Nat.le_of_ble_eq_true rfl) (wM_good hM ?_)
        refine aw_iret F C dM_person_79 rfl (Nat.le_refl _) (Nat.le_refl _) ?_
        first | (refine gg _ ?_; rw [show w = 0 by omega]; rfl) | (refine gg _ ?_; rw [show w = 1 by omega]; rfl) | (refine gg _ ?_; rcases (show w = 2 ∨ w = 3 ∨ w = 4 by omega) with e | e | e <;> rw [e] <;> rfl)
    · refine aw_if_ne (q := 22) (t := 28) F dM_person_19 rfl (by decide) (fun c19 => absurd c19 (by decide)) (fun c19 => ?_)
      refine aw_aload_0 (q := 23) F dM_person_22 rfl ?_
      refine aw_iconst (q := 24) F dM_person_23 rfl (by decide) ?_
      refine av_callV1 (q := 27) (ci := 9) F hm mM_refused_i mM_refused_n lM_52 dM_person_24 rfl rfl rfl (by first | exact hM.o | exact hl.o | exact hM.a55 | exact hM.a56 | exact hM.a59 | exact hM.a60 | exact hM.a61 | exact hM.a62 | exact hl.a4 | exact hl.a5) (by decide) (Nat.le_refl _) (Nat.le_refl _) (Nat.le_of_ble_eq_true rfl) (wM_refused hM ?_)
      refine aw_iret F C dM_person_27 rfl (Nat.le_refl _) (Nat.le_refl _) ?_
      exact MK.fin0 (r1 (by omega)) h (by decide)
  · refine aw_if_eq (q := 13) (t := 22) F dM_person_10 rfl (by decide) (fun c10 => ?_) (fun c10 => absurd c10 (by decide))
    refine aw_aload_0 (q := 23) F dM_person_22 rfl ?_
    refine aw_iconst (q := 24) F dM_person_23 rfl (by decide) ?_
    refine av_callV1 (q := 27) (ci := 9) F hm mM_refused_i mM_refused_n lM_52 dM_person_24 rfl rfl rfl (by first | exact hM.o | exact hl.o | exact hM.a55 | exact hM.a56 | exact hM.a59 | exact hM.a60 | exact hM.a61 | exact hM.a62 | exact hl.a4 | exact hl.a5) (by decide) (Nat.le_refl _) (Nat.le_refl _) (Nat.le_of_ble_eq_true rfl) (wM_refused hM ?_)
    refine aw_iret F C dM_person_27 rfl (Nat.le_refl _) (Nat.le_refl _) ?_
    exact MK.fin0 (r1 (by omega)) h (by decide)
theorem wM_seenNow (hM : moS σ l) (hl : laS σ l) (hC : LC V l c) (hA : AR (V 55) c n) (hc : okC c) (hK : K (some (vI (rsN c n (dN c)))) (V, σ)) : Wp G 0 mM_seenNow [vR 53] (V, σ) 0 0 K := by
  have h1 := hC.1
  have hd4 : dN c ≤ 4 := hc.1
  refine wp_intro mM_seenNow_i.1 [some (vR 53), none, none] rfl rfl (Nat.le_of_ble_eq_true rfl) ?_
  intro X hG F C
  have hm := C.rm
  have loop : ∀ (j d : Nat), d + j = dN c → ∀ (y z : Int), y = rsN c n d → z = d → AW X 4 [some (vR 53), some (vI y), some (vI z)] [] (V, σ) 0 0 := by
    intro j
    induction j with
    | zero =>
      intro d hd y z hy hz
      refine aw_iload_2 (q := 5) F dM_seenNow_4 rfl ?_
      refine aw_aload_0 (q := 6) F dM_seenNow_5 rfl ?_
      refine av_getaE (q := 9) F fM_281 dM_seenNow_6 rfl rfl (by first | exact hM.o | exact hl.o | exact hM.a55 | exact hM.a56 | exact hM.a59 | exact hM.a60 | exact hM.a61 | exact hM.a62 | exact hl.a4 | exact hl.a5) hM.p3 ?_
      refine av_geti (q := 12) F fM_183 dM_seenNow_9 rfl rfl (by first | exact hM.o | exact hl.o | exact hM.a55 | exact hM.a56 | exact hM.a59 | exact hM.a60 | exact hM.a61 | exact hM.a62 | exact hl.a4 | exact hl.a5) ?_
      rw [h1]
      refine aw_icmp_ge (q := 15) (t := 51) F dM_seenNow_12 rfl (by decide) (fun c12 => ?_) (fun c12 => by omega)
      refine aw_iload_1 (q := 52) F dM_seenNow_51 rfl ?_
      refine aw_iret F C dM_seenNow_52 rfl (Nat.le_refl _) (Nat.le_refl _) ?_
      refine kI hK ?_; rw [hy, show d = dN c by omega]
    | succ j ih =>
      intro d hd y z hy hz
      have hr := rsN_lt hc n d
      have hr1 := rsN_lt hc n (d + 1)
      have hs : rsN c n (d + 1) = rsN c n d ||| if ld c n d ≠ 0 then 2 ^ (ld c n d - 1) else 0 := rfl
      have hll := ld_lt c n d
      have hBs : Bs c = dN c + 1 := rfl
      have e2 : V 55 (2 + d) = (ld c n d : Int) := ar_ld hA (by omega) (by omega)
      refine aw_iload_2 (q := 5) F dM_seenNow_4 rfl ?_
      refine aw_aload_0 (q := 6) F dM_seenNow_5 rfl ?_
      refine av_getaE (q := 9) F fM_281 dM_seenNow_6 rfl rfl (by first | exact hM.o | exact hl.o | exact hM.a55 | exact hM.a56 | exact hM.a59 | exact hM.a60 | exact hM.a61 | exact hM.a62 | exact hl.a4 | exact hl.a5) hM.p3 ?_
      refine av_geti (q := 12) F fM_183 dM_seenNow_9 rfl rfl (by first | exact hM.o | exact hl.o | exact hM.a55 | exact hM.a56 | exact hM.a59 | exact hM.a60 | exact hM.a61 | exact hM.a62 | exact hl.a4 | exact hl.a5) ?_
      rw [h1]
      refine aw_icmp_ge (q := 15) (t := 51) F dM_seenNow_12 rfl (by decide) (fun c12 => by omega) (fun c12 => ?_)
      refine aw_iload_1 (q := 16) F dM_seenNow_15 rfl ?_
      refine aw_aload_0 (q := 17) F dM_seenNow_16 rfl ?_
      refine av_getaE (q := 20) F fM_17 dM_seenNow_17 rfl rfl (by first | exact hM.o | exact hl.o | exact hM.a55 | exact hM.a56 | exact hM.a59 | exact hM.a60 | exact hM.a61 | exact hM.a62 | exact hl.a4 | exact hl.a5) hM.p15 ?_
      refine aw_iconst (q := 21) F dM_seenNow_20 rfl (by decide) ?_
      refine aw_iload_2 (q := 22) F dM_seenNow_21 rfl ?_
      refine aw_iadd (q := 23) F dM_seenNow_22 rfl (by constructor <;> omega) ?_
      refine av_iaload (q := 24) F dM_seenNow_23 rfl (by first | exact hM.o | exact hl.o | exact hM.a55 | exact hM.a56 | exact hM.a59 | exact hM.a60 | exact hM.a61 | exact hM.a62 | exact hl.a4 | exact hl.a5) (by omega) (by omega) ?_
      rw [show (2 + z).toNat = 2 + d by omega, e2]
      refine aw_if_le (q := 27) (t := 42) F dM_seenNow_24 rfl (by decide) (fun c24 => ?_) (fun c24 => ?_)
      · refine aw_iconst (q := 43) F dM_seenNow_42 rfl (by decide) ?_
        first | rw [shl1 (by omega) (by omega), show ((ld c n d : Int) - 1).toNat = ld c n d - 1 by omega, hy] | rw [hy, show (0 : Int) = ((0 : Nat) : Int) from rfl]
        refine aw_ior (q := 44) F dM_seenNow_43 rfl ?_
        refine aw_istore_1 (q := 45) F dM_seenNow_44 rfl trivial ?_
        refine aw_iinc_2 (q := 48) F dM_seenNow_45 rfl trivial (by constructor <;> omega) ?_
        refine aw_goto (t := 4) F dM_seenNow_48 (by decide) ?_
        refine ih (d + 1) (by omega) _ _ ?_ (by omega)
        first
        | (rw [if_pos (by omega)] at hs; rw [hs] at hr1 ⊢; exact zor_n (by omega))
        | (rw [if_neg (by omega)] at hs; rw [hs] at hr1 ⊢; exact zor_n (by omega))
      · refine aw_iconst (q := 28) F dM_seenNow_27 rfl (by decide) ?_
        refine aw_aload_0 (q := 29) F dM_seenNow_28 rfl ?_
        refine av_getaE (q := 32) F fM_17 dM_seenNow_29 rfl rfl (by first | exact hM.o | exact hl.o | exact hM.a55 | exact hM.a56 | exact hM.a59 | exact hM.a60 | exact hM.a61 | exact hM.a62 | exact hl.a4 | exact hl.a5) hM.p15 ?_
        refine aw_iconst (q := 33) F dM_seenNow_32 rfl (by decide) ?_
        refine aw_iload_2 (q := 34) F dM_seenNow_33 rfl ?_
        refine aw_iadd (q := 35) F dM_seenNow_34 rfl (by constructor <;> omega) ?_
        refine av_iaload (q := 36) F dM_seenNow_35 rfl (by first | exact hM.o | exact hl.o | exact hM.a55 | exact hM.a56 | exact hM.a59 | exact hM.a60 | exact hM.a61 | exact hM.a62 | exact hl.a4 | exact hl.a5) (by omega) (by omega) ?_
        rw [show (2 + z).toNat = 2 + d by omega, e2]
        refine aw_iconst (q := 37) F dM_seenNow_36 rfl (by decide) ?_
        refine aw_isub (q := 38) F dM_seenNow_37 rfl (by constructor <;> omega) ?_
        refine aw_ishl (q := 39) F dM_seenNow_38 rfl ?_
        refine aw_goto (t := 43) F dM_seenNow_39 (by decide) ?_
        first | rw [shl1 (by omega) (by omega), show ((ld c n d : Int) - 1).toNat = ld c n d - 1 by omega, hy] | rw [hy, show (0 : Int) = ((0 : Nat) : Int) from rfl]
        refine aw_ior (q := 44) F dM_seenNow_43 rfl ?_
        refine aw_istore_1 (q := 45) F dM_seenNow_44 rfl trivial ?_
        refine aw_iinc_2 (q := 48) F dM_seenNow_45 rfl trivial (by constructor <;> omega) ?_
        refine aw_goto (t := 4) F dM_seenNow_48 (by decide) ?_
        refine ih (d + 1) (by omega) _ _ ?_ (by omega)
        first
        | (rw [if_pos (by omega)] at hs; rw [hs] at hr1 ⊢; exact zor_n (by omega))
        | (rw [if_neg (by omega)] at hs; rw [hs] at hr1 ⊢; exact zor_n (by omega))
  refine aw_iconst (q := 1) F dM_seenNow_0 rfl (by decide) ?_
  refine aw_istore_1 (q := 2) F dM_seenNow_1 rfl trivial ?_
  refine aw_iconst (q := 3) F dM_seenNow_2 rfl (by decide) ?_
  refine aw_istore_2 (q := 4) F dM_seenNow_3 rfl trivial ?_
  exact loop _ 0 (Nat.zero_add _) _ _ rfl rfl
theorem wM_seen (h : MW V σ l S) (hK : MK K V σ l (noS S) (some (vI (noL S (rsN (psC S) (psA S) (tDn (psT S))))))) : Wp G 1 mM_seen [vR 53] (V, σ) 0 0 K := by
  have hM := h.mo
  refine wp_intro mM_seen_i.1 [some (vR 53)] rfl rfl (Nat.le_of_ble_eq_true rfl) ?_
  intro X hG F C
  have hm := C.rm
  refine aw_aload_0 (q := 1) F dM_seen_0 rfl ?_
  refine aw_iconst (q := 2) F dM_seen_1 rfl (by decide) ?_
  refine av_puti (q := 5) F fM_46 dM_seen_2 rfl rfl (wr_9_0 _) (by first | exact hM.o | exact hl.o | exact hM.a55 | exact hM.a56 | exact hM.a59 | exact hM.a60 | exact hM.a61 | exact hM.a62 | exact hl.a4 | exact hl.a5) ?_
  refine aw_aload_0 (q := 6) F dM_seen_5 rfl ?_
  refine av_getaE (q := 9) F fM_281 dM_seen_6 rfl rfl (by first | exact hM.o | exact hl.o | exact hM.a55 | exact hM.a56 | exact hM.a59 | exact hM.a60 | exact hM.a61 | exact hM.a62 | exact hl.a4 | exact hl.a5) hM.p3 ?_
  refine aw_ifnonnull (q := 12) (t := 20) F dM_seen_9 rfl (by decide) (fun c9 => ?_) (fun c9 => ?_)
  · refine aw_aload_0 (q := 21) F dM_seen_20 rfl ?_
    refine aw_aload_0 (q := 22) F dM_seen_21 rfl ?_
    refine av_callV0 (q := 25) (ci := 9) F hm mM_seenNow_i mM_seenNow_n lM_367 dM_seen_22 rfl rfl rfl (by first | exact hM.o | exact hl.o | exact hM.a55 | exact hM.a56 | exact hM.a59 | exact hM.a60 | exact hM.a61 | exact hM.a62 | exact hl.a4 | exact hl.a5) (by decide) (Nat.le_refl _) (Nat.le_refl _) (Nat.le_of_ble_eq_true rfl) (wM_seenNow hM (h.la (h.pos c9)) (h.th.lc (h.pos c9)) (h.th.wa (h.pos c9)).1 h.hc ?_)
    refine av_callV1 (q := 28) (ci := 9) F hm mM_good_i mM_good_n lM_56 dM_seen_25 rfl rfl rfl (by first | exact hM.o | exact hl.o | exact hM.a55 | exact hM.a56 | exact hM.a59 | exact hM.a60 | exact hM.a61 | exact hM.a62 | exact hl.a4 | exact hl.a5) (by decide) (Nat.le_refl _) (Nat.le_refl _) (Nat.le_of_ble_eq_true rfl) (wM_good hM ?_)
    refine aw_iret F C dM_seen_28 rfl (Nat.le_refl _) (Nat.le_refl _) ?_
    first | exact MK.fin0 (noS_0 (f := vI) (by rw [h.zer c9]; decide) hK) h (by decide) | exact MK.fin0 (noS_1 (f := vI) (h.pos c9) hK) h (by decide)
  · refine aw_aload_0 (q := 13) F dM_seen_12 rfl ?_
    refine aw_iconst (q := 14) F dM_seen_13 rfl (by decide) ?_
    refine av_callV1 (q := 17) (ci := 9) F hm mM_refused_i mM_refused_n lM_52 dM_seen_14 rfl rfl rfl (by first | exact hM.o | exact hl.o | exact hM.a55 | exact hM.a56 | exact hM.a59 | exact hM.a60 | exact hM.a61 | exact hM.a62 | exact hl.a4 | exact hl.a5) (by decide) (Nat.le_refl _) (Nat.le_refl _) (Nat.le_of_ble_eq_true rfl) (wM_refused hM ?_)
    refine aw_goto (t := 28) F dM_seen_17 (by decide) ?_
    refine aw_iret F C dM_seen_28 rfl (Nat.le_refl _) (Nat.le_refl _) ?_
    first | exact MK.fin0 (noS_0 (f := vI) (by rw [h.zer c9]; decide) hK) h (by decide) | exact MK.fin0 (noS_1 (f := vI) (h.pos c9) hK) h (by decide)
def shF (S : PS) (p : Nat) : Bool := pl (psC S) (psA S) p != 0 && !(rsN (psC S) (psA S) (dN (psC S))).testBit (pl (psC S) (psA S) p - 1)
theorem shF_1 {p : Nat} (h : pl (psC S) (psA S) p ≠ 0) (g : (rsN (psC S) (psA S) (dN (psC S))).testBit (pl (psC S) (psA S) p - 1) = false) : shF S p = true := by
  unfold shF
  rw [g, bne_iff_ne.mpr h]
  rfl
theorem shF_0 {p : Nat} (g : (rsN (psC S) (psA S) (dN (psC S))).testBit (pl (psC S) (psA S) p - 1) = true) : shF S p = false := by
  unfold shF
  rw [g]
  simp
theorem shF_00 {p : Nat} (g : pl (psC S) (psA S) p = 0) : shF S p = false := by
  unfold shF
  rw [g]
  rfl
theorem shF_n : shutN (psC S) (psA S) = bsum (shF S) (tPn (psT S)) := rfl
theorem wM_shutIn (h : MW V σ l S) (hK : MK K V σ l (noS S) (some (vI (noL S (shutN (psC S) (psA S)))))) : Wp G 1 mM_shutIn [vR 53] (V, σ) 0 0 K := by
  have hM := h.mo
  have hc := h.hc
  have hp2 : tPn (psT S) ≤ 2 := hc.2.1
  have hd4 : tDn (psT S) ≤ 4 := hc.1
  refine wp_intro mM_shutIn_i.1 [some (vR 53), none, none] rfl rfl (Nat.le_of_ble_eq_true rfl) ?_
  intro X hG F C
  have hm := C.rm
  have go : 0 < tDn (psT S) → ∀ (j p : Nat), p + j = tPn (psT S) → ∀ (y z : Int), y = bsum (shF S) p → z = p → AW X 22 [some (vR 53), some (vI y), some (vI z)] [] (up2 V 53 0 0, σ) 0 0 := by
    intro hd j
    have hl := h.la hd
    have hC2 := (h.th (z := 0)).lc hd
    have c2 : up2 V 53 0 0 l 2 = tPn (psT S) := hC2.2.1
    have h55 := ((h.th (z := 0)).wa hd).1
    have hrs := rsN_lt hc (psA S) (dN (psC S))
    induction j with
    | zero =>
      intro p hp y z hy hz
      refine aw_iload_2 (q := 23) F dM_shutIn_22 rfl ?_
      refine aw_aload_0 (q := 24) F dM_shutIn_23 rfl ?_
      refine av_getaE (q := 27) F fM_281 dM_shutIn_24 rfl rfl (by first | exact hM.o | exact hl.o | exact hM.a55 | exact hM.a56 | exact hM.a59 | exact hM.a60 | exact hM.a61 | exact hM.a62 | exact hl.a4 | exact hl.a5) hM.p3 ?_
      refine av_geti (q := 30) F fM_253 dM_shutIn_27 rfl rfl (by first | exact hM.o | exact hl.o | exact hM.a55 | exact hM.a56 | exact hM.a59 | exact hM.a60 | exact hM.a61 | exact hM.a62 | exact hl.a4 | exact hl.a5) ?_
      rw [c2]
      refine aw_icmp_ge (q := 33) (t := 76) F dM_shutIn_30 rfl (by decide) (fun c30 => ?_) (fun c30 => by omega)
      refine aw_aload_0 (q := 77) F dM_shutIn_76 rfl ?_
      refine aw_iload_1 (q := 78) F dM_shutIn_77 rfl ?_
      refine av_callV1 (q := 81) (ci := 9) F hm mM_good_i mM_good_n lM_56 dM_shutIn_78 rfl rfl rfl (by first | exact hM.o | exact hl.o | exact hM.a55 | exact hM.a56 | exact hM.a59 | exact hM.a60 | exact hM.a61 | exact hM.a62 | exact hl.a4 | exact hl.a5) (by decide) (Nat.le_refl _) (Nat.le_refl _) (Nat.le_of_ble_eq_true rfl) (wM_good hM ?_)
      refine aw_iret F C dM_shutIn_81 rfl (Nat.le_refl _) (Nat.le_refl _) ?_
      rw [hy, show p = tPn (psT S) by omega, ← shF_n]; exact MK.fin0 (noS_1 (f := vI) hd hK) h (by decide)
    | succ j ih =>
      intro p hp y z hy hz
      have hpl := pl_lt (psC S) (psA S) p
      have hBs : Bs (psC S) = tDn (psT S) + 1 := rfl
      have e2 : up2 V 53 0 0 55 z.toNat = (pl (psC S) (psA S) p : Int) := by rw [show z.toNat = p by omega]; exact ar_pl h55 (by omega) (show p < tPn (psT S) by omega)
      refine aw_iload_2 (q := 23) F dM_shutIn_22 rfl ?_
      refine aw_aload_0 (q := 24) F dM_shutIn_23 rfl ?_
      refine av_getaE (q := 27) F fM_281 dM_shutIn_24 rfl rfl (by first | exact hM.o | exact hl.o | exact hM.a55 | exact hM.a56 | exact hM.a59 | exact hM.a60 | exact hM.a61 | exact hM.a62 | exact hl.a4 | exact hl.a5) hM.p3 ?_
      refine av_geti (q := 30) F fM_253 dM_shutIn_27 rfl rfl (by first | exact hM.o | exact hl.o | exact hM.a55 | exact hM.a56 | exact hM.a59 | exact hM.a60 | exact hM.a61 | exact hM.a62 | exact hl.a4 | exact hl.a5) ?_
      rw [c2]
      refine aw_icmp_ge (q := 33) (t := 76) F dM_shutIn_30 rfl (by decide) (fun c30 => by omega) (fun c30 => ?_)
      refine aw_iload_1 (q := 34) F dM_shutIn_33 rfl ?_
      refine aw_aload_0 (q := 35) F dM_shutIn_34 rfl ?_
      refine av_getaE (q := 38) F fM_17 dM_shutIn_35 rfl rfl (by first | exact hM.o | exact hl.o | exact hM.a55 | exact hM.a56 | exact hM.a59 | exact hM.a60 | exact hM.a61 | exact hM.a62 | exact hl.a4 | exact hl.a5) hM.p15 ?_
      refine aw_iload_2 (q := 39) F dM_shutIn_38 rfl ?_
      refine av_iaload (q := 40) F dM_shutIn_39 rfl (by first | exact hM.o | exact hl.o | exact hM.a55 | exact hM.a56 | exact hM.a59 | exact hM.a60 | exact hM.a61 | exact hM.a62 | exact hl.a4 | exact hl.a5) (by omega) (by omega) ?_
      rw [e2]
      refine aw_if_le (q := 43) (t := 67) F dM_shutIn_40 rfl (by decide) (fun c40 => ?_) (fun c40 => ?_)
      · refine aw_iconst (q := 68) F dM_shutIn_67 rfl (by decide) ?_
        refine aw_ior (q := 69) F dM_shutIn_68 rfl ?_
        refine aw_istore_1 (q := 70) F dM_shutIn_69 rfl trivial ?_
        refine aw_iinc_2 (q := 73) F dM_shutIn_70 rfl trivial (by constructor <;> omega) ?_
        refine aw_goto (t := 22) F dM_shutIn_73 (by decide) ?_
        refine ih (p + 1) (by omega) _ _ ?_ (by omega)
        first
        | (have hsf := shF_1 (S := S) (p := p) (by omega) c55; exact bs1 (f := shF S) hz hy (by omega) hsf)
        | (have hsf := shF_0 (S := S) (p := p) c55; exact bs0 (f := shF S) hz hy (by omega) hsf)
        | (have hsf := shF_00 (S := S) (p := p) (by omega); exact bs0 (f := shF S) hz hy (by omega) hsf)
      · refine aw_aload_0 (q := 44) F dM_shutIn_43 rfl ?_
        refine av_callV0 (q := 47) (ci := 9) F hm mM_seenNow_i mM_seenNow_n lM_367 dM_shutIn_44 rfl rfl rfl (by first | exact hM.o | exact hl.o | exact hM.a55 | exact hM.a56 | exact hM.a59 | exact hM.a60 | exact hM.a61 | exact hM.a62 | exact hl.a4 | exact hl.a5) (by decide) (Nat.le_refl _) (Nat.le_refl _) (Nat.le_of_ble_eq_true rfl) (wM_seenNow hM hl hC2 h55 hc ?_)
        refine aw_aload_0 (q := 48) F dM_shutIn_47 rfl ?_
        refine av_getaE (q := 51) F fM_17 dM_shutIn_48 rfl rfl (by first | exact hM.o | exact hl.o | exact hM.a55 | exact hM.a56 | exact hM.a59 | exact hM.a60 | exact hM.a61 | exact hM.a62 | exact hl.a4 | exact hl.a5) hM.p15 ?_
        refine aw_iload_2 (q := 52) F dM_shutIn_51 rfl ?_
        refine av_iaload (q := 53) F dM_shutIn_52 rfl (by first | exact hM.o | exact hl.o | exact hM.a55 | exact hM.a56 | exact hM.a59 | exact hM.a60 | exact hM.a61 | exact hM.a62 | exact hl.a4 | exact hl.a5) (by omega) (by omega) ?_
        rw [e2]
        refine aw_iconst (q := 54) F dM_shutIn_53 rfl (by decide) ?_
        refine aw_isub (q := 55) F dM_shutIn_54 rfl (by constructor <;> omega) ?_
        refine av_callS2 (q := 58) F hm mM_bit_i mM_bit_n lM_241 dM_shutIn_55 rfl (by decide) (Nat.le_refl _) (Nat.le_refl _) (Nat.le_of_ble_eq_true rfl) (wM_bit (m := rsN (psC S) (psA S) (dN (psC S))) (d := pl (psC S) (psA S) p - 1) rfl (by omega) (by omega) (by omega) (fun c55 => ?_) (fun c55 => ?_))
        · refine aw_if_ne (q := 61) (t := 67) F dM_shutIn_58 rfl (by decide) (fun c58 => ?_) (fun c58 => absurd c58 (by decide))
          refine aw_iconst (q := 68) F dM_shutIn_67 rfl (by decide) ?_
          refine aw_ior (q := 69) F dM_shutIn_68 rfl ?_
          refine aw_istore_1 (q := 70) F dM_shutIn_69 rfl trivial ?_
          refine aw_iinc_2 (q := 73) F dM_shutIn_70 rfl trivial (by constructor <;> omega) ?_
          refine aw_goto (t := 22) F dM_shutIn_73 (by decide) ?_
          refine ih (p + 1) (by omega) _ _ ?_ (by omega)
          first
          | (have hsf := shF_1 (S := S) (p := p) (by omega) c55; exact bs1 (f := shF S) hz hy (by omega) hsf)
          | (have hsf := shF_0 (S := S) (p := p) c55; exact bs0 (f := shF S) hz hy (by omega) hsf)
          | (have hsf := shF_00 (S := S) (p := p) (by omega); exact bs0 (f := shF S) hz hy (by omega) hsf)
        · refine aw_if_ne (q := 61) (t := 67) F dM_shutIn_58 rfl (by decide) (fun c58 => absurd c58 (by decide)) (fun c58 => ?_)
          refine aw_iconst (q := 62) F dM_shutIn_61 rfl (by decide) ?_
          refine aw_iload_2 (q := 63) F dM_shutIn_62 rfl ?_
          refine aw_ishl (q := 64) F dM_shutIn_63 rfl ?_
          refine aw_goto (t := 68) F dM_shutIn_64 (by decide) ?_
          refine aw_ior (q := 69) F dM_shutIn_68 rfl ?_
          refine aw_istore_1 (q := 70) F dM_shutIn_69 rfl trivial ?_
          refine aw_iinc_2 (q := 73) F dM_shutIn_70 rfl trivial (by constructor <;> omega) ?_
          refine aw_goto (t := 22) F dM_shutIn_73 (by decide) ?_
          refine ih (p + 1) (by omega) _ _ ?_ (by omega)
          first
          | (have hsf := shF_1 (S := S) (p := p) (by omega) c55; exact bs1 (f := shF S) hz hy (by omega) hsf)
          | (have hsf := shF_0 (S := S) (p := p) c55; exact bs0 (f := shF S) hz hy (by omega) hsf)
          | (have hsf := shF_00 (S := S) (p := p) (by omega); exact bs0 (f := shF S) hz hy (by omega) hsf)
  refine aw_aload_0 (q := 1) F dM_shutIn_0 rfl ?_
  refine aw_iconst (q := 2) F dM_shutIn_1 rfl (by decide) ?_
  refine av_puti (q := 5) F fM_46 dM_shutIn_2 rfl rfl (wr_9_0 _) (by first | exact hM.o | exact hl.o | exact hM.a55 | exact hM.a56 | exact hM.a59 | exact hM.a60 | exact hM.a61 | exact hM.a62 | exact hl.a4 | exact hl.a5) ?_
  refine aw_aload_0 (q := 6) F dM_shutIn_5 rfl ?_
  refine av_getaE (q := 9) F fM_281 dM_shutIn_6 rfl rfl (by first | exact hM.o | exact hl.o | exact hM.a55 | exact hM.a56 | exact hM.a59 | exact hM.a60 | exact hM.a61 | exact hM.a62 | exact hl.a4 | exact hl.a5) hM.p3 ?_
  refine aw_ifnonnull (q := 12) (t := 18) F dM_shutIn_9 rfl (by decide) (fun c9 => ?_) (fun c9 => ?_)
  · refine aw_iconst (q := 19) F dM_shutIn_18 rfl (by decide) ?_
    refine aw_istore_1 (q := 20) F dM_shutIn_19 rfl trivial ?_
    refine aw_iconst (q := 21) F dM_shutIn_20 rfl (by decide) ?_
    refine aw_istore_2 (q := 22) F dM_shutIn_21 rfl trivial ?_
    exact go (h.pos c9) _ 0 (Nat.zero_add _) _ _ rfl rfl
  · refine aw_aload_0 (q := 13) F dM_shutIn_12 rfl ?_
    refine aw_iconst (q := 14) F dM_shutIn_13 rfl (by decide) ?_
    refine av_callV1 (q := 17) (ci := 9) F hm mM_refused_i mM_refused_n lM_52 dM_shutIn_14 rfl rfl rfl (by first | exact hM.o | exact hl.o | exact hM.a55 | exact hM.a56 | exact hM.a59 | exact hM.a60 | exact hM.a61 | exact hM.a62 | exact hl.a4 | exact hl.a5) (by decide) (Nat.le_refl _) (Nat.le_refl _) (Nat.le_of_ble_eq_true rfl) (wM_refused hM ?_)
    refine aw_iret F C dM_shutIn_17 rfl (Nat.le_refl _) (Nat.le_refl _) ?_
    exact MK.fin0 (noS_0 (f := vI) (by rw [h.zer c9]; decide) hK) h (by decide)
theorem vSize_0 (h : okP S) (hd : tDn (psT S) = 0) {w : Int} (hw : 0 ≤ w ∧ w ≤ 11) : vSize S w = 0 := by
  obtain ⟨-, -, t, -, -, -, -, -, e⟩ := h
  obtain ⟨-, -, -, t4, t5, -, t7, -, t9, -, t11, -⟩ := t
  obtain ⟨-, hp, hr⟩ := t7 hd
  obtain ⟨e1, e2⟩ := e hd
  rw [hd] at t4
  rw [hp] at t5
  have k1 : tLk (psT S) = 0 := by have : tLk (psT S) < 1 := t4; omega
  have k2 : tKy (psT S) = 0 := by have : tKy (psT S) < 1 := t5; omega
  have d0 : ∀ d, tLd (psT S) d = 0 := fun d => (t9 d (by omega)).2
  have p0 : ∀ p, tAt (psT S) p = 0 ∧ tHo (psT S) p = -2 ∧ tWi (psT S) p = -2 ∧ tSi (psT S) p = -2 := fun p => t11 p (by omega)
  have c1 : cntB (fun d => tLd (psT S) d != 0) 4 = 0 := by simp [cntB, d0]
  have c2 : cntB (fun p => tAt (psT S) p != 0) 2 = 0 := by simp [cntB, p0]
  have c3 : cntB (fun p => tHo (psT S) p != -2) 2 = 0 := by simp [cntB, p0]
  have c4 : cntB (fun p => tWi (psT S) p != -2) 2 = 0 := by simp [cntB, p0]
  have c5 : cntB (fun p => tSi (psT S) p != -2) 2 = 0 := by simp [cntB, p0]
  unfold vSize
  rw [hr, hd, hp, k1, k2, c1, c2, c3, c4, c5, e1, e2]
  rcases (show w = 0 ∨ w = 1 ∨ w = 2 ∨ w = 3 ∨ w = 4 ∨ w = 5 ∨ w = 6 ∨ w = 7 ∨ w = 8 ∨ w = 9 ∨ w = 10 ∨ w = 11 by omega) with q | q | q | q | q | q | q | q | q | q | q | q <;> rw [q] <;> rfl
theorem wM_size {w : Int} (h : MW V σ l S) (hK : MK K V σ l S (some (vI (vSize S w)))) : Wp G 1 mM_size [vR 53, vI w] (V, σ) 0 0 K := by
  have hM := h.mo
  have hc := h.hc
  have k0 := hK.same h
  have hlk : tLk (psT S) < 16 := hc.2.2.1
  have hky : tKy (psT S) < 4 := hc.2.2.2.1
  refine wp_intro mM_size_i.1 [some (vR 53), some (vI w)] rfl rfl (Nat.le_of_ble_eq_true rfl) ?_
  intro X hG F C
  have hm := C.rm
  refine aw_aload_0 (q := 1) F dM_size_0 rfl ?_
  refine aw_iconst (q := 2) F dM_size_1 rfl (by decide) ?_
  refine av_puti (q := 5) F fM_46 dM_size_2 rfl rfl (wr_9_0 _) (by first | exact hM.o | exact hl.o | exact hM.a55 | exact hM.a56 | exact hM.a59 | exact hM.a60 | exact hM.a61 | exact hM.a62 | exact hl.a4 | exact hl.a5) ?_
  refine aw_iload_1 (q := 6) F dM_size_5 rfl ?_
  refine aw_bipush (q := 8) F dM_size_6 rfl (by decide) ?_
  refine aw_icmp_ne (q := 11) (t := 16) F dM_size_8 rfl (by decide) (fun c8 => ?_) (fun c8 => ?_)
  · refine aw_iload_1 (q := 17) F dM_size_16 rfl ?_
    refine aw_iconst (q := 18) F dM_size_17 rfl (by decide) ?_
    refine aw_bipush (q := 20) F dM_size_18 rfl (by decide) ?_
    refine av_callS3 (q := 23) F hm mM_in_i mM_in_n lM_357 dM_size_20 rfl (by decide) (Nat.le_refl _) (Nat.le_refl _) (Nat.le_of_ble_eq_true rfl) (wM_in (fun c20 => ?_) (fun c20 => ?_))
    · refine aw_if_ne (q := 26) (t := 28) F dM_size_23 rfl (by decide) (fun c23 => ?_) (fun c23 => absurd c23 (by decide))
      refine aw_aload_0 (q := 29) F dM_size_28 rfl ?_
      refine av_getaE (q := 32) F fM_281 dM_size_29 rfl rfl (by first | exact hM.o | exact hl.o | exact hM.a55 | exact hM.a56 | exact hM.a59 | exact hM.a60 | exact hM.a61 | exact hM.a62 | exact hl.a4 | exact hl.a5) hM.p3 ?_
      refine aw_ifnonnull (q := 35) (t := 37) F dM_size_32 rfl (by decide) (fun c32 => ?_) (fun c32 => ?_)
      · have hd := h.pos c32
        have hl := h.la hd
        have hL := (h.th (z := 0)).lv hd
        refine aw_iload_1 (q := 38) F dM_size_37 rfl ?_
        refine aw_table (t := 176) F (fun i => [96, 104, 112, 120, 131, 139, 147, 158, 158, 158, 171].getD i 0) dM_size_38 (by decide) (by decide) (by decide) (fun i hi c38 => ?_) (fun c38 => ?_)
        · match i, hi, c38 with
          | 0, _, c38 =>
            show AW X 96 _ _ _ _ _
            refine aw_aload_0 (q := 97) F dM_size_96 rfl ?_
            refine av_getaE (q := 100) F fM_281 dM_size_97 rfl rfl (by first | exact hM.o | exact hl.o | exact hM.a55 | exact hM.a56 | exact hM.a59 | exact hM.a60 | exact hM.a61 | exact hM.a62 | exact hl.a4 | exact hl.a5) hM.p3 ?_
            refine av_geti (q := 103) F fM_151 dM_size_100 rfl rfl (by first | exact hM.o | exact hl.o | exact hM.a55 | exact hM.a56 | exact hM.a59 | exact hM.a60 | exact hM.a61 | exact hM.a62 | exact hl.a4 | exact hl.a5) ?_
            refine aw_iret F C dM_size_103 rfl (Nat.le_refl _) (Nat.le_refl _) ?_
            first | (exfalso; omega) | (refine kI k0 ?_; rw [hL.1.1, show w = 0 by omega]; rfl)
          | 1, _, c38 =>
            show AW X 104 _ _ _ _ _
            refine aw_aload_0 (q := 105) F dM_size_104 rfl ?_
            refine av_getaE (q := 108) F fM_281 dM_size_105 rfl rfl (by first | exact hM.o | exact hl.o | exact hM.a55 | exact hM.a56 | exact hM.a59 | exact hM.a60 | exact hM.a61 | exact hM.a62 | exact hl.a4 | exact hl.a5) hM.p3 ?_
            refine av_geti (q := 111) F fM_183 dM_size_108 rfl rfl (by first | exact hM.o | exact hl.o | exact hM.a55 | exact hM.a56 | exact hM.a59 | exact hM.a60 | exact hM.a61 | exact hM.a62 | exact hl.a4 | exact hl.a5) ?_
            refine aw_iret F C dM_size_111 rfl (Nat.le_refl _) (Nat.le_refl _) ?_
            first | (exfalso; omega) | (refine kI k0 ?_; rw [hL.1.2.1, show w = 1 by omega]; rfl)
          | 2, _, c38 =>
            show AW X 112 _ _ _ _ _
            refine aw_aload_0 (q := 113) F dM_size_112 rfl ?_
            refine av_getaE (q := 116) F fM_281 dM_size_113 rfl rfl (by first | exact hM.o | exact hl.o | exact hM.a55 | exact hM.a56 | exact hM.a59 | exact hM.a60 | exact hM.a61 | exact hM.a62 | exact hl.a4 | exact hl.a5) hM.p3 ?_
            refine av_geti (q := 119) F fM_253 dM_size_116 rfl rfl (by first | exact hM.o | exact hl.o | exact hM.a55 | exact hM.a56 | exact hM.a59 | exact hM.a60 | exact hM.a61 | exact hM.a62 | exact hl.a4 | exact hl.a5) ?_
            refine aw_iret F C dM_size_119 rfl (Nat.le_refl _) (Nat.le_refl _) ?_
            first | (exfalso; omega) | (refine kI k0 ?_; rw [hL.1.2.2.1, show w = 2 by omega]; rfl)
          | 3, _, c38 =>
            show AW X 120 _ _ _ _ _
            refine aw_aload_0 (q := 121) F dM_size_120 rfl ?_
            refine av_getaE (q := 124) F fM_281 dM_size_121 rfl rfl (by first | exact hM.o | exact hl.o | exact hM.a55 | exact hM.a56 | exact hM.a59 | exact hM.a60 | exact hM.a61 | exact hM.a62 | exact hl.a4 | exact hl.a5) hM.p3 ?_
            refine av_geti (q := 127) F fM_239 dM_size_124 rfl rfl (by first | exact hM.o | exact hl.o | exact hM.a55 | exact hM.a56 | exact hM.a59 | exact hM.a60 | exact hM.a61 | exact hM.a62 | exact hl.a4 | exact hl.a5) ?_
            refine av_callS1 (q := 130) F hm mM_bits_i mM_bits_n lM_296 dM_size_127 rfl (by decide) (Nat.le_refl _) (Nat.le_refl _) (Nat.le_of_ble_eq_true rfl) (wM_bits (m := tLk (psT S)) hL.1.2.2.2.1 (by omega) ?_)
            refine aw_iret F C dM_size_130 rfl (Nat.le_refl _) (Nat.le_refl _) ?_
            first | (exfalso; omega) | (refine kI k0 ?_; rw [pcN_16 _ hlk, show w = 3 by omega]; rfl)
          | 4, _, c38 =>
            show AW X 131 _ _ _ _ _
            refine aw_aload_0 (q := 132) F dM_size_131 rfl ?_
            refine av_getaE (q := 135) F fM_281 dM_size_132 rfl rfl (by first | exact hM.o | exact hl.o | exact hM.a55 | exact hM.a56 | exact hM.a59 | exact hM.a60 | exact hM.a61 | exact hM.a62 | exact hl.a4 | exact hl.a5) hM.p3 ?_
            refine av_geti (q := 138) F fM_250 dM_size_135 rfl rfl (by first | exact hM.o | exact hl.o | exact hM.a55 | exact hM.a56 | exact hM.a59 | exact hM.a60 | exact hM.a61 | exact hM.a62 | exact hl.a4 | exact hl.a5) ?_
            refine aw_iret F C dM_size_138 rfl (Nat.le_refl _) (Nat.le_refl _) ?_
            first | (exfalso; omega) | (refine kI k0 ?_; rw [hL.1.2.2.2.2.1, show w = 4 by omega]; rfl)
          | 5, _, c38 =>
            show AW X 139 _ _ _ _ _
            refine aw_aload_0 (q := 140) F dM_size_139 rfl ?_
            refine av_getaE (q := 143) F fM_281 dM_size_140 rfl rfl (by first | exact hM.o | exact hl.o | exact hM.a55 | exact hM.a56 | exact hM.a59 | exact hM.a60 | exact hM.a61 | exact hM.a62 | exact hl.a4 | exact hl.a5) hM.p3 ?_
            refine av_geti (q := 146) F fM_262 dM_size_143 rfl rfl (by first | exact hM.o | exact hl.o | exact hM.a55 | exact hM.a56 | exact hM.a59 | exact hM.a60 | exact hM.a61 | exact hM.a62 | exact hl.a4 | exact hl.a5) ?_
            refine aw_iret F C dM_size_146 rfl (Nat.le_refl _) (Nat.le_refl _) ?_
            first | (exfalso; omega) | (refine kI k0 ?_; rw [hL.1.2.2.2.2.2.2.1, show w = 5 by omega]; rfl)
          | 6, _, c38 =>
            show AW X 147 _ _ _ _ _
            refine aw_aload_0 (q := 148) F dM_size_147 rfl ?_
            refine av_getaE (q := 151) F fM_281 dM_size_148 rfl rfl (by first | exact hM.o | exact hl.o | exact hM.a55 | exact hM.a56 | exact hM.a59 | exact hM.a60 | exact hM.a61 | exact hM.a62 | exact hl.a4 | exact hl.a5) hM.p3 ?_
            refine av_geti (q := 154) F fM_265 dM_size_151 rfl rfl (by first | exact hM.o | exact hl.o | exact hM.a55 | exact hM.a56 | exact hM.a59 | exact hM.a60 | exact hM.a61 | exact hM.a62 | exact hl.a4 | exact hl.a5) ?_
            refine av_callS1 (q := 157) F hm mM_bits_i mM_bits_n lM_296 dM_size_154 rfl (by decide) (Nat.le_refl _) (Nat.le_refl _) (Nat.le_of_ble_eq_true rfl) (wM_bits (m := tKy (psT S)) hL.1.2.2.2.2.2.1 (by omega) ?_)
            refine aw_iret F C dM_size_157 rfl (Nat.le_refl _) (Nat.le_refl _) ?_
            first | (exfalso; omega) | (refine kI k0 ?_; rw [pcN_16 _ (by omega), show w = 6 by omega]; rfl)
          | 7, _, c38 =>
            show AW X 158 _ _ _ _ _
            refine aw_aload_0 (q := 159) F dM_size_158 rfl ?_
            refine av_getaE (q := 162) F fM_281 dM_size_159 rfl rfl (by first | exact hM.o | exact hl.o | exact hM.a55 | exact hM.a56 | exact hM.a59 | exact hM.a60 | exact hM.a61 | exact hM.a62 | exact hl.a4 | exact hl.a5) hM.p3 ?_
            refine av_getaE (q := 165) F fM_271 dM_size_162 rfl rfl (by first | exact hM.o | exact hl.o | exact hM.a55 | exact hM.a56 | exact hM.a59 | exact hM.a60 | exact hM.a61 | exact hM.a62 | exact hl.a4 | exact hl.a5) hl.p13 ?_
            refine aw_iload_1 (q := 166) F dM_size_165 rfl ?_
            refine aw_bipush (q := 168) F dM_size_166 rfl (by decide) ?_
            refine aw_isub (q := 169) F dM_size_168 rfl (by constructor <;> omega) ?_
            refine av_iaload (q := 170) F dM_size_169 rfl (by first | exact hM.o | exact hl.o | exact hM.a55 | exact hM.a56 | exact hM.a59 | exact hM.a60 | exact hM.a61 | exact hM.a62 | exact hl.a4 | exact hl.a5) (by omega) (by omega) ?_
            refine aw_iret F C dM_size_170 rfl (Nat.le_refl _) (Nat.le_refl _) ?_
            first | (exfalso; omega) | (refine kI k0 ?_; rw [show (w - 7).toNat = 0 by omega, hL.2.2.2.2 0 (by decide), show w = 7 by omega]; rfl) | (refine kI k0 ?_; rw [show (w - 7).toNat = 1 by omega, hL.2.2.2.2 1 (by decide), show w = 8 by omega]; rfl) | (refine kI k0 ?_; rw [show (w - 7).toNat = 2 by omega, hL.2.2.2.2 2 (by decide), show w = 9 by omega]; rfl)
          | 8, _, c38 =>
            show AW X 158 _ _ _ _ _
            refine aw_aload_0 (q := 159) F dM_size_158 rfl ?_
            refine av_getaE (q := 162) F fM_281 dM_size_159 rfl rfl (by first | exact hM.o | exact hl.o | exact hM.a55 | exact hM.a56 | exact hM.a59 | exact hM.a60 | exact hM.a61 | exact hM.a62 | exact hl.a4 | exact hl.a5) hM.p3 ?_
            refine av_getaE (q := 165) F fM_271 dM_size_162 rfl rfl (by first | exact hM.o | exact hl.o | exact hM.a55 | exact hM.a56 | exact hM.a59 | exact hM.a60 | exact hM.a61 | exact hM.a62 | exact hl.a4 | exact hl.a5) hl.p13 ?_
            refine aw_iload_1 (q := 166) F dM_size_165 rfl ?_
            refine aw_bipush (q := 168) F dM_size_166 rfl (by decide) ?_
            refine aw_isub (q := 169) F dM_size_168 rfl (by constructor <;> omega) ?_
            refine av_iaload (q := 170) F dM_size_169 rfl (by first | exact hM.o | exact hl.o | exact hM.a55 | exact hM.a56 | exact hM.a59 | exact hM.a60 | exact hM.a61 | exact hM.a62 | exact hl.a4 | exact hl.a5) (by omega) (by omega) ?_
            refine aw_iret F C dM_size_170 rfl (Nat.le_refl _) (Nat.le_refl _) ?_
            first | (exfalso; omega) | (refine kI k0 ?_; rw [show (w - 7).toNat = 0 by omega, hL.2.2.2.2 0 (by decide), show w = 7 by omega]; rfl) | (refine kI k0 ?_; rw [show (w - 7).toNat = 1 by omega, hL.2.2.2.2 1 (by decide), show w = 8 by omega]; rfl) | (refine kI k0 ?_; rw [show (w - 7).toNat = 2 by omega, hL.2.2.2.2 2 (by decide), show w = 9 by omega]; rfl)
          | 9, _, c38 =>
            show AW X 158 _ _ _ _ _
            refine aw_aload_0 (q := 159) F dM_size_158 rfl ?_
            refine av_getaE (q := 162) F fM_281 dM_size_159 rfl rfl (by first | exact hM.o | exact hl.o | exact hM.a55 | exact hM.a56 | exact hM.a59 | exact hM.a60 | exact hM.a61 | exact hM.a62 | exact hl.a4 | exact hl.a5) hM.p3 ?_
            refine av_getaE (q := 165) F fM_271 dM_size_162 rfl rfl (by first | exact hM.o | exact hl.o | exact hM.a55 | exact hM.a56 | exact hM.a59 | exact hM.a60 | exact hM.a61 | exact hM.a62 | exact hl.a4 | exact hl.a5) hl.p13 ?_
            refine aw_iload_1 (q := 166) F dM_size_165 rfl ?_
            refine aw_bipush (q := 168) F dM_size_166 rfl (by decide) ?_
            refine aw_isub (q := 169) F dM_size_168 rfl (by constructor <;> omega) ?_
            refine av_iaload (q := 170) F dM_size_169 rfl (by first | exact hM.o | exact hl.o | exact hM.a55 | exact hM.a56 | exact hM.a59 | exact hM.a60 | exact hM.a61 | exact hM.a62 | exact hl.a4 | exact hl.a5) (by omega) (by omega) ?_
            refine aw_iret F C dM_size_170 rfl (Nat.le_refl _) (Nat.le_refl _) ?_
            first | (exfalso; omega) | (refine kI k0 ?_; rw [show (w - 7).toNat = 0 by omega, hL.2.2.2.2 0 (by decide), show w = 7 by omega]; rfl) | (refine kI k0 ?_; rw [show (w - 7).toNat = 1 by omega, hL.2.2.2.2 1 (by decide), show w = 8 by omega]; rfl) | (refine kI k0 ?_; rw [show (w - 7).toNat = 2 by omega, hL.2.2.2.2 2 (by decide), show w = 9 by omega]; rfl)
          | 10, _, c38 =>
            show AW X 171 _ _ _ _ _
            refine aw_aload_0 (q := 172) F dM_size_171 rfl ?_
            refine av_geti (q := 175) F fM_290 dM_size_172 rfl rfl (by first | exact hM.o | exact hl.o | exact hM.a55 | exact hM.a56 | exact hM.a59 | exact hM.a60 | exact hM.a61 | exact hM.a62 | exact hl.a4 | exact hl.a5) ?_
            refine aw_iret F C dM_size_175 rfl (Nat.le_refl _) (Nat.le_refl _) ?_
            first | (exfalso; omega) | (refine kI k0 ?_; rw [h.th.f.2.2.2.2.1, show w = 10 by omega]; rfl)
          | i + 11, hi, _ => exact absurd hi (by show ¬ i + 11 < 11; omega)
        · refine aw_aload_0 (q := 177) F dM_size_176 rfl ?_
          refine av_geti (q := 180) F fM_293 dM_size_177 rfl rfl (by first | exact hM.o | exact hl.o | exact hM.a55 | exact hM.a56 | exact hM.a59 | exact hM.a60 | exact hM.a61 | exact hM.a62 | exact hl.a4 | exact hl.a5) ?_
          refine aw_iret F C dM_size_180 rfl (Nat.le_refl _) (Nat.le_refl _) ?_
          first | (exfalso; omega) | (refine kI k0 ?_; rw [h.th.f.2.2.2.2.2, show w = 11 by omega]; rfl)
      · refine aw_iconst (q := 36) F dM_size_35 rfl (by decide) ?_
        refine aw_iret F C dM_size_36 rfl (Nat.le_refl _) (Nat.le_refl _) ?_
        exact kI k0 (vSize_0 h.1 (h.zer c32) c20)
    · refine aw_if_ne (q := 26) (t := 28) F dM_size_23 rfl (by decide) (fun c23 => absurd c23 (by decide)) (fun c23 => ?_)
      refine aw_iconst (q := 27) F dM_size_26 rfl (by decide) ?_
      refine aw_iret F C dM_size_27 rfl (Nat.le_refl _) (Nat.le_refl _) ?_
      refine kI k0 ?_
      unfold vSize
      rw [if_neg (by omega), if_neg (by omega), if_neg (by omega), if_neg (by omega), if_neg (by omega), if_neg (by omega), if_neg (by omega), if_neg (by omega), if_neg (by omega), if_neg (by omega), if_neg (by omega), if_neg (by omega), if_neg (by omega)]
  · refine aw_aload_0 (q := 12) F dM_size_11 rfl ?_
    refine av_geti (q := 15) F fM_274 dM_size_12 rfl rfl (by first | exact hM.o | exact hl.o | exact hM.a55 | exact hM.a56 | exact hM.a59 | exact hM.a60 | exact hM.a61 | exact hM.a62 | exact hl.a4 | exact hl.a5) ?_
    refine aw_iret F C dM_size_15 rfl (Nat.le_refl _) (Nat.le_refl _) ?_
    refine kI k0 ?_; rw [h.th.f.2.2.1, c8]; rfl
end Mod20
