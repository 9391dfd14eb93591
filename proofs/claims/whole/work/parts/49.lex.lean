theorem dE_byteAt_0 : decode mE_byteAt.2.1 0 = .ok (.iload_n 1, 1) := by decide +kernel
theorem dE_byteAt_1 : decode mE_byteAt.2.1 1 = .ok (.ifCond .lt 24, 3) := by decide +kernel
theorem dE_byteAt_4 : decode mE_byteAt.2.1 4 = .ok (.iload_n 1, 1) := by decide +kernel
theorem dE_byteAt_5 : decode mE_byteAt.2.1 5 = .ok (.aload_n 0, 1) := by decide +kernel
theorem dE_byteAt_6 : decode mE_byteAt.2.1 6 = .ok (.getfield 32, 3) := by decide +kernel
theorem dE_byteAt_9 : decode mE_byteAt.2.1 9 = .ok (.if_icmp .ge 16, 3) := by decide +kernel
theorem dE_byteAt_12 : decode mE_byteAt.2.1 12 = .ok (.aload_n 0, 1) := by decide +kernel
theorem dE_byteAt_13 : decode mE_byteAt.2.1 13 = .ok (.getfield 22, 3) := by decide +kernel
theorem dE_byteAt_16 : decode mE_byteAt.2.1 16 = .ok (.iload_n 1, 1) := by decide +kernel
theorem dE_byteAt_17 : decode mE_byteAt.2.1 17 = .ok (.baload, 1) := by decide +kernel
theorem dE_byteAt_18 : decode mE_byteAt.2.1 18 = .ok (.sipush 255, 3) := by decide +kernel
theorem dE_byteAt_21 : decode mE_byteAt.2.1 21 = .ok (.iand, 1) := by decide +kernel
theorem dE_byteAt_22 : decode mE_byteAt.2.1 22 = .ok (.goto 4, 3) := by decide +kernel
theorem dE_byteAt_25 : decode mE_byteAt.2.1 25 = .ok (.iconst (-1), 1) := by decide +kernel
theorem dE_byteAt_26 : decode mE_byteAt.2.1 26 = .ok (.ireturn, 1) := by decide +kernel
theorem dE_isLetter_0 : decode mE_isLetter.2.1 0 = .ok (.iload_n 0, 1) := by decide +kernel
theorem dE_isLetter_1 : decode mE_isLetter.2.1 1 = .ok (.bipush 97, 2) := by decide +kernel
theorem dE_isLetter_3 : decode mE_isLetter.2.1 3 = .ok (.if_icmp .lt 13, 3) := by decide +kernel
theorem dE_isLetter_6 : decode mE_isLetter.2.1 6 = .ok (.iload_n 0, 1) := by decide +kernel
theorem dE_isLetter_7 : decode mE_isLetter.2.1 7 = .ok (.bipush 122, 2) := by decide +kernel
theorem dE_isLetter_9 : decode mE_isLetter.2.1 9 = .ok (.if_icmp .gt 7, 3) := by decide +kernel
theorem dE_isLetter_12 : decode mE_isLetter.2.1 12 = .ok (.iconst 1, 1) := by decide +kernel
theorem dE_isLetter_13 : decode mE_isLetter.2.1 13 = .ok (.goto 4, 3) := by decide +kernel
theorem dE_isLetter_16 : decode mE_isLetter.2.1 16 = .ok (.iconst 0, 1) := by decide +kernel
theorem dE_isLetter_17 : decode mE_isLetter.2.1 17 = .ok (.ireturn, 1) := by decide +kernel
theorem dE_isDigit_0 : decode mE_isDigit.2.1 0 = .ok (.iload_n 0, 1) := by decide +kernel
theorem dE_isDigit_1 : decode mE_isDigit.2.1 1 = .ok (.bipush 48, 2) := by decide +kernel
theorem dE_isDigit_3 : decode mE_isDigit.2.1 3 = .ok (.if_icmp .lt 13, 3) := by decide +kernel
theorem dE_isDigit_6 : decode mE_isDigit.2.1 6 = .ok (.iload_n 0, 1) := by decide +kernel
theorem dE_isDigit_7 : decode mE_isDigit.2.1 7 = .ok (.bipush 57, 2) := by decide +kernel
theorem dE_isDigit_9 : decode mE_isDigit.2.1 9 = .ok (.if_icmp .gt 7, 3) := by decide +kernel
theorem dE_isDigit_12 : decode mE_isDigit.2.1 12 = .ok (.iconst 1, 1) := by decide +kernel
theorem dE_isDigit_13 : decode mE_isDigit.2.1 13 = .ok (.goto 4, 3) := by decide +kernel
theorem dE_isDigit_16 : decode mE_isDigit.2.1 16 = .ok (.iconst 0, 1) := by decide +kernel
theorem dE_isDigit_17 : decode mE_isDigit.2.1 17 = .ok (.ireturn, 1) := by decide +kernel
theorem dE_takeWord_0 : decode mE_takeWord.2.1 0 = .ok (.aload_n 0, 1) := by decide +kernel
theorem dE_takeWord_1 : decode mE_takeWord.2.1 1 = .ok (.iconst 0, 1) := by decide +kernel
theorem dE_takeWord_2 : decode mE_takeWord.2.1 2 = .ok (.putfield 167, 3) := by decide +kernel
theorem dE_takeWord_5 : decode mE_takeWord.2.1 5 = .ok (.aload_n 0, 1) := by decide +kernel
theorem dE_takeWord_6 : decode mE_takeWord.2.1 6 = .ok (.lconst 0, 1) := by decide +kernel
theorem dE_takeWord_7 : decode mE_takeWord.2.1 7 = .ok (.putfield 151, 3) := by decide +kernel
theorem dE_takeWord_10 : decode mE_takeWord.2.1 10 = .ok (.iconst 0, 1) := by decide +kernel
theorem dE_takeWord_11 : decode mE_takeWord.2.1 11 = .ok (.istore_n 1, 1) := by decide +kernel
theorem dE_takeWord_12 : decode mE_takeWord.2.1 12 = .ok (.iload_n 1, 1) := by decide +kernel
theorem dE_takeWord_13 : decode mE_takeWord.2.1 13 = .ok (.aload_n 0, 1) := by decide +kernel
theorem dE_takeWord_14 : decode mE_takeWord.2.1 14 = .ok (.getfield 32, 3) := by decide +kernel
theorem dE_takeWord_17 : decode mE_takeWord.2.1 17 = .ok (.if_icmp .ge 66, 3) := by decide +kernel
theorem dE_takeWord_20 : decode mE_takeWord.2.1 20 = .ok (.aload_n 0, 1) := by decide +kernel
theorem dE_takeWord_21 : decode mE_takeWord.2.1 21 = .ok (.aload_n 0, 1) := by decide +kernel
theorem dE_takeWord_22 : decode mE_takeWord.2.1 22 = .ok (.getfield 164, 3) := by decide +kernel
theorem dE_takeWord_25 : decode mE_takeWord.2.1 25 = .ok (.aload_n 0, 1) := by decide +kernel
theorem dE_takeWord_26 : decode mE_takeWord.2.1 26 = .ok (.getfield 167, 3) := by decide +kernel
theorem dE_takeWord_29 : decode mE_takeWord.2.1 29 = .ok (.iadd, 1) := by decide +kernel
theorem dE_takeWord_30 : decode mE_takeWord.2.1 30 = .ok (.invokevirtual 169, 3) := by decide +kernel
theorem dE_takeWord_33 : decode mE_takeWord.2.1 33 = .ok (.invokestatic 173, 3) := by decide +kernel
theorem dE_takeWord_36 : decode mE_takeWord.2.1 36 = .ok (.ifCond .eq 47, 3) := by decide +kernel
theorem dE_takeWord_39 : decode mE_takeWord.2.1 39 = .ok (.aload_n 0, 1) := by decide +kernel
theorem dE_takeWord_40 : decode mE_takeWord.2.1 40 = .ok (.aload_n 0, 1) := by decide +kernel
theorem dE_takeWord_41 : decode mE_takeWord.2.1 41 = .ok (.getfield 151, 3) := by decide +kernel
theorem dE_takeWord_44 : decode mE_takeWord.2.1 44 = .ok (.iconst 5, 1) := by decide +kernel
theorem dE_takeWord_45 : decode mE_takeWord.2.1 45 = .ok (.lshl, 1) := by decide +kernel
theorem dE_takeWord_46 : decode mE_takeWord.2.1 46 = .ok (.aload_n 0, 1) := by decide +kernel
theorem dE_takeWord_47 : decode mE_takeWord.2.1 47 = .ok (.aload_n 0, 1) := by decide +kernel
theorem dE_takeWord_48 : decode mE_takeWord.2.1 48 = .ok (.getfield 164, 3) := by decide +kernel
theorem dE_takeWord_51 : decode mE_takeWord.2.1 51 = .ok (.aload_n 0, 1) := by decide +kernel
theorem dE_takeWord_52 : decode mE_takeWord.2.1 52 = .ok (.getfield 167, 3) := by decide +kernel
theorem dE_takeWord_55 : decode mE_takeWord.2.1 55 = .ok (.iadd, 1) := by decide +kernel
theorem dE_takeWord_56 : decode mE_takeWord.2.1 56 = .ok (.invokevirtual 169, 3) := by decide +kernel
theorem dE_takeWord_59 : decode mE_takeWord.2.1 59 = .ok (.bipush 31, 2) := by decide +kernel
theorem dE_takeWord_61 : decode mE_takeWord.2.1 61 = .ok (.iand, 1) := by decide +kernel
theorem dE_takeWord_62 : decode mE_takeWord.2.1 62 = .ok (.i2l, 1) := by decide +kernel
theorem dE_takeWord_63 : decode mE_takeWord.2.1 63 = .ok (.lor, 1) := by decide +kernel
theorem dE_takeWord_64 : decode mE_takeWord.2.1 64 = .ok (.putfield 151, 3) := by decide +kernel
theorem dE_takeWord_67 : decode mE_takeWord.2.1 67 = .ok (.aload_n 0, 1) := by decide +kernel
theorem dE_takeWord_68 : decode mE_takeWord.2.1 68 = .ok (.dup, 1) := by decide +kernel
theorem dE_takeWord_69 : decode mE_takeWord.2.1 69 = .ok (.getfield 167, 3) := by decide +kernel
theorem dE_takeWord_72 : decode mE_takeWord.2.1 72 = .ok (.iconst 1, 1) := by decide +kernel
theorem dE_takeWord_73 : decode mE_takeWord.2.1 73 = .ok (.iadd, 1) := by decide +kernel
theorem dE_takeWord_74 : decode mE_takeWord.2.1 74 = .ok (.putfield 167, 3) := by decide +kernel
theorem dE_takeWord_77 : decode mE_takeWord.2.1 77 = .ok (.iinc 1 1, 3) := by decide +kernel
theorem dE_takeWord_80 : decode mE_takeWord.2.1 80 = .ok (.goto (-68), 3) := by decide +kernel
theorem dE_takeWord_83 : decode mE_takeWord.2.1 83 = .ok (.aload_n 0, 1) := by decide +kernel
theorem dE_takeWord_84 : decode mE_takeWord.2.1 84 = .ok (.aload_n 0, 1) := by decide +kernel
theorem dE_takeWord_85 : decode mE_takeWord.2.1 85 = .ok (.getfield 167, 3) := by decide +kernel
theorem dE_takeWord_88 : decode mE_takeWord.2.1 88 = .ok (.bipush 8, 2) := by decide +kernel
theorem dE_takeWord_90 : decode mE_takeWord.2.1 90 = .ok (.if_icmp .gt 7, 3) := by decide +kernel
theorem dE_takeWord_93 : decode mE_takeWord.2.1 93 = .ok (.iconst 1, 1) := by decide +kernel
theorem dE_takeWord_94 : decode mE_takeWord.2.1 94 = .ok (.goto 4, 3) := by decide +kernel
theorem dE_takeWord_97 : decode mE_takeWord.2.1 97 = .ok (.iconst 4, 1) := by decide +kernel
theorem dE_takeWord_98 : decode mE_takeWord.2.1 98 = .ok (.putfield 43, 3) := by decide +kernel
theorem dE_takeWord_101 : decode mE_takeWord.2.1 101 = .ok (.return_, 1) := by decide +kernel
theorem dE_takeWhole_0 : decode mE_takeWhole.2.1 0 = .ok (.aload_n 0, 1) := by decide +kernel
theorem dE_takeWhole_1 : decode mE_takeWhole.2.1 1 = .ok (.iconst 0, 1) := by decide +kernel
theorem dE_takeWhole_2 : decode mE_takeWhole.2.1 2 = .ok (.putfield 167, 3) := by decide +kernel
theorem dE_takeWhole_5 : decode mE_takeWhole.2.1 5 = .ok (.aload_n 0, 1) := by decide +kernel
theorem dE_takeWhole_6 : decode mE_takeWhole.2.1 6 = .ok (.iconst 0, 1) := by decide +kernel
theorem dE_takeWhole_7 : decode mE_takeWhole.2.1 7 = .ok (.putfield 103, 3) := by decide +kernel
theorem dE_takeWhole_10 : decode mE_takeWhole.2.1 10 = .ok (.iconst 0, 1) := by decide +kernel
theorem dE_takeWhole_11 : decode mE_takeWhole.2.1 11 = .ok (.istore_n 1, 1) := by decide +kernel
theorem dE_takeWhole_12 : decode mE_takeWhole.2.1 12 = .ok (.iload_n 1, 1) := by decide +kernel
theorem dE_takeWhole_13 : decode mE_takeWhole.2.1 13 = .ok (.aload_n 0, 1) := by decide +kernel
theorem dE_takeWhole_14 : decode mE_takeWhole.2.1 14 = .ok (.getfield 32, 3) := by decide +kernel
theorem dE_takeWhole_17 : decode mE_takeWhole.2.1 17 = .ok (.if_icmp .ge 81, 3) := by decide +kernel
theorem dE_takeWhole_20 : decode mE_takeWhole.2.1 20 = .ok (.aload_n 0, 1) := by decide +kernel
theorem dE_takeWhole_21 : decode mE_takeWhole.2.1 21 = .ok (.aload_n 0, 1) := by decide +kernel
theorem dE_takeWhole_22 : decode mE_takeWhole.2.1 22 = .ok (.getfield 164, 3) := by decide +kernel
theorem dE_takeWhole_25 : decode mE_takeWhole.2.1 25 = .ok (.aload_n 0, 1) := by decide +kernel
theorem dE_takeWhole_26 : decode mE_takeWhole.2.1 26 = .ok (.getfield 167, 3) := by decide +kernel
theorem dE_takeWhole_29 : decode mE_takeWhole.2.1 29 = .ok (.iadd, 1) := by decide +kernel
theorem dE_takeWhole_30 : decode mE_takeWhole.2.1 30 = .ok (.invokevirtual 169, 3) := by decide +kernel
theorem dE_takeWhole_33 : decode mE_takeWhole.2.1 33 = .ok (.invokestatic 179, 3) := by decide +kernel
theorem dE_takeWhole_36 : decode mE_takeWhole.2.1 36 = .ok (.ifCond .eq 62, 3) := by decide +kernel
theorem dE_takeWhole_39 : decode mE_takeWhole.2.1 39 = .ok (.aload_n 0, 1) := by decide +kernel
theorem dE_takeWhole_40 : decode mE_takeWhole.2.1 40 = .ok (.aload_n 0, 1) := by decide +kernel
theorem dE_takeWhole_41 : decode mE_takeWhole.2.1 41 = .ok (.getfield 167, 3) := by decide +kernel
theorem dE_takeWhole_44 : decode mE_takeWhole.2.1 44 = .ok (.iconst 3, 1) := by decide +kernel
theorem dE_takeWhole_45 : decode mE_takeWhole.2.1 45 = .ok (.if_icmp .ge 30, 3) := by decide +kernel
theorem dE_takeWhole_48 : decode mE_takeWhole.2.1 48 = .ok (.aload_n 0, 1) := by decide +kernel
theorem dE_takeWhole_49 : decode mE_takeWhole.2.1 49 = .ok (.getfield 103, 3) := by decide +kernel
theorem dE_takeWhole_52 : decode mE_takeWhole.2.1 52 = .ok (.bipush 10, 2) := by decide +kernel
theorem dE_takeWhole_54 : decode mE_takeWhole.2.1 54 = .ok (.imul, 1) := by decide +kernel
theorem dE_takeWhole_55 : decode mE_takeWhole.2.1 55 = .ok (.aload_n 0, 1) := by decide +kernel
theorem dE_takeWhole_56 : decode mE_takeWhole.2.1 56 = .ok (.aload_n 0, 1) := by decide +kernel
theorem dE_takeWhole_57 : decode mE_takeWhole.2.1 57 = .ok (.getfield 164, 3) := by decide +kernel
theorem dE_takeWhole_60 : decode mE_takeWhole.2.1 60 = .ok (.aload_n 0, 1) := by decide +kernel
theorem dE_takeWhole_61 : decode mE_takeWhole.2.1 61 = .ok (.getfield 167, 3) := by decide +kernel
theorem dE_takeWhole_64 : decode mE_takeWhole.2.1 64 = .ok (.iadd, 1) := by decide +kernel
theorem dE_takeWhole_65 : decode mE_takeWhole.2.1 65 = .ok (.invokevirtual 169, 3) := by decide +kernel
theorem dE_takeWhole_68 : decode mE_takeWhole.2.1 68 = .ok (.iadd, 1) := by decide +kernel
theorem dE_takeWhole_69 : decode mE_takeWhole.2.1 69 = .ok (.bipush 48, 2) := by decide +kernel
theorem dE_takeWhole_71 : decode mE_takeWhole.2.1 71 = .ok (.isub, 1) := by decide +kernel
theorem dE_takeWhole_72 : decode mE_takeWhole.2.1 72 = .ok (.goto 7, 3) := by decide +kernel
theorem dE_takeWhole_75 : decode mE_takeWhole.2.1 75 = .ok (.aload_n 0, 1) := by decide +kernel
theorem dE_takeWhole_76 : decode mE_takeWhole.2.1 76 = .ok (.getfield 103, 3) := by decide +kernel
theorem dE_takeWhole_79 : decode mE_takeWhole.2.1 79 = .ok (.putfield 103, 3) := by decide +kernel
theorem dE_takeWhole_82 : decode mE_takeWhole.2.1 82 = .ok (.aload_n 0, 1) := by decide +kernel
theorem dE_takeWhole_83 : decode mE_takeWhole.2.1 83 = .ok (.dup, 1) := by decide +kernel
theorem dE_takeWhole_84 : decode mE_takeWhole.2.1 84 = .ok (.getfield 167, 3) := by decide +kernel
theorem dE_takeWhole_87 : decode mE_takeWhole.2.1 87 = .ok (.iconst 1, 1) := by decide +kernel
theorem dE_takeWhole_88 : decode mE_takeWhole.2.1 88 = .ok (.iadd, 1) := by decide +kernel
theorem dE_takeWhole_89 : decode mE_takeWhole.2.1 89 = .ok (.putfield 167, 3) := by decide +kernel
theorem dE_takeWhole_92 : decode mE_takeWhole.2.1 92 = .ok (.iinc 1 1, 3) := by decide +kernel
theorem dE_takeWhole_95 : decode mE_takeWhole.2.1 95 = .ok (.goto (-83), 3) := by decide +kernel
theorem dE_takeWhole_98 : decode mE_takeWhole.2.1 98 = .ok (.aload_n 0, 1) := by decide +kernel
theorem dE_takeWhole_99 : decode mE_takeWhole.2.1 99 = .ok (.aload_n 0, 1) := by decide +kernel
theorem dE_takeWhole_100 : decode mE_takeWhole.2.1 100 = .ok (.getfield 167, 3) := by decide +kernel
theorem dE_takeWhole_103 : decode mE_takeWhole.2.1 103 = .ok (.iconst 3, 1) := by decide +kernel
theorem dE_takeWhole_104 : decode mE_takeWhole.2.1 104 = .ok (.if_icmp .gt 7, 3) := by decide +kernel
theorem dE_takeWhole_107 : decode mE_takeWhole.2.1 107 = .ok (.iconst 2, 1) := by decide +kernel
theorem dE_takeWhole_108 : decode mE_takeWhole.2.1 108 = .ok (.goto 4, 3) := by decide +kernel
theorem dE_takeWhole_111 : decode mE_takeWhole.2.1 111 = .ok (.iconst 4, 1) := by decide +kernel
theorem dE_takeWhole_112 : decode mE_takeWhole.2.1 112 = .ok (.putfield 43, 3) := by decide +kernel
theorem dE_takeWhole_115 : decode mE_takeWhole.2.1 115 = .ok (.return_, 1) := by decide +kernel
theorem dE_advance_0 : decode mE_advance.2.1 0 = .ok (.aload_n 0, 1) := by decide +kernel
theorem dE_advance_1 : decode mE_advance.2.1 1 = .ok (.dup, 1) := by decide +kernel
theorem dE_advance_2 : decode mE_advance.2.1 2 = .ok (.getfield 164, 3) := by decide +kernel
theorem dE_advance_5 : decode mE_advance.2.1 5 = .ok (.aload_n 0, 1) := by decide +kernel
theorem dE_advance_6 : decode mE_advance.2.1 6 = .ok (.getfield 167, 3) := by decide +kernel
theorem dE_advance_9 : decode mE_advance.2.1 9 = .ok (.iadd, 1) := by decide +kernel
theorem dE_advance_10 : decode mE_advance.2.1 10 = .ok (.putfield 164, 3) := by decide +kernel
theorem dE_advance_13 : decode mE_advance.2.1 13 = .ok (.iconst 0, 1) := by decide +kernel
theorem dE_advance_14 : decode mE_advance.2.1 14 = .ok (.istore_n 1, 1) := by decide +kernel
theorem dE_advance_15 : decode mE_advance.2.1 15 = .ok (.iload_n 1, 1) := by decide +kernel
theorem dE_advance_16 : decode mE_advance.2.1 16 = .ok (.aload_n 0, 1) := by decide +kernel
theorem dE_advance_17 : decode mE_advance.2.1 17 = .ok (.getfield 32, 3) := by decide +kernel
theorem dE_advance_20 : decode mE_advance.2.1 20 = .ok (.if_icmp .ge 32, 3) := by decide +kernel
theorem dE_advance_23 : decode mE_advance.2.1 23 = .ok (.aload_n 0, 1) := by decide +kernel
theorem dE_advance_24 : decode mE_advance.2.1 24 = .ok (.aload_n 0, 1) := by decide +kernel
theorem dE_advance_25 : decode mE_advance.2.1 25 = .ok (.getfield 164, 3) := by decide +kernel
theorem dE_advance_28 : decode mE_advance.2.1 28 = .ok (.invokevirtual 169, 3) := by decide +kernel
theorem dE_advance_31 : decode mE_advance.2.1 31 = .ok (.bipush 32, 2) := by decide +kernel
theorem dE_advance_33 : decode mE_advance.2.1 33 = .ok (.if_icmp .ne 19, 3) := by decide +kernel
theorem dE_advance_36 : decode mE_advance.2.1 36 = .ok (.aload_n 0, 1) := by decide +kernel
theorem dE_advance_37 : decode mE_advance.2.1 37 = .ok (.dup, 1) := by decide +kernel
theorem dE_advance_38 : decode mE_advance.2.1 38 = .ok (.getfield 164, 3) := by decide +kernel
theorem dE_advance_41 : decode mE_advance.2.1 41 = .ok (.iconst 1, 1) := by decide +kernel
theorem dE_advance_42 : decode mE_advance.2.1 42 = .ok (.iadd, 1) := by decide +kernel
theorem dE_advance_43 : decode mE_advance.2.1 43 = .ok (.putfield 164, 3) := by decide +kernel
theorem dE_advance_46 : decode mE_advance.2.1 46 = .ok (.iinc 1 1, 3) := by decide +kernel
theorem dE_advance_49 : decode mE_advance.2.1 49 = .ok (.goto (-34), 3) := by decide +kernel
theorem dE_advance_52 : decode mE_advance.2.1 52 = .ok (.aload_n 0, 1) := by decide +kernel
theorem dE_advance_53 : decode mE_advance.2.1 53 = .ok (.aload_n 0, 1) := by decide +kernel
theorem dE_advance_54 : decode mE_advance.2.1 54 = .ok (.getfield 164, 3) := by decide +kernel
theorem dE_advance_57 : decode mE_advance.2.1 57 = .ok (.invokevirtual 169, 3) := by decide +kernel
theorem dE_advance_60 : decode mE_advance.2.1 60 = .ok (.istore_n 1, 1) := by decide +kernel
theorem dE_advance_61 : decode mE_advance.2.1 61 = .ok (.iload_n 1, 1) := by decide +kernel
theorem dE_advance_62 : decode mE_advance.2.1 62 = .ok (.iconst (-1), 1) := by decide +kernel
theorem dE_advance_63 : decode mE_advance.2.1 63 = .ok (.if_icmp .ne 16, 3) := by decide +kernel
theorem dE_advance_66 : decode mE_advance.2.1 66 = .ok (.aload_n 0, 1) := by decide +kernel
theorem dE_advance_67 : decode mE_advance.2.1 67 = .ok (.iconst 0, 1) := by decide +kernel
theorem dE_advance_68 : decode mE_advance.2.1 68 = .ok (.putfield 43, 3) := by decide +kernel
theorem dE_advance_71 : decode mE_advance.2.1 71 = .ok (.aload_n 0, 1) := by decide +kernel
theorem dE_advance_72 : decode mE_advance.2.1 72 = .ok (.iconst 0, 1) := by decide +kernel
theorem dE_advance_73 : decode mE_advance.2.1 73 = .ok (.putfield 167, 3) := by decide +kernel
theorem dE_advance_76 : decode mE_advance.2.1 76 = .ok (.goto 51, 3) := by decide +kernel
theorem dE_advance_79 : decode mE_advance.2.1 79 = .ok (.iload_n 1, 1) := by decide +kernel
theorem dE_advance_80 : decode mE_advance.2.1 80 = .ok (.invokestatic 173, 3) := by decide +kernel
theorem dE_advance_83 : decode mE_advance.2.1 83 = .ok (.ifCond .eq 10, 3) := by decide +kernel
theorem dE_advance_86 : decode mE_advance.2.1 86 = .ok (.aload_n 0, 1) := by decide +kernel
theorem dE_advance_87 : decode mE_advance.2.1 87 = .ok (.invokevirtual 176, 3) := by decide +kernel
theorem dE_advance_90 : decode mE_advance.2.1 90 = .ok (.goto 37, 3) := by decide +kernel
theorem dE_advance_93 : decode mE_advance.2.1 93 = .ok (.iload_n 1, 1) := by decide +kernel
theorem dE_advance_94 : decode mE_advance.2.1 94 = .ok (.invokestatic 179, 3) := by decide +kernel
theorem dE_advance_97 : decode mE_advance.2.1 97 = .ok (.ifCond .eq 10, 3) := by decide +kernel
theorem dE_advance_100 : decode mE_advance.2.1 100 = .ok (.aload_n 0, 1) := by decide +kernel
theorem dE_advance_101 : decode mE_advance.2.1 101 = .ok (.invokevirtual 182, 3) := by decide +kernel
theorem dE_advance_104 : decode mE_advance.2.1 104 = .ok (.goto 23, 3) := by decide +kernel
theorem dE_advance_107 : decode mE_advance.2.1 107 = .ok (.aload_n 0, 1) := by decide +kernel
theorem dE_advance_108 : decode mE_advance.2.1 108 = .ok (.iload_n 1, 1) := by decide +kernel
theorem dE_advance_109 : decode mE_advance.2.1 109 = .ok (.bipush 59, 2) := by decide +kernel
theorem dE_advance_111 : decode mE_advance.2.1 111 = .ok (.if_icmp .ne 7, 3) := by decide +kernel
theorem dE_advance_114 : decode mE_advance.2.1 114 = .ok (.iconst 3, 1) := by decide +kernel
theorem dE_advance_115 : decode mE_advance.2.1 115 = .ok (.goto 4, 3) := by decide +kernel
theorem dE_advance_118 : decode mE_advance.2.1 118 = .ok (.iconst 4, 1) := by decide +kernel
theorem dE_advance_119 : decode mE_advance.2.1 119 = .ok (.putfield 43, 3) := by decide +kernel
theorem dE_advance_122 : decode mE_advance.2.1 122 = .ok (.aload_n 0, 1) := by decide +kernel
theorem dE_advance_123 : decode mE_advance.2.1 123 = .ok (.iconst 1, 1) := by decide +kernel
theorem dE_advance_124 : decode mE_advance.2.1 124 = .ok (.putfield 167, 3) := by decide +kernel
theorem dE_advance_127 : decode mE_advance.2.1 127 = .ok (.iconst 1, 1) := by decide +kernel
theorem dE_advance_128 : decode mE_advance.2.1 128 = .ok (.ireturn, 1) := by decide +kernel
theorem dE_fail_0 : decode mE_fail.2.1 0 = .ok (.aload_n 0, 1) := by decide +kernel
theorem dE_fail_1 : decode mE_fail.2.1 1 = .ok (.iload_n 1, 1) := by decide +kernel
theorem dE_fail_2 : decode mE_fail.2.1 2 = .ok (.putfield 185, 3) := by decide +kernel
theorem dE_fail_5 : decode mE_fail.2.1 5 = .ok (.iconst 0, 1) := by decide +kernel
theorem dE_fail_6 : decode mE_fail.2.1 6 = .ok (.ireturn, 1) := by decide +kernel
theorem dE_wordNumber_0 : decode mE_wordNumber.2.1 0 = .ok (.aload_n 0, 1) := by decide +kernel
theorem dE_wordNumber_1 : decode mE_wordNumber.2.1 1 = .ok (.getfield 43, 3) := by decide +kernel
theorem dE_wordNumber_4 : decode mE_wordNumber.2.1 4 = .ok (.iconst 1, 1) := by decide +kernel
theorem dE_wordNumber_5 : decode mE_wordNumber.2.1 5 = .ok (.if_icmp .eq 5, 3) := by decide +kernel
theorem dE_wordNumber_8 : decode mE_wordNumber.2.1 8 = .ok (.iconst (-1), 1) := by decide +kernel
theorem dE_wordNumber_9 : decode mE_wordNumber.2.1 9 = .ok (.ireturn, 1) := by decide +kernel
theorem dE_wordNumber_10 : decode mE_wordNumber.2.1 10 = .ok (.lconst 0, 1) := by decide +kernel
theorem dE_wordNumber_11 : decode mE_wordNumber.2.1 11 = .ok (.lstore_n 2, 1) := by decide +kernel
theorem dE_wordNumber_12 : decode mE_wordNumber.2.1 12 = .ok (.iconst 0, 1) := by decide +kernel
theorem dE_wordNumber_13 : decode mE_wordNumber.2.1 13 = .ok (.istore 4, 2) := by decide +kernel
theorem dE_wordNumber_15 : decode mE_wordNumber.2.1 15 = .ok (.iload 4, 2) := by decide +kernel
theorem dE_wordNumber_17 : decode mE_wordNumber.2.1 17 = .ok (.aload_n 1, 1) := by decide +kernel
theorem dE_wordNumber_18 : decode mE_wordNumber.2.1 18 = .ok (.invokevirtual 155, 3) := by decide +kernel
theorem dE_wordNumber_21 : decode mE_wordNumber.2.1 21 = .ok (.if_icmp .ge 66, 3) := by decide +kernel
theorem dE_wordNumber_24 : decode mE_wordNumber.2.1 24 = .ok (.aload_n 1, 1) := by decide +kernel
theorem dE_wordNumber_25 : decode mE_wordNumber.2.1 25 = .ok (.iload 4, 2) := by decide +kernel
theorem dE_wordNumber_27 : decode mE_wordNumber.2.1 27 = .ok (.invokevirtual 160, 3) := by decide +kernel
theorem dE_wordNumber_30 : decode mE_wordNumber.2.1 30 = .ok (.istore 5, 2) := by decide +kernel
theorem dE_wordNumber_32 : decode mE_wordNumber.2.1 32 = .ok (.iload 5, 2) := by decide +kernel
theorem dE_wordNumber_34 : decode mE_wordNumber.2.1 34 = .ok (.bipush 32, 2) := by decide +kernel
theorem dE_wordNumber_36 : decode mE_wordNumber.2.1 36 = .ok (.if_icmp .ne 7, 3) := by decide +kernel
theorem dE_wordNumber_39 : decode mE_wordNumber.2.1 39 = .ok (.lload_n 2, 1) := by decide +kernel
theorem dE_wordNumber_40 : decode mE_wordNumber.2.1 40 = .ok (.goto 13, 3) := by decide +kernel
theorem dE_wordNumber_43 : decode mE_wordNumber.2.1 43 = .ok (.lload_n 2, 1) := by decide +kernel
theorem dE_wordNumber_44 : decode mE_wordNumber.2.1 44 = .ok (.iconst 5, 1) := by decide +kernel
theorem dE_wordNumber_45 : decode mE_wordNumber.2.1 45 = .ok (.lshl, 1) := by decide +kernel
theorem dE_wordNumber_46 : decode mE_wordNumber.2.1 46 = .ok (.iload 5, 2) := by decide +kernel
theorem dE_wordNumber_48 : decode mE_wordNumber.2.1 48 = .ok (.bipush 31, 2) := by decide +kernel
theorem dE_wordNumber_50 : decode mE_wordNumber.2.1 50 = .ok (.iand, 1) := by decide +kernel
theorem dE_wordNumber_51 : decode mE_wordNumber.2.1 51 = .ok (.i2l, 1) := by decide +kernel
theorem dE_wordNumber_52 : decode mE_wordNumber.2.1 52 = .ok (.lor, 1) := by decide +kernel
theorem dE_wordNumber_53 : decode mE_wordNumber.2.1 53 = .ok (.lstore_n 2, 1) := by decide +kernel
theorem dE_wordNumber_54 : decode mE_wordNumber.2.1 54 = .ok (.iload 4, 2) := by decide +kernel
theorem dE_wordNumber_56 : decode mE_wordNumber.2.1 56 = .ok (.bipush 8, 2) := by decide +kernel
theorem dE_wordNumber_58 : decode mE_wordNumber.2.1 58 = .ok (.irem, 1) := by decide +kernel
theorem dE_wordNumber_59 : decode mE_wordNumber.2.1 59 = .ok (.bipush 7, 2) := by decide +kernel
theorem dE_wordNumber_61 : decode mE_wordNumber.2.1 61 = .ok (.if_icmp .ne 20, 3) := by decide +kernel
theorem dE_wordNumber_64 : decode mE_wordNumber.2.1 64 = .ok (.lload_n 2, 1) := by decide +kernel
theorem dE_wordNumber_65 : decode mE_wordNumber.2.1 65 = .ok (.aload_n 0, 1) := by decide +kernel
theorem dE_wordNumber_66 : decode mE_wordNumber.2.1 66 = .ok (.getfield 151, 3) := by decide +kernel
theorem dE_wordNumber_69 : decode mE_wordNumber.2.1 69 = .ok (.lcmp, 1) := by decide +kernel
theorem dE_wordNumber_70 : decode mE_wordNumber.2.1 70 = .ok (.ifCond .ne 9, 3) := by decide +kernel
theorem dE_wordNumber_73 : decode mE_wordNumber.2.1 73 = .ok (.iload 4, 2) := by decide +kernel
theorem dE_wordNumber_75 : decode mE_wordNumber.2.1 75 = .ok (.bipush 8, 2) := by decide +kernel
theorem dE_wordNumber_77 : decode mE_wordNumber.2.1 77 = .ok (.idiv, 1) := by decide +kernel
theorem dE_wordNumber_78 : decode mE_wordNumber.2.1 78 = .ok (.ireturn, 1) := by decide +kernel
theorem dE_wordNumber_79 : decode mE_wordNumber.2.1 79 = .ok (.lconst 0, 1) := by decide +kernel
theorem dE_wordNumber_80 : decode mE_wordNumber.2.1 80 = .ok (.lstore_n 2, 1) := by decide +kernel
theorem dE_wordNumber_81 : decode mE_wordNumber.2.1 81 = .ok (.iinc 4 1, 3) := by decide +kernel
theorem dE_wordNumber_84 : decode mE_wordNumber.2.1 84 = .ok (.goto (-69), 3) := by decide +kernel
theorem dE_wordNumber_87 : decode mE_wordNumber.2.1 87 = .ok (.iconst (-1), 1) := by decide +kernel
theorem dE_wordNumber_88 : decode mE_wordNumber.2.1 88 = .ok (.ireturn, 1) := by decide +kernel
theorem dE_isName_0 : decode mE_isName.2.1 0 = .ok (.aload_n 0, 1) := by decide +kernel
theorem dE_isName_1 : decode mE_isName.2.1 1 = .ok (.getfield 43, 3) := by decide +kernel
theorem dE_isName_4 : decode mE_isName.2.1 4 = .ok (.iconst 1, 1) := by decide +kernel
theorem dE_isName_5 : decode mE_isName.2.1 5 = .ok (.if_icmp .ne 17, 3) := by decide +kernel
theorem dE_isName_8 : decode mE_isName.2.1 8 = .ok (.aload_n 0, 1) := by decide +kernel
theorem dE_isName_9 : decode mE_isName.2.1 9 = .ok (.ldc 53, 2) := by decide +kernel
theorem dE_isName_11 : decode mE_isName.2.1 11 = .ok (.invokevirtual 55, 3) := by decide +kernel
theorem dE_isName_14 : decode mE_isName.2.1 14 = .ok (.iconst (-1), 1) := by decide +kernel
theorem dE_isName_15 : decode mE_isName.2.1 15 = .ok (.if_icmp .ne 7, 3) := by decide +kernel
theorem dE_isName_18 : decode mE_isName.2.1 18 = .ok (.iconst 1, 1) := by decide +kernel
theorem dE_isName_19 : decode mE_isName.2.1 19 = .ok (.goto 4, 3) := by decide +kernel
theorem dE_isName_22 : decode mE_isName.2.1 22 = .ok (.iconst 0, 1) := by decide +kernel
theorem dE_isName_23 : decode mE_isName.2.1 23 = .ok (.ireturn, 1) := by decide +kernel
theorem dE_nameHere_0 : decode mE_nameHere.2.1 0 = .ok (.iconst 0, 1) := by decide +kernel
theorem dE_nameHere_1 : decode mE_nameHere.2.1 1 = .ok (.istore_n 1, 1) := by decide +kernel
theorem dE_nameHere_2 : decode mE_nameHere.2.1 2 = .ok (.iload_n 1, 1) := by decide +kernel
theorem dE_nameHere_3 : decode mE_nameHere.2.1 3 = .ok (.aload_n 0, 1) := by decide +kernel
theorem dE_nameHere_4 : decode mE_nameHere.2.1 4 = .ok (.getfield 18, 3) := by decide +kernel
theorem dE_nameHere_7 : decode mE_nameHere.2.1 7 = .ok (.arraylength, 1) := by decide +kernel
theorem dE_nameHere_8 : decode mE_nameHere.2.1 8 = .ok (.if_icmp .ge 25, 3) := by decide +kernel
theorem dE_nameHere_11 : decode mE_nameHere.2.1 11 = .ok (.aload_n 0, 1) := by decide +kernel
theorem dE_nameHere_12 : decode mE_nameHere.2.1 12 = .ok (.getfield 18, 3) := by decide +kernel
theorem dE_nameHere_15 : decode mE_nameHere.2.1 15 = .ok (.iload_n 1, 1) := by decide +kernel
theorem dE_nameHere_16 : decode mE_nameHere.2.1 16 = .ok (.laload, 1) := by decide +kernel
theorem dE_nameHere_17 : decode mE_nameHere.2.1 17 = .ok (.aload_n 0, 1) := by decide +kernel
theorem dE_nameHere_18 : decode mE_nameHere.2.1 18 = .ok (.getfield 151, 3) := by decide +kernel
theorem dE_nameHere_21 : decode mE_nameHere.2.1 21 = .ok (.lcmp, 1) := by decide +kernel
theorem dE_nameHere_22 : decode mE_nameHere.2.1 22 = .ok (.ifCond .ne 5, 3) := by decide +kernel
theorem dE_nameHere_25 : decode mE_nameHere.2.1 25 = .ok (.iload_n 1, 1) := by decide +kernel
theorem dE_nameHere_26 : decode mE_nameHere.2.1 26 = .ok (.ireturn, 1) := by decide +kernel
theorem dE_nameHere_27 : decode mE_nameHere.2.1 27 = .ok (.iinc 1 1, 3) := by decide +kernel
theorem dE_nameHere_30 : decode mE_nameHere.2.1 30 = .ok (.goto (-28), 3) := by decide +kernel
theorem dE_nameHere_33 : decode mE_nameHere.2.1 33 = .ok (.iconst (-1), 1) := by decide +kernel
theorem dE_nameHere_34 : decode mE_nameHere.2.1 34 = .ok (.ireturn, 1) := by decide +kernel
-- the tape's bytes, runs of them, tokens
def byN (B : Nat → Int) (n i : Nat) : Int := if i < n then B i % 256 else -1
def isLb (b : Int) : Bool := decide (97 ≤ b) && decide (b ≤ 122)
def isDb (b : Int) : Bool := decide (48 ≤ b) && decide (b ≤ 57)
def isSb (b : Int) : Bool := decide (b = 32)
def rnF (p : Int → Bool) (B : Nat → Int) (n : Nat) : Nat → Nat → Nat
  | 0, _ => 0
  | f + 1, i => if p (byN B n i) then rnF p B n f (i + 1) + 1 else 0
def rnT (p : Int → Bool) (B : Nat → Int) (n i : Nat) : Nat := rnF p B n n i
def wvT (B : Nat → Int) (n s : Nat) : Nat → Nat
  | 0 => 0
  | k + 1 => wvT B n s k * 32 + (byN B n (s + k)).toNat % 32
def dvT (B : Nat → Int) (n s : Nat) : Nat → Nat
  | 0 => 0
  | k + 1 => if k < 3 then dvT B n s k * 10 + ((byN B n (s + k)).toNat - 48) else dvT B n s k
-- sort (0 the end, 1 a word, 2 a whole, 3 a semicolon, 4 bad), where it begins, where it ends, its value
abbrev TK : Type := Nat × Nat × Nat × Nat
def lexS (B : Nat → Int) (n s : Nat) : TK := if byN B n s = -1 then (0, s, s, 0) else if isLb (byN B n s) then (if rnT isLb B n s ≤ 8 then 1 else 4, s, s + rnT isLb B n s, wvT B n s (rnT isLb B n s)) else if isDb (byN B n s) then (if rnT isDb B n s ≤ 3 then 2 else 4, s, s + rnT isDb B n s, dvT B n s (rnT isDb B n s)) else (if byN B n s = 59 then 3 else 4, s, s + 1, 0)
def lexT (B : Nat → Int) (n p : Nat) : TK := lexS B n (p + rnT isSb B n p)
theorem byN_bd (B : Nat → Int) (n i : Nat) : -1 ≤ byN B n i ∧ byN B n i < 256 := by unfold byN; split <;> omega
theorem byN_in {B : Nat → Int} {n i : Nat} (h : byN B n i ≠ -1) : i < n := by
  unfold byN at h
  split at h
  · assumption
  · exact absurd rfl h
theorem rnF_le {p : Int → Bool} (hp : p (-1) = false) {B : Nat → Int} {n : Nat} : ∀ (f i : Nat), i ≤ n → i + rnF p B n f i ≤ n
  | 0, i, h => h
  | f + 1, i, h => by
    show i + (if p (byN B n i) then rnF p B n f (i + 1) + 1 else 0) ≤ n
    split
    · rename_i hq
      have hi : i < n := byN_in (fun e => by rw [e, hp] at hq; cases hq)
      have := rnF_le hp (B := B) f (i + 1) hi
      omega
    · exact h
theorem rnT_le {p : Int → Bool} (hp : p (-1) = false) {B : Nat → Int} {n i : Nat} (h : i ≤ n) : i + rnT p B n i ≤ n := rnF_le hp n i h
theorem lex_le {B : Nat → Int} {n p : Nat} (h : p ≤ n) : (lexT B n p).2.1 ≤ (lexT B n p).2.2.1 ∧ (lexT B n p).2.2.1 ≤ n ∧ p ≤ (lexT B n p).2.1 := by
  have h1 := rnT_le (p := isSb) (by decide) (B := B) h
  unfold lexT lexS
  split
  · exact ⟨Nat.le_refl _, h1, Nat.le_add_right _ _⟩
  · rename_i hq
    have hi := byN_in hq
    split
    · have := rnT_le (p := isLb) (by decide) (B := B) h1
      exact ⟨Nat.le_add_right _ _, this, Nat.le_add_right _ _⟩
    · split
      · have := rnT_le (p := isDb) (by decide) (B := B) h1
        exact ⟨Nat.le_add_right _ _, this, Nat.le_add_right _ _⟩
      · exact ⟨Nat.le_add_right _ _, hi, Nat.le_add_right _ _⟩
theorem wvT_lt {B : Nat → Int} {n s : Nat} : ∀ k, wvT B n s k < 32 ^ k
  | 0 => by show 0 < 1; omega
  | k + 1 => by
    have := wvT_lt (B := B) (n := n) (s := s) k
    show wvT B n s k * 32 + _ % 32 < 32 ^ (k + 1)
    rw [Nat.pow_succ]
    omega
theorem dvT_lt {B : Nat → Int} {n s : Nat} : ∀ k, (∀ j, j < k → isDb (byN B n (s + j)) = true) → dvT B n s k < 10 ^ k ∧ dvT B n s k < 1000
  | 0, _ => by constructor <;> (show 0 < _; decide)
  | k + 1, h => by
    have ih := dvT_lt k (fun j hj => h j (by omega))
    have hd := h k (by omega)
    unfold isDb at hd
    simp at hd
    show (if k < 3 then dvT B n s k * 10 + ((byN B n (s + k)).toNat - 48) else dvT B n s k) < 10 ^ (k + 1) ∧ (if k < 3 then dvT B n s k * 10 + ((byN B n (s + k)).toNat - 48) else dvT B n s k) < 1000
    rw [Nat.pow_succ]
    by_cases hk : k < 3
    · rw [if_pos hk]
      have h3 : 10 ^ k ≤ 10 ^ 2 := Nat.pow_le_pow_right (by decide) (by omega)
      omega
    · rw [if_neg hk]
      omega
theorem spell {m b : Nat} (hm : m < 32 ^ 8) (hb : b < 32) : yor (yshl (m : Int) 5) (b : Int) = ((m * 32 + b : Nat) : Int) := by
  have e8 : 32 ^ 8 = 1099511627776 := by decide
  have e : m * 2 ^ 5 ||| b = m * 32 + b := by
    have := Nat.two_pow_add_eq_or_of_lt (i := 5) hb m
    rw [Nat.mul_comm m (2 ^ 5), ← this]
  have h1 : ((m : Nat) : Int) = sg m := (sg_small (by omega)).symm
  have h2 : ((b : Nat) : Int) = sg b := (sg_small (by omega)).symm
  rw [h1, h2, show (5 : Int) = ((5 : Nat) : Int) from rfl, yshl_s (by decide), yor_s, e, sg_small (by omega)]
theorem ycmpE {x y : Int} : ycmp x y = 0 ↔ x = y := by
  unfold ycmp
  constructor
  · intro h; split at h
    · omega
    · split at h
      · assumption
      · omega
  · intro h; rw [h]; simp
-- the shape of a Reader
def rdS (σ : Shp) (e : Nat) : Prop := sO σ e 3 ∧ (sP σ e 0 = e + 1 ∧ sP σ e 3 = 2 ∧ sP σ e 11 = e + 8) ∧ tS σ (e + 1) ∧ sA σ 2 10 800 ∧ sA σ (e + 8) 12 6 ∧ 2 < e
section RdS
variable {σ : Shp} {e : Nat}
theorem rdS.o (h : rdS σ e) : sO σ e 3 := h.1
theorem rdS.p0 (h : rdS σ e) : sP σ e 0 = e + 1 := h.2.1.1
theorem rdS.p3 (h : rdS σ e) : sP σ e 3 = 2 := h.2.1.2.1
theorem rdS.p11 (h : rdS σ e) : sP σ e 11 = e + 8 := h.2.1.2.2
theorem rdS.t (h : rdS σ e) : tS σ (e + 1) := h.2.2.1
theorem rdS.to (h : rdS σ e) : sO σ (e + 1) 6 := h.2.2.1.1
theorem rdS.a2 (h : rdS σ e) : sA σ 2 10 800 := h.2.2.2.1
theorem rdS.a8 (h : rdS σ e) : sA σ (e + 8) 12 6 := h.2.2.2.2.1
theorem rdS.lt (h : rdS σ e) : 2 < e := h.2.2.2.2.2
end RdS
/-- the text: the tape's first n bytes -/
def TX (V : Nat → Nat → Int) (e n : Nat) (B : Nat → Int) : Prop := V e 4 = n ∧ n ≤ 800 ∧ (∀ i, i < n → V 2 i = B i) ∧ ∀ i, -128 ≤ B i ∧ B i < 128
/-- the token that stands -/
def TKR (V : Nat → Nat → Int) (e : Nat) (t : TK) : Prop := V e 2 = t.2.1 ∧ V e 5 = (t.2.2.1 - t.2.1 : Nat) ∧ V e 6 = t.1 ∧ (t.1 = 1 → V e 8 = t.2.2.2) ∧ (t.1 = 2 → V e 7 = t.2.2.2)
/-- only the token changes -/
def tkF (V V' : Nat → Nat → Int) (e : Nat) : Prop := (∀ b, b ≠ e → V' b = V b) ∧ ∀ j, j ≠ 2 → j ≠ 5 → j ≠ 6 → j ≠ 7 → j ≠ 8 → V' e j = V e j
theorem tkF.rf (V : Nat → Nat → Int) (e : Nat) : tkF V V e := ⟨fun _ _ => rfl, fun _ _ _ _ _ _ => rfl⟩
theorem tkF.tr {V V1 V2 : Nat → Nat → Int} {e : Nat} (h : tkF V V1 e) (g : tkF V1 V2 e) : tkF V V2 e := ⟨fun b hb => (g.1 b hb).trans (h.1 b hb), fun j h1 h2 h3 h4 h5 => (g.2 j h1 h2 h3 h4 h5).trans (h.2 j h1 h2 h3 h4 h5)⟩
theorem tkF.up {V V1 : Nat → Nat → Int} {e j : Nat} {z : Int} (h : tkF V V1 e) (hj : j = 2 ∨ j = 5 ∨ j = 6 ∨ j = 7 ∨ j = 8) : tkF V (up2 V1 e j z) e := ⟨fun b hb => by rw [up2_nea _ _ hb]; exact h.1 b hb, fun i h1 h2 h3 h4 h5 => by rw [up2_nek _ _ (by omega)]; exact h.2 i h1 h2 h3 h4 h5⟩
theorem TX.tk {V V' : Nat → Nat → Int} {σ : Shp} {e n : Nat} {B : Nat → Int} (hs : rdS σ e) (h : TX V e n B) (g : tkF V V' e) : TX V' e n B := ⟨(g.2 4 (by decide) (by decide) (by decide) (by decide) (by decide)).trans h.1, h.2.1, by rw [g.1 2 (by have := hs.lt; omega)]; exact h.2.2.1, h.2.2.2⟩
section Lex
variable {G : GE} {V : Nat → Nat → Int} {σ : Shp} {K : Option AV → Mem → Prop} {e n : Nat} {B : Nat → Int}
theorem wE_byteAt {x : Int} {i : Nat} (hx : x = i) (hs : rdS σ e) (hX : TX V e n B) (hK : K (some (vI (byN B n i))) (V, σ)) : Wp G 0 mE_byteAt [vR e, vI x] (V, σ) 0 0 K := by
  obtain ⟨x1, x2, x3, x4⟩ := hX
  refine wp_intro mE_byteAt_i.1 [some (vR e), some (vI x)] rfl rfl (Nat.le_of_ble_eq_true rfl) ?_
  intro X hG F C
  have hm := C.rm
  refine aw_iload_1 (q := 1) F dE_byteAt_0 rfl ?_
  refine aw_if_lt (q := 4) (t := 25) F dE_byteAt_1 rfl (by decide) (fun c1 => by omega) (fun c1 => ?_)
  refine aw_iload_1 (q := 5) F dE_byteAt_4 rfl ?_
  refine aw_aload_0 (q := 6) F dE_byteAt_5 rfl ?_
  refine av_geti (q := 9) F fE_32 dE_byteAt_6 rfl rfl (by first | exact hs.o | exact hs.a2 | exact hs.a8) ?_
  refine aw_icmp_ge (q := 12) (t := 25) F dE_byteAt_9 rfl (by decide) (fun c9 => ?_) (fun c9 => ?_)
  · refine aw_iconst (q := 26) F dE_byteAt_25 rfl (by decide) ?_
    refine aw_iret F C dE_byteAt_26 rfl (Nat.le_refl _) (Nat.le_refl _) ?_
    refine kI hK ?_; unfold byN; first | (rw [if_pos (by omega)]; rfl) | (rw [if_neg (by omega)])
  · refine aw_aload_0 (q := 13) F dE_byteAt_12 rfl ?_
    refine av_getaE (q := 16) F fE_22 dE_byteAt_13 rfl rfl (by first | exact hs.o | exact hs.a2 | exact hs.a8) hs.p3 ?_
    refine aw_iload_1 (q := 17) F dE_byteAt_16 rfl ?_
    refine av_baload (q := 18) F dE_byteAt_17 rfl (by first | exact hs.o | exact hs.a2 | exact hs.a8) (by omega) (by omega) ?_
    refine aw_sipush (q := 21) F dE_byteAt_18 rfl (by decide) ?_
    rw [show x.toNat = i by omega, x3 i (by omega), show (255 : Int) = ((255 : Nat) : Int) from rfl]
    refine aw_iand (q := 22) F dE_byteAt_21 rfl ?_
    rw [zand_mask 8 (by decide) (by decide)]
    refine aw_goto (t := 26) F dE_byteAt_22 (by decide) ?_
    refine aw_iret F C dE_byteAt_26 rfl (Nat.le_refl _) (Nat.le_refl _) ?_
    refine kI hK ?_; unfold byN; first | (rw [if_pos (by omega)]; rfl) | (rw [if_neg (by omega)])
theorem wE_isLetter {x : Int} (h1 : isLb x = true → K (some (vI 1)) (V, σ)) (h0 : isLb x = false → K (some (vI 0)) (V, σ)) : Wp G 0 mE_isLetter [vI x] (V, σ) 0 0 K := by
  refine wp_intro mE_isLetter_i.1 [some (vI x)] rfl rfl (Nat.le_of_ble_eq_true rfl) ?_
  intro X hG F C
  have hm := C.rm
  refine aw_iload_0 (q := 1) F dE_isLetter_0 rfl ?_
  refine aw_bipush (q := 3) F dE_isLetter_1 rfl (by decide) ?_
  refine aw_icmp_lt (q := 6) (t := 16) F dE_isLetter_3 rfl (by decide) (fun c3 => ?_) (fun c3 => ?_)
  · refine aw_iconst (q := 17) F dE_isLetter_16 rfl (by decide) ?_
    refine aw_zret F C dE_isLetter_17 rfl (by decide) (Nat.le_refl _) (Nat.le_refl _) ?_
    exact h0 (by unfold isLb; simp; omega)
  · refine aw_iload_0 (q := 7) F dE_isLetter_6 rfl ?_
    refine aw_bipush (q := 9) F dE_isLetter_7 rfl (by decide) ?_
    refine aw_icmp_gt (q := 12) (t := 16) F dE_isLetter_9 rfl (by decide) (fun c9 => ?_) (fun c9 => ?_)
    · refine aw_iconst (q := 17) F dE_isLetter_16 rfl (by decide) ?_
      refine aw_zret F C dE_isLetter_17 rfl (by decide) (Nat.le_refl _) (Nat.le_refl _) ?_
      exact h0 (by unfold isLb; simp; omega)
    · refine aw_iconst (q := 13) F dE_isLetter_12 rfl (by decide) ?_
      refine aw_goto (t := 17) F dE_isLetter_13 (by decide) ?_
      refine aw_zret F C dE_isLetter_17 rfl (by decide) (Nat.le_refl _) (Nat.le_refl _) ?_
      exact h1 (by unfold isLb; simp; omega)
theorem wE_isDigit {x : Int} (h1 : isDb x = true → K (some (vI 1)) (V, σ)) (h0 : isDb x = false → K (some (vI 0)) (V, σ)) : Wp G 0 mE_isDigit [vI x] (V, σ) 0 0 K := by
  refine wp_intro mE_isDigit_i.1 [some (vI x)] rfl rfl (Nat.le_of_ble_eq_true rfl) ?_
  intro X hG F C
  have hm := C.rm
  refine aw_iload_0 (q := 1) F dE_isDigit_0 rfl ?_
  refine aw_bipush (q := 3) F dE_isDigit_1 rfl (by decide) ?_
  refine aw_icmp_lt (q := 6) (t := 16) F dE_isDigit_3 rfl (by decide) (fun c3 => ?_) (fun c3 => ?_)
  · refine aw_iconst (q := 17) F dE_isDigit_16 rfl (by decide) ?_
    refine aw_zret F C dE_isDigit_17 rfl (by decide) (Nat.le_refl _) (Nat.le_refl _) ?_
    exact h0 (by unfold isDb; simp; omega)
  · refine aw_iload_0 (q := 7) F dE_isDigit_6 rfl ?_
    refine aw_bipush (q := 9) F dE_isDigit_7 rfl (by decide) ?_
    refine aw_icmp_gt (q := 12) (t := 16) F dE_isDigit_9 rfl (by decide) (fun c9 => ?_) (fun c9 => ?_)
    · refine aw_iconst (q := 17) F dE_isDigit_16 rfl (by decide) ?_
      refine aw_zret F C dE_isDigit_17 rfl (by decide) (Nat.le_refl _) (Nat.le_refl _) ?_
      exact h0 (by unfold isDb; simp; omega)
    · refine aw_iconst (q := 13) F dE_isDigit_12 rfl (by decide) ?_
      refine aw_goto (t := 17) F dE_isDigit_13 (by decide) ?_
      refine aw_zret F C dE_isDigit_17 rfl (by decide) (Nat.le_refl _) (Nat.le_refl _) ?_
      exact h1 (by unfold isDb; simp; omega)
theorem wE_fail {x : Int} (hs : rdS σ e) (hK : K (some (vI 0)) (up2 V e 1 x, σ)) : Wp G 0 mE_fail [vR e, vI x] (V, σ) 0 0 K := by
  refine wp_intro mE_fail_i.1 [some (vR e), some (vI x)] rfl rfl (Nat.le_of_ble_eq_true rfl) ?_
  intro X hG F C
  have hm := C.rm
  refine aw_aload_0 (q := 1) F dE_fail_0 rfl ?_
  refine aw_iload_1 (q := 2) F dE_fail_1 rfl ?_
  refine av_puti (q := 5) F fE_185 dE_fail_2 rfl rfl (wr_3_1 _) (by first | exact hs.o | exact hs.a2 | exact hs.a8) ?_
  refine aw_iconst (q := 6) F dE_fail_5 rfl (by decide) ?_
  refine aw_zret F C dE_fail_6 rfl (by decide) (Nat.le_refl _) (Nat.le_refl _) ?_
  exact hK
theorem wE_takeWord {s : Nat} (hs : rdS σ e) (hX : TX V e n B) (hst : V e 2 = s) (hsn : s ≤ n) (hK : ∀ V', tkF V V' e → V' e 2 = s → V' e 5 = rnT isLb B n s → V' e 6 = (if rnT isLb B n s ≤ 8 then 1 else 4) → (rnT isLb B n s ≤ 8 → V' e 8 = wvT B n s (rnT isLb B n s)) → K none (V', σ)) : Wp G 1 mE_takeWord [vR e] (V, σ) 0 0 K := by
  have hn8 := hX.2.1
  refine wp_intro mE_takeWord_i.1 [some (vR e), none] rfl rfl (Nat.le_of_ble_eq_true rfl) ?_
  intro X hG F C
  have hm := C.rm
  have fin : ∀ (k : Nat) (V1 : Nat → Nat → Int) (u : Option AV), tkF V V1 e → V1 e 2 = s → V1 e 5 = k → (k ≤ 8 → V1 e 8 = wvT B n s k) → rnT isLb B n s = k → AW X 83 [some (vR e), u] [] (V1, σ) 0 0 := by
    intro k V1 u hF f2 f5 f8 hr
    subst hr
    refine aw_aload_0 (q := 84) F dE_takeWord_83 rfl ?_
    refine aw_aload_0 (q := 85) F dE_takeWord_84 rfl ?_
    refine av_geti (q := 88) F fE_167 dE_takeWord_85 rfl rfl (by first | exact hs.o | exact hs.a2 | exact hs.a8) ?_
    refine aw_bipush (q := 90) F dE_takeWord_88 rfl (by decide) ?_
    refine aw_icmp_gt (q := 93) (t := 97) F dE_takeWord_90 rfl (by decide) (fun c90 => ?_) (fun c90 => ?_)
    · refine aw_iconst (q := 98) F dE_takeWord_97 rfl (by decide) ?_
      refine av_puti (q := 101) F fE_43 dE_takeWord_98 rfl rfl (wr_3_6 _) (by first | exact hs.o | exact hs.a2 | exact hs.a8) ?_
      refine aw_vret F C dE_takeWord_101 rfl (Nat.le_refl _) (Nat.le_refl _) ?_
      refine hK _ (hF.up (by omega)) (by rw [up2_nek _ _ (by decide)]; exact f2) (by rw [up2_nek _ _ (by decide)]; exact f5) ?_ (fun q => by rw [up2_nek _ _ (by decide)]; exact f8 q)
      rw [up2_same]
      first | rw [if_pos (by omega)] | rw [if_neg (by omega)]
    · refine aw_iconst (q := 94) F dE_takeWord_93 rfl (by decide) ?_
      refine aw_goto (t := 98) F dE_takeWord_94 (by decide) ?_
      refine av_puti (q := 101) F fE_43 dE_takeWord_98 rfl rfl (wr_3_6 _) (by first | exact hs.o | exact hs.a2 | exact hs.a8) ?_
      refine aw_vret F C dE_takeWord_101 rfl (Nat.le_refl _) (Nat.le_refl _) ?_
      refine hK _ (hF.up (by omega)) (by rw [up2_nek _ _ (by decide)]; exact f2) (by rw [up2_nek _ _ (by decide)]; exact f5) ?_ (fun q => by rw [up2_nek _ _ (by decide)]; exact f8 q)
      rw [up2_same]
      first | rw [if_pos (by omega)] | rw [if_neg (by omega)]
  have loop : ∀ (j k : Nat), n - k = j → k ≤ n → ∀ (V1 : Nat → Nat → Int) (z : Int), tkF V V1 e → V1 e 2 = s → V1 e 5 = k → (k ≤ 8 → V1 e 8 = wvT B n s k) → rnT isLb B n s = k + rnF isLb B n (n - k) (s + k) → z = k → AW X 12 [some (vR e), some (vI z)] [] (V1, σ) 0 0 := by
    intro j
    induction j using Nat.strongRecOn with
    | ind j ih =>
      intro k hj hk V1 z hF f2 f5 f8 hr hz
      have hX1 := hX.tk hs hF
      have x4 := hX1.1
      have hb := byN_bd B n (s + k)
      have er : k < n → rnF isLb B n (n - k) (s + k) = if isLb (byN B n (s + k)) then rnF isLb B n (n - (k + 1)) (s + (k + 1)) + 1 else 0 := fun q => by rw [show n - k = (n - (k + 1)) + 1 by omega]; rfl
      have hwl := wvT_lt (B := B) (n := n) (s := s) k
      have hst1 : wvT B n s (k + 1) = wvT B n s k * 32 + (byN B n (s + k)).toNat % 32 := rfl
      refine aw_iload_1 (q := 13) F dE_takeWord_12 rfl ?_
      refine aw_aload_0 (q := 14) F dE_takeWord_13 rfl ?_
      refine av_geti (q := 17) F fE_32 dE_takeWord_14 rfl rfl (by first | exact hs.o | exact hs.a2 | exact hs.a8) ?_
      refine aw_icmp_ge (q := 20) (t := 83) F dE_takeWord_17 rfl (by decide) (fun c17 => ?_) (fun c17 => ?_)
      · refine fin k V1 _ hF f2 f5 f8 ?_
        first
        | (rw [hr, show n - k = 0 by omega]; rfl)
        | (rw [if_neg (by rw [c33]; decide)] at er; rw [hr, er (by omega)]; rfl)
      · refine aw_aload_0 (q := 21) F dE_takeWord_20 rfl ?_
        refine aw_aload_0 (q := 22) F dE_takeWord_21 rfl ?_
        refine av_geti (q := 25) F fE_164 dE_takeWord_22 rfl rfl (by first | exact hs.o | exact hs.a2 | exact hs.a8) ?_
        refine aw_aload_0 (q := 26) F dE_takeWord_25 rfl ?_
        refine av_geti (q := 29) F fE_167 dE_takeWord_26 rfl rfl (by first | exact hs.o | exact hs.a2 | exact hs.a8) ?_
        rw [f2, f5]
        refine aw_iadd (q := 30) F dE_takeWord_29 rfl (by constructor <;> omega) ?_
        refine av_callV1 (q := 33) (ci := 3) F hm mE_byteAt_i mE_byteAt_n lE_169 dE_takeWord_30 rfl rfl rfl (by first | exact hs.o | exact hs.a2 | exact hs.a8) (by decide) (Nat.le_refl _) (Nat.le_refl _) (Nat.le_of_ble_eq_true rfl) (wE_byteAt (i := s + k) (by omega) hs hX1 ?_)
        refine av_callS1 (q := 36) F hm mE_isLetter_i mE_isLetter_n lE_173 dE_takeWord_33 rfl (by decide) (Nat.le_refl _) (Nat.le_refl _) (Nat.le_of_ble_eq_true rfl) (wE_isLetter (fun c33 => ?_) (fun c33 => ?_))
        · refine aw_if_eq (q := 39) (t := 83) F dE_takeWord_36 rfl (by decide) (fun c36 => absurd c36 (by decide)) (fun c36 => ?_)
          refine aw_aload_0 (q := 40) F dE_takeWord_39 rfl ?_
          refine aw_aload_0 (q := 41) F dE_takeWord_40 rfl ?_
          refine av_getl (q := 44) F fE_151 dE_takeWord_41 rfl rfl (by first | exact hs.o | exact hs.a2 | exact hs.a8) ?_
          refine aw_iconst (q := 45) F dE_takeWord_44 rfl (by decide) ?_
          refine aw_lshl (q := 46) F dE_takeWord_45 rfl ?_
          refine aw_aload_0 (q := 47) F dE_takeWord_46 rfl ?_
          refine aw_aload_0 (q := 48) F dE_takeWord_47 rfl ?_
          refine av_geti (q := 51) F fE_164 dE_takeWord_48 rfl rfl (by first | exact hs.o | exact hs.a2 | exact hs.a8) ?_
          refine aw_aload_0 (q := 52) F dE_takeWord_51 rfl ?_
          refine av_geti (q := 55) F fE_167 dE_takeWord_52 rfl rfl (by first | exact hs.o | exact hs.a2 | exact hs.a8) ?_
          rw [f2, f5]
          refine aw_iadd (q := 56) F dE_takeWord_55 rfl (by constructor <;> omega) ?_
          refine av_callV1 (q := 59) (ci := 3) F hm mE_byteAt_i mE_byteAt_n lE_169 dE_takeWord_56 rfl rfl rfl (by first | exact hs.o | exact hs.a2 | exact hs.a8) (by decide) (Nat.le_refl _) (Nat.le_refl _) (Nat.le_of_ble_eq_true rfl) (wE_byteAt (i := s + k) (by omega) hs hX1 ?_)
          refine aw_bipush (q := 61) F dE_takeWord_59 rfl (by decide) ?_
          rw [show (31 : Int) = ((31 : Nat) : Int) from rfl]
          refine aw_iand (q := 62) F dE_takeWord_61 rfl ?_
          rw [zand_mask 5 (by decide) (by decide)]
          refine aw_i2l (q := 63) F dE_takeWord_62 rfl ?_
          refine aw_lor (q := 64) F dE_takeWord_63 rfl ?_
          refine av_putl (q := 67) F fE_151 dE_takeWord_64 rfl rfl (wr_3_8 _) (by first | exact hs.o | exact hs.a2 | exact hs.a8) ?_
          refine aw_aload_0 (q := 68) F dE_takeWord_67 rfl ?_
          refine aw_dup (q := 69) F dE_takeWord_68 rfl trivial ?_
          refine av_geti (q := 72) F fE_167 dE_takeWord_69 rfl rfl (by first | exact hs.o | exact hs.a2 | exact hs.a8) ?_
          rw [up2_nek _ _ (by decide), f5]
          refine aw_iconst (q := 73) F dE_takeWord_72 rfl (by decide) ?_
          refine aw_iadd (q := 74) F dE_takeWord_73 rfl (by constructor <;> omega) ?_
          refine av_puti (q := 77) F fE_167 dE_takeWord_74 rfl rfl (wr_3_5 _) (by first | exact hs.o | exact hs.a2 | exact hs.a8) ?_
          refine aw_iinc_1 (q := 80) F dE_takeWord_77 rfl trivial (by constructor <;> omega) ?_
          refine aw_goto (t := 12) F dE_takeWord_80 (by decide) ?_
          rw [if_pos c33] at er
          refine ih _ (by omega) (k + 1) rfl (by omega) _ _ ((hF.up (by omega)).up (by omega)) (by rw [up2_nek _ _ (by decide), up2_nek _ _ (by decide)]; exact f2) (by rw [up2_same]; omega) (fun hk8 => ?_) (by rw [hr, er (by omega)]; omega) (by omega)
          rw [up2_nek _ _ (by decide), up2_same, f8 (by omega), hst1]
          have h0 : 0 ≤ byN B n (s + k) := by unfold isLb at c33; simp at c33; omega
          rw [show byN B n (s + k) % 2 ^ 5 = (((byN B n (s + k)).toNat % 32 : Nat) : Int) by omega]
          exact spell (Nat.lt_of_lt_of_le hwl (Nat.pow_le_pow_right (by decide) (by omega))) (Nat.mod_lt _ (by decide))
        · refine aw_if_eq (q := 39) (t := 83) F dE_takeWord_36 rfl (by decide) (fun c36 => ?_) (fun c36 => absurd c36 (by decide))
          refine fin k V1 _ hF f2 f5 f8 ?_
          first
          | (rw [hr, show n - k = 0 by omega]; rfl)
          | (rw [if_neg (by rw [c33]; decide)] at er; rw [hr, er (by omega)]; rfl)
  refine aw_aload_0 (q := 1) F dE_takeWord_0 rfl ?_
  refine aw_iconst (q := 2) F dE_takeWord_1 rfl (by decide) ?_
  refine av_puti (q := 5) F fE_167 dE_takeWord_2 rfl rfl (wr_3_5 _) (by first | exact hs.o | exact hs.a2 | exact hs.a8) ?_
  refine aw_aload_0 (q := 6) F dE_takeWord_5 rfl ?_
  refine aw_lconst (q := 7) (z := 0) F dE_takeWord_6 rfl rfl ?_
  refine av_putl (q := 10) F fE_151 dE_takeWord_7 rfl rfl (wr_3_8 _) (by first | exact hs.o | exact hs.a2 | exact hs.a8) ?_
  refine aw_iconst (q := 11) F dE_takeWord_10 rfl (by decide) ?_
  refine aw_istore_1 (q := 12) F dE_takeWord_11 rfl trivial ?_
  refine loop _ 0 rfl (by omega) _ _ (((tkF.rf V e).up (by omega)).up (by omega)) (by rw [up2_nek _ _ (by decide), up2_nek _ _ (by decide)]; exact hst) (by rw [up2_nek _ _ (by decide), up2_same]; rfl) (fun _ => up2_same _ _ _ _) ?_ rfl
  show rnF isLb B n n s = 0 + rnF isLb B n n (s + 0)
  rw [Nat.zero_add, Nat.add_zero]
theorem wE_takeWhole {s : Nat} (hs : rdS σ e) (hX : TX V e n B) (hst : V e 2 = s) (hsn : s ≤ n) (hK : ∀ V', tkF V V' e → V' e 2 = s → V' e 5 = rnT isDb B n s → V' e 6 = (if rnT isDb B n s ≤ 3 then 2 else 4) → V' e 7 = dvT B n s (rnT isDb B n s) → K none (V', σ)) : Wp G 1 mE_takeWhole [vR e] (V, σ) 0 0 K := by
  have hn8 := hX.2.1
  refine wp_intro mE_takeWhole_i.1 [some (vR e), none] rfl rfl (Nat.le_of_ble_eq_true rfl) ?_
  intro X hG F C
  have hm := C.rm
  have fin : ∀ (k : Nat) (V1 : Nat → Nat → Int) (u : Option AV), tkF V V1 e → V1 e 2 = s → V1 e 5 = k → V1 e 7 = dvT B n s k → rnT isDb B n s = k → AW X 98 [some (vR e), u] [] (V1, σ) 0 0 := by
    intro k V1 u hF f2 f5 f8 hr
    subst hr
    refine aw_aload_0 (q := 99) F dE_takeWhole_98 rfl ?_
    refine aw_aload_0 (q := 100) F dE_takeWhole_99 rfl ?_
    refine av_geti (q := 103) F fE_167 dE_takeWhole_100 rfl rfl (by first | exact hs.o | exact hs.a2 | exact hs.a8) ?_
    refine aw_iconst (q := 104) F dE_takeWhole_103 rfl (by decide) ?_
    refine aw_icmp_gt (q := 107) (t := 111) F dE_takeWhole_104 rfl (by decide) (fun c104 => ?_) (fun c104 => ?_)
    · refine aw_iconst (q := 112) F dE_takeWhole_111 rfl (by decide) ?_
      refine av_puti (q := 115) F fE_43 dE_takeWhole_112 rfl rfl (wr_3_6 _) (by first | exact hs.o | exact hs.a2 | exact hs.a8) ?_
      refine aw_vret F C dE_takeWhole_115 rfl (Nat.le_refl _) (Nat.le_refl _) ?_
      refine hK _ (hF.up (by omega)) (by rw [up2_nek _ _ (by decide)]; exact f2) (by rw [up2_nek _ _ (by decide)]; exact f5) ?_ (by rw [up2_nek _ _ (by decide)]; exact f8)
      rw [up2_same]
      first | rw [if_pos (by omega)] | rw [if_neg (by omega)]
    · refine aw_iconst (q := 108) F dE_takeWhole_107 rfl (by decide) ?_
      refine aw_goto (t := 112) F dE_takeWhole_108 (by decide) ?_
      refine av_puti (q := 115) F fE_43 dE_takeWhole_112 rfl rfl (wr_3_6 _) (by first | exact hs.o | exact hs.a2 | exact hs.a8) ?_
      refine aw_vret F C dE_takeWhole_115 rfl (Nat.le_refl _) (Nat.le_refl _) ?_
      refine hK _ (hF.up (by omega)) (by rw [up2_nek _ _ (by decide)]; exact f2) (by rw [up2_nek _ _ (by decide)]; exact f5) ?_ (by rw [up2_nek _ _ (by decide)]; exact f8)
      rw [up2_same]
      first | rw [if_pos (by omega)] | rw [if_neg (by omega)]
  have loop : ∀ (j k : Nat), n - k = j → k ≤ n → ∀ (V1 : Nat → Nat → Int) (z : Int), tkF V V1 e → V1 e 2 = s → V1 e 5 = k → V1 e 7 = dvT B n s k → (∀ j, j < k → isDb (byN B n (s + j)) = true) → rnT isDb B n s = k + rnF isDb B n (n - k) (s + k) → z = k → AW X 12 [some (vR e), some (vI z)] [] (V1, σ) 0 0 := by
    intro j
    induction j using Nat.strongRecOn with
    | ind j ih =>
      intro k hj hk V1 z hF f2 f5 f7 had hr hz
      have hX1 := hX.tk hs hF
      have x4 := hX1.1
      have hb := byN_bd B n (s + k)
      have er : k < n → rnF isDb B n (n - k) (s + k) = if isDb (byN B n (s + k)) then rnF isDb B n (n - (k + 1)) (s + (k + 1)) + 1 else 0 := fun q => by rw [show n - k = (n - (k + 1)) + 1 by omega]; rfl
      have hdl := (dvT_lt k had).2
      have hst1 : dvT B n s (k + 1) = if k < 3 then dvT B n s k * 10 + ((byN B n (s + k)).toNat - 48) else dvT B n s k := rfl
      refine aw_iload_1 (q := 13) F dE_takeWhole_12 rfl ?_
      refine aw_aload_0 (q := 14) F dE_takeWhole_13 rfl ?_
      refine av_geti (q := 17) F fE_32 dE_takeWhole_14 rfl rfl (by first | exact hs.o | exact hs.a2 | exact hs.a8) ?_
      refine aw_icmp_ge (q := 20) (t := 98) F dE_takeWhole_17 rfl (by decide) (fun c17 => ?_) (fun c17 => ?_)
      · refine fin k V1 _ hF f2 f5 f7 ?_
        first
        | (rw [hr, show n - k = 0 by omega]; rfl)
        | (rw [if_neg (by rw [c33]; decide)] at er; rw [hr, er (by omega)]; rfl)
      · refine aw_aload_0 (q := 21) F dE_takeWhole_20 rfl ?_
        refine aw_aload_0 (q := 22) F dE_takeWhole_21 rfl ?_
        refine av_geti (q := 25) F fE_164 dE_takeWhole_22 rfl rfl (by first | exact hs.o | exact hs.a2 | exact hs.a8) ?_
        refine aw_aload_0 (q := 26) F dE_takeWhole_25 rfl ?_
        refine av_geti (q := 29) F fE_167 dE_takeWhole_26 rfl rfl (by first | exact hs.o | exact hs.a2 | exact hs.a8) ?_
        rw [f2, f5]
        refine aw_iadd (q := 30) F dE_takeWhole_29 rfl (by constructor <;> omega) ?_
        refine av_callV1 (q := 33) (ci := 3) F hm mE_byteAt_i mE_byteAt_n lE_169 dE_takeWhole_30 rfl rfl rfl (by first | exact hs.o | exact hs.a2 | exact hs.a8) (by decide) (Nat.le_refl _) (Nat.le_refl _) (Nat.le_of_ble_eq_true rfl) (wE_byteAt (i := s + k) (by omega) hs hX1 ?_)
        refine av_callS1 (q := 36) F hm mE_isDigit_i mE_isDigit_n lE_179 dE_takeWhole_33 rfl (by decide) (Nat.le_refl _) (Nat.le_refl _) (Nat.le_of_ble_eq_true rfl) (wE_isDigit (fun c33 => ?_) (fun c33 => ?_))
        · refine aw_if_eq (q := 39) (t := 98) F dE_takeWhole_36 rfl (by decide) (fun c36 => absurd c36 (by decide)) (fun c36 => ?_)
          have hd33 : 48 ≤ byN B n (s + k) ∧ byN B n (s + k) ≤ 57 := by unfold isDb at c33; simpa using c33
          refine aw_aload_0 (q := 40) F dE_takeWhole_39 rfl ?_
          refine aw_aload_0 (q := 41) F dE_takeWhole_40 rfl ?_
          refine av_geti (q := 44) F fE_167 dE_takeWhole_41 rfl rfl (by first | exact hs.o | exact hs.a2 | exact hs.a8) ?_
          refine aw_iconst (q := 45) F dE_takeWhole_44 rfl (by decide) ?_
          refine aw_icmp_ge (q := 48) (t := 75) F dE_takeWhole_45 rfl (by decide) (fun c45 => ?_) (fun c45 => ?_)
          · refine aw_aload_0 (q := 76) F dE_takeWhole_75 rfl ?_
            refine av_geti (q := 79) F fE_103 dE_takeWhole_76 rfl rfl (by first | exact hs.o | exact hs.a2 | exact hs.a8) ?_
            refine av_puti (q := 82) F fE_103 dE_takeWhole_79 rfl rfl (wr_3_7 _) (by first | exact hs.o | exact hs.a2 | exact hs.a8) ?_
            refine aw_aload_0 (q := 83) F dE_takeWhole_82 rfl ?_
            refine aw_dup (q := 84) F dE_takeWhole_83 rfl trivial ?_
            refine av_geti (q := 87) F fE_167 dE_takeWhole_84 rfl rfl (by first | exact hs.o | exact hs.a2 | exact hs.a8) ?_
            rw [up2_nek _ _ (by decide), f5]
            refine aw_iconst (q := 88) F dE_takeWhole_87 rfl (by decide) ?_
            refine aw_iadd (q := 89) F dE_takeWhole_88 rfl (by constructor <;> omega) ?_
            refine av_puti (q := 92) F fE_167 dE_takeWhole_89 rfl rfl (wr_3_5 _) (by first | exact hs.o | exact hs.a2 | exact hs.a8) ?_
            refine aw_iinc_1 (q := 95) F dE_takeWhole_92 rfl trivial (by constructor <;> omega) ?_
            refine aw_goto (t := 12) F dE_takeWhole_95 (by decide) ?_
            rw [if_pos c33] at er
            refine ih _ (by omega) (k + 1) rfl (by omega) _ _ ((hF.up (by omega)).up (by omega)) (by rw [up2_nek _ _ (by decide), up2_nek _ _ (by decide)]; exact f2) (by rw [up2_same]; omega) ?_ (fun j hj => ?_) (by rw [hr, er (by omega)]; omega) (by omega)
            · rw [up2_nek _ _ (by decide), up2_same, hst1]
              first
              | (rw [if_pos (by omega)]; omega)
              | (rw [if_neg (by omega)]; exact f7)
            · by_cases ee : j = k
              · rw [ee]; exact c33
              · exact had j (by omega)
          · refine aw_aload_0 (q := 49) F dE_takeWhole_48 rfl ?_
            refine av_geti (q := 52) F fE_103 dE_takeWhole_49 rfl rfl (by first | exact hs.o | exact hs.a2 | exact hs.a8) ?_
            rw [f7]
            refine aw_bipush (q := 54) F dE_takeWhole_52 rfl (by decide) ?_
            refine aw_imul (q := 55) F dE_takeWhole_54 rfl (by constructor <;> omega) ?_
            refine aw_aload_0 (q := 56) F dE_takeWhole_55 rfl ?_
            refine aw_aload_0 (q := 57) F dE_takeWhole_56 rfl ?_
            refine av_geti (q := 60) F fE_164 dE_takeWhole_57 rfl rfl (by first | exact hs.o | exact hs.a2 | exact hs.a8) ?_
            refine aw_aload_0 (q := 61) F dE_takeWhole_60 rfl ?_
            refine av_geti (q := 64) F fE_167 dE_takeWhole_61 rfl rfl (by first | exact hs.o | exact hs.a2 | exact hs.a8) ?_
            rw [f2, f5]
            refine aw_iadd (q := 65) F dE_takeWhole_64 rfl (by constructor <;> omega) ?_
            refine av_callV1 (q := 68) (ci := 3) F hm mE_byteAt_i mE_byteAt_n lE_169 dE_takeWhole_65 rfl rfl rfl (by first | exact hs.o | exact hs.a2 | exact hs.a8) (by decide) (Nat.le_refl _) (Nat.le_refl _) (Nat.le_of_ble_eq_true rfl) (wE_byteAt (i := s + k) (by omega) hs hX1 ?_)
            refine aw_iadd (q := 69) F dE_takeWhole_68 rfl (by constructor <;> omega) ?_
            refine aw_bipush (q := 71) F dE_takeWhole_69 rfl (by decide) ?_
            refine aw_isub (q := 72) F dE_takeWhole_71 rfl (by constructor <;> omega) ?_
            refine aw_goto (t := 79) F dE_takeWhole_72 (by decide) ?_
            refine av_puti (q := 82) F fE_103 dE_takeWhole_79 rfl rfl (wr_3_7 _) (by first | exact hs.o | exact hs.a2 | exact hs.a8) ?_
            refine aw_aload_0 (q := 83) F dE_takeWhole_82 rfl ?_
            refine aw_dup (q := 84) F dE_takeWhole_83 rfl trivial ?_
            refine av_geti (q := 87) F fE_167 dE_takeWhole_84 rfl rfl (by first | exact hs.o | exact hs.a2 | exact hs.a8) ?_
            rw [up2_nek _ _ (by decide), f5]
            refine aw_iconst (q := 88) F dE_takeWhole_87 rfl (by decide) ?_
            refine aw_iadd (q := 89) F dE_takeWhole_88 rfl (by constructor <;> omega) ?_
            refine av_puti (q := 92) F fE_167 dE_takeWhole_89 rfl rfl (wr_3_5 _) (by first | exact hs.o | exact hs.a2 | exact hs.a8) ?_
            refine aw_iinc_1 (q := 95) F dE_takeWhole_92 rfl trivial (by constructor <;> omega) ?_
            refine aw_goto (t := 12) F dE_takeWhole_95 (by decide) ?_
            rw [if_pos c33] at er
            refine ih _ (by omega) (k + 1) rfl (by omega) _ _ ((hF.up (by omega)).up (by omega)) (by rw [up2_nek _ _ (by decide), up2_nek _ _ (by decide)]; exact f2) (by rw [up2_same]; omega) ?_ (fun j hj => ?_) (by rw [hr, er (by omega)]; omega) (by omega)
            · rw [up2_nek _ _ (by decide), up2_same, hst1]
              first
              | (rw [if_pos (by omega)]; omega)
              | (rw [if_neg (by omega)]; exact f7)
            · by_cases ee : j = k
              · rw [ee]; exact c33
              · exact had j (by omega)
        · refine aw_if_eq (q := 39) (t := 98) F dE_takeWhole_36 rfl (by decide) (fun c36 => ?_) (fun c36 => absurd c36 (by decide))
          refine fin k V1 _ hF f2 f5 f7 ?_
          first
          | (rw [hr, show n - k = 0 by omega]; rfl)
          | (rw [if_neg (by rw [c33]; decide)] at er; rw [hr, er (by omega)]; rfl)
  refine aw_aload_0 (q := 1) F dE_takeWhole_0 rfl ?_
  refine aw_iconst (q := 2) F dE_takeWhole_1 rfl (by decide) ?_
  refine av_puti (q := 5) F fE_167 dE_takeWhole_2 rfl rfl (wr_3_5 _) (by first | exact hs.o | exact hs.a2 | exact hs.a8) ?_
  refine aw_aload_0 (q := 6) F dE_takeWhole_5 rfl ?_
  refine aw_iconst (q := 7) F dE_takeWhole_6 rfl (by decide) ?_
  refine av_puti (q := 10) F fE_103 dE_takeWhole_7 rfl rfl (wr_3_7 _) (by first | exact hs.o | exact hs.a2 | exact hs.a8) ?_
  refine aw_iconst (q := 11) F dE_takeWhole_10 rfl (by decide) ?_
  refine aw_istore_1 (q := 12) F dE_takeWhole_11 rfl trivial ?_
  refine loop _ 0 rfl (by omega) _ _ (((tkF.rf V e).up (by omega)).up (by omega)) (by rw [up2_nek _ _ (by decide), up2_nek _ _ (by decide)]; exact hst) (by rw [up2_nek _ _ (by decide), up2_same]; rfl) (up2_same _ _ _ _) (fun j hj => absurd hj (by omega)) ?_ rfl
  show rnF isDb B n n s = 0 + rnF isDb B n n (s + 0)
  rw [Nat.zero_add, Nat.add_zero]
theorem wE_advance {p : Nat} (hs : rdS σ e) (hX : TX V e n B) (hp : V e 2 + V e 5 = p) (hpn : p ≤ n) (hK : ∀ V', tkF V V' e → TKR V' e (lexT B n p) → K (some (vI 1)) (V', σ)) : Wp G 2 mE_advance [vR e] (V, σ) 0 0 K := by
  have hn8 := hX.2.1
  have hsl := rnT_le (p := isSb) (by decide) (B := B) hpn
  refine wp_intro mE_advance_i.1 [some (vR e), none] rfl rfl (Nat.le_of_ble_eq_true rfl) ?_
  intro X hG F C
  have hm := C.rm
  have fin : ∀ (V1 : Nat → Nat → Int) (u : Option AV), tkF V V1 e → V1 e 2 = (p + rnT isSb B n p : Nat) → AW X 52 [some (vR e), u] [] (V1, σ) 0 0 := by
    intro V1 u hF f2
    have hX1 := hX.tk hs hF
    have hK' : ∀ (V' : Nat → Nat → Int) (t : TK), tkF V V' e → lexS B n (p + rnT isSb B n p) = t → TKR V' e t → K (some (vI 1)) (V', σ) := fun V' t q1 q2 q3 => hK V' q1 (by unfold lexT; rw [q2]; exact q3)
    have hSr := rnT_le (p := isLb) (by decide) (B := B) hsl
    refine aw_aload_0 (q := 53) F dE_advance_52 rfl ?_
    refine aw_aload_0 (q := 54) F dE_advance_53 rfl ?_
    refine av_geti (q := 57) F fE_164 dE_advance_54 rfl rfl (by first | exact hs.o | exact hs.a2 | exact hs.a8) ?_
    refine av_callV1 (q := 60) (ci := 3) F hm mE_byteAt_i mE_byteAt_n lE_169 dE_advance_57 rfl rfl rfl (by first | exact hs.o | exact hs.a2 | exact hs.a8) (by decide) (Nat.le_refl _) (Nat.le_refl _) (Nat.le_of_ble_eq_true rfl) (wE_byteAt (i := p + rnT isSb B n p) f2 hs hX1 ?_)
    refine aw_istore_1 (q := 61) F dE_advance_60 rfl trivial ?_
    refine aw_iload_1 (q := 62) F dE_advance_61 rfl ?_
    refine aw_iconst (q := 63) F dE_advance_62 rfl (by decide) ?_
    refine aw_icmp_ne (q := 66) (t := 79) F dE_advance_63 rfl (by decide) (fun c63 => ?_) (fun c63 => ?_)
    · refine aw_iload_1 (q := 80) F dE_advance_79 rfl ?_
      refine av_callS1 (q := 83) F hm mE_isLetter_i mE_isLetter_n lE_173 dE_advance_80 rfl (by decide) (Nat.le_refl _) (Nat.le_refl _) (Nat.le_of_ble_eq_true rfl) (wE_isLetter (fun c80 => ?_) (fun c80 => ?_))
      · refine aw_if_eq (q := 86) (t := 93) F dE_advance_83 rfl (by decide) (fun c83 => absurd c83 (by decide)) (fun c83 => ?_)
        refine aw_aload_0 (q := 87) F dE_advance_86 rfl ?_
        refine av_callV0 (q := 90) (ci := 3) F hm mE_takeWord_i mE_takeWord_n lE_176 dE_advance_87 rfl rfl rfl (by first | exact hs.o | exact hs.a2 | exact hs.a8) (by decide) (Nat.le_refl _) (Nat.le_refl _) (Nat.le_of_ble_eq_true rfl) (wE_takeWord (s := p + rnT isSb B n p) hs hX1 f2 hsl (fun v87 f87 a87 b87 c87 d87 => ?_))
        refine aw_goto (t := 127) F dE_advance_90 (by decide) ?_
        refine aw_iconst (q := 128) F dE_advance_127 rfl (by decide) ?_
        refine aw_zret F C dE_advance_128 rfl (by decide) (Nat.le_refl _) (Nat.le_refl _) ?_
        first
        | (refine hK' _ _ (hF.tr f87) (by unfold lexS; rw [if_neg c63, if_pos c80]) ⟨a87, by rw [b87]; show _ = ((p + rnT isSb B n p + rnT isLb B n (p + rnT isSb B n p) - (p + rnT isSb B n p) : Nat) : Int); omega, by rw [c87]; show _ = ((if rnT isLb B n (p + rnT isSb B n p) ≤ 8 then 1 else 4 : Nat) : Int); split <;> rfl, fun q => d87 (by have q : (if rnT isLb B n (p + rnT isSb B n p) ≤ 8 then 1 else 4) = 1 := q; split at q <;> omega), fun q => absurd q (by show ¬ (if rnT isLb B n (p + rnT isSb B n p) ≤ 8 then 1 else 4) = 2; split <;> omega)⟩)
        | (refine hK' _ _ (hF.tr f101) (by unfold lexS; rw [if_neg c63, if_neg (by rw [c80]; decide), if_pos c94]) ⟨a101, by rw [b101]; show _ = ((p + rnT isSb B n p + rnT isDb B n (p + rnT isSb B n p) - (p + rnT isSb B n p) : Nat) : Int); omega, by rw [c101]; show _ = ((if rnT isDb B n (p + rnT isSb B n p) ≤ 3 then 2 else 4 : Nat) : Int); split <;> rfl, fun q => absurd q (by show ¬ (if rnT isDb B n (p + rnT isSb B n p) ≤ 3 then 2 else 4) = 1; split <;> omega), fun _ => d101⟩)
        | (refine hK' _ _ ((hF.up (by omega)).up (by omega)) (by unfold lexS; rw [if_pos c63]) ⟨by rw [up2_nek _ _ (by decide), up2_nek _ _ (by decide)]; exact f2, by rw [up2_same]; show _ = ((p + rnT isSb B n p - (p + rnT isSb B n p) : Nat) : Int); omega, by rw [up2_nek _ _ (by decide), up2_same]; rfl, fun q => absurd q (by show ¬ 0 = 1; decide), fun q => absurd q (by show ¬ 0 = 2; decide)⟩)
        | (refine hK' _ _ ((hF.up (by omega)).up (by omega)) (by unfold lexS; rw [if_neg c63, if_neg (by rw [c80]; decide), if_neg (by rw [c94]; decide), if_pos c111]) ⟨by rw [up2_nek _ _ (by decide), up2_nek _ _ (by decide)]; exact f2, by rw [up2_same]; show _ = ((p + rnT isSb B n p + 1 - (p + rnT isSb B n p) : Nat) : Int); omega, by rw [up2_nek _ _ (by decide), up2_same]; rfl, fun q => absurd q (by show ¬ 3 = 1; decide), fun q => absurd q (by show ¬ 3 = 2; decide)⟩)
        | (refine hK' _ _ ((hF.up (by omega)).up (by omega)) (by unfold lexS; rw [if_neg c63, if_neg (by rw [c80]; decide), if_neg (by rw [c94]; decide), if_neg c111]) ⟨by rw [up2_nek _ _ (by decide), up2_nek _ _ (by decide)]; exact f2, by rw [up2_same]; show _ = ((p + rnT isSb B n p + 1 - (p + rnT isSb B n p) : Nat) : Int); omega, by rw [up2_nek _ _ (by decide), up2_same]; rfl, fun q => absurd q (by show ¬ 4 = 1; decide), fun q => absurd q (by show ¬ 4 = 2; decide)⟩)
      · refine aw_if_eq (q := 86) (t := 93) F dE_advance_83 rfl (by decide) (fun c83 => ?_) (fun c83 => absurd c83 (by decide))
        refine aw_iload_1 (q := 94) F dE_advance_93 rfl ?_
        refine av_callS1 (q := 97) F hm mE_isDigit_i mE_isDigit_n lE_179 dE_advance_94 rfl (by decide) (Nat.le_refl _) (Nat.le_refl _) (Nat.le_of_ble_eq_true rfl) (wE_isDigit (fun c94 => ?_) (fun c94 => ?_))
        · refine aw_if_eq (q := 100) (t := 107) F dE_advance_97 rfl (by decide) (fun c97 => absurd c97 (by decide)) (fun c97 => ?_)
          refine aw_aload_0 (q := 101) F dE_advance_100 rfl ?_
          refine av_callV0 (q := 104) (ci := 3) F hm mE_takeWhole_i mE_takeWhole_n lE_182 dE_advance_101 rfl rfl rfl (by first | exact hs.o | exact hs.a2 | exact hs.a8) (by decide) (Nat.le_refl _) (Nat.le_refl _) (Nat.le_of_ble_eq_true rfl) (wE_takeWhole (s := p + rnT isSb B n p) hs hX1 f2 hsl (fun v101 f101 a101 b101 c101 d101 => ?_))
          refine aw_goto (t := 127) F dE_advance_104 (by decide) ?_
          refine aw_iconst (q := 128) F dE_advance_127 rfl (by decide) ?_
          refine aw_zret F C dE_advance_128 rfl (by decide) (Nat.le_refl _) (Nat.le_refl _) ?_
          first
          | (refine hK' _ _ (hF.tr f87) (by unfold lexS; rw [if_neg c63, if_pos c80]) ⟨a87, by rw [b87]; show _ = ((p + rnT isSb B n p + rnT isLb B n (p + rnT isSb B n p) - (p + rnT isSb B n p) : Nat) : Int); omega, by rw [c87]; show _ = ((if rnT isLb B n (p + rnT isSb B n p) ≤ 8 then 1 else 4 : Nat) : Int); split <;> rfl, fun q => d87 (by have q : (if rnT isLb B n (p + rnT isSb B n p) ≤ 8 then 1 else 4) = 1 := q; split at q <;> omega), fun q => absurd q (by show ¬ (if rnT isLb B n (p + rnT isSb B n p) ≤ 8 then 1 else 4) = 2; split <;> omega)⟩)
          | (refine hK' _ _ (hF.tr f101) (by unfold lexS; rw [if_neg c63, if_neg (by rw [c80]; decide), if_pos c94]) ⟨a101, by rw [b101]; show _ = ((p + rnT isSb B n p + rnT isDb B n (p + rnT isSb B n p) - (p + rnT isSb B n p) : Nat) : Int); omega, by rw [c101]; show _ = ((if rnT isDb B n (p + rnT isSb B n p) ≤ 3 then 2 else 4 : Nat) : Int); split <;> rfl, fun q => absurd q (by show ¬ (if rnT isDb B n (p + rnT isSb B n p) ≤ 3 then 2 else 4) = 1; split <;> omega), fun _ => d101⟩)
          | (refine hK' _ _ ((hF.up (by omega)).up (by omega)) (by unfold lexS; rw [if_pos c63]) ⟨by rw [up2_nek _ _ (by decide), up2_nek _ _ (by decide)]; exact f2, by rw [up2_same]; show _ = ((p + rnT isSb B n p - (p + rnT isSb B n p) : Nat) : Int); omega, by rw [up2_nek _ _ (by decide), up2_same]; rfl, fun q => absurd q (by show ¬ 0 = 1; decide), fun q => absurd q (by show ¬ 0 = 2; decide)⟩)
          | (refine hK' _ _ ((hF.up (by omega)).up (by omega)) (by unfold lexS; rw [if_neg c63, if_neg (by rw [c80]; decide), if_neg (by rw [c94]; decide), if_pos c111]) ⟨by rw [up2_nek _ _ (by decide), up2_nek _ _ (by decide)]; exact f2, by rw [up2_same]; show _ = ((p + rnT isSb B n p + 1 - (p + rnT isSb B n p) : Nat) : Int); omega, by rw [up2_nek _ _ (by decide), up2_same]; rfl, fun q => absurd q (by show ¬ 3 = 1; decide), fun q => absurd q (by show ¬ 3 = 2; decide)⟩)
          | (refine hK' _ _ ((hF.up (by omega)).up (by omega)) (by unfold lexS; rw [if_neg c63, if_neg (by rw [c80]; decide), if_neg (by rw [c94]; decide), if_neg c111]) ⟨by rw [up2_nek _ _ (by decide), up2_nek _ _ (by decide)]; exact f2, by rw [up2_same]; show _ = ((p + rnT isSb B n p + 1 - (p + rnT isSb B n p) : Nat) : Int); omega, by rw [up2_nek _ _ (by decide), up2_same]; rfl, fun q => absurd q (by show ¬ 4 = 1; decide), fun q => absurd q (by show ¬ 4 = 2; decide)⟩)
        · refine aw_if_eq (q := 100) (t := 107) F dE_advance_97 rfl (by decide) (fun c97 => ?_) (fun c97 => absurd c97 (by decide))
          refine aw_aload_0 (q := 108) F dE_advance_107 rfl ?_
          refine aw_iload_1 (q := 109) F dE_advance_108 rfl ?_
          refine aw_bipush (q := 111) F dE_advance_109 rfl (by decide) ?_
          refine aw_icmp_ne (q := 114) (t := 118) F dE_advance_111 rfl (by decide) (fun c111 => ?_) (fun c111 => ?_)
          · refine aw_iconst (q := 119) F dE_advance_118 rfl (by decide) ?_
            refine av_puti (q := 122) F fE_43 dE_advance_119 rfl rfl (wr_3_6 _) (by first | exact hs.o | exact hs.a2 | exact hs.a8) ?_
            refine aw_aload_0 (q := 123) F dE_advance_122 rfl ?_
            refine aw_iconst (q := 124) F dE_advance_123 rfl (by decide) ?_
            refine av_puti (q := 127) F fE_167 dE_advance_124 rfl rfl (wr_3_5 _) (by first | exact hs.o | exact hs.a2 | exact hs.a8) ?_
            refine aw_iconst (q := 128) F dE_advance_127 rfl (by decide) ?_
            refine aw_zret F C dE_advance_128 rfl (by decide) (Nat.le_refl _) (Nat.le_refl _) ?_
            first
            | (refine hK' _ _ (hF.tr f87) (by unfold lexS; rw [if_neg c63, if_pos c80]) ⟨a87, by rw [b87]; show _ = ((p + rnT isSb B n p + rnT isLb B n (p + rnT isSb B n p) - (p + rnT isSb B n p) : Nat) : Int); omega, by rw [c87]; show _ = ((if rnT isLb B n (p + rnT isSb B n p) ≤ 8 then 1 else 4 : Nat) : Int); split <;> rfl, fun q => d87 (by have q : (if rnT isLb B n (p + rnT isSb B n p) ≤ 8 then 1 else 4) = 1 := q; split at q <;> omega), fun q => absurd q (by show ¬ (if rnT isLb B n (p + rnT isSb B n p) ≤ 8 then 1 else 4) = 2; split <;> omega)⟩)
            | (refine hK' _ _ (hF.tr f101) (by unfold lexS; rw [if_neg c63, if_neg (by rw [c80]; decide), if_pos c94]) ⟨a101, by rw [b101]; show _ = ((p + rnT isSb B n p + rnT isDb B n (p + rnT isSb B n p) - (p + rnT isSb B n p) : Nat) : Int); omega, by rw [c101]; show _ = ((if rnT isDb B n (p + rnT isSb B n p) ≤ 3 then 2 else 4 : Nat) : Int); split <;> rfl, fun q => absurd q (by show ¬ (if rnT isDb B n (p + rnT isSb B n p) ≤ 3 then 2 else 4) = 1; split <;> omega), fun _ => d101⟩)
            | (refine hK' _ _ ((hF.up (by omega)).up (by omega)) (by unfold lexS; rw [if_pos c63]) ⟨by rw [up2_nek _ _ (by decide), up2_nek _ _ (by decide)]; exact f2, by rw [up2_same]; show _ = ((p + rnT isSb B n p - (p + rnT isSb B n p) : Nat) : Int); omega, by rw [up2_nek _ _ (by decide), up2_same]; rfl, fun q => absurd q (by show ¬ 0 = 1; decide), fun q => absurd q (by show ¬ 0 = 2; decide)⟩)
            | (refine hK' _ _ ((hF.up (by omega)).up (by omega)) (by unfold lexS; rw [if_neg c63, if_neg (by rw [c80]; decide), if_neg (by rw [c94]; decide), if_pos c111]) ⟨by rw [up2_nek _ _ (by decide), up2_nek _ _ (by decide)]; exact f2, by rw [up2_same]; show _ = ((p + rnT isSb B n p + 1 - (p + rnT isSb B n p) : Nat) : Int); omega, by rw [up2_nek _ _ (by decide), up2_same]; rfl, fun q => absurd q (by show ¬ 3 = 1; decide), fun q => absurd q (by show ¬ 3 = 2; decide)⟩)
            | (refine hK' _ _ ((hF.up (by omega)).up (by omega)) (by unfold lexS; rw [if_neg c63, if_neg (by rw [c80]; decide), if_neg (by rw [c94]; decide), if_neg c111]) ⟨by rw [up2_nek _ _ (by decide), up2_nek _ _ (by decide)]; exact f2, by rw [up2_same]; show _ = ((p + rnT isSb B n p + 1 - (p + rnT isSb B n p) : Nat) : Int); omega, by rw [up2_nek _ _ (by decide), up2_same]; rfl, fun q => absurd q (by show ¬ 4 = 1; decide), fun q => absurd q (by show ¬ 4 = 2; decide)⟩)
          · refine aw_iconst (q := 115) F dE_advance_114 rfl (by decide) ?_
            refine aw_goto (t := 119) F dE_advance_115 (by decide) ?_
            refine av_puti (q := 122) F fE_43 dE_advance_119 rfl rfl (wr_3_6 _) (by first | exact hs.o | exact hs.a2 | exact hs.a8) ?_
            refine aw_aload_0 (q := 123) F dE_advance_122 rfl ?_
            refine aw_iconst (q := 124) F dE_advance_123 rfl (by decide) ?_
            refine av_puti (q := 127) F fE_167 dE_advance_124 rfl rfl (wr_3_5 _) (by first | exact hs.o | exact hs.a2 | exact hs.a8) ?_
            refine aw_iconst (q := 128) F dE_advance_127 rfl (by decide) ?_
            refine aw_zret F C dE_advance_128 rfl (by decide) (Nat.le_refl _) (Nat.le_refl _) ?_
            first
            | (refine hK' _ _ (hF.tr f87) (by unfold lexS; rw [if_neg c63, if_pos c80]) ⟨a87, by rw [b87]; show _ = ((p + rnT isSb B n p + rnT isLb B n (p + rnT isSb B n p) - (p + rnT isSb B n p) : Nat) : Int); omega, by rw [c87]; show _ = ((if rnT isLb B n (p + rnT isSb B n p) ≤ 8 then 1 else 4 : Nat) : Int); split <;> rfl, fun q => d87 (by have q : (if rnT isLb B n (p + rnT isSb B n p) ≤ 8 then 1 else 4) = 1 := q; split at q <;> omega), fun q => absurd q (by show ¬ (if rnT isLb B n (p + rnT isSb B n p) ≤ 8 then 1 else 4) = 2; split <;> omega)⟩)
            | (refine hK' _ _ (hF.tr f101) (by unfold lexS; rw [if_neg c63, if_neg (by rw [c80]; decide), if_pos c94]) ⟨a101, by rw [b101]; show _ = ((p + rnT isSb B n p + rnT isDb B n (p + rnT isSb B n p) - (p + rnT isSb B n p) : Nat) : Int); omega, by rw [c101]; show _ = ((if rnT isDb B n (p + rnT isSb B n p) ≤ 3 then 2 else 4 : Nat) : Int); split <;> rfl, fun q => absurd q (by show ¬ (if rnT isDb B n (p + rnT isSb B n p) ≤ 3 then 2 else 4) = 1; split <;> omega), fun _ => d101⟩)
            | (refine hK' _ _ ((hF.up (by omega)).up (by omega)) (by unfold lexS; rw [if_pos c63]) ⟨by rw [up2_nek _ _ (by decide), up2_nek _ _ (by decide)]; exact f2, by rw [up2_same]; show _ = ((p + rnT isSb B n p - (p + rnT isSb B n p) : Nat) : Int); omega, by rw [up2_nek _ _ (by decide), up2_same]; rfl, fun q => absurd q (by show ¬ 0 = 1; decide), fun q => absurd q (by show ¬ 0 = 2; decide)⟩)
            | (refine hK' _ _ ((hF.up (by omega)).up (by omega)) (by unfold lexS; rw [if_neg c63, if_neg (by rw [c80]; decide), if_neg (by rw [c94]; decide), if_pos c111]) ⟨by rw [up2_nek _ _ (by decide), up2_nek _ _ (by decide)]; exact f2, by rw [up2_same]; show _ = ((p + rnT isSb B n p + 1 - (p + rnT isSb B n p) : Nat) : Int); omega, by rw [up2_nek _ _ (by decide), up2_same]; rfl, fun q => absurd q (by show ¬ 3 = 1; decide), fun q => absurd q (by show ¬ 3 = 2; decide)⟩)
            | (refine hK' _ _ ((hF.up (by omega)).up (by omega)) (by unfold lexS; rw [if_neg c63, if_neg (by rw [c80]; decide), if_neg (by rw [c94]; decide), if_neg c111]) ⟨by rw [up2_nek _ _ (by decide), up2_nek _ _ (by decide)]; exact f2, by rw [up2_same]; show _ = ((p + rnT isSb B n p + 1 - (p + rnT isSb B n p) : Nat) : Int); omega, by rw [up2_nek _ _ (by decide), up2_same]; rfl, fun q => absurd q (by show ¬ 4 = 1; decide), fun q => absurd q (by show ¬ 4 = 2; decide)⟩)
    · refine aw_aload_0 (q := 67) F dE_advance_66 rfl ?_
      refine aw_iconst (q := 68) F dE_advance_67 rfl (by decide) ?_
      refine av_puti (q := 71) F fE_43 dE_advance_68 rfl rfl (wr_3_6 _) (by first | exact hs.o | exact hs.a2 | exact hs.a8) ?_
      refine aw_aload_0 (q := 72) F dE_advance_71 rfl ?_
      refine aw_iconst (q := 73) F dE_advance_72 rfl (by decide) ?_
      refine av_puti (q := 76) F fE_167 dE_advance_73 rfl rfl (wr_3_5 _) (by first | exact hs.o | exact hs.a2 | exact hs.a8) ?_
      refine aw_goto (t := 127) F dE_advance_76 (by decide) ?_
      refine aw_iconst (q := 128) F dE_advance_127 rfl (by decide) ?_
      refine aw_zret F C dE_advance_128 rfl (by decide) (Nat.le_refl _) (Nat.le_refl _) ?_
      first
      | (refine hK' _ _ (hF.tr f87) (by unfold lexS; rw [if_neg c63, if_pos c80]) ⟨a87, by rw [b87]; show _ = ((p + rnT isSb B n p + rnT isLb B n (p + rnT isSb B n p) - (p + rnT isSb B n p) : Nat) : Int); omega, by rw [c87]; show _ = ((if rnT isLb B n (p + rnT isSb B n p) ≤ 8 then 1 else 4 : Nat) : Int); split <;> rfl, fun q => d87 (by have q : (if rnT isLb B n (p + rnT isSb B n p) ≤ 8 then 1 else 4) = 1 := q; split at q <;> omega), fun q => absurd q (by show ¬ (if rnT isLb B n (p + rnT isSb B n p) ≤ 8 then 1 else 4) = 2; split <;> omega)⟩)
      | (refine hK' _ _ (hF.tr f101) (by unfold lexS; rw [if_neg c63, if_neg (by rw [c80]; decide), if_pos c94]) ⟨a101, by rw [b101]; show _ = ((p + rnT isSb B n p + rnT isDb B n (p + rnT isSb B n p) - (p + rnT isSb B n p) : Nat) : Int); omega, by rw [c101]; show _ = ((if rnT isDb B n (p + rnT isSb B n p) ≤ 3 then 2 else 4 : Nat) : Int); split <;> rfl, fun q => absurd q (by show ¬ (if rnT isDb B n (p + rnT isSb B n p) ≤ 3 then 2 else 4) = 1; split <;> omega), fun _ => d101⟩)
      | (refine hK' _ _ ((hF.up (by omega)).up (by omega)) (by unfold lexS; rw [if_pos c63]) ⟨by rw [up2_nek _ _ (by decide), up2_nek _ _ (by decide)]; exact f2, by rw [up2_same]; show _ = ((p + rnT isSb B n p - (p + rnT isSb B n p) : Nat) : Int); omega, by rw [up2_nek _ _ (by decide), up2_same]; rfl, fun q => absurd q (by show ¬ 0 = 1; decide), fun q => absurd q (by show ¬ 0 = 2; decide)⟩)
      | (refine hK' _ _ ((hF.up (by omega)).up (by omega)) (by unfold lexS; rw [if_neg c63, if_neg (by rw [c80]; decide), if_neg (by rw [c94]; decide), if_pos c111]) ⟨by rw [up2_nek _ _ (by decide), up2_nek _ _ (by decide)]; exact f2, by rw [up2_same]; show _ = ((p + rnT isSb B n p + 1 - (p + rnT isSb B n p) : Nat) : Int); omega, by rw [up2_nek _ _ (by decide), up2_same]; rfl, fun q => absurd q (by show ¬ 3 = 1; decide), fun q => absurd q (by show ¬ 3 = 2; decide)⟩)
      | (refine hK' _ _ ((hF.up (by omega)).up (by omega)) (by unfold lexS; rw [if_neg c63, if_neg (by rw [c80]; decide), if_neg (by rw [c94]; decide), if_neg c111]) ⟨by rw [up2_nek _ _ (by decide), up2_nek _ _ (by decide)]; exact f2, by rw [up2_same]; show _ = ((p + rnT isSb B n p + 1 - (p + rnT isSb B n p) : Nat) : Int); omega, by rw [up2_nek _ _ (by decide), up2_same]; rfl, fun q => absurd q (by show ¬ 4 = 1; decide), fun q => absurd q (by show ¬ 4 = 2; decide)⟩)
  have loop : ∀ (j k : Nat), n - k = j → k ≤ n → ∀ (V1 : Nat → Nat → Int) (z : Int), tkF V V1 e → V1 e 2 = (p + k : Nat) → p + k ≤ n → rnT isSb B n p = k + rnF isSb B n (n - k) (p + k) → z = k → AW X 15 [some (vR e), some (vI z)] [] (V1, σ) 0 0 := by
    intro j
    induction j using Nat.strongRecOn with
    | ind j ih =>
      intro k hj hk V1 z hF f2 hpk hr hz
      have hX1 := hX.tk hs hF
      have x4 := hX1.1
      have er : k < n → rnF isSb B n (n - k) (p + k) = if isSb (byN B n (p + k)) then rnF isSb B n (n - (k + 1)) (p + (k + 1)) + 1 else 0 := fun q => by rw [show n - k = (n - (k + 1)) + 1 by omega]; rfl
      refine aw_iload_1 (q := 16) F dE_advance_15 rfl ?_
      refine aw_aload_0 (q := 17) F dE_advance_16 rfl ?_
      refine av_geti (q := 20) F fE_32 dE_advance_17 rfl rfl (by first | exact hs.o | exact hs.a2 | exact hs.a8) ?_
      refine aw_icmp_ge (q := 23) (t := 52) F dE_advance_20 rfl (by decide) (fun c20 => ?_) (fun c20 => ?_)
      · refine fin V1 _ hF ?_
        first
        | (rw [hr, show n - k = 0 by omega]; exact f2)
        | (have hb0 : ¬ isSb (byN B n (p + k)) = true := by unfold isSb; simp; exact c33
           rw [if_neg hb0] at er
           rw [hr, er (by omega)]; exact f2)
      · refine aw_aload_0 (q := 24) F dE_advance_23 rfl ?_
        refine aw_aload_0 (q := 25) F dE_advance_24 rfl ?_
        refine av_geti (q := 28) F fE_164 dE_advance_25 rfl rfl (by first | exact hs.o | exact hs.a2 | exact hs.a8) ?_
        refine av_callV1 (q := 31) (ci := 3) F hm mE_byteAt_i mE_byteAt_n lE_169 dE_advance_28 rfl rfl rfl (by first | exact hs.o | exact hs.a2 | exact hs.a8) (by decide) (Nat.le_refl _) (Nat.le_refl _) (Nat.le_of_ble_eq_true rfl) (wE_byteAt (i := p + k) f2 hs hX1 ?_)
        refine aw_bipush (q := 33) F dE_advance_31 rfl (by decide) ?_
        refine aw_icmp_ne (q := 36) (t := 52) F dE_advance_33 rfl (by decide) (fun c33 => ?_) (fun c33 => ?_)
        · refine fin V1 _ hF ?_
          first
          | (rw [hr, show n - k = 0 by omega]; exact f2)
          | (have hb0 : ¬ isSb (byN B n (p + k)) = true := by unfold isSb; simp; exact c33
             rw [if_neg hb0] at er
             rw [hr, er (by omega)]; exact f2)
        · refine aw_aload_0 (q := 37) F dE_advance_36 rfl ?_
          refine aw_dup (q := 38) F dE_advance_37 rfl trivial ?_
          refine av_geti (q := 41) F fE_164 dE_advance_38 rfl rfl (by first | exact hs.o | exact hs.a2 | exact hs.a8) ?_
          rw [f2]
          refine aw_iconst (q := 42) F dE_advance_41 rfl (by decide) ?_
          refine aw_iadd (q := 43) F dE_advance_42 rfl (by constructor <;> omega) ?_
          refine av_puti (q := 46) F fE_164 dE_advance_43 rfl rfl (wr_3_2 _) (by first | exact hs.o | exact hs.a2 | exact hs.a8) ?_
          refine aw_iinc_1 (q := 49) F dE_advance_46 rfl trivial (by constructor <;> omega) ?_
          refine aw_goto (t := 15) F dE_advance_49 (by decide) ?_
          have hb1 : isSb (byN B n (p + k)) = true := by unfold isSb; simp; exact c33
          have hin := byN_in (B := B) (n := n) (i := p + k) (by omega)
          rw [if_pos hb1] at er
          exact ih _ (by omega) (k + 1) rfl (by omega) _ _ (hF.up (by omega)) (by rw [up2_same]; omega) (by omega) (by rw [hr, er (by omega)]; omega) (by omega)
  refine aw_aload_0 (q := 1) F dE_advance_0 rfl ?_
  refine aw_dup (q := 2) F dE_advance_1 rfl trivial ?_
  refine av_geti (q := 5) F fE_164 dE_advance_2 rfl rfl (by first | exact hs.o | exact hs.a2 | exact hs.a8) ?_
  refine aw_aload_0 (q := 6) F dE_advance_5 rfl ?_
  refine av_geti (q := 9) F fE_167 dE_advance_6 rfl rfl (by first | exact hs.o | exact hs.a2 | exact hs.a8) ?_
  refine aw_iadd (q := 10) F dE_advance_9 rfl (by rw [hp]; omega) ?_
  rw [hp]
  refine av_puti (q := 13) F fE_164 dE_advance_10 rfl rfl (wr_3_2 _) (by first | exact hs.o | exact hs.a2 | exact hs.a8) ?_
  refine aw_iconst (q := 14) F dE_advance_13 rfl (by decide) ?_
  refine aw_istore_1 (q := 15) F dE_advance_14 rfl trivial ?_
  refine loop _ 0 rfl (by omega) _ _ ((tkF.rf V e).up (by omega)) (by rw [up2_same]; rfl) (by omega) ?_ rfl
  show rnF isSb B n n p = 0 + rnF isSb B n n (p + 0)
  rw [Nat.zero_add, Nat.add_zero]
end Lex
