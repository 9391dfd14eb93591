theorem dR_rankAt_0 : decode mR_rankAt.2.1 0 = .ok (.aload_n 1, 1) := by decide +kernel
theorem dR_rankAt_1 : decode mR_rankAt.2.1 1 = .ok (.aload_n 1, 1) := by decide +kernel
theorem dR_rankAt_2 : decode mR_rankAt.2.1 2 = .ok (.iload_n 2, 1) := by decide +kernel
theorem dR_rankAt_3 : decode mR_rankAt.2.1 3 = .ok (.invokevirtual 65, 3) := by decide +kernel
theorem dR_rankAt_6 : decode mR_rankAt.2.1 6 = .ok (.aload_n 0, 1) := by decide +kernel
theorem dR_rankAt_7 : decode mR_rankAt.2.1 7 = .ok (.getfield 21, 3) := by decide +kernel
theorem dR_rankAt_10 : decode mR_rankAt.2.1 10 = .ok (.invokevirtual 88, 3) := by decide +kernel
theorem dR_rankAt_13 : decode mR_rankAt.2.1 13 = .ok (.ireturn, 1) := by decide +kernel
theorem dR_setValue_0 : decode mR_setValue.2.1 0 = .ok (.iload_n 1, 1) := by decide +kernel
theorem dR_setValue_1 : decode mR_setValue.2.1 1 = .ok (.ifCond .lt 13, 3) := by decide +kernel
theorem dR_setValue_4 : decode mR_setValue.2.1 4 = .ok (.iload_n 1, 1) := by decide +kernel
theorem dR_setValue_5 : decode mR_setValue.2.1 5 = .ok (.aload_n 0, 1) := by decide +kernel
theorem dR_setValue_6 : decode mR_setValue.2.1 6 = .ok (.arraylength, 1) := by decide +kernel
theorem dR_setValue_7 : decode mR_setValue.2.1 7 = .ok (.if_icmp .ge 7, 3) := by decide +kernel
theorem dR_setValue_10 : decode mR_setValue.2.1 10 = .ok (.aload_n 0, 1) := by decide +kernel
theorem dR_setValue_11 : decode mR_setValue.2.1 11 = .ok (.iload_n 1, 1) := by decide +kernel
theorem dR_setValue_12 : decode mR_setValue.2.1 12 = .ok (.iload_n 2, 1) := by decide +kernel
theorem dR_setValue_13 : decode mR_setValue.2.1 13 = .ok (.iastore, 1) := by decide +kernel
theorem dR_setValue_14 : decode mR_setValue.2.1 14 = .ok (.return_, 1) := by decide +kernel
theorem dR_valueOf_0 : decode mR_valueOf.2.1 0 = .ok (.aload_n 2, 1) := by decide +kernel
theorem dR_valueOf_1 : decode mR_valueOf.2.1 1 = .ok (.iload_n 1, 1) := by decide +kernel
theorem dR_valueOf_2 : decode mR_valueOf.2.1 2 = .ok (.aload_n 0, 1) := by decide +kernel
theorem dR_valueOf_3 : decode mR_valueOf.2.1 3 = .ok (.getfield 21, 3) := by decide +kernel
theorem dR_valueOf_6 : decode mR_valueOf.2.1 6 = .ok (.invokevirtual 88, 3) := by decide +kernel
theorem dR_valueOf_9 : decode mR_valueOf.2.1 9 = .ok (.istore_n 3, 1) := by decide +kernel
theorem dR_valueOf_10 : decode mR_valueOf.2.1 10 = .ok (.iload_n 3, 1) := by decide +kernel
theorem dR_valueOf_11 : decode mR_valueOf.2.1 11 = .ok (.ifCond .lt 21, 3) := by decide +kernel
theorem dR_valueOf_14 : decode mR_valueOf.2.1 14 = .ok (.iload_n 3, 1) := by decide +kernel
theorem dR_valueOf_15 : decode mR_valueOf.2.1 15 = .ok (.aload_n 0, 1) := by decide +kernel
theorem dR_valueOf_16 : decode mR_valueOf.2.1 16 = .ok (.getfield 24, 3) := by decide +kernel
theorem dR_valueOf_19 : decode mR_valueOf.2.1 19 = .ok (.arraylength, 1) := by decide +kernel
theorem dR_valueOf_20 : decode mR_valueOf.2.1 20 = .ok (.if_icmp .ge 12, 3) := by decide +kernel
theorem dR_valueOf_23 : decode mR_valueOf.2.1 23 = .ok (.aload_n 0, 1) := by decide +kernel
theorem dR_valueOf_24 : decode mR_valueOf.2.1 24 = .ok (.getfield 24, 3) := by decide +kernel
theorem dR_valueOf_27 : decode mR_valueOf.2.1 27 = .ok (.iload_n 3, 1) := by decide +kernel
theorem dR_valueOf_28 : decode mR_valueOf.2.1 28 = .ok (.iaload, 1) := by decide +kernel
theorem dR_valueOf_29 : decode mR_valueOf.2.1 29 = .ok (.goto 4, 3) := by decide +kernel
theorem dR_valueOf_32 : decode mR_valueOf.2.1 32 = .ok (.iconst 0, 1) := by decide +kernel
theorem dR_valueOf_33 : decode mR_valueOf.2.1 33 = .ok (.ireturn, 1) := by decide +kernel
theorem dR_valueOfFit_0 : decode mR_valueOfFit.2.1 0 = .ok (.aload_n 0, 1) := by decide +kernel
theorem dR_valueOfFit_1 : decode mR_valueOfFit.2.1 1 = .ok (.getfield 92, 3) := by decide +kernel
theorem dR_valueOfFit_4 : decode mR_valueOfFit.2.1 4 = .ok (.astore_n 3, 1) := by decide +kernel
theorem dR_valueOfFit_5 : decode mR_valueOfFit.2.1 5 = .ok (.aload_n 3, 1) := by decide +kernel
theorem dR_valueOfFit_6 : decode mR_valueOfFit.2.1 6 = .ok (.aload_n 0, 1) := by decide +kernel
theorem dR_valueOfFit_7 : decode mR_valueOfFit.2.1 7 = .ok (.iload_n 1, 1) := by decide +kernel
theorem dR_valueOfFit_8 : decode mR_valueOfFit.2.1 8 = .ok (.invokevirtual 65, 3) := by decide +kernel
theorem dR_valueOfFit_11 : decode mR_valueOfFit.2.1 11 = .ok (.invokevirtual 96, 3) := by decide +kernel
theorem dR_valueOfFit_14 : decode mR_valueOfFit.2.1 14 = .ok (.iload_n 2, 1) := by decide +kernel
theorem dR_valueOfFit_15 : decode mR_valueOfFit.2.1 15 = .ok (.aload_n 3, 1) := by decide +kernel
theorem dR_valueOfFit_16 : decode mR_valueOfFit.2.1 16 = .ok (.aload_n 3, 1) := by decide +kernel
theorem dR_valueOfFit_17 : decode mR_valueOfFit.2.1 17 = .ok (.invokevirtual 102, 3) := by decide +kernel
theorem dR_valueOfFit_20 : decode mR_valueOfFit.2.1 20 = .ok (.invokevirtual 105, 3) := by decide +kernel
theorem dR_valueOfFit_23 : decode mR_valueOfFit.2.1 23 = .ok (.ishr, 1) := by decide +kernel
theorem dR_valueOfFit_24 : decode mR_valueOfFit.2.1 24 = .ok (.iconst 1, 1) := by decide +kernel
theorem dR_valueOfFit_25 : decode mR_valueOfFit.2.1 25 = .ok (.iand, 1) := by decide +kernel
theorem dR_valueOfFit_26 : decode mR_valueOfFit.2.1 26 = .ok (.ifCond .eq 7, 3) := by decide +kernel
theorem dR_valueOfFit_29 : decode mR_valueOfFit.2.1 29 = .ok (.iconst 1, 1) := by decide +kernel
theorem dR_valueOfFit_30 : decode mR_valueOfFit.2.1 30 = .ok (.goto 4, 3) := by decide +kernel
theorem dR_valueOfFit_33 : decode mR_valueOfFit.2.1 33 = .ok (.iconst 0, 1) := by decide +kernel
theorem dR_valueOfFit_34 : decode mR_valueOfFit.2.1 34 = .ok (.istore 4, 2) := by decide +kernel
theorem dR_valueOfFit_36 : decode mR_valueOfFit.2.1 36 = .ok (.iload 4, 2) := by decide +kernel
theorem dR_valueOfFit_38 : decode mR_valueOfFit.2.1 38 = .ok (.ifCond .eq 15, 3) := by decide +kernel
theorem dR_valueOfFit_41 : decode mR_valueOfFit.2.1 41 = .ok (.bipush 16, 2) := by decide +kernel
theorem dR_valueOfFit_43 : decode mR_valueOfFit.2.1 43 = .ok (.iconst 1, 1) := by decide +kernel
theorem dR_valueOfFit_44 : decode mR_valueOfFit.2.1 44 = .ok (.aload_n 3, 1) := by decide +kernel
theorem dR_valueOfFit_45 : decode mR_valueOfFit.2.1 45 = .ok (.getfield 108, 3) := by decide +kernel
theorem dR_valueOfFit_48 : decode mR_valueOfFit.2.1 48 = .ok (.ishl, 1) := by decide +kernel
theorem dR_valueOfFit_49 : decode mR_valueOfFit.2.1 49 = .ok (.ior, 1) := by decide +kernel
theorem dR_valueOfFit_50 : decode mR_valueOfFit.2.1 50 = .ok (.goto 4, 3) := by decide +kernel
theorem dR_valueOfFit_53 : decode mR_valueOfFit.2.1 53 = .ok (.iconst 0, 1) := by decide +kernel
theorem dR_valueOfFit_54 : decode mR_valueOfFit.2.1 54 = .ok (.ireturn, 1) := by decide +kernel
theorem dR_valueByOneMore_0 : decode mR_valueByOneMore.2.1 0 = .ok (.aload_n 1, 1) := by decide +kernel
theorem dR_valueByOneMore_1 : decode mR_valueByOneMore.2.1 1 = .ok (.getfield 92, 3) := by decide +kernel
theorem dR_valueByOneMore_4 : decode mR_valueByOneMore.2.1 4 = .ok (.astore_n 3, 1) := by decide +kernel
theorem dR_valueByOneMore_5 : decode mR_valueByOneMore.2.1 5 = .ok (.aload_n 3, 1) := by decide +kernel
theorem dR_valueByOneMore_6 : decode mR_valueByOneMore.2.1 6 = .ok (.aload_n 1, 1) := by decide +kernel
theorem dR_valueByOneMore_7 : decode mR_valueByOneMore.2.1 7 = .ok (.iload_n 2, 1) := by decide +kernel
theorem dR_valueByOneMore_8 : decode mR_valueByOneMore.2.1 8 = .ok (.invokevirtual 65, 3) := by decide +kernel
theorem dR_valueByOneMore_11 : decode mR_valueByOneMore.2.1 11 = .ok (.invokevirtual 96, 3) := by decide +kernel
theorem dR_valueByOneMore_14 : decode mR_valueByOneMore.2.1 14 = .ok (.iconst 0, 1) := by decide +kernel
theorem dR_valueByOneMore_15 : decode mR_valueByOneMore.2.1 15 = .ok (.istore 4, 2) := by decide +kernel
theorem dR_valueByOneMore_17 : decode mR_valueByOneMore.2.1 17 = .ok (.iconst 0, 1) := by decide +kernel
theorem dR_valueByOneMore_18 : decode mR_valueByOneMore.2.1 18 = .ok (.istore 5, 2) := by decide +kernel
theorem dR_valueByOneMore_20 : decode mR_valueByOneMore.2.1 20 = .ok (.iconst 0, 1) := by decide +kernel
theorem dR_valueByOneMore_21 : decode mR_valueByOneMore.2.1 21 = .ok (.istore 6, 2) := by decide +kernel
theorem dR_valueByOneMore_23 : decode mR_valueByOneMore.2.1 23 = .ok (.iload 6, 2) := by decide +kernel
theorem dR_valueByOneMore_25 : decode mR_valueByOneMore.2.1 25 = .ok (.aload_n 3, 1) := by decide +kernel
theorem dR_valueByOneMore_26 : decode mR_valueByOneMore.2.1 26 = .ok (.getfield 111, 3) := by decide +kernel
theorem dR_valueByOneMore_29 : decode mR_valueByOneMore.2.1 29 = .ok (.if_icmp .ge 54, 3) := by decide +kernel
theorem dR_valueByOneMore_32 : decode mR_valueByOneMore.2.1 32 = .ok (.aload_n 3, 1) := by decide +kernel
theorem dR_valueByOneMore_33 : decode mR_valueByOneMore.2.1 33 = .ok (.iload 6, 2) := by decide +kernel
theorem dR_valueByOneMore_35 : decode mR_valueByOneMore.2.1 35 = .ok (.aload_n 3, 1) := by decide +kernel
theorem dR_valueByOneMore_36 : decode mR_valueByOneMore.2.1 36 = .ok (.invokevirtual 114, 3) := by decide +kernel
theorem dR_valueByOneMore_39 : decode mR_valueByOneMore.2.1 39 = .ok (.invokevirtual 117, 3) := by decide +kernel
theorem dR_valueByOneMore_42 : decode mR_valueByOneMore.2.1 42 = .ok (.ifCond .eq 35, 3) := by decide +kernel
theorem dR_valueByOneMore_45 : decode mR_valueByOneMore.2.1 45 = .ok (.aload_n 0, 1) := by decide +kernel
theorem dR_valueByOneMore_46 : decode mR_valueByOneMore.2.1 46 = .ok (.aload_n 3, 1) := by decide +kernel
theorem dR_valueByOneMore_47 : decode mR_valueByOneMore.2.1 47 = .ok (.iload 6, 2) := by decide +kernel
theorem dR_valueByOneMore_49 : decode mR_valueByOneMore.2.1 49 = .ok (.invokevirtual 121, 3) := by decide +kernel
theorem dR_valueByOneMore_52 : decode mR_valueByOneMore.2.1 52 = .ok (.aload_n 1, 1) := by decide +kernel
theorem dR_valueByOneMore_53 : decode mR_valueByOneMore.2.1 53 = .ok (.invokevirtual 69, 3) := by decide +kernel
theorem dR_valueByOneMore_56 : decode mR_valueByOneMore.2.1 56 = .ok (.istore 7, 2) := by decide +kernel
theorem dR_valueByOneMore_58 : decode mR_valueByOneMore.2.1 58 = .ok (.iload 4, 2) := by decide +kernel
theorem dR_valueByOneMore_60 : decode mR_valueByOneMore.2.1 60 = .ok (.iload 7, 2) := by decide +kernel
theorem dR_valueByOneMore_62 : decode mR_valueByOneMore.2.1 62 = .ok (.iconst 4, 1) := by decide +kernel
theorem dR_valueByOneMore_63 : decode mR_valueByOneMore.2.1 63 = .ok (.ishr, 1) := by decide +kernel
theorem dR_valueByOneMore_64 : decode mR_valueByOneMore.2.1 64 = .ok (.iadd, 1) := by decide +kernel
theorem dR_valueByOneMore_65 : decode mR_valueByOneMore.2.1 65 = .ok (.istore 4, 2) := by decide +kernel
theorem dR_valueByOneMore_67 : decode mR_valueByOneMore.2.1 67 = .ok (.iload 5, 2) := by decide +kernel
theorem dR_valueByOneMore_69 : decode mR_valueByOneMore.2.1 69 = .ok (.iload 7, 2) := by decide +kernel
theorem dR_valueByOneMore_71 : decode mR_valueByOneMore.2.1 71 = .ok (.bipush 15, 2) := by decide +kernel
theorem dR_valueByOneMore_73 : decode mR_valueByOneMore.2.1 73 = .ok (.iand, 1) := by decide +kernel
theorem dR_valueByOneMore_74 : decode mR_valueByOneMore.2.1 74 = .ok (.ior, 1) := by decide +kernel
theorem dR_valueByOneMore_75 : decode mR_valueByOneMore.2.1 75 = .ok (.istore 5, 2) := by decide +kernel
theorem dR_valueByOneMore_77 : decode mR_valueByOneMore.2.1 77 = .ok (.iinc 6 1, 3) := by decide +kernel
theorem dR_valueByOneMore_80 : decode mR_valueByOneMore.2.1 80 = .ok (.goto (-57), 3) := by decide +kernel
theorem dR_valueByOneMore_83 : decode mR_valueByOneMore.2.1 83 = .ok (.iload 4, 2) := by decide +kernel
theorem dR_valueByOneMore_85 : decode mR_valueByOneMore.2.1 85 = .ok (.iconst 4, 1) := by decide +kernel
theorem dR_valueByOneMore_86 : decode mR_valueByOneMore.2.1 86 = .ok (.ishl, 1) := by decide +kernel
theorem dR_valueByOneMore_87 : decode mR_valueByOneMore.2.1 87 = .ok (.iload 5, 2) := by decide +kernel
theorem dR_valueByOneMore_89 : decode mR_valueByOneMore.2.1 89 = .ok (.ior, 1) := by decide +kernel
theorem dR_valueByOneMore_90 : decode mR_valueByOneMore.2.1 90 = .ok (.ireturn, 1) := by decide +kernel
theorem dR_noteFirsts_0 : decode mR_noteFirsts.2.1 0 = .ok (.aload_n 1, 1) := by decide +kernel
theorem dR_noteFirsts_1 : decode mR_noteFirsts.2.1 1 = .ok (.getfield 92, 3) := by decide +kernel
theorem dR_noteFirsts_4 : decode mR_noteFirsts.2.1 4 = .ok (.astore_n 3, 1) := by decide +kernel
theorem dR_noteFirsts_5 : decode mR_noteFirsts.2.1 5 = .ok (.aload_n 3, 1) := by decide +kernel
theorem dR_noteFirsts_6 : decode mR_noteFirsts.2.1 6 = .ok (.aload_n 1, 1) := by decide +kernel
theorem dR_noteFirsts_7 : decode mR_noteFirsts.2.1 7 = .ok (.iconst 0, 1) := by decide +kernel
theorem dR_noteFirsts_8 : decode mR_noteFirsts.2.1 8 = .ok (.invokevirtual 65, 3) := by decide +kernel
theorem dR_noteFirsts_11 : decode mR_noteFirsts.2.1 11 = .ok (.invokevirtual 96, 3) := by decide +kernel
theorem dR_noteFirsts_14 : decode mR_noteFirsts.2.1 14 = .ok (.iconst 0, 1) := by decide +kernel
theorem dR_noteFirsts_15 : decode mR_noteFirsts.2.1 15 = .ok (.istore 4, 2) := by decide +kernel
theorem dR_noteFirsts_17 : decode mR_noteFirsts.2.1 17 = .ok (.iload 4, 2) := by decide +kernel
theorem dR_noteFirsts_19 : decode mR_noteFirsts.2.1 19 = .ok (.aload_n 3, 1) := by decide +kernel
theorem dR_noteFirsts_20 : decode mR_noteFirsts.2.1 20 = .ok (.getfield 111, 3) := by decide +kernel
theorem dR_noteFirsts_23 : decode mR_noteFirsts.2.1 23 = .ok (.if_icmp .ge 59, 3) := by decide +kernel
theorem dR_noteFirsts_26 : decode mR_noteFirsts.2.1 26 = .ok (.iload 4, 2) := by decide +kernel
theorem dR_noteFirsts_28 : decode mR_noteFirsts.2.1 28 = .ok (.bipush 7, 2) := by decide +kernel
theorem dR_noteFirsts_30 : decode mR_noteFirsts.2.1 30 = .ok (.imul, 1) := by decide +kernel
theorem dR_noteFirsts_31 : decode mR_noteFirsts.2.1 31 = .ok (.iload_n 2, 1) := by decide +kernel
theorem dR_noteFirsts_32 : decode mR_noteFirsts.2.1 32 = .ok (.iadd, 1) := by decide +kernel
theorem dR_noteFirsts_33 : decode mR_noteFirsts.2.1 33 = .ok (.istore 5, 2) := by decide +kernel
theorem dR_noteFirsts_35 : decode mR_noteFirsts.2.1 35 = .ok (.aload_n 3, 1) := by decide +kernel
theorem dR_noteFirsts_36 : decode mR_noteFirsts.2.1 36 = .ok (.iload 4, 2) := by decide +kernel
theorem dR_noteFirsts_38 : decode mR_noteFirsts.2.1 38 = .ok (.aload_n 3, 1) := by decide +kernel
theorem dR_noteFirsts_39 : decode mR_noteFirsts.2.1 39 = .ok (.invokevirtual 114, 3) := by decide +kernel
theorem dR_noteFirsts_42 : decode mR_noteFirsts.2.1 42 = .ok (.invokevirtual 117, 3) := by decide +kernel
theorem dR_noteFirsts_45 : decode mR_noteFirsts.2.1 45 = .ok (.ifCond .eq 31, 3) := by decide +kernel
theorem dR_noteFirsts_48 : decode mR_noteFirsts.2.1 48 = .ok (.iload 5, 2) := by decide +kernel
theorem dR_noteFirsts_50 : decode mR_noteFirsts.2.1 50 = .ok (.aload_n 0, 1) := by decide +kernel
theorem dR_noteFirsts_51 : decode mR_noteFirsts.2.1 51 = .ok (.getfield 15, 3) := by decide +kernel
theorem dR_noteFirsts_54 : decode mR_noteFirsts.2.1 54 = .ok (.arraylength, 1) := by decide +kernel
theorem dR_noteFirsts_55 : decode mR_noteFirsts.2.1 55 = .ok (.if_icmp .ge 21, 3) := by decide +kernel
theorem dR_noteFirsts_58 : decode mR_noteFirsts.2.1 58 = .ok (.aload_n 0, 1) := by decide +kernel
theorem dR_noteFirsts_59 : decode mR_noteFirsts.2.1 59 = .ok (.getfield 15, 3) := by decide +kernel
theorem dR_noteFirsts_62 : decode mR_noteFirsts.2.1 62 = .ok (.iload 5, 2) := by decide +kernel
theorem dR_noteFirsts_64 : decode mR_noteFirsts.2.1 64 = .ok (.aload_n 0, 1) := by decide +kernel
theorem dR_noteFirsts_65 : decode mR_noteFirsts.2.1 65 = .ok (.aload_n 3, 1) := by decide +kernel
theorem dR_noteFirsts_66 : decode mR_noteFirsts.2.1 66 = .ok (.iload 4, 2) := by decide +kernel
theorem dR_noteFirsts_68 : decode mR_noteFirsts.2.1 68 = .ok (.invokevirtual 121, 3) := by decide +kernel
theorem dR_noteFirsts_71 : decode mR_noteFirsts.2.1 71 = .ok (.aload_n 1, 1) := by decide +kernel
theorem dR_noteFirsts_72 : decode mR_noteFirsts.2.1 72 = .ok (.invokevirtual 69, 3) := by decide +kernel
theorem dR_noteFirsts_75 : decode mR_noteFirsts.2.1 75 = .ok (.iastore, 1) := by decide +kernel
theorem dR_noteFirsts_76 : decode mR_noteFirsts.2.1 76 = .ok (.iinc 4 1, 3) := by decide +kernel
theorem dR_noteFirsts_79 : decode mR_noteFirsts.2.1 79 = .ok (.goto (-62), 3) := by decide +kernel
theorem dR_noteFirsts_82 : decode mR_noteFirsts.2.1 82 = .ok (.return_, 1) := by decide +kernel
theorem dR_howMany_0 : decode mR_howMany.2.1 0 = .ok (.iload_n 1, 1) := by decide +kernel
theorem dR_howMany_1 : decode mR_howMany.2.1 1 = .ok (.ifCond .lt 20, 3) := by decide +kernel
theorem dR_howMany_4 : decode mR_howMany.2.1 4 = .ok (.iload_n 1, 1) := by decide +kernel
theorem dR_howMany_5 : decode mR_howMany.2.1 5 = .ok (.bipush 7, 2) := by decide +kernel
theorem dR_howMany_7 : decode mR_howMany.2.1 7 = .ok (.if_icmp .ge 14, 3) := by decide +kernel
theorem dR_howMany_10 : decode mR_howMany.2.1 10 = .ok (.aload_n 0, 1) := by decide +kernel
theorem dR_howMany_11 : decode mR_howMany.2.1 11 = .ok (.getfield 11, 3) := by decide +kernel
theorem dR_howMany_14 : decode mR_howMany.2.1 14 = .ok (.iload_n 1, 1) := by decide +kernel
theorem dR_howMany_15 : decode mR_howMany.2.1 15 = .ok (.iaload, 1) := by decide +kernel
theorem dR_howMany_16 : decode mR_howMany.2.1 16 = .ok (.iconst 4, 1) := by decide +kernel
theorem dR_howMany_17 : decode mR_howMany.2.1 17 = .ok (.ishr, 1) := by decide +kernel
theorem dR_howMany_18 : decode mR_howMany.2.1 18 = .ok (.goto 4, 3) := by decide +kernel
theorem dR_howMany_21 : decode mR_howMany.2.1 21 = .ok (.iconst 0, 1) := by decide +kernel
theorem dR_howMany_22 : decode mR_howMany.2.1 22 = .ok (.ireturn, 1) := by decide +kernel
theorem dR_lastDoors_0 : decode mR_lastDoors.2.1 0 = .ok (.iload_n 1, 1) := by decide +kernel
theorem dR_lastDoors_1 : decode mR_lastDoors.2.1 1 = .ok (.ifCond .lt 21, 3) := by decide +kernel
theorem dR_lastDoors_4 : decode mR_lastDoors.2.1 4 = .ok (.iload_n 1, 1) := by decide +kernel
theorem dR_lastDoors_5 : decode mR_lastDoors.2.1 5 = .ok (.bipush 7, 2) := by decide +kernel
theorem dR_lastDoors_7 : decode mR_lastDoors.2.1 7 = .ok (.if_icmp .ge 15, 3) := by decide +kernel
theorem dR_lastDoors_10 : decode mR_lastDoors.2.1 10 = .ok (.aload_n 0, 1) := by decide +kernel
theorem dR_lastDoors_11 : decode mR_lastDoors.2.1 11 = .ok (.getfield 11, 3) := by decide +kernel
theorem dR_lastDoors_14 : decode mR_lastDoors.2.1 14 = .ok (.iload_n 1, 1) := by decide +kernel
theorem dR_lastDoors_15 : decode mR_lastDoors.2.1 15 = .ok (.iaload, 1) := by decide +kernel
theorem dR_lastDoors_16 : decode mR_lastDoors.2.1 16 = .ok (.bipush 15, 2) := by decide +kernel
theorem dR_lastDoors_18 : decode mR_lastDoors.2.1 18 = .ok (.iand, 1) := by decide +kernel
theorem dR_lastDoors_19 : decode mR_lastDoors.2.1 19 = .ok (.goto 4, 3) := by decide +kernel
theorem dR_lastDoors_22 : decode mR_lastDoors.2.1 22 = .ok (.iconst 0, 1) := by decide +kernel
theorem dR_lastDoors_23 : decode mR_lastDoors.2.1 23 = .ok (.ireturn, 1) := by decide +kernel
theorem dR_beginningWith_0 : decode mR_beginningWith.2.1 0 = .ok (.iload_n 1, 1) := by decide +kernel
theorem dR_beginningWith_1 : decode mR_beginningWith.2.1 1 = .ok (.bipush 7, 2) := by decide +kernel
theorem dR_beginningWith_3 : decode mR_beginningWith.2.1 3 = .ok (.imul, 1) := by decide +kernel
theorem dR_beginningWith_4 : decode mR_beginningWith.2.1 4 = .ok (.iload_n 2, 1) := by decide +kernel
theorem dR_beginningWith_5 : decode mR_beginningWith.2.1 5 = .ok (.iadd, 1) := by decide +kernel
theorem dR_beginningWith_6 : decode mR_beginningWith.2.1 6 = .ok (.istore_n 3, 1) := by decide +kernel
theorem dR_beginningWith_7 : decode mR_beginningWith.2.1 7 = .ok (.iload_n 3, 1) := by decide +kernel
theorem dR_beginningWith_8 : decode mR_beginningWith.2.1 8 = .ok (.ifCond .lt 23, 3) := by decide +kernel
theorem dR_beginningWith_11 : decode mR_beginningWith.2.1 11 = .ok (.iload_n 3, 1) := by decide +kernel
theorem dR_beginningWith_12 : decode mR_beginningWith.2.1 12 = .ok (.aload_n 0, 1) := by decide +kernel
theorem dR_beginningWith_13 : decode mR_beginningWith.2.1 13 = .ok (.getfield 15, 3) := by decide +kernel
theorem dR_beginningWith_16 : decode mR_beginningWith.2.1 16 = .ok (.arraylength, 1) := by decide +kernel
theorem dR_beginningWith_17 : decode mR_beginningWith.2.1 17 = .ok (.if_icmp .ge 14, 3) := by decide +kernel
theorem dR_beginningWith_20 : decode mR_beginningWith.2.1 20 = .ok (.aload_n 0, 1) := by decide +kernel
theorem dR_beginningWith_21 : decode mR_beginningWith.2.1 21 = .ok (.getfield 15, 3) := by decide +kernel
theorem dR_beginningWith_24 : decode mR_beginningWith.2.1 24 = .ok (.iload_n 3, 1) := by decide +kernel
theorem dR_beginningWith_25 : decode mR_beginningWith.2.1 25 = .ok (.iaload, 1) := by decide +kernel
theorem dR_beginningWith_26 : decode mR_beginningWith.2.1 26 = .ok (.iconst 4, 1) := by decide +kernel
theorem dR_beginningWith_27 : decode mR_beginningWith.2.1 27 = .ok (.ishr, 1) := by decide +kernel
theorem dR_beginningWith_28 : decode mR_beginningWith.2.1 28 = .ok (.goto 4, 3) := by decide +kernel
theorem dR_beginningWith_31 : decode mR_beginningWith.2.1 31 = .ok (.iconst 0, 1) := by decide +kernel
theorem dR_beginningWith_32 : decode mR_beginningWith.2.1 32 = .ok (.ireturn, 1) := by decide +kernel
theorem dR_makeRoom_0 : decode mR_makeRoom.2.1 0 = .ok (.aload_n 0, 1) := by decide +kernel
theorem dR_makeRoom_1 : decode mR_makeRoom.2.1 1 = .ok (.getfield 21, 3) := by decide +kernel
theorem dR_makeRoom_4 : decode mR_makeRoom.2.1 4 = .ok (.arraylength, 1) := by decide +kernel
theorem dR_makeRoom_5 : decode mR_makeRoom.2.1 5 = .ok (.aload_n 1, 1) := by decide +kernel
theorem dR_makeRoom_6 : decode mR_makeRoom.2.1 6 = .ok (.invokevirtual 84, 3) := by decide +kernel
theorem dR_makeRoom_9 : decode mR_makeRoom.2.1 9 = .ok (.if_icmp .ge 13, 3) := by decide +kernel
theorem dR_makeRoom_12 : decode mR_makeRoom.2.1 12 = .ok (.aload_n 0, 1) := by decide +kernel
theorem dR_makeRoom_13 : decode mR_makeRoom.2.1 13 = .ok (.aload_n 1, 1) := by decide +kernel
theorem dR_makeRoom_14 : decode mR_makeRoom.2.1 14 = .ok (.invokevirtual 84, 3) := by decide +kernel
theorem dR_makeRoom_17 : decode mR_makeRoom.2.1 17 = .ok (.newarray .int, 2) := by decide +kernel
theorem dR_makeRoom_19 : decode mR_makeRoom.2.1 19 = .ok (.putfield 21, 3) := by decide +kernel
theorem dR_makeRoom_22 : decode mR_makeRoom.2.1 22 = .ok (.aload_n 0, 1) := by decide +kernel
theorem dR_makeRoom_23 : decode mR_makeRoom.2.1 23 = .ok (.getfield 24, 3) := by decide +kernel
theorem dR_makeRoom_26 : decode mR_makeRoom.2.1 26 = .ok (.arraylength, 1) := by decide +kernel
theorem dR_makeRoom_27 : decode mR_makeRoom.2.1 27 = .ok (.aload_n 1, 1) := by decide +kernel
theorem dR_makeRoom_28 : decode mR_makeRoom.2.1 28 = .ok (.getfield 49, 3) := by decide +kernel
theorem dR_makeRoom_31 : decode mR_makeRoom.2.1 31 = .ok (.if_icmp .lt 15, 3) := by decide +kernel
theorem dR_makeRoom_34 : decode mR_makeRoom.2.1 34 = .ok (.aload_n 0, 1) := by decide +kernel
theorem dR_makeRoom_35 : decode mR_makeRoom.2.1 35 = .ok (.getfield 27, 3) := by decide +kernel
theorem dR_makeRoom_38 : decode mR_makeRoom.2.1 38 = .ok (.arraylength, 1) := by decide +kernel
theorem dR_makeRoom_39 : decode mR_makeRoom.2.1 39 = .ok (.aload_n 1, 1) := by decide +kernel
theorem dR_makeRoom_40 : decode mR_makeRoom.2.1 40 = .ok (.getfield 49, 3) := by decide +kernel
theorem dR_makeRoom_43 : decode mR_makeRoom.2.1 43 = .ok (.if_icmp .ge 23, 3) := by decide +kernel
theorem dR_makeRoom_46 : decode mR_makeRoom.2.1 46 = .ok (.aload_n 0, 1) := by decide +kernel
theorem dR_makeRoom_47 : decode mR_makeRoom.2.1 47 = .ok (.aload_n 1, 1) := by decide +kernel
theorem dR_makeRoom_48 : decode mR_makeRoom.2.1 48 = .ok (.getfield 49, 3) := by decide +kernel
theorem dR_makeRoom_51 : decode mR_makeRoom.2.1 51 = .ok (.newarray .int, 2) := by decide +kernel
theorem dR_makeRoom_53 : decode mR_makeRoom.2.1 53 = .ok (.putfield 24, 3) := by decide +kernel
theorem dR_makeRoom_56 : decode mR_makeRoom.2.1 56 = .ok (.aload_n 0, 1) := by decide +kernel
theorem dR_makeRoom_57 : decode mR_makeRoom.2.1 57 = .ok (.aload_n 1, 1) := by decide +kernel
theorem dR_makeRoom_58 : decode mR_makeRoom.2.1 58 = .ok (.getfield 49, 3) := by decide +kernel
theorem dR_makeRoom_61 : decode mR_makeRoom.2.1 61 = .ok (.newarray .int, 2) := by decide +kernel
theorem dR_makeRoom_63 : decode mR_makeRoom.2.1 63 = .ok (.putfield 27, 3) := by decide +kernel
theorem dR_makeRoom_66 : decode mR_makeRoom.2.1 66 = .ok (.return_, 1) := by decide +kernel
theorem dR_fill_0 : decode mR_fill.2.1 0 = .ok (.aload_n 0, 1) := by decide +kernel
theorem dR_fill_1 : decode mR_fill.2.1 1 = .ok (.getfield 15, 3) := by decide +kernel
theorem dR_fill_4 : decode mR_fill.2.1 4 = .ok (.iconst 0, 1) := by decide +kernel
theorem dR_fill_5 : decode mR_fill.2.1 5 = .ok (.invokestatic 30, 3) := by decide +kernel
theorem dR_fill_8 : decode mR_fill.2.1 8 = .ok (.aload_n 1, 1) := by decide +kernel
theorem dR_fill_9 : decode mR_fill.2.1 9 = .ok (.aload_n 0, 1) := by decide +kernel
theorem dR_fill_10 : decode mR_fill.2.1 10 = .ok (.getfield 18, 3) := by decide +kernel
theorem dR_fill_13 : decode mR_fill.2.1 13 = .ok (.invokevirtual 36, 3) := by decide +kernel
theorem dR_fill_16 : decode mR_fill.2.1 16 = .ok (.aload_n 0, 1) := by decide +kernel
theorem dR_fill_17 : decode mR_fill.2.1 17 = .ok (.aload_n 1, 1) := by decide +kernel
theorem dR_fill_18 : decode mR_fill.2.1 18 = .ok (.invokevirtual 42, 3) := by decide +kernel
theorem dR_fill_21 : decode mR_fill.2.1 21 = .ok (.aload_n 1, 1) := by decide +kernel
theorem dR_fill_22 : decode mR_fill.2.1 22 = .ok (.aload_n 0, 1) := by decide +kernel
theorem dR_fill_23 : decode mR_fill.2.1 23 = .ok (.getfield 21, 3) := by decide +kernel
theorem dR_fill_26 : decode mR_fill.2.1 26 = .ok (.invokevirtual 46, 3) := by decide +kernel
theorem dR_fill_29 : decode mR_fill.2.1 29 = .ok (.iconst 0, 1) := by decide +kernel
theorem dR_fill_30 : decode mR_fill.2.1 30 = .ok (.istore_n 3, 1) := by decide +kernel
theorem dR_fill_31 : decode mR_fill.2.1 31 = .ok (.iload_n 3, 1) := by decide +kernel
theorem dR_fill_32 : decode mR_fill.2.1 32 = .ok (.aload_n 1, 1) := by decide +kernel
theorem dR_fill_33 : decode mR_fill.2.1 33 = .ok (.getfield 49, 3) := by decide +kernel
theorem dR_fill_36 : decode mR_fill.2.1 36 = .ok (.if_icmp .ge 28, 3) := by decide +kernel
theorem dR_fill_39 : decode mR_fill.2.1 39 = .ok (.aload_n 0, 1) := by decide +kernel
theorem dR_fill_40 : decode mR_fill.2.1 40 = .ok (.getfield 24, 3) := by decide +kernel
theorem dR_fill_43 : decode mR_fill.2.1 43 = .ok (.aload_n 0, 1) := by decide +kernel
theorem dR_fill_44 : decode mR_fill.2.1 44 = .ok (.aload_n 1, 1) := by decide +kernel
theorem dR_fill_45 : decode mR_fill.2.1 45 = .ok (.iload_n 3, 1) := by decide +kernel
theorem dR_fill_46 : decode mR_fill.2.1 46 = .ok (.invokevirtual 53, 3) := by decide +kernel
theorem dR_fill_49 : decode mR_fill.2.1 49 = .ok (.aload_n 1, 1) := by decide +kernel
theorem dR_fill_50 : decode mR_fill.2.1 50 = .ok (.iload_n 3, 1) := by decide +kernel
theorem dR_fill_51 : decode mR_fill.2.1 51 = .ok (.iload_n 2, 1) := by decide +kernel
theorem dR_fill_52 : decode mR_fill.2.1 52 = .ok (.invokestatic 57, 3) := by decide +kernel
theorem dR_fill_55 : decode mR_fill.2.1 55 = .ok (.invokestatic 61, 3) := by decide +kernel
theorem dR_fill_58 : decode mR_fill.2.1 58 = .ok (.iinc 3 1, 3) := by decide +kernel
theorem dR_fill_61 : decode mR_fill.2.1 61 = .ok (.goto (-30), 3) := by decide +kernel
theorem dR_fill_64 : decode mR_fill.2.1 64 = .ok (.aload_n 0, 1) := by decide +kernel
theorem dR_fill_65 : decode mR_fill.2.1 65 = .ok (.getfield 11, 3) := by decide +kernel
theorem dR_fill_68 : decode mR_fill.2.1 68 = .ok (.iconst 0, 1) := by decide +kernel
theorem dR_fill_69 : decode mR_fill.2.1 69 = .ok (.aload_n 0, 1) := by decide +kernel
theorem dR_fill_70 : decode mR_fill.2.1 70 = .ok (.aload_n 1, 1) := by decide +kernel
theorem dR_fill_71 : decode mR_fill.2.1 71 = .ok (.iconst 0, 1) := by decide +kernel
theorem dR_fill_72 : decode mR_fill.2.1 72 = .ok (.invokevirtual 65, 3) := by decide +kernel
theorem dR_fill_75 : decode mR_fill.2.1 75 = .ok (.aload_n 1, 1) := by decide +kernel
theorem dR_fill_76 : decode mR_fill.2.1 76 = .ok (.invokevirtual 69, 3) := by decide +kernel
theorem dR_fill_79 : decode mR_fill.2.1 79 = .ok (.iastore, 1) := by decide +kernel
theorem dR_fill_80 : decode mR_fill.2.1 80 = .ok (.iconst 1, 1) := by decide +kernel
theorem dR_fill_81 : decode mR_fill.2.1 81 = .ok (.istore_n 3, 1) := by decide +kernel
theorem dR_fill_82 : decode mR_fill.2.1 82 = .ok (.iload_n 3, 1) := by decide +kernel
theorem dR_fill_83 : decode mR_fill.2.1 83 = .ok (.bipush 6, 2) := by decide +kernel
theorem dR_fill_85 : decode mR_fill.2.1 85 = .ok (.if_icmp .gt 95, 3) := by decide +kernel
theorem dR_fill_88 : decode mR_fill.2.1 88 = .ok (.aload_n 0, 1) := by decide +kernel
theorem dR_fill_89 : decode mR_fill.2.1 89 = .ok (.aload_n 1, 1) := by decide +kernel
theorem dR_fill_90 : decode mR_fill.2.1 90 = .ok (.iload_n 3, 1) := by decide +kernel
theorem dR_fill_91 : decode mR_fill.2.1 91 = .ok (.invokevirtual 73, 3) := by decide +kernel
theorem dR_fill_94 : decode mR_fill.2.1 94 = .ok (.iconst 0, 1) := by decide +kernel
theorem dR_fill_95 : decode mR_fill.2.1 95 = .ok (.istore 4, 2) := by decide +kernel
theorem dR_fill_97 : decode mR_fill.2.1 97 = .ok (.iload 4, 2) := by decide +kernel
theorem dR_fill_99 : decode mR_fill.2.1 99 = .ok (.aload_n 0, 1) := by decide +kernel
theorem dR_fill_100 : decode mR_fill.2.1 100 = .ok (.getfield 18, 3) := by decide +kernel
theorem dR_fill_103 : decode mR_fill.2.1 103 = .ok (.bipush 6, 2) := by decide +kernel
theorem dR_fill_105 : decode mR_fill.2.1 105 = .ok (.iload_n 3, 1) := by decide +kernel
theorem dR_fill_106 : decode mR_fill.2.1 106 = .ok (.isub, 1) := by decide +kernel
theorem dR_fill_107 : decode mR_fill.2.1 107 = .ok (.iaload, 1) := by decide +kernel
theorem dR_fill_108 : decode mR_fill.2.1 108 = .ok (.if_icmp .ge 30, 3) := by decide +kernel
theorem dR_fill_111 : decode mR_fill.2.1 111 = .ok (.aload_n 0, 1) := by decide +kernel
theorem dR_fill_112 : decode mR_fill.2.1 112 = .ok (.getfield 27, 3) := by decide +kernel
theorem dR_fill_115 : decode mR_fill.2.1 115 = .ok (.aload_n 0, 1) := by decide +kernel
theorem dR_fill_116 : decode mR_fill.2.1 116 = .ok (.aload_n 1, 1) := by decide +kernel
theorem dR_fill_117 : decode mR_fill.2.1 117 = .ok (.iload 4, 2) := by decide +kernel
theorem dR_fill_119 : decode mR_fill.2.1 119 = .ok (.invokevirtual 53, 3) := by decide +kernel
theorem dR_fill_122 : decode mR_fill.2.1 122 = .ok (.aload_n 0, 1) := by decide +kernel
theorem dR_fill_123 : decode mR_fill.2.1 123 = .ok (.aload_n 1, 1) := by decide +kernel
theorem dR_fill_124 : decode mR_fill.2.1 124 = .ok (.iload 4, 2) := by decide +kernel
theorem dR_fill_126 : decode mR_fill.2.1 126 = .ok (.invokevirtual 77, 3) := by decide +kernel
theorem dR_fill_129 : decode mR_fill.2.1 129 = .ok (.invokestatic 61, 3) := by decide +kernel
theorem dR_fill_132 : decode mR_fill.2.1 132 = .ok (.iinc 4 1, 3) := by decide +kernel
theorem dR_fill_135 : decode mR_fill.2.1 135 = .ok (.goto (-38), 3) := by decide +kernel
theorem dR_fill_138 : decode mR_fill.2.1 138 = .ok (.aload_n 0, 1) := by decide +kernel
theorem dR_fill_139 : decode mR_fill.2.1 139 = .ok (.getfield 24, 3) := by decide +kernel
theorem dR_fill_142 : decode mR_fill.2.1 142 = .ok (.astore 4, 2) := by decide +kernel
theorem dR_fill_144 : decode mR_fill.2.1 144 = .ok (.aload_n 0, 1) := by decide +kernel
theorem dR_fill_145 : decode mR_fill.2.1 145 = .ok (.aload_n 0, 1) := by decide +kernel
theorem dR_fill_146 : decode mR_fill.2.1 146 = .ok (.getfield 27, 3) := by decide +kernel
theorem dR_fill_149 : decode mR_fill.2.1 149 = .ok (.putfield 24, 3) := by decide +kernel
theorem dR_fill_152 : decode mR_fill.2.1 152 = .ok (.aload_n 0, 1) := by decide +kernel
theorem dR_fill_153 : decode mR_fill.2.1 153 = .ok (.aload 4, 2) := by decide +kernel
theorem dR_fill_155 : decode mR_fill.2.1 155 = .ok (.putfield 27, 3) := by decide +kernel
theorem dR_fill_158 : decode mR_fill.2.1 158 = .ok (.aload_n 0, 1) := by decide +kernel
theorem dR_fill_159 : decode mR_fill.2.1 159 = .ok (.getfield 11, 3) := by decide +kernel
theorem dR_fill_162 : decode mR_fill.2.1 162 = .ok (.iload_n 3, 1) := by decide +kernel
theorem dR_fill_163 : decode mR_fill.2.1 163 = .ok (.aload_n 0, 1) := by decide +kernel
theorem dR_fill_164 : decode mR_fill.2.1 164 = .ok (.aload_n 1, 1) := by decide +kernel
theorem dR_fill_165 : decode mR_fill.2.1 165 = .ok (.iconst 0, 1) := by decide +kernel
theorem dR_fill_166 : decode mR_fill.2.1 166 = .ok (.invokevirtual 65, 3) := by decide +kernel
theorem dR_fill_169 : decode mR_fill.2.1 169 = .ok (.aload_n 1, 1) := by decide +kernel
theorem dR_fill_170 : decode mR_fill.2.1 170 = .ok (.invokevirtual 69, 3) := by decide +kernel
theorem dR_fill_173 : decode mR_fill.2.1 173 = .ok (.iastore, 1) := by decide +kernel
theorem dR_fill_174 : decode mR_fill.2.1 174 = .ok (.iinc 3 1, 3) := by decide +kernel
theorem dR_fill_177 : decode mR_fill.2.1 177 = .ok (.goto (-95), 3) := by decide +kernel
theorem dR_fill_180 : decode mR_fill.2.1 180 = .ok (.aload_n 0, 1) := by decide +kernel
theorem dR_fill_181 : decode mR_fill.2.1 181 = .ok (.iconst 1, 1) := by decide +kernel
theorem dR_fill_182 : decode mR_fill.2.1 182 = .ok (.putfield 80, 3) := by decide +kernel
theorem dR_fill_185 : decode mR_fill.2.1 185 = .ok (.return_, 1) := by decide +kernel
-- rows: counts and last doors, one number
def svC (c : Cfg) (n : Nat) (g : Nat → Nat) : Nat → Nat
  | 0 => 0
  | k + 1 => svC c n g k + if mayN c n (allP c) k then g (aftN c n k) / 16 else 0
def svO (c : Cfg) (n : Nat) (g : Nat → Nat) : Nat → Nat
  | 0 => 0
  | k + 1 => svO c n g k ||| if mayN c n (allP c) k then g (aftN c n k) % 16 else 0
def vlN (c : Cfg) (P : Nat) : Nat → Nat → Nat
  | 0, m => if P.testBit (m % wB c (pN c)) then 16 + 2 ^ lst c m else 0
  | n + 1, m => svC c m (vlN c P n) (stN c) * 16 + svO c m (vlN c P n) (stN c)
theorem svO_lt (c : Cfg) (n : Nat) (g : Nat → Nat) : ∀ k, svO c n g k < 16
  | 0 => by show (0 : Nat) < 16; decide
  | k + 1 => by
    show svO c n g k ||| _ < 2 ^ 4
    refine Nat.or_lt_two_pow (svO_lt c n g k) ?_
    split
    · show _ < 16; omega
    · decide
theorem svC_le {c : Cfg} {n : Nat} {g : Nat → Nat} {B : Nat} : ∀ k, (∀ j, j < k → mayN c n (allP c) j = true → g (aftN c n j) / 16 ≤ B) → svC c n g k ≤ k * B
  | 0, _ => Nat.zero_le _
  | k + 1, h => by
    show svC c n g k + _ ≤ (k + 1) * B
    have h1 := svC_le k (fun j hj => h j (by omega))
    rw [Nat.succ_mul]
    split
    · rename_i hm
      have := h k (by omega) hm
      omega
    · omega
theorem svC_cg {c : Cfg} {n : Nat} {g g' : Nat → Nat} : ∀ k, (∀ j, j < k → mayN c n (allP c) j = true → g (aftN c n j) = g' (aftN c n j)) → svC c n g k = svC c n g' k ∧ svO c n g k = svO c n g' k
  | 0, _ => ⟨rfl, rfl⟩
  | k + 1, h => by
    have h1 := svC_cg k (fun j hj => h j (by omega))
    unfold svC svO
    rw [h1.1, h1.2]
    by_cases hm : mayN c n (allP c) k = true
    · rw [h k (by omega) hm]; exact ⟨rfl, rfl⟩
    · simp [if_neg hm]
theorem aft_lt {c : Cfg} {m th k : Nat} (hm : m < spc c) (hk : k < stN c) (h : mayN c m th k = true) : aftN c m k < spc c := by
  have hd : 0 < dN c := by
    rcases Nat.eq_zero_or_pos (dN c) with e | e
    · unfold stN at hk; rw [e] at hk; omega
    · exact e
  have hr := Nat.mod_lt k hd
  have hq : k / dN c < 2 + pN c := Nat.div_lt_of_lt_mul hk
  unfold mayN at h
  unfold aftN
  by_cases h0 : k / dN c = 0
  · rw [if_pos h0] at h ⊢
    exact aO_lt hm hr (mO_iff.mp h).1
  · rw [if_neg h0] at h ⊢
    by_cases h1 : k / dN c = 1
    · rw [if_pos h1]
      exact aS_lt hr
    · rw [if_neg h1]
      refine aG_lt hm ?_ hr
      clear h
      generalize k / dN c = u at hq h0 h1
      omega
theorem vlN_le {c : Cfg} (hc : okC c) (P : Nat) : ∀ n m, m < spc c → vlN c P n m / 16 ≤ 16 ^ n
  | 0, m, hm => by
    show (if P.testBit (m % wB c (pN c)) then 16 + 2 ^ lst c m else 0) / 16 ≤ 1
    have h1 := lst_lt hm
    have h2 := hc.1
    have hp2 : 2 ^ lst c m ≤ 2 ^ 3 := Nat.pow_le_pow_right (by decide) (by omega)
    generalize 2 ^ lst c m = u at hp2
    split <;> omega
  | n + 1, m, hm => by
    show (svC c m (vlN c P n) (stN c) * 16 + svO c m (vlN c P n) (stN c)) / 16 ≤ _
    have h1 := svO_lt c m (vlN c P n) (stN c)
    have h2 := svC_le (c := c) (n := m) (g := vlN c P n) (B := 16 ^ n) (stN c) (fun j hj hmj => vlN_le hc P n _ (aft_lt hm hj hmj))
    have h3 : stN c * 16 ^ n ≤ 16 * 16 ^ n := Nat.mul_le_mul_right _ (stN_le hc)
    rw [Nat.pow_succ]
    omega
section Rows1
variable {G : GE} {V : Nat → Nat → Int} {σ : Shp} {s qn kn Q : Nat} {K : Option AV → Mem → Prop} {c : Cfg} {L : List (Nat × Nat)} {r rn vn ln A B C : Nat}
/-- the shape of a Rows at r -/
def rS (σ : Shp) (r rn vn ln A B C : Nat) : Prop := sO σ r 4 ∧ (sP σ r 1 = r + 1 ∧ sP σ r 2 = r + 2 ∧ sP σ r 3 = r + 3 ∧ sP σ r 4 = rn ∧ sP σ r 5 = vn ∧ sP σ r 6 = ln) ∧ sA σ (r + 1) 11 7 ∧ sA σ (r + 2) 11 112 ∧ sA σ (r + 3) 11 7 ∧ sA σ rn 11 A ∧ sA σ vn 11 B ∧ sA σ ln 11 C
theorem rS.o (h : rS σ r rn vn ln A B C) : sO σ r 4 := h.1
theorem rS.p1 (h : rS σ r rn vn ln A B C) : sP σ r 1 = r + 1 := h.2.1.1
theorem rS.p2 (h : rS σ r rn vn ln A B C) : sP σ r 2 = r + 2 := h.2.1.2.1
theorem rS.p3 (h : rS σ r rn vn ln A B C) : sP σ r 3 = r + 3 := h.2.1.2.2.1
theorem rS.p4 (h : rS σ r rn vn ln A B C) : sP σ r 4 = rn := h.2.1.2.2.2.1
theorem rS.p5 (h : rS σ r rn vn ln A B C) : sP σ r 5 = vn := h.2.1.2.2.2.2.1
theorem rS.p6 (h : rS σ r rn vn ln A B C) : sP σ r 6 = ln := h.2.1.2.2.2.2.2
theorem rS.a1 (h : rS σ r rn vn ln A B C) : sA σ (r + 1) 11 7 := h.2.2.1
theorem rS.a2 (h : rS σ r rn vn ln A B C) : sA σ (r + 2) 11 112 := h.2.2.2.1
theorem rS.a3 (h : rS σ r rn vn ln A B C) : sA σ (r + 3) 11 7 := h.2.2.2.2.1
theorem rS.a4 (h : rS σ r rn vn ln A B C) : sA σ rn 11 A := h.2.2.2.2.2.1
theorem rS.a5 (h : rS σ r rn vn ln A B C) : sA σ vn 11 B := h.2.2.2.2.2.2.1
theorem rS.a6 (h : rS σ r rn vn ln A B C) : sA σ ln 11 C := h.2.2.2.2.2.2.2
/-- the ranks are told -/
def rkOK (V : Nat → Nat → Int) (rn A Q : Nat) (L : List (Nat × Nat)) : Prop := (Q / 64 + 1 ≤ A ∧ A < 2147483648) ∧ ∀ w, w < Q / 64 + 1 → V rn w = rkL L (64 * w)
theorem wR_rankAt {x : Int} {i : Nat} {q : Nat × Nat} (hx : x = i) (hq : L[i]? = some q) (hs : sS σ s qn kn Q) (hV : SV V s qn kn Q c L) (hr : rS σ r rn vn ln A B C) (hk : rkOK V rn A Q L) (hK : K (some (vI (rkL L q.1))) (V, σ)) : Wp G 2 mR_rankAt [vR r, vR s, vI x] (V, σ) 0 0 K := by
  have hb := hV.2.2.2.2.2.1 q (List.mem_of_getElem? hq)
  have hvs := hV.2.2.2.2.2.2
  refine wp_intro mR_rankAt_i.1 [some (vR r), some (vR s), some (vI x)] rfl rfl (Nat.le_of_ble_eq_true rfl) ?_
  intro X hG F C
  have hm := C.rm
  refine aw_aload_1 (q := 1) F dR_rankAt_0 rfl ?_
  refine aw_aload_1 (q := 2) F dR_rankAt_1 rfl ?_
  refine aw_iload_2 (q := 3) F dR_rankAt_2 rfl ?_
  refine av_callV1 (q := 6) (ci := 5) F hm mS_arrangementAt_i mS_arrangementAt_n lR_65 dR_rankAt_3 rfl rfl rfl (by first | exact hs.o | exact hs.ho | exact hr.o | exact hr.a1 | exact hr.a2 | exact hr.a3 | exact hr.a5 | exact hr.a6 | exact ha) (by decide) (Nat.le_refl _) (Nat.le_refl _) (Nat.le_of_ble_eq_true rfl) (wS_arrangementAt hx hq hs hV ?_)
  refine aw_aload_0 (q := 7) F dR_rankAt_6 rfl ?_
  refine av_getaE (q := 10) F fR_21 dR_rankAt_7 rfl rfl (by first | exact hs.o | exact hs.ho | exact hr.o | exact hr.a1 | exact hr.a2 | exact hr.a3 | exact hr.a5 | exact hr.a6 | exact ha) hr.p4 ?_
  refine av_callV2 (q := 13) (ci := 5) F hm mS_rankOf_i mS_rankOf_n lR_88 dR_rankAt_10 rfl rfl rfl (by first | exact hs.o | exact hs.ho | exact hr.o | exact hr.a1 | exact hr.a2 | exact hr.a3 | exact hr.a5 | exact hr.a6 | exact ha) (by decide) (Nat.le_refl _) (Nat.le_refl _) (Nat.le_of_ble_eq_true rfl) (wS_rankOf (a := q.1) rfl (by omega) hr.a4 hk.1 hs hV hk.2 ?_)
  refine aw_iret F C dR_rankAt_13 rfl (Nat.le_refl _) (Nat.le_refl _) ?_
  exact hK
theorem wR_setValue {a N i : Nat} {x v : Int} (ha : sA σ a 11 N) (hN : N < 2147483648) (hx : x = i) (hi : i < N) (hK : K none (up2 V a i v, σ)) : Wp G 0 mR_setValue [vR a, vI x, vI v] (V, σ) 0 0 K := by
  refine wp_intro mR_setValue_i.1 [some (vR a), some (vI x), some (vI v)] rfl rfl (Nat.le_of_ble_eq_true rfl) ?_
  intro X hG F C
  have hm := C.rm
  refine aw_iload_1 (q := 1) F dR_setValue_0 rfl ?_
  refine aw_if_lt (q := 4) (t := 14) F dR_setValue_1 rfl (by decide) (fun c1 => by omega) (fun c1 => ?_)
  refine aw_iload_1 (q := 5) F dR_setValue_4 rfl ?_
  refine aw_aload_0 (q := 6) F dR_setValue_5 rfl ?_
  refine av_alen (q := 7) F dR_setValue_6 rfl ha (by decide) (by omega) ?_
  refine aw_icmp_ge (q := 10) (t := 14) F dR_setValue_7 rfl (by decide) (fun c7 => by omega) (fun c7 => ?_)
  refine aw_aload_0 (q := 11) F dR_setValue_10 rfl ?_
  refine aw_iload_1 (q := 12) F dR_setValue_11 rfl ?_
  refine aw_iload_2 (q := 13) F dR_setValue_12 rfl ?_
  refine av_iastore (q := 14) F dR_setValue_13 rfl ha (by omega) (by omega) ?_
  rw [show x.toNat = i by omega]
  refine aw_vret F C dR_setValue_14 rfl (Nat.le_refl _) (Nat.le_refl _) ?_
  exact hK
theorem wR_valueOf {x : Int} {a : Nat} (hx : x = a) (haQ : a ≤ Q) (hB : rkL L a < B) (hB2 : B < 2147483648) (hs : sS σ s qn kn Q) (hV : SV V s qn kn Q c L) (hr : rS σ r rn vn ln A B C) (hk : rkOK V rn A Q L) (hK : K (some (vI (V vn (rkL L a)))) (V, σ)) : Wp G 2 mR_valueOf [vR r, vI x, vR s] (V, σ) 0 0 K := by
  refine wp_intro mR_valueOf_i.1 [some (vR r), some (vI x), some (vR s), none] rfl rfl (Nat.le_of_ble_eq_true rfl) ?_
  intro X hG F C
  have hm := C.rm
  refine aw_aload_2 (q := 1) F dR_valueOf_0 rfl ?_
  refine aw_iload_1 (q := 2) F dR_valueOf_1 rfl ?_
  refine aw_aload_0 (q := 3) F dR_valueOf_2 rfl ?_
  refine av_getaE (q := 6) F fR_21 dR_valueOf_3 rfl rfl (by first | exact hs.o | exact hs.ho | exact hr.o | exact hr.a1 | exact hr.a2 | exact hr.a3 | exact hr.a5 | exact hr.a6 | exact ha) hr.p4 ?_
  refine av_callV2 (q := 9) (ci := 5) F hm mS_rankOf_i mS_rankOf_n lR_88 dR_valueOf_6 rfl rfl rfl (by first | exact hs.o | exact hs.ho | exact hr.o | exact hr.a1 | exact hr.a2 | exact hr.a3 | exact hr.a5 | exact hr.a6 | exact ha) (by decide) (Nat.le_refl _) (Nat.le_refl _) (Nat.le_of_ble_eq_true rfl) (wS_rankOf hx haQ hr.a4 hk.1 hs hV hk.2 ?_)
  refine aw_istore_3 (q := 10) F dR_valueOf_9 rfl trivial ?_
  refine aw_iload_3 (q := 11) F dR_valueOf_10 rfl ?_
  refine aw_if_lt (q := 14) (t := 32) F dR_valueOf_11 rfl (by decide) (fun c11 => by omega) (fun c11 => ?_)
  refine aw_iload_3 (q := 15) F dR_valueOf_14 rfl ?_
  refine aw_aload_0 (q := 16) F dR_valueOf_15 rfl ?_
  refine av_getaE (q := 19) F fR_24 dR_valueOf_16 rfl rfl (by first | exact hs.o | exact hs.ho | exact hr.o | exact hr.a1 | exact hr.a2 | exact hr.a3 | exact hr.a5 | exact hr.a6 | exact ha) hr.p5 ?_
  refine av_alen (q := 20) F dR_valueOf_19 rfl (by first | exact hs.o | exact hs.ho | exact hr.o | exact hr.a1 | exact hr.a2 | exact hr.a3 | exact hr.a5 | exact hr.a6 | exact ha) (by decide) (by omega) ?_
  refine aw_icmp_ge (q := 23) (t := 32) F dR_valueOf_20 rfl (by decide) (fun c20 => by omega) (fun c20 => ?_)
  refine aw_aload_0 (q := 24) F dR_valueOf_23 rfl ?_
  refine av_getaE (q := 27) F fR_24 dR_valueOf_24 rfl rfl (by first | exact hs.o | exact hs.ho | exact hr.o | exact hr.a1 | exact hr.a2 | exact hr.a3 | exact hr.a5 | exact hr.a6 | exact ha) hr.p5 ?_
  refine aw_iload_3 (q := 28) F dR_valueOf_27 rfl ?_
  refine av_iaload (q := 29) F dR_valueOf_28 rfl (by first | exact hs.o | exact hs.ho | exact hr.o | exact hr.a1 | exact hr.a2 | exact hr.a3 | exact hr.a5 | exact hr.a6 | exact ha) (by omega) (by omega) ?_
  refine aw_goto (t := 33) F dR_valueOf_29 (by decide) ?_
  refine aw_iret F C dR_valueOf_33 rfl (Nat.le_refl _) (Nat.le_refl _) ?_
  rw [Int.toNat_natCast]; exact hK
theorem wR_valueOfFit {x y : Int} {i P m D : Nat} {q : Nat × Nat} (hx : x = i) (hq : L[i]? = some q) (hy : y = P) (hP : P < 33554432) (hs : sS σ s qn kn Q) (hE : SE V s qn kn Q c L m D) (hK : ∀ V', putF V V' (s + 1) → HA V' (s + 1) c q.1 → K (some (vI (vlN c P 0 q.1))) (V', σ)) : Wp G 1 mR_valueOfFit [vR s, vI x, vI y] (V, σ) 0 0 K := by
  have hc := hE.2.1.1
  have hb := hE.1.2.2.2.2.2.1 q (List.mem_of_getElem? hq)
  have hsp := spc_le hc
  have hl := lst_lt hb.1
  have h25 := wB_p25 hc
  have hD4 := hc.1
  have hpm := Nat.mod_lt q.1 (wB_pos c (pN c))
  have hp2 : 2 ^ lst c q.1 ≤ 2 ^ 3 := Nat.pow_le_pow_right (by decide) (by omega)
  have hbit : zand (zshr y ((q.1 % wB c (pN c) : Nat) : Int)) 1 = if P.testBit (q.1 % wB c (pN c)) then 1 else 0 := by rw [hy, bit_n (by omega) (by omega), bit_tb]; split <;> rfl
  have e1 : zor 16 (zshl 1 (lst c q.1)) = ((16 + 2 ^ lst c q.1 : Nat) : Int) := by
    have hor : 16 ||| 2 ^ lst c q.1 = 16 + 2 ^ lst c q.1 := by
      have := Nat.two_pow_add_eq_or_of_lt (i := 4) (b := 2 ^ lst c q.1) (by omega) 1
      rw [← this]
    rw [shl1 (by omega) (by omega), Int.toNat_natCast, show (16 : Int) = ((16 : Nat) : Int) from rfl, zor_n (by omega), hor]
  have ev : vlN c P 0 q.1 = if P.testBit (q.1 % wB c (pN c)) then 16 + 2 ^ lst c q.1 else 0 := rfl
  refine wp_intro mR_valueOfFit_i.1 [some (vR s), some (vI x), some (vI y), none, none] rfl rfl (Nat.le_of_ble_eq_true rfl) ?_
  intro X hG F C
  have hm := C.rm
  refine aw_aload_0 (q := 1) F dR_valueOfFit_0 rfl ?_
  refine av_getaE (q := 4) F fR_92 dR_valueOfFit_1 rfl rfl (by first | exact hs.o | exact hs.ho | exact hr.o | exact hr.a1 | exact hr.a2 | exact hr.a3 | exact hr.a5 | exact hr.a6 | exact ha) hs.p0 ?_
  refine aw_astore_3 (q := 5) F dR_valueOfFit_4 rfl trivial ?_
  refine aw_aload_3 (q := 6) F dR_valueOfFit_5 rfl ?_
  refine aw_aload_0 (q := 7) F dR_valueOfFit_6 rfl ?_
  refine aw_iload_1 (q := 8) F dR_valueOfFit_7 rfl ?_
  refine av_callV1 (q := 11) (ci := 5) F hm mS_arrangementAt_i mS_arrangementAt_n lR_65 dR_valueOfFit_8 rfl rfl rfl (by first | exact hs.o | exact hs.ho | exact hr.o | exact hr.a1 | exact hr.a2 | exact hr.a3 | exact hr.a5 | exact hr.a6 | exact ha) (by decide) (Nat.le_refl _) (Nat.le_refl _) (Nat.le_of_ble_eq_true rfl) (wS_arrangementAt hx hq hs hE.1 ?_)
  refine av_callV1 (q := 14) (ci := 2) F hm mH_put_i mH_put_n lR_96 dR_valueOfFit_11 rfl rfl rfl (by first | exact hs.o | exact hs.ho | exact hr.o | exact hr.a1 | exact hr.a2 | exact hr.a3 | exact hr.a5 | exact hr.a6 | exact ha) (by decide) (Nat.le_refl _) (Nat.le_refl _) (Nat.le_of_ble_eq_true rfl) (wH_put (c := c) rfl (by omega) hs.h hc hE.2.1.2.1 (fun v11 f11 g11 => ?_))
  have hh := hE.2.1.put f11 g11
  refine aw_iload_2 (q := 15) F dR_valueOfFit_14 rfl ?_
  refine aw_aload_3 (q := 16) F dR_valueOfFit_15 rfl ?_
  refine aw_aload_3 (q := 17) F dR_valueOfFit_16 rfl ?_
  refine av_callV0 (q := 20) (ci := 2) F hm mH_arrangement_i mH_arrangement_n lR_102 dR_valueOfFit_17 rfl rfl rfl (by first | exact hs.o | exact hs.ho | exact hr.o | exact hr.a1 | exact hr.a2 | exact hr.a3 | exact hr.a5 | exact hr.a6 | exact ha) (by decide) (Nat.le_refl _) (Nat.le_refl _) (Nat.le_of_ble_eq_true rfl) (wH_arrangement (c := c) (n := q.1) hs.h hh ?_)
  refine av_callV1 (q := 23) (ci := 2) F hm mH_placingOf_i mH_placingOf_n lR_105 dR_valueOfFit_20 rfl rfl rfl (by first | exact hs.o | exact hs.ho | exact hr.o | exact hr.a1 | exact hr.a2 | exact hr.a3 | exact hr.a5 | exact hr.a6 | exact ha) (by decide) (Nat.le_refl _) (Nat.le_refl _) (Nat.le_of_ble_eq_true rfl) (wH_placingOf (c := c) (n := q.1) (m := q.1) rfl hs.h hh ?_)
  refine aw_ishr (q := 24) F dR_valueOfFit_23 rfl ?_
  refine aw_iconst (q := 25) F dR_valueOfFit_24 rfl (by decide) ?_
  refine aw_iand (q := 26) F dR_valueOfFit_25 rfl ?_
  rw [hbit]
  refine aw_if_eq (q := 29) (t := 33) F dR_valueOfFit_26 rfl (by decide) (fun c26 => ?_) (fun c26 => ?_)
  · refine aw_iconst (q := 34) F dR_valueOfFit_33 rfl (by decide) ?_
    refine aw_istore_4 (q := 36) F dR_valueOfFit_34 rfl trivial ?_
    refine aw_iload_4 (q := 38) F dR_valueOfFit_36 rfl ?_
    refine aw_if_eq (q := 41) (t := 53) F dR_valueOfFit_38 rfl (by decide) (fun c38 => ?_) (fun c38 => absurd c38 (by decide))
    refine aw_iconst (q := 54) F dR_valueOfFit_53 rfl (by decide) ?_
    refine aw_iret F C dR_valueOfFit_54 rfl (Nat.le_refl _) (Nat.le_refl _) ?_
    refine kI (hK v11 f11 g11) ?_
    rw [ev]
    by_cases hf : P.testBit (q.1 % wB c (pN c)) = true
    · first | (rw [if_pos hf]; done) | (rw [if_pos hf] at c26; exfalso; omega)
    · first | (rw [if_neg hf]; done) | (rw [if_neg hf]; rfl) | (rw [if_neg hf] at c26; exfalso; omega)
  · refine aw_iconst (q := 30) F dR_valueOfFit_29 rfl (by decide) ?_
    refine aw_goto (t := 34) F dR_valueOfFit_30 (by decide) ?_
    refine aw_istore_4 (q := 36) F dR_valueOfFit_34 rfl trivial ?_
    refine aw_iload_4 (q := 38) F dR_valueOfFit_36 rfl ?_
    refine aw_if_eq (q := 41) (t := 53) F dR_valueOfFit_38 rfl (by decide) (fun c38 => absurd c38 (by decide)) (fun c38 => ?_)
    refine aw_bipush (q := 43) F dR_valueOfFit_41 rfl (by decide) ?_
    refine aw_iconst (q := 44) F dR_valueOfFit_43 rfl (by decide) ?_
    refine aw_aload_3 (q := 45) F dR_valueOfFit_44 rfl ?_
    refine av_geti (q := 48) F fR_108 dR_valueOfFit_45 rfl rfl (by first | exact hs.o | exact hs.ho | exact hr.o | exact hr.a1 | exact hr.a2 | exact hr.a3 | exact hr.a5 | exact hr.a6 | exact ha) ?_
    rw [g11.2.2.1]
    refine aw_ishl (q := 49) F dR_valueOfFit_48 rfl ?_
    refine aw_ior (q := 50) F dR_valueOfFit_49 rfl ?_
    rw [e1]
    refine aw_goto (t := 54) F dR_valueOfFit_50 (by decide) ?_
    refine aw_iret F C dR_valueOfFit_54 rfl (Nat.le_refl _) (Nat.le_refl _) ?_
    refine kI (hK v11 f11 g11) ?_
    rw [ev]
    by_cases hf : P.testBit (q.1 % wB c (pN c)) = true
    · first | (rw [if_pos hf]; done) | (rw [if_pos hf] at c26; exfalso; omega)
    · first | (rw [if_neg hf]; done) | (rw [if_neg hf]; rfl) | (rw [if_neg hf] at c26; exfalso; omega)
theorem putF.rk {V V' : Nat → Nat → Int} {s rn A Q : Nat} {L : List (Nat × Nat)} (g : putF V V' (s + 1)) (h : rkOK V rn A Q L) (hn : rn < s ∨ s + 6 < rn) : rkOK V' rn A Q L := ⟨h.1, by rw [g.1 rn (by omega) (by omega) (by omega)]; exact h.2⟩
theorem wR_valueByOneMore {x : Int} {i m D : Nat} {q : Nat × Nat} {g : Nat → Nat} (hx : x = i) (hq : L[i]? = some q) (hs : sS σ s qn kn Q) (hE : SE V s qn kn Q c L m D) (hr : rS σ r rn vn ln A B C) (hk : rkOK V rn A Q L) (hrn : rn < s ∨ s + 6 < rn) (hvn : vn < s ∨ s + 6 < vn) (hB : B < 2147483648) (hg : ∀ k, k < stN c → mayN c q.1 (allP c) k = true → rkL L (aftN c q.1 k) < B ∧ V vn (rkL L (aftN c q.1 k)) = g (aftN c q.1 k) ∧ g (aftN c q.1 k) / 16 ≤ 1048576) (hK : ∀ V', putF V V' (s + 1) → HA V' (s + 1) c q.1 → K (some (vI (svC c q.1 g (stN c) * 16 + svO c q.1 g (stN c) : Nat))) (V', σ)) : Wp G 3 mR_valueByOneMore [vR r, vR s, vI x] (V, σ) 0 0 K := by
  have hc := hE.2.1.1
  have hb := hE.1.2.2.2.2.2.1 q (List.mem_of_getElem? hq)
  have hvs := hE.1.2.2.2.2.2.2
  have hsp := spc_le hc
  have hst := stN_le hc
  have h4 := allP_lt hc
  refine wp_intro mR_valueByOneMore_i.1 [some (vR r), some (vR s), some (vI x), none, none, none, none, none] rfl rfl (Nat.le_of_ble_eq_true rfl) ?_
  intro X hG F C
  have hm := C.rm
  have loop : ∀ (V1 : Nat → Nat → Int), putF V V1 (s + 1) → HA V1 (s + 1) c q.1 → ∀ (j k : Nat), stN c - k = j → k ≤ stN c → ∀ (y z w : Int) (u : Option AV), y = svC c q.1 g k → z = svO c q.1 g k → w = k → AW X 23 [some (vR r), some (vR s), some (vI x), some (vR (s + 1)), some (vI y), some (vI z), some (vI w), u] [] (V1, σ) 0 0 := by
    intro V1 hF hA j
    induction j using Nat.strongRecOn with
    | ind j ih =>
      intro k hj hk1 y z w u hy hz hw
      have hh : HH V1 (s + 1) c q.1 := hE.2.1.put hF hA
      have hV1 := hF.sv hs hE.1
      have hk2 := hF.rk hk hrn
      have v2 : V1 (s + 1) 2 = stN c := hh.2.1.2.2.1
      have ew : w.toNat = k := by omega
      have hsc := svC_le (c := c) (n := q.1) (g := g) (B := 1048576) k (fun j hj hm => (hg j (by omega) hm).2.2)
      have hso := svO_lt c q.1 g k
      have ec : svC c q.1 g (k + 1) = svC c q.1 g k + if mayN c q.1 (allP c) k then g (aftN c q.1 k) / 16 else 0 := rfl
      have eo : svO c q.1 g (k + 1) = svO c q.1 g k ||| if mayN c q.1 (allP c) k then g (aftN c q.1 k) % 16 else 0 := rfl
      have hor : svC c q.1 g k * 16 ||| svO c q.1 g k = svC c q.1 g k * 16 + svO c q.1 g k := by
        have := Nat.two_pow_add_eq_or_of_lt (i := 4) (b := svO c q.1 g k) hso (svC c q.1 g k)
        rw [Nat.mul_comm, ← this]
      refine aw_iload_6 (q := 25) F dR_valueByOneMore_23 rfl ?_
      refine aw_aload_3 (q := 26) F dR_valueByOneMore_25 rfl ?_
      refine av_geti (q := 29) F fR_111 dR_valueByOneMore_26 rfl rfl (by first | exact hs.o | exact hs.ho | exact hr.o | exact hr.a1 | exact hr.a2 | exact hr.a3 | exact hr.a5 | exact hr.a6) ?_
      refine aw_icmp_ge (q := 32) (t := 83) F dR_valueByOneMore_29 rfl (by decide) (fun c29 => ?_) (fun c29 => ?_)
      · refine aw_iload_4 (q := 85) F dR_valueByOneMore_83 rfl ?_
        refine aw_iconst (q := 86) F dR_valueByOneMore_85 rfl (by decide) ?_
        refine aw_ishl (q := 87) F dR_valueByOneMore_86 rfl ?_
        refine aw_iload_5 (q := 89) F dR_valueByOneMore_87 rfl ?_
        refine aw_ior (q := 90) F dR_valueByOneMore_89 rfl ?_
        rw [show zor (zshl y 4) z = ((svC c q.1 g k * 16 + svO c q.1 g k : Nat) : Int) by rw [hy, hz, show (4 : Int) = ((4 : Nat) : Int) from rfl, zshl_n (by decide) (by omega), zor_n (by rw [show svC c q.1 g k * 2 ^ 4 = svC c q.1 g k * 16 from rfl, hor]; omega), show svC c q.1 g k * 2 ^ 4 = svC c q.1 g k * 16 from rfl, hor]]
        refine aw_iret F C dR_valueByOneMore_90 rfl (Nat.le_refl _) (Nat.le_refl _) ?_
        refine kI (hK V1 hF hA) ?_; rw [show k = stN c by omega]
      · refine aw_aload_3 (q := 33) F dR_valueByOneMore_32 rfl ?_
        refine aw_iload_6 (q := 35) F dR_valueByOneMore_33 rfl ?_
        refine aw_aload_3 (q := 36) F dR_valueByOneMore_35 rfl ?_
        refine av_callV0 (q := 39) (ci := 2) F hm mH_everybody_i mH_everybody_n lR_114 dR_valueByOneMore_36 rfl rfl rfl (by first | exact hs.o | exact hs.ho | exact hr.o | exact hr.a1 | exact hr.a2 | exact hr.a3 | exact hr.a5 | exact hr.a6) (by decide) (Nat.le_refl _) (Nat.le_refl _) (Nat.le_of_ble_eq_true rfl) (wH_everybody hs.h hh ?_)
        refine av_callV2 (q := 42) (ci := 2) F hm mH_may_i mH_may_n lR_117 dR_valueByOneMore_39 rfl rfl rfl (by first | exact hs.o | exact hs.ho | exact hr.o | exact hr.a1 | exact hr.a2 | exact hr.a3 | exact hr.a5 | exact hr.a6) (by decide) (Nat.le_refl _) (Nat.le_refl _) (Nat.le_of_ble_eq_true rfl) (wH_may (c := c) (n := q.1) (th := allP c) rfl h4 hs.h hh (fun a39 b39 m39 => ?_) (fun m39 => ?_))
        · refine aw_if_eq (q := 45) (t := 77) F dR_valueByOneMore_42 rfl (by decide) (fun c42 => absurd c42 (by decide)) (fun c42 => ?_)
          rw [ew] at m39
          obtain ⟨g1, g2, g3⟩ := hg k (by omega) m39
          have hal := aft_lt hb.1 (by omega) m39
          have hv1 : V1 vn (rkL L (aftN c q.1 k)) = g (aftN c q.1 k) := by rw [hF.1 vn (by omega) (by omega) (by omega)]; exact g2
          rw [m39] at ec eo
          simp only [if_true] at ec eo
          have hso1 := svO_lt c q.1 g (k + 1)
          refine aw_aload_0 (q := 46) F dR_valueByOneMore_45 rfl ?_
          refine aw_aload_3 (q := 47) F dR_valueByOneMore_46 rfl ?_
          refine aw_iload_6 (q := 49) F dR_valueByOneMore_47 rfl ?_
          refine av_callV1 (q := 52) (ci := 2) F hm mH_after_i mH_after_n lR_121 dR_valueByOneMore_49 rfl rfl rfl (by first | exact hs.o | exact hs.ho | exact hr.o | exact hr.a1 | exact hr.a2 | exact hr.a3 | exact hr.a5 | exact hr.a6) (by decide) (Nat.le_refl _) (Nat.le_refl _) (Nat.le_of_ble_eq_true rfl) (wH_after (by omega) hb.1 hs.h hh ?_)
          refine aw_aload_1 (q := 53) F dR_valueByOneMore_52 rfl ?_
          refine av_callV2 (q := 56) (ci := 4) F hm mR_valueOf_i mR_valueOf_n lR_69 dR_valueByOneMore_53 rfl rfl rfl (by first | exact hs.o | exact hs.ho | exact hr.o | exact hr.a1 | exact hr.a2 | exact hr.a3 | exact hr.a5 | exact hr.a6) (by decide) (Nat.le_refl _) (Nat.le_refl _) (Nat.le_of_ble_eq_true rfl) (wR_valueOf (L := L) (a := aftN c q.1 k) (by rw [ew]) (by omega) g1 hB hs hV1 hr hk2 ?_)
          rw [hv1]
          refine aw_istore_7 (q := 58) F dR_valueByOneMore_56 rfl trivial ?_
          refine aw_iload_4 (q := 60) F dR_valueByOneMore_58 rfl ?_
          refine aw_iload_7 (q := 62) F dR_valueByOneMore_60 rfl ?_
          refine aw_iconst (q := 63) F dR_valueByOneMore_62 rfl (by decide) ?_
          refine aw_ishr (q := 64) F dR_valueByOneMore_63 rfl ?_
          rw [show zshr ((g (aftN c q.1 k) : Nat) : Int) 4 = ((g (aftN c q.1 k) / 16 : Nat) : Int) by rw [show (4 : Int) = ((4 : Nat) : Int) from rfl, zshr_i ⟨by omega, by omega⟩ (by decide)]; simp]
          refine aw_iadd (q := 65) F dR_valueByOneMore_64 rfl (by constructor <;> omega) ?_
          refine aw_istore_4 (q := 67) F dR_valueByOneMore_65 rfl trivial ?_
          refine aw_iload_5 (q := 69) F dR_valueByOneMore_67 rfl ?_
          refine aw_iload_7 (q := 71) F dR_valueByOneMore_69 rfl ?_
          refine aw_bipush (q := 73) F dR_valueByOneMore_71 rfl (by decide) ?_
          refine aw_iand (q := 74) F dR_valueByOneMore_73 rfl ?_
          refine aw_ior (q := 75) F dR_valueByOneMore_74 rfl ?_
          rw [show zor z (zand ((g (aftN c q.1 k) : Nat) : Int) 15) = ((svO c q.1 g (k + 1) : Nat) : Int) by rw [show (15 : Int) = ((15 : Nat) : Int) from rfl, zand_mask 4 (by decide) rfl, show ((g (aftN c q.1 k) : Nat) : Int) % 2 ^ 4 = ((g (aftN c q.1 k) % 16 : Nat) : Int) by simp, hz, zor_n (by rw [← eo]; omega), eo]]
          refine aw_istore_5 (q := 77) F dR_valueByOneMore_75 rfl trivial ?_
          refine aw_iinc_6 (q := 80) F dR_valueByOneMore_77 rfl trivial (by constructor <;> omega) ?_
          refine aw_goto (t := 23) F dR_valueByOneMore_80 (by decide) ?_
          first
          | exact ih _ (by omega) (k + 1) rfl (by omega) _ _ _ _ (by omega) rfl (by omega)
          | (have m39 := m39 (by omega) (by omega); rw [ew] at m39; rw [m39] at ec eo; simp only [Bool.false_eq_true, if_false, Nat.or_zero, Nat.add_zero] at ec eo; exact ih _ (by omega) (k + 1) rfl (by omega) _ _ _ _ (by omega) (by omega) (by omega))
        · refine aw_if_eq (q := 45) (t := 77) F dR_valueByOneMore_42 rfl (by decide) (fun c42 => ?_) (fun c42 => absurd c42 (by decide))
          refine aw_iinc_6 (q := 80) F dR_valueByOneMore_77 rfl trivial (by constructor <;> omega) ?_
          refine aw_goto (t := 23) F dR_valueByOneMore_80 (by decide) ?_
          first
          | exact ih _ (by omega) (k + 1) rfl (by omega) _ _ _ _ (by omega) rfl (by omega)
          | (have m39 := m39 (by omega) (by omega); rw [ew] at m39; rw [m39] at ec eo; simp only [Bool.false_eq_true, if_false, Nat.or_zero, Nat.add_zero] at ec eo; exact ih _ (by omega) (k + 1) rfl (by omega) _ _ _ _ (by omega) (by omega) (by omega))
  refine aw_aload_1 (q := 1) F dR_valueByOneMore_0 rfl ?_
  refine av_getaE (q := 4) F fR_92 dR_valueByOneMore_1 rfl rfl (by first | exact hs.o | exact hs.ho | exact hr.o | exact hr.a1 | exact hr.a2 | exact hr.a3 | exact hr.a5 | exact hr.a6) hs.p0 ?_
  refine aw_astore_3 (q := 5) F dR_valueByOneMore_4 rfl trivial ?_
  refine aw_aload_3 (q := 6) F dR_valueByOneMore_5 rfl ?_
  refine aw_aload_1 (q := 7) F dR_valueByOneMore_6 rfl ?_
  refine aw_iload_2 (q := 8) F dR_valueByOneMore_7 rfl ?_
  refine av_callV1 (q := 11) (ci := 5) F hm mS_arrangementAt_i mS_arrangementAt_n lR_65 dR_valueByOneMore_8 rfl rfl rfl (by first | exact hs.o | exact hs.ho | exact hr.o | exact hr.a1 | exact hr.a2 | exact hr.a3 | exact hr.a5 | exact hr.a6) (by decide) (Nat.le_refl _) (Nat.le_refl _) (Nat.le_of_ble_eq_true rfl) (wS_arrangementAt hx hq hs hE.1 ?_)
  refine av_callV1 (q := 14) (ci := 2) F hm mH_put_i mH_put_n lR_96 dR_valueByOneMore_11 rfl rfl rfl (by first | exact hs.o | exact hs.ho | exact hr.o | exact hr.a1 | exact hr.a2 | exact hr.a3 | exact hr.a5 | exact hr.a6) (by decide) (Nat.le_refl _) (Nat.le_refl _) (Nat.le_of_ble_eq_true rfl) (wH_put (c := c) rfl (by omega) hs.h hc hE.2.1.2.1 (fun v11 f11 g11 => ?_))
  refine aw_iconst (q := 15) F dR_valueByOneMore_14 rfl (by decide) ?_
  refine aw_istore_4 (q := 17) F dR_valueByOneMore_15 rfl trivial ?_
  refine aw_iconst (q := 18) F dR_valueByOneMore_17 rfl (by decide) ?_
  refine aw_istore_5 (q := 20) F dR_valueByOneMore_18 rfl trivial ?_
  refine aw_iconst (q := 21) F dR_valueByOneMore_20 rfl (by decide) ?_
  refine aw_istore_6 (q := 23) F dR_valueByOneMore_21 rfl trivial ?_
  exact loop v11 f11 g11 _ 0 rfl (by omega) _ _ _ none rfl rfl rfl
end Rows1
