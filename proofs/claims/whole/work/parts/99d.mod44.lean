theorem dM_readAjar_0 : decode mM_readAjar.2.1 0 = .ok (.aload_n 0, 1) := by decide +kernel
theorem dM_readAjar_1 : decode mM_readAjar.2.1 1 = .ok (.iconst 0, 1) := by decide +kernel
theorem dM_readAjar_2 : decode mM_readAjar.2.1 2 = .ok (.iconst 1, 1) := by decide +kernel
theorem dM_readAjar_3 : decode mM_readAjar.2.1 3 = .ok (.invokevirtual 214, 3) := by decide +kernel
theorem dM_readAjar_6 : decode mM_readAjar.2.1 6 = .ok (.aload_n 0, 1) := by decide +kernel
theorem dM_readAjar_7 : decode mM_readAjar.2.1 7 = .ok (.iconst 0, 1) := by decide +kernel
theorem dM_readAjar_8 : decode mM_readAjar.2.1 8 = .ok (.invokevirtual 236, 3) := by decide +kernel
theorem dM_readAjar_11 : decode mM_readAjar.2.1 11 = .ok (.istore_n 1, 1) := by decide +kernel
theorem dM_readAjar_12 : decode mM_readAjar.2.1 12 = .ok (.aload_n 0, 1) := by decide +kernel
theorem dM_readAjar_13 : decode mM_readAjar.2.1 13 = .ok (.getfield 78, 3) := by decide +kernel
theorem dM_readAjar_16 : decode mM_readAjar.2.1 16 = .ok (.iconst 5, 1) := by decide +kernel
theorem dM_readAjar_17 : decode mM_readAjar.2.1 17 = .ok (.if_icmp .eq 20, 3) := by decide +kernel
theorem dM_readAjar_20 : decode mM_readAjar.2.1 20 = .ok (.aload_n 0, 1) := by decide +kernel
theorem dM_readAjar_21 : decode mM_readAjar.2.1 21 = .ok (.getfield 147, 3) := by decide +kernel
theorem dM_readAjar_24 : decode mM_readAjar.2.1 24 = .ok (.getfield 247, 3) := by decide +kernel
theorem dM_readAjar_27 : decode mM_readAjar.2.1 27 = .ok (.iload_n 1, 1) := by decide +kernel
theorem dM_readAjar_28 : decode mM_readAjar.2.1 28 = .ok (.iaload, 1) := by decide +kernel
theorem dM_readAjar_29 : decode mM_readAjar.2.1 29 = .ok (.ifCond .le 8, 3) := by decide +kernel
theorem dM_readAjar_32 : decode mM_readAjar.2.1 32 = .ok (.aload_n 0, 1) := by decide +kernel
theorem dM_readAjar_33 : decode mM_readAjar.2.1 33 = .ok (.iconst 3, 1) := by decide +kernel
theorem dM_readAjar_34 : decode mM_readAjar.2.1 34 = .ok (.invokevirtual 143, 3) := by decide +kernel
theorem dM_readAjar_37 : decode mM_readAjar.2.1 37 = .ok (.aload_n 0, 1) := by decide +kernel
theorem dM_readAjar_38 : decode mM_readAjar.2.1 38 = .ok (.getfield 78, 3) := by decide +kernel
theorem dM_readAjar_41 : decode mM_readAjar.2.1 41 = .ok (.iconst 5, 1) := by decide +kernel
theorem dM_readAjar_42 : decode mM_readAjar.2.1 42 = .ok (.if_icmp .eq 20, 3) := by decide +kernel
theorem dM_readAjar_45 : decode mM_readAjar.2.1 45 = .ok (.aload_n 0, 1) := by decide +kernel
theorem dM_readAjar_46 : decode mM_readAjar.2.1 46 = .ok (.getfield 147, 3) := by decide +kernel
theorem dM_readAjar_49 : decode mM_readAjar.2.1 49 = .ok (.getfield 245, 3) := by decide +kernel
theorem dM_readAjar_52 : decode mM_readAjar.2.1 52 = .ok (.iload_n 1, 1) := by decide +kernel
theorem dM_readAjar_53 : decode mM_readAjar.2.1 53 = .ok (.if_icmp .ne 9, 3) := by decide +kernel
theorem dM_readAjar_56 : decode mM_readAjar.2.1 56 = .ok (.aload_n 0, 1) := by decide +kernel
theorem dM_readAjar_57 : decode mM_readAjar.2.1 57 = .ok (.bipush 7, 2) := by decide +kernel
theorem dM_readAjar_59 : decode mM_readAjar.2.1 59 = .ok (.invokevirtual 143, 3) := by decide +kernel
theorem dM_readAjar_62 : decode mM_readAjar.2.1 62 = .ok (.aload_n 0, 1) := by decide +kernel
theorem dM_readAjar_63 : decode mM_readAjar.2.1 63 = .ok (.invokevirtual 114, 3) := by decide +kernel
theorem dM_readAjar_66 : decode mM_readAjar.2.1 66 = .ok (.aload_n 0, 1) := by decide +kernel
theorem dM_readAjar_67 : decode mM_readAjar.2.1 67 = .ok (.iconst 0, 1) := by decide +kernel
theorem dM_readAjar_68 : decode mM_readAjar.2.1 68 = .ok (.invokevirtual 236, 3) := by decide +kernel
theorem dM_readAjar_71 : decode mM_readAjar.2.1 71 = .ok (.istore_n 2, 1) := by decide +kernel
theorem dM_readAjar_72 : decode mM_readAjar.2.1 72 = .ok (.aload_n 0, 1) := by decide +kernel
theorem dM_readAjar_73 : decode mM_readAjar.2.1 73 = .ok (.invokevirtual 114, 3) := by decide +kernel
theorem dM_readAjar_76 : decode mM_readAjar.2.1 76 = .ok (.aload_n 0, 1) := by decide +kernel
theorem dM_readAjar_77 : decode mM_readAjar.2.1 77 = .ok (.getfield 78, 3) := by decide +kernel
theorem dM_readAjar_80 : decode mM_readAjar.2.1 80 = .ok (.iconst 5, 1) := by decide +kernel
theorem dM_readAjar_81 : decode mM_readAjar.2.1 81 = .ok (.if_icmp .ne 4, 3) := by decide +kernel
theorem dM_readAjar_84 : decode mM_readAjar.2.1 84 = .ok (.return_, 1) := by decide +kernel
theorem dM_readAjar_85 : decode mM_readAjar.2.1 85 = .ok (.aload_n 0, 1) := by decide +kernel
theorem dM_readAjar_86 : decode mM_readAjar.2.1 86 = .ok (.getfield 147, 3) := by decide +kernel
theorem dM_readAjar_89 : decode mM_readAjar.2.1 89 = .ok (.getfield 247, 3) := by decide +kernel
theorem dM_readAjar_92 : decode mM_readAjar.2.1 92 = .ok (.iload_n 1, 1) := by decide +kernel
theorem dM_readAjar_93 : decode mM_readAjar.2.1 93 = .ok (.iload_n 2, 1) := by decide +kernel
theorem dM_readAjar_94 : decode mM_readAjar.2.1 94 = .ok (.iconst 1, 1) := by decide +kernel
theorem dM_readAjar_95 : decode mM_readAjar.2.1 95 = .ok (.iadd, 1) := by decide +kernel
theorem dM_readAjar_96 : decode mM_readAjar.2.1 96 = .ok (.iastore, 1) := by decide +kernel
theorem dM_readAjar_97 : decode mM_readAjar.2.1 97 = .ok (.aload_n 0, 1) := by decide +kernel
theorem dM_readAjar_98 : decode mM_readAjar.2.1 98 = .ok (.getfield 147, 3) := by decide +kernel
theorem dM_readAjar_101 : decode mM_readAjar.2.1 101 = .ok (.dup, 1) := by decide +kernel
theorem dM_readAjar_102 : decode mM_readAjar.2.1 102 = .ok (.getfield 250, 3) := by decide +kernel
theorem dM_readAjar_105 : decode mM_readAjar.2.1 105 = .ok (.iconst 1, 1) := by decide +kernel
theorem dM_readAjar_106 : decode mM_readAjar.2.1 106 = .ok (.iadd, 1) := by decide +kernel
theorem dM_readAjar_107 : decode mM_readAjar.2.1 107 = .ok (.putfield 250, 3) := by decide +kernel
theorem dM_readAjar_110 : decode mM_readAjar.2.1 110 = .ok (.return_, 1) := by decide +kernel
theorem dM_readInside_0 : decode mM_readInside.2.1 0 = .ok (.aload_n 0, 1) := by decide +kernel
theorem dM_readInside_1 : decode mM_readInside.2.1 1 = .ok (.iconst 0, 1) := by decide +kernel
theorem dM_readInside_2 : decode mM_readInside.2.1 2 = .ok (.iconst 1, 1) := by decide +kernel
theorem dM_readInside_3 : decode mM_readInside.2.1 3 = .ok (.invokevirtual 214, 3) := by decide +kernel
theorem dM_readInside_6 : decode mM_readInside.2.1 6 = .ok (.aload_n 0, 1) := by decide +kernel
theorem dM_readInside_7 : decode mM_readInside.2.1 7 = .ok (.iconst 1, 1) := by decide +kernel
theorem dM_readInside_8 : decode mM_readInside.2.1 8 = .ok (.invokevirtual 236, 3) := by decide +kernel
theorem dM_readInside_11 : decode mM_readInside.2.1 11 = .ok (.istore_n 1, 1) := by decide +kernel
theorem dM_readInside_12 : decode mM_readInside.2.1 12 = .ok (.aload_n 0, 1) := by decide +kernel
theorem dM_readInside_13 : decode mM_readInside.2.1 13 = .ok (.getfield 78, 3) := by decide +kernel
theorem dM_readInside_16 : decode mM_readInside.2.1 16 = .ok (.iconst 5, 1) := by decide +kernel
theorem dM_readInside_17 : decode mM_readInside.2.1 17 = .ok (.if_icmp .eq 22, 3) := by decide +kernel
theorem dM_readInside_20 : decode mM_readInside.2.1 20 = .ok (.aload_n 0, 1) := by decide +kernel
theorem dM_readInside_21 : decode mM_readInside.2.1 21 = .ok (.getfield 147, 3) := by decide +kernel
theorem dM_readInside_24 : decode mM_readInside.2.1 24 = .ok (.getfield 256, 3) := by decide +kernel
theorem dM_readInside_27 : decode mM_readInside.2.1 27 = .ok (.iload_n 1, 1) := by decide +kernel
theorem dM_readInside_28 : decode mM_readInside.2.1 28 = .ok (.invokestatic 241, 3) := by decide +kernel
theorem dM_readInside_31 : decode mM_readInside.2.1 31 = .ok (.ifCond .eq 8, 3) := by decide +kernel
theorem dM_readInside_34 : decode mM_readInside.2.1 34 = .ok (.aload_n 0, 1) := by decide +kernel
theorem dM_readInside_35 : decode mM_readInside.2.1 35 = .ok (.iconst 3, 1) := by decide +kernel
theorem dM_readInside_36 : decode mM_readInside.2.1 36 = .ok (.invokevirtual 143, 3) := by decide +kernel
theorem dM_readInside_39 : decode mM_readInside.2.1 39 = .ok (.aload_n 0, 1) := by decide +kernel
theorem dM_readInside_40 : decode mM_readInside.2.1 40 = .ok (.invokevirtual 114, 3) := by decide +kernel
theorem dM_readInside_43 : decode mM_readInside.2.1 43 = .ok (.aload_n 0, 1) := by decide +kernel
theorem dM_readInside_44 : decode mM_readInside.2.1 44 = .ok (.iconst 0, 1) := by decide +kernel
theorem dM_readInside_45 : decode mM_readInside.2.1 45 = .ok (.invokevirtual 236, 3) := by decide +kernel
theorem dM_readInside_48 : decode mM_readInside.2.1 48 = .ok (.istore_n 2, 1) := by decide +kernel
theorem dM_readInside_49 : decode mM_readInside.2.1 49 = .ok (.aload_n 0, 1) := by decide +kernel
theorem dM_readInside_50 : decode mM_readInside.2.1 50 = .ok (.invokevirtual 114, 3) := by decide +kernel
theorem dM_readInside_53 : decode mM_readInside.2.1 53 = .ok (.aload_n 0, 1) := by decide +kernel
theorem dM_readInside_54 : decode mM_readInside.2.1 54 = .ok (.getfield 78, 3) := by decide +kernel
theorem dM_readInside_57 : decode mM_readInside.2.1 57 = .ok (.iconst 5, 1) := by decide +kernel
theorem dM_readInside_58 : decode mM_readInside.2.1 58 = .ok (.if_icmp .ne 4, 3) := by decide +kernel
theorem dM_readInside_61 : decode mM_readInside.2.1 61 = .ok (.return_, 1) := by decide +kernel
theorem dM_readInside_62 : decode mM_readInside.2.1 62 = .ok (.aload_n 0, 1) := by decide +kernel
theorem dM_readInside_63 : decode mM_readInside.2.1 63 = .ok (.getfield 147, 3) := by decide +kernel
theorem dM_readInside_66 : decode mM_readInside.2.1 66 = .ok (.dup, 1) := by decide +kernel
theorem dM_readInside_67 : decode mM_readInside.2.1 67 = .ok (.getfield 256, 3) := by decide +kernel
theorem dM_readInside_70 : decode mM_readInside.2.1 70 = .ok (.iconst 1, 1) := by decide +kernel
theorem dM_readInside_71 : decode mM_readInside.2.1 71 = .ok (.iload_n 1, 1) := by decide +kernel
theorem dM_readInside_72 : decode mM_readInside.2.1 72 = .ok (.ishl, 1) := by decide +kernel
theorem dM_readInside_73 : decode mM_readInside.2.1 73 = .ok (.ior, 1) := by decide +kernel
theorem dM_readInside_74 : decode mM_readInside.2.1 74 = .ok (.putfield 256, 3) := by decide +kernel
theorem dM_readInside_77 : decode mM_readInside.2.1 77 = .ok (.aload_n 0, 1) := by decide +kernel
theorem dM_readInside_78 : decode mM_readInside.2.1 78 = .ok (.getfield 147, 3) := by decide +kernel
theorem dM_readInside_81 : decode mM_readInside.2.1 81 = .ok (.getfield 259, 3) := by decide +kernel
theorem dM_readInside_84 : decode mM_readInside.2.1 84 = .ok (.iload_n 1, 1) := by decide +kernel
theorem dM_readInside_85 : decode mM_readInside.2.1 85 = .ok (.iload_n 2, 1) := by decide +kernel
theorem dM_readInside_86 : decode mM_readInside.2.1 86 = .ok (.iconst 1, 1) := by decide +kernel
theorem dM_readInside_87 : decode mM_readInside.2.1 87 = .ok (.iadd, 1) := by decide +kernel
theorem dM_readInside_88 : decode mM_readInside.2.1 88 = .ok (.iastore, 1) := by decide +kernel
theorem dM_readInside_89 : decode mM_readInside.2.1 89 = .ok (.aload_n 0, 1) := by decide +kernel
theorem dM_readInside_90 : decode mM_readInside.2.1 90 = .ok (.getfield 147, 3) := by decide +kernel
theorem dM_readInside_93 : decode mM_readInside.2.1 93 = .ok (.dup, 1) := by decide +kernel
theorem dM_readInside_94 : decode mM_readInside.2.1 94 = .ok (.getfield 262, 3) := by decide +kernel
theorem dM_readInside_97 : decode mM_readInside.2.1 97 = .ok (.iconst 1, 1) := by decide +kernel
theorem dM_readInside_98 : decode mM_readInside.2.1 98 = .ok (.iadd, 1) := by decide +kernel
theorem dM_readInside_99 : decode mM_readInside.2.1 99 = .ok (.putfield 262, 3) := by decide +kernel
theorem dM_readInside_102 : decode mM_readInside.2.1 102 = .ok (.return_, 1) := by decide +kernel
theorem dM_readPlace_0 : decode mM_readPlace.2.1 0 = .ok (.aload_n 0, 1) := by decide +kernel
theorem dM_readPlace_1 : decode mM_readPlace.2.1 1 = .ok (.iconst 0, 1) := by decide +kernel
theorem dM_readPlace_2 : decode mM_readPlace.2.1 2 = .ok (.iconst 1, 1) := by decide +kernel
theorem dM_readPlace_3 : decode mM_readPlace.2.1 3 = .ok (.invokevirtual 214, 3) := by decide +kernel
theorem dM_readPlace_6 : decode mM_readPlace.2.1 6 = .ok (.aload_n 0, 1) := by decide +kernel
theorem dM_readPlace_7 : decode mM_readPlace.2.1 7 = .ok (.iconst 1, 1) := by decide +kernel
theorem dM_readPlace_8 : decode mM_readPlace.2.1 8 = .ok (.invokevirtual 236, 3) := by decide +kernel
theorem dM_readPlace_11 : decode mM_readPlace.2.1 11 = .ok (.istore_n 2, 1) := by decide +kernel
theorem dM_readPlace_12 : decode mM_readPlace.2.1 12 = .ok (.aload_n 0, 1) := by decide +kernel
theorem dM_readPlace_13 : decode mM_readPlace.2.1 13 = .ok (.getfield 78, 3) := by decide +kernel
theorem dM_readPlace_16 : decode mM_readPlace.2.1 16 = .ok (.iconst 5, 1) := by decide +kernel
theorem dM_readPlace_17 : decode mM_readPlace.2.1 17 = .ok (.if_icmp .eq 26, 3) := by decide +kernel
theorem dM_readPlace_20 : decode mM_readPlace.2.1 20 = .ok (.aload_n 0, 1) := by decide +kernel
theorem dM_readPlace_21 : decode mM_readPlace.2.1 21 = .ok (.getfield 147, 3) := by decide +kernel
theorem dM_readPlace_24 : decode mM_readPlace.2.1 24 = .ok (.getfield 268, 3) := by decide +kernel
theorem dM_readPlace_27 : decode mM_readPlace.2.1 27 = .ok (.iconst 2, 1) := by decide +kernel
theorem dM_readPlace_28 : decode mM_readPlace.2.1 28 = .ok (.iload_n 1, 1) := by decide +kernel
theorem dM_readPlace_29 : decode mM_readPlace.2.1 29 = .ok (.imul, 1) := by decide +kernel
theorem dM_readPlace_30 : decode mM_readPlace.2.1 30 = .ok (.iload_n 2, 1) := by decide +kernel
theorem dM_readPlace_31 : decode mM_readPlace.2.1 31 = .ok (.iadd, 1) := by decide +kernel
theorem dM_readPlace_32 : decode mM_readPlace.2.1 32 = .ok (.iaload, 1) := by decide +kernel
theorem dM_readPlace_33 : decode mM_readPlace.2.1 33 = .ok (.bipush (-2), 2) := by decide +kernel
theorem dM_readPlace_35 : decode mM_readPlace.2.1 35 = .ok (.if_icmp .eq 8, 3) := by decide +kernel
theorem dM_readPlace_38 : decode mM_readPlace.2.1 38 = .ok (.aload_n 0, 1) := by decide +kernel
theorem dM_readPlace_39 : decode mM_readPlace.2.1 39 = .ok (.iconst 3, 1) := by decide +kernel
theorem dM_readPlace_40 : decode mM_readPlace.2.1 40 = .ok (.invokevirtual 143, 3) := by decide +kernel
theorem dM_readPlace_43 : decode mM_readPlace.2.1 43 = .ok (.aload_n 0, 1) := by decide +kernel
theorem dM_readPlace_44 : decode mM_readPlace.2.1 44 = .ok (.invokevirtual 114, 3) := by decide +kernel
theorem dM_readPlace_47 : decode mM_readPlace.2.1 47 = .ok (.iconst 0, 1) := by decide +kernel
theorem dM_readPlace_48 : decode mM_readPlace.2.1 48 = .ok (.istore_n 3, 1) := by decide +kernel
theorem dM_readPlace_49 : decode mM_readPlace.2.1 49 = .ok (.iload_n 1, 1) := by decide +kernel
theorem dM_readPlace_50 : decode mM_readPlace.2.1 50 = .ok (.ifCond .eq 12, 3) := by decide +kernel
theorem dM_readPlace_53 : decode mM_readPlace.2.1 53 = .ok (.aload_n 0, 1) := by decide +kernel
theorem dM_readPlace_54 : decode mM_readPlace.2.1 54 = .ok (.ldc 117, 2) := by decide +kernel
theorem dM_readPlace_56 : decode mM_readPlace.2.1 56 = .ok (.invokevirtual 119, 3) := by decide +kernel
theorem dM_readPlace_59 : decode mM_readPlace.2.1 59 = .ok (.ifCond .ne 11, 3) := by decide +kernel
theorem dM_readPlace_62 : decode mM_readPlace.2.1 62 = .ok (.aload_n 0, 1) := by decide +kernel
theorem dM_readPlace_63 : decode mM_readPlace.2.1 63 = .ok (.iconst 0, 1) := by decide +kernel
theorem dM_readPlace_64 : decode mM_readPlace.2.1 64 = .ok (.invokevirtual 236, 3) := by decide +kernel
theorem dM_readPlace_67 : decode mM_readPlace.2.1 67 = .ok (.iconst 1, 1) := by decide +kernel
theorem dM_readPlace_68 : decode mM_readPlace.2.1 68 = .ok (.iadd, 1) := by decide +kernel
theorem dM_readPlace_69 : decode mM_readPlace.2.1 69 = .ok (.istore_n 3, 1) := by decide +kernel
theorem dM_readPlace_70 : decode mM_readPlace.2.1 70 = .ok (.aload_n 0, 1) := by decide +kernel
theorem dM_readPlace_71 : decode mM_readPlace.2.1 71 = .ok (.invokevirtual 114, 3) := by decide +kernel
theorem dM_readPlace_74 : decode mM_readPlace.2.1 74 = .ok (.aload_n 0, 1) := by decide +kernel
theorem dM_readPlace_75 : decode mM_readPlace.2.1 75 = .ok (.getfield 78, 3) := by decide +kernel
theorem dM_readPlace_78 : decode mM_readPlace.2.1 78 = .ok (.iconst 5, 1) := by decide +kernel
theorem dM_readPlace_79 : decode mM_readPlace.2.1 79 = .ok (.if_icmp .ne 4, 3) := by decide +kernel
theorem dM_readPlace_82 : decode mM_readPlace.2.1 82 = .ok (.return_, 1) := by decide +kernel
theorem dM_readPlace_83 : decode mM_readPlace.2.1 83 = .ok (.aload_n 0, 1) := by decide +kernel
theorem dM_readPlace_84 : decode mM_readPlace.2.1 84 = .ok (.getfield 147, 3) := by decide +kernel
theorem dM_readPlace_87 : decode mM_readPlace.2.1 87 = .ok (.getfield 268, 3) := by decide +kernel
theorem dM_readPlace_90 : decode mM_readPlace.2.1 90 = .ok (.iconst 2, 1) := by decide +kernel
theorem dM_readPlace_91 : decode mM_readPlace.2.1 91 = .ok (.iload_n 1, 1) := by decide +kernel
theorem dM_readPlace_92 : decode mM_readPlace.2.1 92 = .ok (.imul, 1) := by decide +kernel
theorem dM_readPlace_93 : decode mM_readPlace.2.1 93 = .ok (.iload_n 2, 1) := by decide +kernel
theorem dM_readPlace_94 : decode mM_readPlace.2.1 94 = .ok (.iadd, 1) := by decide +kernel
theorem dM_readPlace_95 : decode mM_readPlace.2.1 95 = .ok (.iload_n 3, 1) := by decide +kernel
theorem dM_readPlace_96 : decode mM_readPlace.2.1 96 = .ok (.iastore, 1) := by decide +kernel
theorem dM_readPlace_97 : decode mM_readPlace.2.1 97 = .ok (.aload_n 0, 1) := by decide +kernel
theorem dM_readPlace_98 : decode mM_readPlace.2.1 98 = .ok (.getfield 147, 3) := by decide +kernel
theorem dM_readPlace_101 : decode mM_readPlace.2.1 101 = .ok (.getfield 271, 3) := by decide +kernel
theorem dM_readPlace_104 : decode mM_readPlace.2.1 104 = .ok (.iload_n 1, 1) := by decide +kernel
theorem dM_readPlace_105 : decode mM_readPlace.2.1 105 = .ok (.dup2, 1) := by decide +kernel
theorem dM_readPlace_106 : decode mM_readPlace.2.1 106 = .ok (.iaload, 1) := by decide +kernel
theorem dM_readPlace_107 : decode mM_readPlace.2.1 107 = .ok (.iconst 1, 1) := by decide +kernel
theorem dM_readPlace_108 : decode mM_readPlace.2.1 108 = .ok (.iadd, 1) := by decide +kernel
theorem dM_readPlace_109 : decode mM_readPlace.2.1 109 = .ok (.iastore, 1) := by decide +kernel
theorem dM_readPlace_110 : decode mM_readPlace.2.1 110 = .ok (.return_, 1) := by decide +kernel
section Mod44
variable {G : GE} {V V' V1 V2 : Nat → Nat → Int} {σ : Shp} {K : Option AV → Mem → Prop} {l n e : Nat} {B : Nat → Int} {r : PR} {t : TK}
theorem cntB_up {p q : Nat → Bool} {i : Nat} : ∀ {N : Nat}, i < N → (∀ j, j ≠ i → q j = p j) → p i = false → q i = true → cntB q N = cntB p N + 1
  | 0, h, _, _, _ => absurd h (by omega)
  | N + 1, h, h1, h2, h3 => by
    by_cases e : i = N
    · subst e
      rw [cntB_1 h3, cntB_0 h2, cntB_cg (f := q) (g := p) i (fun j hj => h1 j (by omega))]
    · have := cntB_up (N := N) (by omega) h1 h2 h3
      cases hp : p N
      · rw [cntB_0 hp, cntB_0 ((h1 N (fun z => e z.symm)).trans hp), this]
      · rw [cntB_1 hp, cntB_1 ((h1 N (fun z => e z.symm)).trans hp), this]
theorem uF_at {α : Type} (f : Nat → α) (i : Nat) (v : α) : uF f i v i = v := if_pos rfl
theorem uF_ne {α : Type} {f : Nat → α} {i j : Nat} {v : α} (h : j ≠ i) : uF f i v j = f j := if_neg h
theorem wM_readLane (hM : moS σ l) (hl : laS σ e) (h4p : sP σ 53 4 = e) (he : 64 ≤ e) (h : GS V e n B r t) (h4 : t.1 ≠ 4) (hK : MrK K V σ e n B (pLane B n r t)) : Wp G 8 mM_readLane [vR 53] (V, σ) 0 0 K := by
  have e0 : V e 0 = (if r.2.1 then (tDr r.1 : Int) else -1) := h.2.1.1.1
  have et : V e 0 ≠ -1 → r.2.1 = true := fun q => by cases hr : r.2.1; rw [hr] at e0; exact absurd e0 q; rfl
  have ef : V e 0 = -1 → r.2.1 = false := fun q => by cases hr : r.2.1; rfl; rw [hr, if_pos rfl] at e0; omega
  unfold pLane at hK
  refine wp_intro mM_readLane_i.1 [some (vR 53), none] rfl rfl (Nat.le_of_ble_eq_true rfl) ?_
  intro X hG F C
  have hm := C.rm
  refine aw_aload_0 (q := 1) F dM_readLane_0 rfl ?_
  refine av_getaE (q := 4) F fM_147 dM_readLane_1 rfl rfl (by first | exact hM.o | exact hl.o | exact hl.a6 | exact hl.a7 | exact hl.a8 | exact hl.a2 | exact hl.a3 | exact hl.a4 | exact hl.a5) h4p ?_
  refine av_geti (q := 7) F fM_151 dM_readLane_4 rfl rfl (by first | exact hM.o | exact hl.o | exact hl.a6 | exact hl.a7 | exact hl.a8 | exact hl.a2 | exact hl.a3 | exact hl.a4 | exact hl.a5) ?_
  refine aw_iconst (q := 8) F dM_readLane_7 rfl (by decide) ?_
  refine aw_icmp_eq (q := 11) (t := 16) F dM_readLane_8 rfl (by decide) (fun c8 => ?_) (fun c8 => ?_)
  · refine aw_aload_0 (q := 17) F dM_readLane_16 rfl ?_
    refine av_callV0 (q := 20) (ci := 9) F hm mM_goesOn_i mM_goesOn_n lM_114 dM_readLane_17 rfl rfl rfl (by first | exact hM.o | exact hl.o | exact hl.a6 | exact hl.a7 | exact hl.a8 | exact hl.a2 | exact hl.a3 | exact hl.a4 | exact hl.a5) (by decide) (Nat.le_refl _) (Nat.le_refl _) (Nat.le_of_ble_eq_true rfl) (h.go hM he h4 (fun V1 f17 g17 => ?_))
    rw [ef c8, if_neg Bool.false_ne_true] at hK
    refine aw_aload_0 (q := 21) F dM_readLane_20 rfl ?_
    refine aw_ldcS (q := 23) (j := 4) F dM_readLane_21 rfl (by decide) rfl rfl ?_
    refine av_callV1 (q := 26) (ci := 9) F hm mM_isWord_i mM_isWord_n lM_119 dM_readLane_23 rfl rfl rfl (by first | exact hM.o | exact hl.o | exact hl.a6 | exact hl.a7 | exact hl.a8 | exact hl.a2 | exact hl.a3 | exact hl.a4 | exact hl.a5) (by decide) (Nat.le_refl _) (Nat.le_refl _) (Nat.le_of_ble_eq_true rfl) (wM_isWord (j := 4) (by decide) (by decide) hM (fun w23 => ?_) (fun w23 => ?_))
    · refine aw_if_ne (q := 29) (t := 34) F dM_readLane_26 rfl (by decide) (fun c26 => ?_) (fun c26 => absurd c26 (by decide))
      first | (have hw1 := (g17.1.wv 4).mp w23; rw [if_neg (fun q => (wn1 _).mp q hw1)] at hK) | skip
      refine aw_aload_0 (q := 35) F dM_readLane_34 rfl ?_
      refine av_callV0 (q := 38) (ci := 9) F hm mM_goesOn_i mM_goesOn_n lM_114 dM_readLane_35 rfl rfl rfl (by first | exact hM.o | exact hl.o | exact hl.a6 | exact hl.a7 | exact hl.a8 | exact hl.a2 | exact hl.a3 | exact hl.a4 | exact hl.a5) (by decide) (Nat.le_refl _) (Nat.le_refl _) (Nat.le_of_ble_eq_true rfl) (g17.go hM he (by rw [hw1.1]; decide) (fun V2 f35 g35 => ?_))
      refine aw_aload_0 (q := 39) F dM_readLane_38 rfl ?_
      refine av_geti (q := 42) F fM_78 dM_readLane_39 rfl rfl (by first | exact hM.o | exact hl.o | exact hl.a6 | exact hl.a7 | exact hl.a8 | exact hl.a2 | exact hl.a3 | exact hl.a4 | exact hl.a5) ?_
      refine aw_iconst (q := 43) F dM_readLane_42 rfl (by decide) ?_
      refine aw_icmp_eq (q := 46) (t := 54) F dM_readLane_43 rfl (by decide) (fun c43 => ?_) (fun c43 => ?_)
      · have hs2 := g35.1.2.2.2.2.2.1.mpr c43
        rw [if_pos hs2] at hK
        have hnum : V2 53 11 = _ := g35.1.2.2.2.2.2.2.1 hs2
        refine aw_aload_0 (q := 55) F dM_readLane_54 rfl ?_
        refine av_geti (q := 58) F fM_101 dM_readLane_55 rfl rfl (by first | exact hM.o | exact hl.o | exact hl.a6 | exact hl.a7 | exact hl.a8 | exact hl.a2 | exact hl.a3 | exact hl.a4 | exact hl.a5) ?_
        rw [hnum]
        refine aw_bipush (q := 60) F dM_readLane_58 rfl (by decide) ?_
        refine aw_icmp_le (q := 63) (t := 68) F dM_readLane_60 rfl (by decide) (fun c60 => ?_) (fun c60 => ?_)
        · refine aw_aload_0 (q := 69) F dM_readLane_68 rfl ?_
          refine av_geti (q := 72) F fM_101 dM_readLane_69 rfl rfl (by first | exact hM.o | exact hl.o | exact hl.a6 | exact hl.a7 | exact hl.a8 | exact hl.a2 | exact hl.a3 | exact hl.a4 | exact hl.a5) ?_
          rw [hnum]
          refine aw_istore_1 (q := 73) F dM_readLane_72 rfl trivial ?_
          refine aw_aload_0 (q := 74) F dM_readLane_73 rfl ?_
          refine av_callV0 (q := 77) (ci := 9) F hm mM_goesOn_i mM_goesOn_n lM_114 dM_readLane_74 rfl rfl rfl (by first | exact hM.o | exact hl.o | exact hl.a6 | exact hl.a7 | exact hl.a8 | exact hl.a2 | exact hl.a3 | exact hl.a4 | exact hl.a5) (by decide) (Nat.le_refl _) (Nat.le_refl _) (Nat.le_of_ble_eq_true rfl) (g35.go hM he (by rw [hs2]; decide) (fun V4 f74 g74 => ?_))
          refine aw_aload_0 (q := 78) F dM_readLane_77 rfl ?_
          refine av_geti (q := 81) F fM_78 dM_readLane_78 rfl rfl (by first | exact hM.o | exact hl.o | exact hl.a6 | exact hl.a7 | exact hl.a8 | exact hl.a2 | exact hl.a3 | exact hl.a4 | exact hl.a5) ?_
          refine aw_iconst (q := 82) F dM_readLane_81 rfl (by decide) ?_
          refine aw_icmp_eq (q := 85) (t := 93) F dM_readLane_82 rfl (by decide) (fun c82 => by exact absurd c82 g74.1.1.2) (fun c82 => ?_)
          refine aw_aload_0 (q := 86) F dM_readLane_85 rfl ?_
          refine av_getaE (q := 89) F fM_147 dM_readLane_86 rfl rfl (by first | exact hM.o | exact hl.o | exact hl.a6 | exact hl.a7 | exact hl.a8 | exact hl.a2 | exact hl.a3 | exact hl.a4 | exact hl.a5) h4p ?_
          refine aw_iload_1 (q := 90) F dM_readLane_89 rfl ?_
          refine av_puti (q := 93) F fM_151 dM_readLane_90 rfl rfl (wr_8_0 _) (by first | exact hM.o | exact hl.o | exact hl.a6 | exact hl.a7 | exact hl.a8 | exact hl.a2 | exact hl.a3 | exact hl.a4 | exact hl.a5) ?_
          refine aw_vret F C dM_readLane_93 rfl (Nat.le_refl _) (Nat.le_refl _) ?_
          obtain ⟨x0, x1, x2, x3, x4, x5, x6, x7, x8, x14⟩ := g74.2.1.1
          have ek : ∀ j, j ≠ 0 → up2 V4 e 0 (((nxT B n (nxT B n t)).2.2.2 : Nat) : Int) e j = V4 e j := fun j hj => up2_nek _ _ hj
          refine hK.1 _ (uDr r.1 (nxT B n (nxT B n t)).2.2.2, true, r.2.2) _ (if_pos (by omega)) ((((f17.tr f35).tr f74).pf).la (by omega) ⟨by omega, by omega⟩) (g74.w (up2_nea _ _ (by omega)) (up2_nea _ _ (by omega)) (g74.2.1.f ?_ g74.2.1.2.1 g74.2.1.2.2))
          exact ⟨up2_same _ _ _ _, (ek 1 (by decide)).trans x1, (ek 2 (by decide)).trans x2, (ek 3 (by decide)).trans x3, (ek 4 (by decide)).trans x4, (ek 5 (by decide)).trans x5, (ek 6 (by decide)).trans x6, (ek 7 (by decide)).trans x7, (ek 8 (by decide)).trans x8, (ek 14 (by decide)).trans x14⟩
        · refine aw_aload_0 (q := 64) F dM_readLane_63 rfl ?_
          refine aw_iconst (q := 65) F dM_readLane_64 rfl (by decide) ?_
          refine av_callV1 (q := 68) (ci := 9) F hm mM_flaw_i mM_flaw_n lM_143 dM_readLane_65 rfl rfl rfl (by first | exact hM.o | exact hl.o | exact hl.a6 | exact hl.a7 | exact hl.a8 | exact hl.a2 | exact hl.a3 | exact hl.a4 | exact hl.a5) (by decide) (Nat.le_refl _) (Nat.le_refl _) (Nat.le_of_ble_eq_true rfl) (g35.ov hM (k := 4) rfl (by decide) (fun VO HO HQ => ?_))
          first | (have HK : K none (VO, σ) := hK.2 VO _ _ (if_neg (by omega)) ((f17.tr f35).tr HQ).pf HO) | skip
          refine aw_aload_0 (q := 69) F dM_readLane_68 rfl ?_
          refine av_geti (q := 72) F fM_101 dM_readLane_69 rfl rfl (by first | exact hM.o | exact hl.o | exact hl.a6 | exact hl.a7 | exact hl.a8 | exact hl.a2 | exact hl.a3 | exact hl.a4 | exact hl.a5) ?_
          skip
          refine aw_istore_1 (q := 73) F dM_readLane_72 rfl trivial ?_
          refine aw_aload_0 (q := 74) F dM_readLane_73 rfl ?_
          refine av_callV0 (q := 77) (ci := 9) F hm mM_goesOn_i mM_goesOn_n lM_114 dM_readLane_74 rfl rfl rfl (by first | exact hM.o | exact hl.o | exact hl.a6 | exact hl.a7 | exact hl.a8 | exact hl.a2 | exact hl.a3 | exact hl.a4 | exact hl.a5) (by decide) (Nat.le_refl _) (Nat.le_refl _) (Nat.le_of_ble_eq_true rfl) (wM_goesOnO hM HO.1 ?_)
          refine aw_aload_0 (q := 78) F dM_readLane_77 rfl ?_
          refine av_geti (q := 81) F fM_78 dM_readLane_78 rfl rfl (by first | exact hM.o | exact hl.o | exact hl.a6 | exact hl.a7 | exact hl.a8 | exact hl.a2 | exact hl.a3 | exact hl.a4 | exact hl.a5) ?_
          refine aw_iconst (q := 82) F dM_readLane_81 rfl (by decide) ?_
          refine aw_icmp_eq (q := 85) (t := 93) F dM_readLane_82 rfl (by decide) (fun c82 => ?_) (fun c82 => by exact absurd HO.1 c82)
          refine aw_vret F C dM_readLane_93 rfl (Nat.le_refl _) (Nat.le_refl _) ?_
          exact HK
      · refine aw_aload_0 (q := 47) F dM_readLane_46 rfl ?_
        refine aw_iconst (q := 48) F dM_readLane_47 rfl (by decide) ?_
        refine av_callV1 (q := 51) (ci := 9) F hm mM_flaw_i mM_flaw_n lM_143 dM_readLane_48 rfl rfl rfl (by first | exact hM.o | exact hl.o | exact hl.a6 | exact hl.a7 | exact hl.a8 | exact hl.a2 | exact hl.a3 | exact hl.a4 | exact hl.a5) (by decide) (Nat.le_refl _) (Nat.le_refl _) (Nat.le_of_ble_eq_true rfl) (g35.ov hM (k := 1) rfl (by decide) (fun VO HO HQ => ?_))
        first | (have HK : K none (VO, σ) := hK.2 VO _ _ (if_neg (fun q => c43 (g35.1.2.2.2.2.2.1.mp q))) ((f17.tr f35).tr HQ).pf HO) | skip
        refine aw_goto (t := 68) F dM_readLane_51 (by decide) ?_
        refine aw_aload_0 (q := 69) F dM_readLane_68 rfl ?_
        refine av_geti (q := 72) F fM_101 dM_readLane_69 rfl rfl (by first | exact hM.o | exact hl.o | exact hl.a6 | exact hl.a7 | exact hl.a8 | exact hl.a2 | exact hl.a3 | exact hl.a4 | exact hl.a5) ?_
        skip
        refine aw_istore_1 (q := 73) F dM_readLane_72 rfl trivial ?_
        refine aw_aload_0 (q := 74) F dM_readLane_73 rfl ?_
        refine av_callV0 (q := 77) (ci := 9) F hm mM_goesOn_i mM_goesOn_n lM_114 dM_readLane_74 rfl rfl rfl (by first | exact hM.o | exact hl.o | exact hl.a6 | exact hl.a7 | exact hl.a8 | exact hl.a2 | exact hl.a3 | exact hl.a4 | exact hl.a5) (by decide) (Nat.le_refl _) (Nat.le_refl _) (Nat.le_of_ble_eq_true rfl) (wM_goesOnO hM HO.1 ?_)
        refine aw_aload_0 (q := 78) F dM_readLane_77 rfl ?_
        refine av_geti (q := 81) F fM_78 dM_readLane_78 rfl rfl (by first | exact hM.o | exact hl.o | exact hl.a6 | exact hl.a7 | exact hl.a8 | exact hl.a2 | exact hl.a3 | exact hl.a4 | exact hl.a5) ?_
        refine aw_iconst (q := 82) F dM_readLane_81 rfl (by decide) ?_
        refine aw_icmp_eq (q := 85) (t := 93) F dM_readLane_82 rfl (by decide) (fun c82 => ?_) (fun c82 => by exact absurd HO.1 c82)
        refine aw_vret F C dM_readLane_93 rfl (Nat.le_refl _) (Nat.le_refl _) ?_
        exact HK
    · refine aw_if_ne (q := 29) (t := 34) F dM_readLane_26 rfl (by decide) (fun c26 => absurd c26 (by decide)) (fun c26 => ?_)
      refine aw_aload_0 (q := 30) F dM_readLane_29 rfl ?_
      refine aw_iconst (q := 31) F dM_readLane_30 rfl (by decide) ?_
      refine av_callV1 (q := 34) (ci := 9) F hm mM_flaw_i mM_flaw_n lM_143 dM_readLane_31 rfl rfl rfl (by first | exact hM.o | exact hl.o | exact hl.a6 | exact hl.a7 | exact hl.a8 | exact hl.a2 | exact hl.a3 | exact hl.a4 | exact hl.a5) (by decide) (Nat.le_refl _) (Nat.le_refl _) (Nat.le_of_ble_eq_true rfl) (g17.ov hM (k := 1) rfl (by decide) (fun VO HO HQ => ?_))
      first | (have HK : K none (VO, σ) := hK.2 VO _ _ (if_pos ((wn1 _).mpr (fun q => w23 ((g17.1.wv 4).mpr q)))) (f17.tr HQ).pf HO) | skip
      first | (have hw1 := (g17.1.wv 4).mp w23; rw [if_neg (fun q => (wn1 _).mp q hw1)] at hK) | skip
      refine aw_aload_0 (q := 35) F dM_readLane_34 rfl ?_
      refine av_callV0 (q := 38) (ci := 9) F hm mM_goesOn_i mM_goesOn_n lM_114 dM_readLane_35 rfl rfl rfl (by first | exact hM.o | exact hl.o | exact hl.a6 | exact hl.a7 | exact hl.a8 | exact hl.a2 | exact hl.a3 | exact hl.a4 | exact hl.a5) (by decide) (Nat.le_refl _) (Nat.le_refl _) (Nat.le_of_ble_eq_true rfl) (wM_goesOnO hM HO.1 ?_)
      refine aw_aload_0 (q := 39) F dM_readLane_38 rfl ?_
      refine av_geti (q := 42) F fM_78 dM_readLane_39 rfl rfl (by first | exact hM.o | exact hl.o | exact hl.a6 | exact hl.a7 | exact hl.a8 | exact hl.a2 | exact hl.a3 | exact hl.a4 | exact hl.a5) ?_
      refine aw_iconst (q := 43) F dM_readLane_42 rfl (by decide) ?_
      refine aw_icmp_eq (q := 46) (t := 54) F dM_readLane_43 rfl (by decide) (fun c43 => by exact absurd (HO.1.symm.trans c43) (by decide)) (fun c43 => ?_)
      refine aw_aload_0 (q := 47) F dM_readLane_46 rfl ?_
      refine aw_iconst (q := 48) F dM_readLane_47 rfl (by decide) ?_
      refine av_callV1 (q := 51) (ci := 9) F hm mM_flaw_i mM_flaw_n lM_143 dM_readLane_48 rfl rfl rfl (by first | exact hM.o | exact hl.o | exact hl.a6 | exact hl.a7 | exact hl.a8 | exact hl.a2 | exact hl.a3 | exact hl.a4 | exact hl.a5) (by decide) (Nat.le_refl _) (Nat.le_refl _) (Nat.le_of_ble_eq_true rfl) (wM_flawO hM HO.1 ?_)
      first | (have HK : K none (VO, σ) := hK.2 VO _ _ (if_neg (fun q => c43 (g35.1.2.2.2.2.2.1.mp q))) ((f17.tr f35).tr HQ).pf HO) | skip
      refine aw_goto (t := 68) F dM_readLane_51 (by decide) ?_
      refine aw_aload_0 (q := 69) F dM_readLane_68 rfl ?_
      refine av_geti (q := 72) F fM_101 dM_readLane_69 rfl rfl (by first | exact hM.o | exact hl.o | exact hl.a6 | exact hl.a7 | exact hl.a8 | exact hl.a2 | exact hl.a3 | exact hl.a4 | exact hl.a5) ?_
      skip
      refine aw_istore_1 (q := 73) F dM_readLane_72 rfl trivial ?_
      refine aw_aload_0 (q := 74) F dM_readLane_73 rfl ?_
      refine av_callV0 (q := 77) (ci := 9) F hm mM_goesOn_i mM_goesOn_n lM_114 dM_readLane_74 rfl rfl rfl (by first | exact hM.o | exact hl.o | exact hl.a6 | exact hl.a7 | exact hl.a8 | exact hl.a2 | exact hl.a3 | exact hl.a4 | exact hl.a5) (by decide) (Nat.le_refl _) (Nat.le_refl _) (Nat.le_of_ble_eq_true rfl) (wM_goesOnO hM HO.1 ?_)
      refine aw_aload_0 (q := 78) F dM_readLane_77 rfl ?_
      refine av_geti (q := 81) F fM_78 dM_readLane_78 rfl rfl (by first | exact hM.o | exact hl.o | exact hl.a6 | exact hl.a7 | exact hl.a8 | exact hl.a2 | exact hl.a3 | exact hl.a4 | exact hl.a5) ?_
      refine aw_iconst (q := 82) F dM_readLane_81 rfl (by decide) ?_
      refine aw_icmp_eq (q := 85) (t := 93) F dM_readLane_82 rfl (by decide) (fun c82 => ?_) (fun c82 => by exact absurd HO.1 c82)
      refine aw_vret F C dM_readLane_93 rfl (Nat.le_refl _) (Nat.le_refl _) ?_
      exact HK
  · refine aw_aload_0 (q := 12) F dM_readLane_11 rfl ?_
    refine aw_iconst (q := 13) F dM_readLane_12 rfl (by decide) ?_
    refine av_callV1 (q := 16) (ci := 9) F hm mM_flaw_i mM_flaw_n lM_143 dM_readLane_13 rfl rfl rfl (by first | exact hM.o | exact hl.o | exact hl.a6 | exact hl.a7 | exact hl.a8 | exact hl.a2 | exact hl.a3 | exact hl.a4 | exact hl.a5) (by decide) (Nat.le_refl _) (Nat.le_refl _) (Nat.le_of_ble_eq_true rfl) (h.ov hM (k := 3) rfl (by decide) (fun VO HO HQ => ?_))
    have HK : K none (VO, σ) := hK.2 VO _ _ (if_pos (et c8)) HQ.pf HO
    refine aw_aload_0 (q := 17) F dM_readLane_16 rfl ?_
    refine av_callV0 (q := 20) (ci := 9) F hm mM_goesOn_i mM_goesOn_n lM_114 dM_readLane_17 rfl rfl rfl (by first | exact hM.o | exact hl.o | exact hl.a6 | exact hl.a7 | exact hl.a8 | exact hl.a2 | exact hl.a3 | exact hl.a4 | exact hl.a5) (by decide) (Nat.le_refl _) (Nat.le_refl _) (Nat.le_of_ble_eq_true rfl) (wM_goesOnO hM HO.1 ?_)
    skip
    refine aw_aload_0 (q := 21) F dM_readLane_20 rfl ?_
    refine aw_ldcS (q := 23) (j := 4) F dM_readLane_21 rfl (by decide) rfl rfl ?_
    refine av_callV1 (q := 26) (ci := 9) F hm mM_isWord_i mM_isWord_n lM_119 dM_readLane_23 rfl rfl rfl (by first | exact hM.o | exact hl.o | exact hl.a6 | exact hl.a7 | exact hl.a8 | exact hl.a2 | exact hl.a3 | exact hl.a4 | exact hl.a5) (by decide) (Nat.le_refl _) (Nat.le_refl _) (Nat.le_of_ble_eq_true rfl) (wM_isWordO (j := 4) (by decide) (by decide) hM HO.1 ?_)
    refine aw_if_ne (q := 29) (t := 34) F dM_readLane_26 rfl (by decide) (fun c26 => absurd c26 (by decide)) (fun c26 => ?_)
    refine aw_aload_0 (q := 30) F dM_readLane_29 rfl ?_
    refine aw_iconst (q := 31) F dM_readLane_30 rfl (by decide) ?_
    refine av_callV1 (q := 34) (ci := 9) F hm mM_flaw_i mM_flaw_n lM_143 dM_readLane_31 rfl rfl rfl (by first | exact hM.o | exact hl.o | exact hl.a6 | exact hl.a7 | exact hl.a8 | exact hl.a2 | exact hl.a3 | exact hl.a4 | exact hl.a5) (by decide) (Nat.le_refl _) (Nat.le_refl _) (Nat.le_of_ble_eq_true rfl) (wM_flawO hM HO.1 ?_)
    first | (have HK : K none (VO, σ) := hK.2 VO _ _ (if_pos ((wn1 _).mpr (fun q => w23 ((g17.1.wv 4).mpr q)))) (f17.tr HQ).pf HO) | skip
    first | (have hw1 := (g17.1.wv 4).mp w23; rw [if_neg (fun q => (wn1 _).mp q hw1)] at hK) | skip
    refine aw_aload_0 (q := 35) F dM_readLane_34 rfl ?_
    refine av_callV0 (q := 38) (ci := 9) F hm mM_goesOn_i mM_goesOn_n lM_114 dM_readLane_35 rfl rfl rfl (by first | exact hM.o | exact hl.o | exact hl.a6 | exact hl.a7 | exact hl.a8 | exact hl.a2 | exact hl.a3 | exact hl.a4 | exact hl.a5) (by decide) (Nat.le_refl _) (Nat.le_refl _) (Nat.le_of_ble_eq_true rfl) (wM_goesOnO hM HO.1 ?_)
    refine aw_aload_0 (q := 39) F dM_readLane_38 rfl ?_
    refine av_geti (q := 42) F fM_78 dM_readLane_39 rfl rfl (by first | exact hM.o | exact hl.o | exact hl.a6 | exact hl.a7 | exact hl.a8 | exact hl.a2 | exact hl.a3 | exact hl.a4 | exact hl.a5) ?_
    refine aw_iconst (q := 43) F dM_readLane_42 rfl (by decide) ?_
    refine aw_icmp_eq (q := 46) (t := 54) F dM_readLane_43 rfl (by decide) (fun c43 => by exact absurd (HO.1.symm.trans c43) (by decide)) (fun c43 => ?_)
    refine aw_aload_0 (q := 47) F dM_readLane_46 rfl ?_
    refine aw_iconst (q := 48) F dM_readLane_47 rfl (by decide) ?_
    refine av_callV1 (q := 51) (ci := 9) F hm mM_flaw_i mM_flaw_n lM_143 dM_readLane_48 rfl rfl rfl (by first | exact hM.o | exact hl.o | exact hl.a6 | exact hl.a7 | exact hl.a8 | exact hl.a2 | exact hl.a3 | exact hl.a4 | exact hl.a5) (by decide) (Nat.le_refl _) (Nat.le_refl _) (Nat.le_of_ble_eq_true rfl) (wM_flawO hM HO.1 ?_)
    first | (have HK : K none (VO, σ) := hK.2 VO _ _ (if_neg (fun q => c43 (g35.1.2.2.2.2.2.1.mp q))) ((f17.tr f35).tr HQ).pf HO) | skip
    refine aw_goto (t := 68) F dM_readLane_51 (by decide) ?_
    refine aw_aload_0 (q := 69) F dM_readLane_68 rfl ?_
    refine av_geti (q := 72) F fM_101 dM_readLane_69 rfl rfl (by first | exact hM.o | exact hl.o | exact hl.a6 | exact hl.a7 | exact hl.a8 | exact hl.a2 | exact hl.a3 | exact hl.a4 | exact hl.a5) ?_
    skip
    refine aw_istore_1 (q := 73) F dM_readLane_72 rfl trivial ?_
    refine aw_aload_0 (q := 74) F dM_readLane_73 rfl ?_
    refine av_callV0 (q := 77) (ci := 9) F hm mM_goesOn_i mM_goesOn_n lM_114 dM_readLane_74 rfl rfl rfl (by first | exact hM.o | exact hl.o | exact hl.a6 | exact hl.a7 | exact hl.a8 | exact hl.a2 | exact hl.a3 | exact hl.a4 | exact hl.a5) (by decide) (Nat.le_refl _) (Nat.le_refl _) (Nat.le_of_ble_eq_true rfl) (wM_goesOnO hM HO.1 ?_)
    refine aw_aload_0 (q := 78) F dM_readLane_77 rfl ?_
    refine av_geti (q := 81) F fM_78 dM_readLane_78 rfl rfl (by first | exact hM.o | exact hl.o | exact hl.a6 | exact hl.a7 | exact hl.a8 | exact hl.a2 | exact hl.a3 | exact hl.a4 | exact hl.a5) ?_
    refine aw_iconst (q := 82) F dM_readLane_81 rfl (by decide) ?_
    refine aw_icmp_eq (q := 85) (t := 93) F dM_readLane_82 rfl (by decide) (fun c82 => ?_) (fun c82 => by exact absurd HO.1 c82)
    refine aw_vret F C dM_readLane_93 rfl (Nat.le_refl _) (Nat.le_refl _) ?_
    exact HK
theorem wM_readAjar (hM : moS σ l) (hl : laS σ e) (h4p : sP σ 53 4 = e) (he : 64 ≤ e) (h : GS V e n B r t) (h4 : t.1 ≠ 4) (hK : MrK K V σ e n B (if r.2.1 = false then .inr (6, t.2.1) else pAjar B n r t)) : Wp G 8 mM_readAjar [vR 53] (V, σ) 0 0 K := by
  refine wp_intro mM_readAjar_i.1 [some (vR 53), none, none] rfl rfl (Nat.le_of_ble_eq_true rfl) ?_
  intro X hG F C
  have hm := C.rm
  refine aw_aload_0 (q := 1) F dM_readAjar_0 rfl ?_
  refine aw_iconst (q := 2) F dM_readAjar_1 rfl (by decide) ?_
  refine aw_iconst (q := 3) F dM_readAjar_2 rfl (by decide) ?_
  refine av_callV2 (q := 6) (ci := 9) F hm mM_lineBegins_i mM_lineBegins_n lM_214 dM_readAjar_3 rfl rfl rfl (by first | exact hM.o | exact hl.o | exact hl.a6 | exact hl.a7 | exact hl.a8 | exact hl.a2 | exact hl.a3 | exact hl.a4 | exact hl.a5) (by decide) (Nat.le_refl _) (Nat.le_refl _) (Nat.le_of_ble_eq_true rfl) (wM_lineBegins hM hl h4p he h h4 (fun a3 b3 V1 f3 g3 => ?_) (fun q => absurd q (by decide)) (fun a3 b3 VO HO HQ => ?_))
  · rw [if_neg (by rw [b3]; decide)] at hK
    unfold pAjar at hK
    refine aw_aload_0 (q := 7) F dM_readAjar_6 rfl ?_
    refine aw_iconst (q := 8) F dM_readAjar_7 rfl (by decide) ?_
    refine av_callV1 (q := 11) (ci := 9) F hm mM_knownOne_i mM_knownOne_n lM_236 dM_readAjar_8 rfl rfl rfl (by first | exact hM.o | exact hl.o | exact hl.a6 | exact hl.a7 | exact hl.a8 | exact hl.a2 | exact hl.a3 | exact hl.a4 | exact hl.a5) (by decide) (Nat.le_refl _) (Nat.le_refl _) (Nat.le_of_ble_eq_true rfl) (wM_knownOne hM hl h4p he g3 (fun i8 a8 b8 d8 u8 => ?_) (fun a8 VO HO HQ => ?_))
    · obtain ⟨hi4, hpo⟩ := kD a8 b8 d8 u8 (fun d => if tLd r.1 d ≠ 0 then .inr (3, (nxT B n t).2.1) else if r.2.2.1 = true ∧ tLa r.1 = d then .inr (7, (nxT B n t).2.1) else pDr r (nxT B n (nxT B n t)) (fun m => .inl ((uLd r.1 d (m + 1), r.2), nxT B n (nxT B n (nxT B n t)))))
      rw [hpo] at hK
      rw [if_pos hi4]
      have eld : V1 (e + 2) ((i8 : Nat) : Int).toNat = tLd r.1 i8 := by rw [Int.toNat_natCast]; exact (g3.2.1.2.1.1 i8 hi4).2
      have e7 : V1 e 7 = (if r.2.2.1 then (tLa r.1 : Int) else -1) := g3.2.1.1.2.2.2.2.2.2.2.1
      refine aw_istore_1 (q := 12) F dM_readAjar_11 rfl trivial ?_
      refine aw_aload_0 (q := 13) F dM_readAjar_12 rfl ?_
      refine av_geti (q := 16) F fM_78 dM_readAjar_13 rfl rfl (by first | exact hM.o | exact hl.o | exact hl.a6 | exact hl.a7 | exact hl.a8 | exact hl.a2 | exact hl.a3 | exact hl.a4 | exact hl.a5) ?_
      refine aw_iconst (q := 17) F dM_readAjar_16 rfl (by decide) ?_
      refine aw_icmp_eq (q := 20) (t := 37) F dM_readAjar_17 rfl (by decide) (fun c17 => by exact absurd c17 g3.1.1.2) (fun c17 => ?_)
      refine aw_aload_0 (q := 21) F dM_readAjar_20 rfl ?_
      refine av_getaE (q := 24) F fM_147 dM_readAjar_21 rfl rfl (by first | exact hM.o | exact hl.o | exact hl.a6 | exact hl.a7 | exact hl.a8 | exact hl.a2 | exact hl.a3 | exact hl.a4 | exact hl.a5) h4p ?_
      refine av_getaE (q := 27) F fM_247 dM_readAjar_24 rfl rfl (by first | exact hM.o | exact hl.o | exact hl.a6 | exact hl.a7 | exact hl.a8 | exact hl.a2 | exact hl.a3 | exact hl.a4 | exact hl.a5) hl.p10 ?_
      refine aw_iload_1 (q := 28) F dM_readAjar_27 rfl ?_
      refine av_iaload (q := 29) F dM_readAjar_28 rfl (by first | exact hM.o | exact hl.o | exact hl.a6 | exact hl.a7 | exact hl.a8 | exact hl.a2 | exact hl.a3 | exact hl.a4 | exact hl.a5) (by omega) (by omega) ?_
      rw [eld]
      refine aw_if_le (q := 32) (t := 37) F dM_readAjar_29 rfl (by decide) (fun c29 => ?_) (fun c29 => ?_)
      · first | rw [if_neg (show ¬ tLd r.1 i8 ≠ 0 by omega)] at hK | skip
        refine aw_aload_0 (q := 38) F dM_readAjar_37 rfl ?_
        refine av_geti (q := 41) F fM_78 dM_readAjar_38 rfl rfl (by first | exact hM.o | exact hl.o | exact hl.a6 | exact hl.a7 | exact hl.a8 | exact hl.a2 | exact hl.a3 | exact hl.a4 | exact hl.a5) ?_
        refine aw_iconst (q := 42) F dM_readAjar_41 rfl (by decide) ?_
        refine aw_icmp_eq (q := 45) (t := 62) F dM_readAjar_42 rfl (by decide) (fun c42 => by exact absurd c42 g3.1.1.2) (fun c42 => ?_)
        refine aw_aload_0 (q := 46) F dM_readAjar_45 rfl ?_
        refine av_getaE (q := 49) F fM_147 dM_readAjar_46 rfl rfl (by first | exact hM.o | exact hl.o | exact hl.a6 | exact hl.a7 | exact hl.a8 | exact hl.a2 | exact hl.a3 | exact hl.a4 | exact hl.a5) h4p ?_
        refine av_geti (q := 52) F fM_245 dM_readAjar_49 rfl rfl (by first | exact hM.o | exact hl.o | exact hl.a6 | exact hl.a7 | exact hl.a8 | exact hl.a2 | exact hl.a3 | exact hl.a4 | exact hl.a5) ?_
        refine aw_iload_1 (q := 53) F dM_readAjar_52 rfl ?_
        refine aw_icmp_ne (q := 56) (t := 62) F dM_readAjar_53 rfl (by decide) (fun c53 => ?_) (fun c53 => ?_)
        · rw [if_neg (fun q => c53 (by rw [e7, if_pos q.1, q.2]))] at hK
          refine aw_aload_0 (q := 63) F dM_readAjar_62 rfl ?_
          refine av_callV0 (q := 66) (ci := 9) F hm mM_goesOn_i mM_goesOn_n lM_114 dM_readAjar_63 rfl rfl rfl (by first | exact hM.o | exact hl.o | exact hl.a6 | exact hl.a7 | exact hl.a8 | exact hl.a2 | exact hl.a3 | exact hl.a4 | exact hl.a5) (by decide) (Nat.le_refl _) (Nat.le_refl _) (Nat.le_of_ble_eq_true rfl) (g3.go hM he (nm_ne4 b8) (fun V3 f63 g63 => ?_))
          refine aw_aload_0 (q := 67) F dM_readAjar_66 rfl ?_
          refine aw_iconst (q := 68) F dM_readAjar_67 rfl (by decide) ?_
          refine av_callV1 (q := 71) (ci := 9) F hm mM_knownOne_i mM_knownOne_n lM_236 dM_readAjar_68 rfl rfl rfl (by first | exact hM.o | exact hl.o | exact hl.a6 | exact hl.a7 | exact hl.a8 | exact hl.a2 | exact hl.a3 | exact hl.a4 | exact hl.a5) (by decide) (Nat.le_refl _) (Nat.le_refl _) (Nat.le_of_ble_eq_true rfl) (wM_knownOne hM hl h4p he g63 (fun i68 a68 b68 d68 u68 => ?_) (fun a68 VO HO HQ => ?_))
          · obtain ⟨hj4, hpo2⟩ := kD a68 b68 d68 u68 (fun m => .inl ((uLd r.1 i8 (m + 1), r.2), nxT B n (nxT B n (nxT B n t))))
            rw [hpo2] at hK
            rw [if_pos hj4]
            refine aw_istore_2 (q := 72) F dM_readAjar_71 rfl trivial ?_
            refine aw_aload_0 (q := 73) F dM_readAjar_72 rfl ?_
            refine av_callV0 (q := 76) (ci := 9) F hm mM_goesOn_i mM_goesOn_n lM_114 dM_readAjar_73 rfl rfl rfl (by first | exact hM.o | exact hl.o | exact hl.a6 | exact hl.a7 | exact hl.a8 | exact hl.a2 | exact hl.a3 | exact hl.a4 | exact hl.a5) (by decide) (Nat.le_refl _) (Nat.le_refl _) (Nat.le_of_ble_eq_true rfl) (g63.go hM he (nm_ne4 b68) (fun V4 f73 g73 => ?_))
            refine aw_aload_0 (q := 77) F dM_readAjar_76 rfl ?_
            refine av_geti (q := 80) F fM_78 dM_readAjar_77 rfl rfl (by first | exact hM.o | exact hl.o | exact hl.a6 | exact hl.a7 | exact hl.a8 | exact hl.a2 | exact hl.a3 | exact hl.a4 | exact hl.a5) ?_
            refine aw_iconst (q := 81) F dM_readAjar_80 rfl (by decide) ?_
            refine aw_icmp_ne (q := 84) (t := 85) F dM_readAjar_81 rfl (by decide) (fun c81 => ?_) (fun c81 => by exact absurd c81 g73.1.1.2)
            refine aw_aload_0 (q := 86) F dM_readAjar_85 rfl ?_
            refine av_getaE (q := 89) F fM_147 dM_readAjar_86 rfl rfl (by first | exact hM.o | exact hl.o | exact hl.a6 | exact hl.a7 | exact hl.a8 | exact hl.a2 | exact hl.a3 | exact hl.a4 | exact hl.a5) h4p ?_
            refine av_getaE (q := 92) F fM_247 dM_readAjar_89 rfl rfl (by first | exact hM.o | exact hl.o | exact hl.a6 | exact hl.a7 | exact hl.a8 | exact hl.a2 | exact hl.a3 | exact hl.a4 | exact hl.a5) hl.p10 ?_
            refine aw_iload_1 (q := 93) F dM_readAjar_92 rfl ?_
            refine aw_iload_2 (q := 94) F dM_readAjar_93 rfl ?_
            refine aw_iconst (q := 95) F dM_readAjar_94 rfl (by decide) ?_
            refine aw_iadd (q := 96) F dM_readAjar_95 rfl (by constructor <;> omega) ?_
            refine av_iastore (q := 97) F dM_readAjar_96 rfl (by first | exact hM.o | exact hl.o | exact hl.a6 | exact hl.a7 | exact hl.a8 | exact hl.a2 | exact hl.a3 | exact hl.a4 | exact hl.a5) (by omega) (by omega) ?_
            refine aw_aload_0 (q := 98) F dM_readAjar_97 rfl ?_
            refine av_getaE (q := 101) F fM_147 dM_readAjar_98 rfl rfl (by first | exact hM.o | exact hl.o | exact hl.a6 | exact hl.a7 | exact hl.a8 | exact hl.a2 | exact hl.a3 | exact hl.a4 | exact hl.a5) h4p ?_
            refine aw_dup (q := 102) F dM_readAjar_101 rfl trivial ?_
            refine av_geti (q := 105) F fM_250 dM_readAjar_102 rfl rfl (by first | exact hM.o | exact hl.o | exact hl.a6 | exact hl.a7 | exact hl.a8 | exact hl.a2 | exact hl.a3 | exact hl.a4 | exact hl.a5) ?_
            rw [up2_nea _ _ (by omega), show V4 e 4 = (cntB (fun d => tLd r.1 d != 0) 4 : Nat) from g73.2.1.1.2.2.2.2.1]
            refine aw_iconst (q := 106) F dM_readAjar_105 rfl (by decide) ?_
            refine aw_iadd (q := 107) F dM_readAjar_106 rfl (by have := cntB_le (fun d => tLd r.1 d != 0) 4; constructor <;> omega) ?_
            refine av_puti (q := 110) F fM_250 dM_readAjar_107 rfl rfl (wr_8_4 _) (by first | exact hM.o | exact hl.o | exact hl.a6 | exact hl.a7 | exact hl.a8 | exact hl.a2 | exact hl.a3 | exact hl.a4 | exact hl.a5) ?_
            refine aw_vret F C dM_readAjar_110 rfl (Nat.le_refl _) (Nat.le_refl _) ?_
            obtain ⟨⟨x0, x1, x2, x3, x4, x5, x6, x7, x8, x14⟩, ⟨y1, y2, y3, y4⟩, hnm⟩ := g73.2.1
            have hcu : cntB (fun d => uF (tLd r.1) i8 (i68 + 1) d != 0) 4 = cntB (fun d => tLd r.1 d != 0) 4 + 1 := cntB_up hi4 (fun j hj => by rw [uF_ne hj]) (by rw [show tLd r.1 i8 = 0 by omega]; rfl) (by rw [uF_at]; rfl)
            rw [Int.toNat_natCast]
            generalize hz : ((cntB (fun d => tLd r.1 d != 0) 4 : Nat) : Int) + 1 = z
            generalize hw : ((i68 : Nat) : Int) + 1 = w
            have ek : ∀ j, j ≠ 4 → up2 (up2 V4 (e + 2) i8 w) e 4 z e j = V4 e j := fun j hj => by rw [up2_nek _ _ hj, up2_nea _ _ (by omega)]
            have ec : ∀ b, b ≠ e → b ≠ e + 2 → up2 (up2 V4 (e + 2) i8 w) e 4 z b = V4 b := fun b h1 h2 => by rw [up2_nea _ _ h1, up2_nea _ _ h2]
            refine hK.1 _ (uLd r.1 i8 (i68 + 1), r.2) _ rfl (((((f3.qf.tr f63).tr f73).pf).la (by omega) ⟨by omega, by omega⟩).la (by omega) ⟨by omega, by omega⟩) (g73.w (ec _ (by omega) (by omega)) (ec _ (by omega) (by omega)) ⟨?_, ?_, ?_⟩)
            · exact ⟨(ek 0 (by decide)).trans x0, (ek 1 (by decide)).trans x1, (ek 2 (by decide)).trans x2, (ek 3 (by decide)).trans x3, by rw [up2_same, ← hz]; show _ = ((cntB (fun d => uF (tLd r.1) i8 (i68 + 1) d != 0) 4 : Nat) : Int); rw [hcu]; rfl, (ek 5 (by decide)).trans x5, (ek 6 (by decide)).trans x6, (ek 7 (by decide)).trans x7, (ek 8 (by decide)).trans x8, (ek 14 (by decide)).trans x14⟩
            · refine ⟨fun d hd => ⟨?_, ?_⟩, by rw [ec _ (by omega) (by omega)]; exact y2, by rw [ec _ (by omega) (by omega)]; exact y3, by rw [ec _ (by omega) (by omega)]; exact y4⟩
              · rw [ec _ (by omega) (by omega)]; exact (y1 d hd).1
              · rw [up2_nea _ _ (by omega)]
                show _ = ((uF (tLd r.1) i8 (i68 + 1) d : Nat) : Int)
                by_cases q : d = i8
                · rw [q, up2_same, uF_at, ← hw]; rfl
                · rw [up2_nek _ _ q, uF_ne q]; exact (y1 d hd).2
            · unfold NMr; rw [ec _ (by omega) (by omega), ec _ (by omega) (by omega), ec _ (by omega) (by omega)]; exact hnm
          · first | (have HK : K none (VO, σ) := hK.2 VO _ _ (kD0 a68 _) ((f3.qf.tr f63).tr HQ).pf HO) | skip
            refine aw_istore_2 (q := 72) F dM_readAjar_71 rfl trivial ?_
            refine aw_aload_0 (q := 73) F dM_readAjar_72 rfl ?_
            refine av_callV0 (q := 76) (ci := 9) F hm mM_goesOn_i mM_goesOn_n lM_114 dM_readAjar_73 rfl rfl rfl (by first | exact hM.o | exact hl.o | exact hl.a6 | exact hl.a7 | exact hl.a8 | exact hl.a2 | exact hl.a3 | exact hl.a4 | exact hl.a5) (by decide) (Nat.le_refl _) (Nat.le_refl _) (Nat.le_of_ble_eq_true rfl) (wM_goesOnO hM HO.1 ?_)
            refine aw_aload_0 (q := 77) F dM_readAjar_76 rfl ?_
            refine av_geti (q := 80) F fM_78 dM_readAjar_77 rfl rfl (by first | exact hM.o | exact hl.o | exact hl.a6 | exact hl.a7 | exact hl.a8 | exact hl.a2 | exact hl.a3 | exact hl.a4 | exact hl.a5) ?_
            refine aw_iconst (q := 81) F dM_readAjar_80 rfl (by decide) ?_
            refine aw_icmp_ne (q := 84) (t := 85) F dM_readAjar_81 rfl (by decide) (fun c81 => by exact absurd HO.1 c81) (fun c81 => ?_)
            refine aw_vret F C dM_readAjar_84 rfl (Nat.le_refl _) (Nat.le_refl _) ?_
            exact HK
        · refine aw_aload_0 (q := 57) F dM_readAjar_56 rfl ?_
          refine aw_bipush (q := 59) F dM_readAjar_57 rfl (by decide) ?_
          refine av_callV1 (q := 62) (ci := 9) F hm mM_flaw_i mM_flaw_n lM_143 dM_readAjar_59 rfl rfl rfl (by first | exact hM.o | exact hl.o | exact hl.a6 | exact hl.a7 | exact hl.a8 | exact hl.a2 | exact hl.a3 | exact hl.a4 | exact hl.a5) (by decide) (Nat.le_refl _) (Nat.le_refl _) (Nat.le_of_ble_eq_true rfl) (g3.ov hM (k := 7) rfl (by decide) (fun VO HO HQ => ?_))
          first | (have HK : K none (VO, σ) := hK.2 VO _ _ (if_pos (by rw [e7] at c53; cases hq : r.2.2.1; rw [hq, if_neg Bool.false_ne_true] at c53; omega; rw [hq, if_pos rfl] at c53; exact ⟨rfl, by omega⟩)) (f3.qf.tr HQ).pf HO; have H8 := g3.n8 HQ he) | skip
          skip
          refine aw_aload_0 (q := 63) F dM_readAjar_62 rfl ?_
          refine av_callV0 (q := 66) (ci := 9) F hm mM_goesOn_i mM_goesOn_n lM_114 dM_readAjar_63 rfl rfl rfl (by first | exact hM.o | exact hl.o | exact hl.a6 | exact hl.a7 | exact hl.a8 | exact hl.a2 | exact hl.a3 | exact hl.a4 | exact hl.a5) (by decide) (Nat.le_refl _) (Nat.le_refl _) (Nat.le_of_ble_eq_true rfl) (wM_goesOnO hM HO.1 ?_)
          refine aw_aload_0 (q := 67) F dM_readAjar_66 rfl ?_
          refine aw_iconst (q := 68) F dM_readAjar_67 rfl (by decide) ?_
          refine av_callV1 (q := 71) (ci := 9) F hm mM_knownOne_i mM_knownOne_n lM_236 dM_readAjar_68 rfl rfl rfl (by first | exact hM.o | exact hl.o | exact hl.a6 | exact hl.a7 | exact hl.a8 | exact hl.a2 | exact hl.a3 | exact hl.a4 | exact hl.a5) (by decide) (Nat.le_refl _) (Nat.le_refl _) (Nat.le_of_ble_eq_true rfl) (wM_knownOneO hM hl h4p H8 HO.1 ?_)
          first | (have HK : K none (VO, σ) := hK.2 VO _ _ (kD0 a68 _) ((f3.qf.tr f63).tr HQ).pf HO) | skip
          refine aw_istore_2 (q := 72) F dM_readAjar_71 rfl trivial ?_
          refine aw_aload_0 (q := 73) F dM_readAjar_72 rfl ?_
          refine av_callV0 (q := 76) (ci := 9) F hm mM_goesOn_i mM_goesOn_n lM_114 dM_readAjar_73 rfl rfl rfl (by first | exact hM.o | exact hl.o | exact hl.a6 | exact hl.a7 | exact hl.a8 | exact hl.a2 | exact hl.a3 | exact hl.a4 | exact hl.a5) (by decide) (Nat.le_refl _) (Nat.le_refl _) (Nat.le_of_ble_eq_true rfl) (wM_goesOnO hM HO.1 ?_)
          refine aw_aload_0 (q := 77) F dM_readAjar_76 rfl ?_
          refine av_geti (q := 80) F fM_78 dM_readAjar_77 rfl rfl (by first | exact hM.o | exact hl.o | exact hl.a6 | exact hl.a7 | exact hl.a8 | exact hl.a2 | exact hl.a3 | exact hl.a4 | exact hl.a5) ?_
          refine aw_iconst (q := 81) F dM_readAjar_80 rfl (by decide) ?_
          refine aw_icmp_ne (q := 84) (t := 85) F dM_readAjar_81 rfl (by decide) (fun c81 => by exact absurd HO.1 c81) (fun c81 => ?_)
          refine aw_vret F C dM_readAjar_84 rfl (Nat.le_refl _) (Nat.le_refl _) ?_
          exact HK
      · refine aw_aload_0 (q := 33) F dM_readAjar_32 rfl ?_
        refine aw_iconst (q := 34) F dM_readAjar_33 rfl (by decide) ?_
        refine av_callV1 (q := 37) (ci := 9) F hm mM_flaw_i mM_flaw_n lM_143 dM_readAjar_34 rfl rfl rfl (by first | exact hM.o | exact hl.o | exact hl.a6 | exact hl.a7 | exact hl.a8 | exact hl.a2 | exact hl.a3 | exact hl.a4 | exact hl.a5) (by decide) (Nat.le_refl _) (Nat.le_refl _) (Nat.le_of_ble_eq_true rfl) (g3.ov hM (k := 3) rfl (by decide) (fun VO HO HQ => ?_))
        first | (have HK : K none (VO, σ) := hK.2 VO _ _ (if_pos (by omega)) (f3.qf.tr HQ).pf HO; have H8 := g3.n8 HQ he) | skip
        first | rw [if_neg (show ¬ tLd r.1 i8 ≠ 0 by omega)] at hK | skip
        refine aw_aload_0 (q := 38) F dM_readAjar_37 rfl ?_
        refine av_geti (q := 41) F fM_78 dM_readAjar_38 rfl rfl (by first | exact hM.o | exact hl.o | exact hl.a6 | exact hl.a7 | exact hl.a8 | exact hl.a2 | exact hl.a3 | exact hl.a4 | exact hl.a5) ?_
        refine aw_iconst (q := 42) F dM_readAjar_41 rfl (by decide) ?_
        refine aw_icmp_eq (q := 45) (t := 62) F dM_readAjar_42 rfl (by decide) (fun c42 => ?_) (fun c42 => by exact absurd HO.1 c42)
        skip
        refine aw_aload_0 (q := 63) F dM_readAjar_62 rfl ?_
        refine av_callV0 (q := 66) (ci := 9) F hm mM_goesOn_i mM_goesOn_n lM_114 dM_readAjar_63 rfl rfl rfl (by first | exact hM.o | exact hl.o | exact hl.a6 | exact hl.a7 | exact hl.a8 | exact hl.a2 | exact hl.a3 | exact hl.a4 | exact hl.a5) (by decide) (Nat.le_refl _) (Nat.le_refl _) (Nat.le_of_ble_eq_true rfl) (wM_goesOnO hM HO.1 ?_)
        refine aw_aload_0 (q := 67) F dM_readAjar_66 rfl ?_
        refine aw_iconst (q := 68) F dM_readAjar_67 rfl (by decide) ?_
        refine av_callV1 (q := 71) (ci := 9) F hm mM_knownOne_i mM_knownOne_n lM_236 dM_readAjar_68 rfl rfl rfl (by first | exact hM.o | exact hl.o | exact hl.a6 | exact hl.a7 | exact hl.a8 | exact hl.a2 | exact hl.a3 | exact hl.a4 | exact hl.a5) (by decide) (Nat.le_refl _) (Nat.le_refl _) (Nat.le_of_ble_eq_true rfl) (wM_knownOneO hM hl h4p H8 HO.1 ?_)
        first | (have HK : K none (VO, σ) := hK.2 VO _ _ (kD0 a68 _) ((f3.qf.tr f63).tr HQ).pf HO) | skip
        refine aw_istore_2 (q := 72) F dM_readAjar_71 rfl trivial ?_
        refine aw_aload_0 (q := 73) F dM_readAjar_72 rfl ?_
        refine av_callV0 (q := 76) (ci := 9) F hm mM_goesOn_i mM_goesOn_n lM_114 dM_readAjar_73 rfl rfl rfl (by first | exact hM.o | exact hl.o | exact hl.a6 | exact hl.a7 | exact hl.a8 | exact hl.a2 | exact hl.a3 | exact hl.a4 | exact hl.a5) (by decide) (Nat.le_refl _) (Nat.le_refl _) (Nat.le_of_ble_eq_true rfl) (wM_goesOnO hM HO.1 ?_)
        refine aw_aload_0 (q := 77) F dM_readAjar_76 rfl ?_
        refine av_geti (q := 80) F fM_78 dM_readAjar_77 rfl rfl (by first | exact hM.o | exact hl.o | exact hl.a6 | exact hl.a7 | exact hl.a8 | exact hl.a2 | exact hl.a3 | exact hl.a4 | exact hl.a5) ?_
        refine aw_iconst (q := 81) F dM_readAjar_80 rfl (by decide) ?_
        refine aw_icmp_ne (q := 84) (t := 85) F dM_readAjar_81 rfl (by decide) (fun c81 => by exact absurd HO.1 c81) (fun c81 => ?_)
        refine aw_vret F C dM_readAjar_84 rfl (Nat.le_refl _) (Nat.le_refl _) ?_
        exact HK
    · first | (have HK : K none (VO, σ) := hK.2 VO _ _ (kD0 a8 _) (f3.qf.tr HQ).pf HO; have H8 := g3.n8 HQ he) | skip
      refine aw_istore_1 (q := 12) F dM_readAjar_11 rfl trivial ?_
      refine aw_aload_0 (q := 13) F dM_readAjar_12 rfl ?_
      refine av_geti (q := 16) F fM_78 dM_readAjar_13 rfl rfl (by first | exact hM.o | exact hl.o | exact hl.a6 | exact hl.a7 | exact hl.a8 | exact hl.a2 | exact hl.a3 | exact hl.a4 | exact hl.a5) ?_
      refine aw_iconst (q := 17) F dM_readAjar_16 rfl (by decide) ?_
      refine aw_icmp_eq (q := 20) (t := 37) F dM_readAjar_17 rfl (by decide) (fun c17 => ?_) (fun c17 => by exact absurd HO.1 c17)
      first | rw [if_neg (show ¬ tLd r.1 i8 ≠ 0 by omega)] at hK | skip
      refine aw_aload_0 (q := 38) F dM_readAjar_37 rfl ?_
      refine av_geti (q := 41) F fM_78 dM_readAjar_38 rfl rfl (by first | exact hM.o | exact hl.o | exact hl.a6 | exact hl.a7 | exact hl.a8 | exact hl.a2 | exact hl.a3 | exact hl.a4 | exact hl.a5) ?_
      refine aw_iconst (q := 42) F dM_readAjar_41 rfl (by decide) ?_
      refine aw_icmp_eq (q := 45) (t := 62) F dM_readAjar_42 rfl (by decide) (fun c42 => ?_) (fun c42 => by exact absurd HO.1 c42)
      skip
      refine aw_aload_0 (q := 63) F dM_readAjar_62 rfl ?_
      refine av_callV0 (q := 66) (ci := 9) F hm mM_goesOn_i mM_goesOn_n lM_114 dM_readAjar_63 rfl rfl rfl (by first | exact hM.o | exact hl.o | exact hl.a6 | exact hl.a7 | exact hl.a8 | exact hl.a2 | exact hl.a3 | exact hl.a4 | exact hl.a5) (by decide) (Nat.le_refl _) (Nat.le_refl _) (Nat.le_of_ble_eq_true rfl) (wM_goesOnO hM HO.1 ?_)
      refine aw_aload_0 (q := 67) F dM_readAjar_66 rfl ?_
      refine aw_iconst (q := 68) F dM_readAjar_67 rfl (by decide) ?_
      refine av_callV1 (q := 71) (ci := 9) F hm mM_knownOne_i mM_knownOne_n lM_236 dM_readAjar_68 rfl rfl rfl (by first | exact hM.o | exact hl.o | exact hl.a6 | exact hl.a7 | exact hl.a8 | exact hl.a2 | exact hl.a3 | exact hl.a4 | exact hl.a5) (by decide) (Nat.le_refl _) (Nat.le_refl _) (Nat.le_of_ble_eq_true rfl) (wM_knownOneO hM hl h4p H8 HO.1 ?_)
      first | (have HK : K none (VO, σ) := hK.2 VO _ _ (kD0 a68 _) ((f3.qf.tr f63).tr HQ).pf HO) | skip
      refine aw_istore_2 (q := 72) F dM_readAjar_71 rfl trivial ?_
      refine aw_aload_0 (q := 73) F dM_readAjar_72 rfl ?_
      refine av_callV0 (q := 76) (ci := 9) F hm mM_goesOn_i mM_goesOn_n lM_114 dM_readAjar_73 rfl rfl rfl (by first | exact hM.o | exact hl.o | exact hl.a6 | exact hl.a7 | exact hl.a8 | exact hl.a2 | exact hl.a3 | exact hl.a4 | exact hl.a5) (by decide) (Nat.le_refl _) (Nat.le_refl _) (Nat.le_of_ble_eq_true rfl) (wM_goesOnO hM HO.1 ?_)
      refine aw_aload_0 (q := 77) F dM_readAjar_76 rfl ?_
      refine av_geti (q := 80) F fM_78 dM_readAjar_77 rfl rfl (by first | exact hM.o | exact hl.o | exact hl.a6 | exact hl.a7 | exact hl.a8 | exact hl.a2 | exact hl.a3 | exact hl.a4 | exact hl.a5) ?_
      refine aw_iconst (q := 81) F dM_readAjar_80 rfl (by decide) ?_
      refine aw_icmp_ne (q := 84) (t := 85) F dM_readAjar_81 rfl (by decide) (fun c81 => by exact absurd HO.1 c81) (fun c81 => ?_)
      refine aw_vret F C dM_readAjar_84 rfl (Nat.le_refl _) (Nat.le_refl _) ?_
      exact HK
  · have HK : K none (VO, σ) := hK.2 VO _ _ (if_pos b3) HQ.pf HO
    have H8 := h.n8 HQ he
    refine aw_aload_0 (q := 7) F dM_readAjar_6 rfl ?_
    refine aw_iconst (q := 8) F dM_readAjar_7 rfl (by decide) ?_
    refine av_callV1 (q := 11) (ci := 9) F hm mM_knownOne_i mM_knownOne_n lM_236 dM_readAjar_8 rfl rfl rfl (by first | exact hM.o | exact hl.o | exact hl.a6 | exact hl.a7 | exact hl.a8 | exact hl.a2 | exact hl.a3 | exact hl.a4 | exact hl.a5) (by decide) (Nat.le_refl _) (Nat.le_refl _) (Nat.le_of_ble_eq_true rfl) (wM_knownOneO hM hl h4p H8 HO.1 ?_)
    first | (have HK : K none (VO, σ) := hK.2 VO _ _ (kD0 a8 _) (f3.qf.tr HQ).pf HO; have H8 := g3.n8 HQ he) | skip
    refine aw_istore_1 (q := 12) F dM_readAjar_11 rfl trivial ?_
    refine aw_aload_0 (q := 13) F dM_readAjar_12 rfl ?_
    refine av_geti (q := 16) F fM_78 dM_readAjar_13 rfl rfl (by first | exact hM.o | exact hl.o | exact hl.a6 | exact hl.a7 | exact hl.a8 | exact hl.a2 | exact hl.a3 | exact hl.a4 | exact hl.a5) ?_
    refine aw_iconst (q := 17) F dM_readAjar_16 rfl (by decide) ?_
    refine aw_icmp_eq (q := 20) (t := 37) F dM_readAjar_17 rfl (by decide) (fun c17 => ?_) (fun c17 => by exact absurd HO.1 c17)
    first | rw [if_neg (show ¬ tLd r.1 i8 ≠ 0 by omega)] at hK | skip
    refine aw_aload_0 (q := 38) F dM_readAjar_37 rfl ?_
    refine av_geti (q := 41) F fM_78 dM_readAjar_38 rfl rfl (by first | exact hM.o | exact hl.o | exact hl.a6 | exact hl.a7 | exact hl.a8 | exact hl.a2 | exact hl.a3 | exact hl.a4 | exact hl.a5) ?_
    refine aw_iconst (q := 42) F dM_readAjar_41 rfl (by decide) ?_
    refine aw_icmp_eq (q := 45) (t := 62) F dM_readAjar_42 rfl (by decide) (fun c42 => ?_) (fun c42 => by exact absurd HO.1 c42)
    skip
    refine aw_aload_0 (q := 63) F dM_readAjar_62 rfl ?_
    refine av_callV0 (q := 66) (ci := 9) F hm mM_goesOn_i mM_goesOn_n lM_114 dM_readAjar_63 rfl rfl rfl (by first | exact hM.o | exact hl.o | exact hl.a6 | exact hl.a7 | exact hl.a8 | exact hl.a2 | exact hl.a3 | exact hl.a4 | exact hl.a5) (by decide) (Nat.le_refl _) (Nat.le_refl _) (Nat.le_of_ble_eq_true rfl) (wM_goesOnO hM HO.1 ?_)
    refine aw_aload_0 (q := 67) F dM_readAjar_66 rfl ?_
    refine aw_iconst (q := 68) F dM_readAjar_67 rfl (by decide) ?_
    refine av_callV1 (q := 71) (ci := 9) F hm mM_knownOne_i mM_knownOne_n lM_236 dM_readAjar_68 rfl rfl rfl (by first | exact hM.o | exact hl.o | exact hl.a6 | exact hl.a7 | exact hl.a8 | exact hl.a2 | exact hl.a3 | exact hl.a4 | exact hl.a5) (by decide) (Nat.le_refl _) (Nat.le_refl _) (Nat.le_of_ble_eq_true rfl) (wM_knownOneO hM hl h4p H8 HO.1 ?_)
    first | (have HK : K none (VO, σ) := hK.2 VO _ _ (kD0 a68 _) ((f3.qf.tr f63).tr HQ).pf HO) | skip
    refine aw_istore_2 (q := 72) F dM_readAjar_71 rfl trivial ?_
    refine aw_aload_0 (q := 73) F dM_readAjar_72 rfl ?_
    refine av_callV0 (q := 76) (ci := 9) F hm mM_goesOn_i mM_goesOn_n lM_114 dM_readAjar_73 rfl rfl rfl (by first | exact hM.o | exact hl.o | exact hl.a6 | exact hl.a7 | exact hl.a8 | exact hl.a2 | exact hl.a3 | exact hl.a4 | exact hl.a5) (by decide) (Nat.le_refl _) (Nat.le_refl _) (Nat.le_of_ble_eq_true rfl) (wM_goesOnO hM HO.1 ?_)
    refine aw_aload_0 (q := 77) F dM_readAjar_76 rfl ?_
    refine av_geti (q := 80) F fM_78 dM_readAjar_77 rfl rfl (by first | exact hM.o | exact hl.o | exact hl.a6 | exact hl.a7 | exact hl.a8 | exact hl.a2 | exact hl.a3 | exact hl.a4 | exact hl.a5) ?_
    refine aw_iconst (q := 81) F dM_readAjar_80 rfl (by decide) ?_
    refine aw_icmp_ne (q := 84) (t := 85) F dM_readAjar_81 rfl (by decide) (fun c81 => by exact absurd HO.1 c81) (fun c81 => ?_)
    refine aw_vret F C dM_readAjar_84 rfl (Nat.le_refl _) (Nat.le_refl _) ?_
    exact HK
end Mod44
