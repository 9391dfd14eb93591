theorem dH_put_0 : decode mH_put.2.1 0 = .ok (.aload_n 0, 1) := by decide +kernel
theorem dH_put_1 : decode mH_put.2.1 1 = .ok (.iload_n 1, 1) := by decide +kernel
theorem dH_put_2 : decode mH_put.2.1 2 = .ok (.putfield 73, 3) := by decide +kernel
theorem dH_put_5 : decode mH_put.2.1 5 = .ok (.aload_n 0, 1) := by decide +kernel
theorem dH_put_6 : decode mH_put.2.1 6 = .ok (.iconst 0, 1) := by decide +kernel
theorem dH_put_7 : decode mH_put.2.1 7 = .ok (.putfield 84, 3) := by decide +kernel
theorem dH_put_10 : decode mH_put.2.1 10 = .ok (.aload_n 0, 1) := by decide +kernel
theorem dH_put_11 : decode mH_put.2.1 11 = .ok (.getfield 11, 3) := by decide +kernel
theorem dH_put_14 : decode mH_put.2.1 14 = .ok (.ifCond .gt 4, 3) := by decide +kernel
theorem dH_put_17 : decode mH_put.2.1 17 = .ok (.return_, 1) := by decide +kernel
theorem dH_put_18 : decode mH_put.2.1 18 = .ok (.iload_n 1, 1) := by decide +kernel
theorem dH_put_19 : decode mH_put.2.1 19 = .ok (.istore_n 2, 1) := by decide +kernel
theorem dH_put_20 : decode mH_put.2.1 20 = .ok (.iconst 0, 1) := by decide +kernel
theorem dH_put_21 : decode mH_put.2.1 21 = .ok (.istore_n 3, 1) := by decide +kernel
theorem dH_put_22 : decode mH_put.2.1 22 = .ok (.iload_n 3, 1) := by decide +kernel
theorem dH_put_23 : decode mH_put.2.1 23 = .ok (.aload_n 0, 1) := by decide +kernel
theorem dH_put_24 : decode mH_put.2.1 24 = .ok (.getfield 49, 3) := by decide +kernel
theorem dH_put_27 : decode mH_put.2.1 27 = .ok (.if_icmp .ge 53, 3) := by decide +kernel
theorem dH_put_30 : decode mH_put.2.1 30 = .ok (.aload_n 0, 1) := by decide +kernel
theorem dH_put_31 : decode mH_put.2.1 31 = .ok (.getfield 25, 3) := by decide +kernel
theorem dH_put_34 : decode mH_put.2.1 34 = .ok (.iload_n 3, 1) := by decide +kernel
theorem dH_put_35 : decode mH_put.2.1 35 = .ok (.iload_n 2, 1) := by decide +kernel
theorem dH_put_36 : decode mH_put.2.1 36 = .ok (.aload_n 0, 1) := by decide +kernel
theorem dH_put_37 : decode mH_put.2.1 37 = .ok (.getfield 11, 3) := by decide +kernel
theorem dH_put_40 : decode mH_put.2.1 40 = .ok (.irem, 1) := by decide +kernel
theorem dH_put_41 : decode mH_put.2.1 41 = .ok (.iastore, 1) := by decide +kernel
theorem dH_put_42 : decode mH_put.2.1 42 = .ok (.iload_n 2, 1) := by decide +kernel
theorem dH_put_43 : decode mH_put.2.1 43 = .ok (.aload_n 0, 1) := by decide +kernel
theorem dH_put_44 : decode mH_put.2.1 44 = .ok (.getfield 11, 3) := by decide +kernel
theorem dH_put_47 : decode mH_put.2.1 47 = .ok (.idiv, 1) := by decide +kernel
theorem dH_put_48 : decode mH_put.2.1 48 = .ok (.istore_n 2, 1) := by decide +kernel
theorem dH_put_49 : decode mH_put.2.1 49 = .ok (.aload_n 0, 1) := by decide +kernel
theorem dH_put_50 : decode mH_put.2.1 50 = .ok (.dup, 1) := by decide +kernel
theorem dH_put_51 : decode mH_put.2.1 51 = .ok (.getfield 84, 3) := by decide +kernel
theorem dH_put_54 : decode mH_put.2.1 54 = .ok (.aload_n 0, 1) := by decide +kernel
theorem dH_put_55 : decode mH_put.2.1 55 = .ok (.getfield 25, 3) := by decide +kernel
theorem dH_put_58 : decode mH_put.2.1 58 = .ok (.iload_n 3, 1) := by decide +kernel
theorem dH_put_59 : decode mH_put.2.1 59 = .ok (.iaload, 1) := by decide +kernel
theorem dH_put_60 : decode mH_put.2.1 60 = .ok (.ifCond .ne 9, 3) := by decide +kernel
theorem dH_put_63 : decode mH_put.2.1 63 = .ok (.iconst 1, 1) := by decide +kernel
theorem dH_put_64 : decode mH_put.2.1 64 = .ok (.iload_n 3, 1) := by decide +kernel
theorem dH_put_65 : decode mH_put.2.1 65 = .ok (.ishl, 1) := by decide +kernel
theorem dH_put_66 : decode mH_put.2.1 66 = .ok (.goto 4, 3) := by decide +kernel
theorem dH_put_69 : decode mH_put.2.1 69 = .ok (.iconst 0, 1) := by decide +kernel
theorem dH_put_70 : decode mH_put.2.1 70 = .ok (.ior, 1) := by decide +kernel
theorem dH_put_71 : decode mH_put.2.1 71 = .ok (.putfield 84, 3) := by decide +kernel
theorem dH_put_74 : decode mH_put.2.1 74 = .ok (.iinc 3 1, 3) := by decide +kernel
theorem dH_put_77 : decode mH_put.2.1 77 = .ok (.goto (-55), 3) := by decide +kernel
theorem dH_put_80 : decode mH_put.2.1 80 = .ok (.iconst 0, 1) := by decide +kernel
theorem dH_put_81 : decode mH_put.2.1 81 = .ok (.istore_n 3, 1) := by decide +kernel
theorem dH_put_82 : decode mH_put.2.1 82 = .ok (.iload_n 3, 1) := by decide +kernel
theorem dH_put_83 : decode mH_put.2.1 83 = .ok (.aload_n 0, 1) := by decide +kernel
theorem dH_put_84 : decode mH_put.2.1 84 = .ok (.getfield 45, 3) := by decide +kernel
theorem dH_put_87 : decode mH_put.2.1 87 = .ok (.if_icmp .ge 28, 3) := by decide +kernel
theorem dH_put_90 : decode mH_put.2.1 90 = .ok (.aload_n 0, 1) := by decide +kernel
theorem dH_put_91 : decode mH_put.2.1 91 = .ok (.getfield 22, 3) := by decide +kernel
theorem dH_put_94 : decode mH_put.2.1 94 = .ok (.iload_n 3, 1) := by decide +kernel
theorem dH_put_95 : decode mH_put.2.1 95 = .ok (.iload_n 2, 1) := by decide +kernel
theorem dH_put_96 : decode mH_put.2.1 96 = .ok (.aload_n 0, 1) := by decide +kernel
theorem dH_put_97 : decode mH_put.2.1 97 = .ok (.getfield 11, 3) := by decide +kernel
theorem dH_put_100 : decode mH_put.2.1 100 = .ok (.irem, 1) := by decide +kernel
theorem dH_put_101 : decode mH_put.2.1 101 = .ok (.iastore, 1) := by decide +kernel
theorem dH_put_102 : decode mH_put.2.1 102 = .ok (.iload_n 2, 1) := by decide +kernel
theorem dH_put_103 : decode mH_put.2.1 103 = .ok (.aload_n 0, 1) := by decide +kernel
theorem dH_put_104 : decode mH_put.2.1 104 = .ok (.getfield 11, 3) := by decide +kernel
theorem dH_put_107 : decode mH_put.2.1 107 = .ok (.idiv, 1) := by decide +kernel
theorem dH_put_108 : decode mH_put.2.1 108 = .ok (.istore_n 2, 1) := by decide +kernel
theorem dH_put_109 : decode mH_put.2.1 109 = .ok (.iinc 3 1, 3) := by decide +kernel
theorem dH_put_112 : decode mH_put.2.1 112 = .ok (.goto (-30), 3) := by decide +kernel
theorem dH_put_115 : decode mH_put.2.1 115 = .ok (.aload_n 0, 1) := by decide +kernel
theorem dH_put_116 : decode mH_put.2.1 116 = .ok (.iload_n 2, 1) := by decide +kernel
theorem dH_put_117 : decode mH_put.2.1 117 = .ok (.putfield 87, 3) := by decide +kernel
theorem dH_put_120 : decode mH_put.2.1 120 = .ok (.return_, 1) := by decide +kernel
theorem dH_load_0 : decode mH_load.2.1 0 = .ok (.iconst 0, 1) := by decide +kernel
theorem dH_load_1 : decode mH_load.2.1 1 = .ok (.istore_n 2, 1) := by decide +kernel
theorem dH_load_2 : decode mH_load.2.1 2 = .ok (.iload_n 2, 1) := by decide +kernel
theorem dH_load_3 : decode mH_load.2.1 3 = .ok (.aload_n 0, 1) := by decide +kernel
theorem dH_load_4 : decode mH_load.2.1 4 = .ok (.getfield 45, 3) := by decide +kernel
theorem dH_load_7 : decode mH_load.2.1 7 = .ok (.if_icmp .ge 25, 3) := by decide +kernel
theorem dH_load_10 : decode mH_load.2.1 10 = .ok (.aload_n 0, 1) := by decide +kernel
theorem dH_load_11 : decode mH_load.2.1 11 = .ok (.getfield 18, 3) := by decide +kernel
theorem dH_load_14 : decode mH_load.2.1 14 = .ok (.iload_n 2, 1) := by decide +kernel
theorem dH_load_15 : decode mH_load.2.1 15 = .ok (.iload_n 1, 1) := by decide +kernel
theorem dH_load_16 : decode mH_load.2.1 16 = .ok (.bipush 16, 2) := by decide +kernel
theorem dH_load_18 : decode mH_load.2.1 18 = .ok (.iconst 2, 1) := by decide +kernel
theorem dH_load_19 : decode mH_load.2.1 19 = .ok (.iload_n 2, 1) := by decide +kernel
theorem dH_load_20 : decode mH_load.2.1 20 = .ok (.imul, 1) := by decide +kernel
theorem dH_load_21 : decode mH_load.2.1 21 = .ok (.iadd, 1) := by decide +kernel
theorem dH_load_22 : decode mH_load.2.1 22 = .ok (.ishr, 1) := by decide +kernel
theorem dH_load_23 : decode mH_load.2.1 23 = .ok (.iconst 3, 1) := by decide +kernel
theorem dH_load_24 : decode mH_load.2.1 24 = .ok (.iand, 1) := by decide +kernel
theorem dH_load_25 : decode mH_load.2.1 25 = .ok (.iastore, 1) := by decide +kernel
theorem dH_load_26 : decode mH_load.2.1 26 = .ok (.iinc 2 1, 3) := by decide +kernel
theorem dH_load_29 : decode mH_load.2.1 29 = .ok (.goto (-27), 3) := by decide +kernel
theorem dH_load_32 : decode mH_load.2.1 32 = .ok (.aload_n 0, 1) := by decide +kernel
theorem dH_load_33 : decode mH_load.2.1 33 = .ok (.iload_n 1, 1) := by decide +kernel
theorem dH_load_34 : decode mH_load.2.1 34 = .ok (.bipush 24, 2) := by decide +kernel
theorem dH_load_36 : decode mH_load.2.1 36 = .ok (.ishr, 1) := by decide +kernel
theorem dH_load_37 : decode mH_load.2.1 37 = .ok (.bipush 15, 2) := by decide +kernel
theorem dH_load_39 : decode mH_load.2.1 39 = .ok (.iand, 1) := by decide +kernel
theorem dH_load_40 : decode mH_load.2.1 40 = .ok (.putfield 76, 3) := by decide +kernel
theorem dH_load_43 : decode mH_load.2.1 43 = .ok (.aload_n 0, 1) := by decide +kernel
theorem dH_load_44 : decode mH_load.2.1 44 = .ok (.iload_n 1, 1) := by decide +kernel
theorem dH_load_45 : decode mH_load.2.1 45 = .ok (.ldc 79, 2) := by decide +kernel
theorem dH_load_47 : decode mH_load.2.1 47 = .ok (.iand, 1) := by decide +kernel
theorem dH_load_48 : decode mH_load.2.1 48 = .ok (.invokevirtual 80, 3) := by decide +kernel
theorem dH_load_51 : decode mH_load.2.1 51 = .ok (.return_, 1) := by decide +kernel
theorem dH_scene_0 : decode mH_scene.2.1 0 = .ok (.iconst 0, 1) := by decide +kernel
theorem dH_scene_1 : decode mH_scene.2.1 1 = .ok (.istore_n 1, 1) := by decide +kernel
theorem dH_scene_2 : decode mH_scene.2.1 2 = .ok (.iconst 0, 1) := by decide +kernel
theorem dH_scene_3 : decode mH_scene.2.1 3 = .ok (.istore_n 2, 1) := by decide +kernel
theorem dH_scene_4 : decode mH_scene.2.1 4 = .ok (.iload_n 2, 1) := by decide +kernel
theorem dH_scene_5 : decode mH_scene.2.1 5 = .ok (.aload_n 0, 1) := by decide +kernel
theorem dH_scene_6 : decode mH_scene.2.1 6 = .ok (.getfield 45, 3) := by decide +kernel
theorem dH_scene_9 : decode mH_scene.2.1 9 = .ok (.if_icmp .ge 22, 3) := by decide +kernel
theorem dH_scene_12 : decode mH_scene.2.1 12 = .ok (.iload_n 1, 1) := by decide +kernel
theorem dH_scene_13 : decode mH_scene.2.1 13 = .ok (.aload_n 0, 1) := by decide +kernel
theorem dH_scene_14 : decode mH_scene.2.1 14 = .ok (.getfield 18, 3) := by decide +kernel
theorem dH_scene_17 : decode mH_scene.2.1 17 = .ok (.iload_n 2, 1) := by decide +kernel
theorem dH_scene_18 : decode mH_scene.2.1 18 = .ok (.iaload, 1) := by decide +kernel
theorem dH_scene_19 : decode mH_scene.2.1 19 = .ok (.iconst 2, 1) := by decide +kernel
theorem dH_scene_20 : decode mH_scene.2.1 20 = .ok (.iload_n 2, 1) := by decide +kernel
theorem dH_scene_21 : decode mH_scene.2.1 21 = .ok (.imul, 1) := by decide +kernel
theorem dH_scene_22 : decode mH_scene.2.1 22 = .ok (.ishl, 1) := by decide +kernel
theorem dH_scene_23 : decode mH_scene.2.1 23 = .ok (.ior, 1) := by decide +kernel
theorem dH_scene_24 : decode mH_scene.2.1 24 = .ok (.istore_n 1, 1) := by decide +kernel
theorem dH_scene_25 : decode mH_scene.2.1 25 = .ok (.iinc 2 1, 3) := by decide +kernel
theorem dH_scene_28 : decode mH_scene.2.1 28 = .ok (.goto (-24), 3) := by decide +kernel
theorem dH_scene_31 : decode mH_scene.2.1 31 = .ok (.aload_n 0, 1) := by decide +kernel
theorem dH_scene_32 : decode mH_scene.2.1 32 = .ok (.getfield 73, 3) := by decide +kernel
theorem dH_scene_35 : decode mH_scene.2.1 35 = .ok (.iload_n 1, 1) := by decide +kernel
theorem dH_scene_36 : decode mH_scene.2.1 36 = .ok (.bipush 16, 2) := by decide +kernel
theorem dH_scene_38 : decode mH_scene.2.1 38 = .ok (.ishl, 1) := by decide +kernel
theorem dH_scene_39 : decode mH_scene.2.1 39 = .ok (.ior, 1) := by decide +kernel
theorem dH_scene_40 : decode mH_scene.2.1 40 = .ok (.aload_n 0, 1) := by decide +kernel
theorem dH_scene_41 : decode mH_scene.2.1 41 = .ok (.getfield 76, 3) := by decide +kernel
theorem dH_scene_44 : decode mH_scene.2.1 44 = .ok (.bipush 24, 2) := by decide +kernel
theorem dH_scene_46 : decode mH_scene.2.1 46 = .ok (.ishl, 1) := by decide +kernel
theorem dH_scene_47 : decode mH_scene.2.1 47 = .ok (.ior, 1) := by decide +kernel
theorem dH_scene_48 : decode mH_scene.2.1 48 = .ok (.ireturn, 1) := by decide +kernel
theorem dH_fit_0 : decode mH_fit.2.1 0 = .ok (.aload_n 0, 1) := by decide +kernel
theorem dH_fit_1 : decode mH_fit.2.1 1 = .ok (.aload_n 1, 1) := by decide +kernel
theorem dH_fit_2 : decode mH_fit.2.1 2 = .ok (.getfield 34, 3) := by decide +kernel
theorem dH_fit_5 : decode mH_fit.2.1 5 = .ok (.iconst 4, 1) := by decide +kernel
theorem dH_fit_6 : decode mH_fit.2.1 6 = .ok (.invokestatic 39, 3) := by decide +kernel
theorem dH_fit_9 : decode mH_fit.2.1 9 = .ok (.putfield 45, 3) := by decide +kernel
theorem dH_fit_12 : decode mH_fit.2.1 12 = .ok (.aload_n 0, 1) := by decide +kernel
theorem dH_fit_13 : decode mH_fit.2.1 13 = .ok (.aload_n 1, 1) := by decide +kernel
theorem dH_fit_14 : decode mH_fit.2.1 14 = .ok (.getfield 46, 3) := by decide +kernel
theorem dH_fit_17 : decode mH_fit.2.1 17 = .ok (.iconst 2, 1) := by decide +kernel
theorem dH_fit_18 : decode mH_fit.2.1 18 = .ok (.invokestatic 39, 3) := by decide +kernel
theorem dH_fit_21 : decode mH_fit.2.1 21 = .ok (.putfield 49, 3) := by decide +kernel
theorem dH_fit_24 : decode mH_fit.2.1 24 = .ok (.aload_n 0, 1) := by decide +kernel
theorem dH_fit_25 : decode mH_fit.2.1 25 = .ok (.aload_n 1, 1) := by decide +kernel
theorem dH_fit_26 : decode mH_fit.2.1 26 = .ok (.getfield 50, 3) := by decide +kernel
theorem dH_fit_29 : decode mH_fit.2.1 29 = .ok (.putfield 53, 3) := by decide +kernel
theorem dH_fit_32 : decode mH_fit.2.1 32 = .ok (.aload_n 0, 1) := by decide +kernel
theorem dH_fit_33 : decode mH_fit.2.1 33 = .ok (.aload_n 1, 1) := by decide +kernel
theorem dH_fit_34 : decode mH_fit.2.1 34 = .ok (.getfield 54, 3) := by decide +kernel
theorem dH_fit_37 : decode mH_fit.2.1 37 = .ok (.putfield 57, 3) := by decide +kernel
theorem dH_fit_40 : decode mH_fit.2.1 40 = .ok (.aload_n 0, 1) := by decide +kernel
theorem dH_fit_41 : decode mH_fit.2.1 41 = .ok (.aload_n 0, 1) := by decide +kernel
theorem dH_fit_42 : decode mH_fit.2.1 42 = .ok (.getfield 45, 3) := by decide +kernel
theorem dH_fit_45 : decode mH_fit.2.1 45 = .ok (.iconst 1, 1) := by decide +kernel
theorem dH_fit_46 : decode mH_fit.2.1 46 = .ok (.iadd, 1) := by decide +kernel
theorem dH_fit_47 : decode mH_fit.2.1 47 = .ok (.putfield 11, 3) := by decide +kernel
theorem dH_fit_50 : decode mH_fit.2.1 50 = .ok (.aload_n 0, 1) := by decide +kernel
theorem dH_fit_51 : decode mH_fit.2.1 51 = .ok (.aload_n 0, 1) := by decide +kernel
theorem dH_fit_52 : decode mH_fit.2.1 52 = .ok (.getfield 45, 3) := by decide +kernel
theorem dH_fit_55 : decode mH_fit.2.1 55 = .ok (.iconst 2, 1) := by decide +kernel
theorem dH_fit_56 : decode mH_fit.2.1 56 = .ok (.aload_n 0, 1) := by decide +kernel
theorem dH_fit_57 : decode mH_fit.2.1 57 = .ok (.getfield 49, 3) := by decide +kernel
theorem dH_fit_60 : decode mH_fit.2.1 60 = .ok (.iadd, 1) := by decide +kernel
theorem dH_fit_61 : decode mH_fit.2.1 61 = .ok (.imul, 1) := by decide +kernel
theorem dH_fit_62 : decode mH_fit.2.1 62 = .ok (.putfield 58, 3) := by decide +kernel
theorem dH_fit_65 : decode mH_fit.2.1 65 = .ok (.iconst 1, 1) := by decide +kernel
theorem dH_fit_66 : decode mH_fit.2.1 66 = .ok (.istore_n 2, 1) := by decide +kernel
theorem dH_fit_67 : decode mH_fit.2.1 67 = .ok (.iconst 0, 1) := by decide +kernel
theorem dH_fit_68 : decode mH_fit.2.1 68 = .ok (.istore_n 3, 1) := by decide +kernel
theorem dH_fit_69 : decode mH_fit.2.1 69 = .ok (.iload_n 3, 1) := by decide +kernel
theorem dH_fit_70 : decode mH_fit.2.1 70 = .ok (.aload_n 0, 1) := by decide +kernel
theorem dH_fit_71 : decode mH_fit.2.1 71 = .ok (.getfield 49, 3) := by decide +kernel
theorem dH_fit_74 : decode mH_fit.2.1 74 = .ok (.if_icmp .ge 23, 3) := by decide +kernel
theorem dH_fit_77 : decode mH_fit.2.1 77 = .ok (.aload_n 0, 1) := by decide +kernel
theorem dH_fit_78 : decode mH_fit.2.1 78 = .ok (.getfield 31, 3) := by decide +kernel
theorem dH_fit_81 : decode mH_fit.2.1 81 = .ok (.iload_n 3, 1) := by decide +kernel
theorem dH_fit_82 : decode mH_fit.2.1 82 = .ok (.iload_n 2, 1) := by decide +kernel
theorem dH_fit_83 : decode mH_fit.2.1 83 = .ok (.iastore, 1) := by decide +kernel
theorem dH_fit_84 : decode mH_fit.2.1 84 = .ok (.iload_n 2, 1) := by decide +kernel
theorem dH_fit_85 : decode mH_fit.2.1 85 = .ok (.aload_n 0, 1) := by decide +kernel
theorem dH_fit_86 : decode mH_fit.2.1 86 = .ok (.getfield 11, 3) := by decide +kernel
theorem dH_fit_89 : decode mH_fit.2.1 89 = .ok (.imul, 1) := by decide +kernel
theorem dH_fit_90 : decode mH_fit.2.1 90 = .ok (.istore_n 2, 1) := by decide +kernel
theorem dH_fit_91 : decode mH_fit.2.1 91 = .ok (.iinc 3 1, 3) := by decide +kernel
theorem dH_fit_94 : decode mH_fit.2.1 94 = .ok (.goto (-25), 3) := by decide +kernel
theorem dH_fit_97 : decode mH_fit.2.1 97 = .ok (.aload_n 0, 1) := by decide +kernel
theorem dH_fit_98 : decode mH_fit.2.1 98 = .ok (.iload_n 2, 1) := by decide +kernel
theorem dH_fit_99 : decode mH_fit.2.1 99 = .ok (.putfield 15, 3) := by decide +kernel
theorem dH_fit_102 : decode mH_fit.2.1 102 = .ok (.iconst 0, 1) := by decide +kernel
theorem dH_fit_103 : decode mH_fit.2.1 103 = .ok (.istore_n 3, 1) := by decide +kernel
theorem dH_fit_104 : decode mH_fit.2.1 104 = .ok (.iload_n 3, 1) := by decide +kernel
theorem dH_fit_105 : decode mH_fit.2.1 105 = .ok (.aload_n 0, 1) := by decide +kernel
theorem dH_fit_106 : decode mH_fit.2.1 106 = .ok (.getfield 45, 3) := by decide +kernel
theorem dH_fit_109 : decode mH_fit.2.1 109 = .ok (.if_icmp .ge 23, 3) := by decide +kernel
theorem dH_fit_112 : decode mH_fit.2.1 112 = .ok (.aload_n 0, 1) := by decide +kernel
theorem dH_fit_113 : decode mH_fit.2.1 113 = .ok (.getfield 28, 3) := by decide +kernel
theorem dH_fit_116 : decode mH_fit.2.1 116 = .ok (.iload_n 3, 1) := by decide +kernel
theorem dH_fit_117 : decode mH_fit.2.1 117 = .ok (.iload_n 2, 1) := by decide +kernel
theorem dH_fit_118 : decode mH_fit.2.1 118 = .ok (.iastore, 1) := by decide +kernel
theorem dH_fit_119 : decode mH_fit.2.1 119 = .ok (.iload_n 2, 1) := by decide +kernel
theorem dH_fit_120 : decode mH_fit.2.1 120 = .ok (.aload_n 0, 1) := by decide +kernel
theorem dH_fit_121 : decode mH_fit.2.1 121 = .ok (.getfield 11, 3) := by decide +kernel
theorem dH_fit_124 : decode mH_fit.2.1 124 = .ok (.imul, 1) := by decide +kernel
theorem dH_fit_125 : decode mH_fit.2.1 125 = .ok (.istore_n 2, 1) := by decide +kernel
theorem dH_fit_126 : decode mH_fit.2.1 126 = .ok (.iinc 3 1, 3) := by decide +kernel
theorem dH_fit_129 : decode mH_fit.2.1 129 = .ok (.goto (-25), 3) := by decide +kernel
theorem dH_fit_132 : decode mH_fit.2.1 132 = .ok (.aload_n 0, 1) := by decide +kernel
theorem dH_fit_133 : decode mH_fit.2.1 133 = .ok (.iload_n 2, 1) := by decide +kernel
theorem dH_fit_134 : decode mH_fit.2.1 134 = .ok (.putfield 61, 3) := by decide +kernel
theorem dH_fit_137 : decode mH_fit.2.1 137 = .ok (.aload_n 0, 1) := by decide +kernel
theorem dH_fit_138 : decode mH_fit.2.1 138 = .ok (.iload_n 2, 1) := by decide +kernel
theorem dH_fit_139 : decode mH_fit.2.1 139 = .ok (.aload_n 0, 1) := by decide +kernel
theorem dH_fit_140 : decode mH_fit.2.1 140 = .ok (.getfield 45, 3) := by decide +kernel
theorem dH_fit_143 : decode mH_fit.2.1 143 = .ok (.imul, 1) := by decide +kernel
theorem dH_fit_144 : decode mH_fit.2.1 144 = .ok (.putfield 64, 3) := by decide +kernel
theorem dH_fit_147 : decode mH_fit.2.1 147 = .ok (.return_, 1) := by decide +kernel
theorem dH_firstScene_0 : decode mH_firstScene.2.1 0 = .ok (.aload_n 1, 1) := by decide +kernel
theorem dH_firstScene_1 : decode mH_firstScene.2.1 1 = .ok (.getfield 67, 3) := by decide +kernel
theorem dH_firstScene_4 : decode mH_firstScene.2.1 4 = .ok (.aload_n 0, 1) := by decide +kernel
theorem dH_firstScene_5 : decode mH_firstScene.2.1 5 = .ok (.getfield 61, 3) := by decide +kernel
theorem dH_firstScene_8 : decode mH_firstScene.2.1 8 = .ok (.imul, 1) := by decide +kernel
theorem dH_firstScene_9 : decode mH_firstScene.2.1 9 = .ok (.istore_n 2, 1) := by decide +kernel
theorem dH_firstScene_10 : decode mH_firstScene.2.1 10 = .ok (.iconst 0, 1) := by decide +kernel
theorem dH_firstScene_11 : decode mH_firstScene.2.1 11 = .ok (.istore_n 3, 1) := by decide +kernel
theorem dH_firstScene_12 : decode mH_firstScene.2.1 12 = .ok (.iconst 0, 1) := by decide +kernel
theorem dH_firstScene_13 : decode mH_firstScene.2.1 13 = .ok (.istore 4, 2) := by decide +kernel
theorem dH_firstScene_15 : decode mH_firstScene.2.1 15 = .ok (.iload 4, 2) := by decide +kernel
theorem dH_firstScene_17 : decode mH_firstScene.2.1 17 = .ok (.aload_n 0, 1) := by decide +kernel
theorem dH_firstScene_18 : decode mH_firstScene.2.1 18 = .ok (.getfield 49, 3) := by decide +kernel
theorem dH_firstScene_21 : decode mH_firstScene.2.1 21 = .ok (.if_icmp .ge 27, 3) := by decide +kernel
theorem dH_firstScene_24 : decode mH_firstScene.2.1 24 = .ok (.iload_n 2, 1) := by decide +kernel
theorem dH_firstScene_25 : decode mH_firstScene.2.1 25 = .ok (.aload_n 1, 1) := by decide +kernel
theorem dH_firstScene_26 : decode mH_firstScene.2.1 26 = .ok (.getfield 70, 3) := by decide +kernel
theorem dH_firstScene_29 : decode mH_firstScene.2.1 29 = .ok (.iload 4, 2) := by decide +kernel
theorem dH_firstScene_31 : decode mH_firstScene.2.1 31 = .ok (.iaload, 1) := by decide +kernel
theorem dH_firstScene_32 : decode mH_firstScene.2.1 32 = .ok (.aload_n 0, 1) := by decide +kernel
theorem dH_firstScene_33 : decode mH_firstScene.2.1 33 = .ok (.getfield 31, 3) := by decide +kernel
theorem dH_firstScene_36 : decode mH_firstScene.2.1 36 = .ok (.iload 4, 2) := by decide +kernel
theorem dH_firstScene_38 : decode mH_firstScene.2.1 38 = .ok (.iaload, 1) := by decide +kernel
theorem dH_firstScene_39 : decode mH_firstScene.2.1 39 = .ok (.imul, 1) := by decide +kernel
theorem dH_firstScene_40 : decode mH_firstScene.2.1 40 = .ok (.iadd, 1) := by decide +kernel
theorem dH_firstScene_41 : decode mH_firstScene.2.1 41 = .ok (.istore_n 2, 1) := by decide +kernel
theorem dH_firstScene_42 : decode mH_firstScene.2.1 42 = .ok (.iinc 4 1, 3) := by decide +kernel
theorem dH_firstScene_45 : decode mH_firstScene.2.1 45 = .ok (.goto (-30), 3) := by decide +kernel
theorem dH_firstScene_48 : decode mH_firstScene.2.1 48 = .ok (.iconst 0, 1) := by decide +kernel
theorem dH_firstScene_49 : decode mH_firstScene.2.1 49 = .ok (.istore 4, 2) := by decide +kernel
theorem dH_firstScene_51 : decode mH_firstScene.2.1 51 = .ok (.iload 4, 2) := by decide +kernel
theorem dH_firstScene_53 : decode mH_firstScene.2.1 53 = .ok (.aload_n 0, 1) := by decide +kernel
theorem dH_firstScene_54 : decode mH_firstScene.2.1 54 = .ok (.getfield 45, 3) := by decide +kernel
theorem dH_firstScene_57 : decode mH_firstScene.2.1 57 = .ok (.if_icmp .ge 42, 3) := by decide +kernel
theorem dH_firstScene_60 : decode mH_firstScene.2.1 60 = .ok (.iload_n 2, 1) := by decide +kernel
theorem dH_firstScene_61 : decode mH_firstScene.2.1 61 = .ok (.aload_n 1, 1) := by decide +kernel
theorem dH_firstScene_62 : decode mH_firstScene.2.1 62 = .ok (.getfield 71, 3) := by decide +kernel
theorem dH_firstScene_65 : decode mH_firstScene.2.1 65 = .ok (.iload 4, 2) := by decide +kernel
theorem dH_firstScene_67 : decode mH_firstScene.2.1 67 = .ok (.iaload, 1) := by decide +kernel
theorem dH_firstScene_68 : decode mH_firstScene.2.1 68 = .ok (.aload_n 0, 1) := by decide +kernel
theorem dH_firstScene_69 : decode mH_firstScene.2.1 69 = .ok (.getfield 28, 3) := by decide +kernel
theorem dH_firstScene_72 : decode mH_firstScene.2.1 72 = .ok (.iload 4, 2) := by decide +kernel
theorem dH_firstScene_74 : decode mH_firstScene.2.1 74 = .ok (.iaload, 1) := by decide +kernel
theorem dH_firstScene_75 : decode mH_firstScene.2.1 75 = .ok (.imul, 1) := by decide +kernel
theorem dH_firstScene_76 : decode mH_firstScene.2.1 76 = .ok (.iadd, 1) := by decide +kernel
theorem dH_firstScene_77 : decode mH_firstScene.2.1 77 = .ok (.istore_n 2, 1) := by decide +kernel
theorem dH_firstScene_78 : decode mH_firstScene.2.1 78 = .ok (.iload_n 3, 1) := by decide +kernel
theorem dH_firstScene_79 : decode mH_firstScene.2.1 79 = .ok (.aload_n 1, 1) := by decide +kernel
theorem dH_firstScene_80 : decode mH_firstScene.2.1 80 = .ok (.getfield 72, 3) := by decide +kernel
theorem dH_firstScene_83 : decode mH_firstScene.2.1 83 = .ok (.iload 4, 2) := by decide +kernel
theorem dH_firstScene_85 : decode mH_firstScene.2.1 85 = .ok (.iaload, 1) := by decide +kernel
theorem dH_firstScene_86 : decode mH_firstScene.2.1 86 = .ok (.iconst 2, 1) := by decide +kernel
theorem dH_firstScene_87 : decode mH_firstScene.2.1 87 = .ok (.iload 4, 2) := by decide +kernel
theorem dH_firstScene_89 : decode mH_firstScene.2.1 89 = .ok (.imul, 1) := by decide +kernel
theorem dH_firstScene_90 : decode mH_firstScene.2.1 90 = .ok (.ishl, 1) := by decide +kernel
theorem dH_firstScene_91 : decode mH_firstScene.2.1 91 = .ok (.ior, 1) := by decide +kernel
theorem dH_firstScene_92 : decode mH_firstScene.2.1 92 = .ok (.istore_n 3, 1) := by decide +kernel
theorem dH_firstScene_93 : decode mH_firstScene.2.1 93 = .ok (.iinc 4 1, 3) := by decide +kernel
theorem dH_firstScene_96 : decode mH_firstScene.2.1 96 = .ok (.goto (-45), 3) := by decide +kernel
theorem dH_firstScene_99 : decode mH_firstScene.2.1 99 = .ok (.iload_n 2, 1) := by decide +kernel
theorem dH_firstScene_100 : decode mH_firstScene.2.1 100 = .ok (.iload_n 3, 1) := by decide +kernel
theorem dH_firstScene_101 : decode mH_firstScene.2.1 101 = .ok (.bipush 16, 2) := by decide +kernel
theorem dH_firstScene_103 : decode mH_firstScene.2.1 103 = .ok (.ishl, 1) := by decide +kernel
theorem dH_firstScene_104 : decode mH_firstScene.2.1 104 = .ok (.ior, 1) := by decide +kernel
theorem dH_firstScene_105 : decode mH_firstScene.2.1 105 = .ok (.ireturn, 1) := by decide +kernel
theorem dH_init_0 : decode mH_init.2.1 0 = .ok (.aload_n 0, 1) := by decide +kernel
theorem dH_init_1 : decode mH_init.2.1 1 = .ok (.invokespecial 5, 3) := by decide +kernel
theorem dH_init_4 : decode mH_init.2.1 4 = .ok (.aload_n 0, 1) := by decide +kernel
theorem dH_init_5 : decode mH_init.2.1 5 = .ok (.iconst 1, 1) := by decide +kernel
theorem dH_init_6 : decode mH_init.2.1 6 = .ok (.putfield 11, 3) := by decide +kernel
theorem dH_init_9 : decode mH_init.2.1 9 = .ok (.aload_n 0, 1) := by decide +kernel
theorem dH_init_10 : decode mH_init.2.1 10 = .ok (.iconst 1, 1) := by decide +kernel
theorem dH_init_11 : decode mH_init.2.1 11 = .ok (.putfield 15, 3) := by decide +kernel
theorem dH_init_14 : decode mH_init.2.1 14 = .ok (.aload_n 0, 1) := by decide +kernel
theorem dH_init_15 : decode mH_init.2.1 15 = .ok (.iconst 4, 1) := by decide +kernel
theorem dH_init_16 : decode mH_init.2.1 16 = .ok (.newarray .int, 2) := by decide +kernel
theorem dH_init_18 : decode mH_init.2.1 18 = .ok (.putfield 18, 3) := by decide +kernel
theorem dH_init_21 : decode mH_init.2.1 21 = .ok (.aload_n 0, 1) := by decide +kernel
theorem dH_init_22 : decode mH_init.2.1 22 = .ok (.iconst 4, 1) := by decide +kernel
theorem dH_init_23 : decode mH_init.2.1 23 = .ok (.newarray .int, 2) := by decide +kernel
theorem dH_init_25 : decode mH_init.2.1 25 = .ok (.putfield 22, 3) := by decide +kernel
theorem dH_init_28 : decode mH_init.2.1 28 = .ok (.aload_n 0, 1) := by decide +kernel
theorem dH_init_29 : decode mH_init.2.1 29 = .ok (.iconst 2, 1) := by decide +kernel
theorem dH_init_30 : decode mH_init.2.1 30 = .ok (.newarray .int, 2) := by decide +kernel
theorem dH_init_32 : decode mH_init.2.1 32 = .ok (.putfield 25, 3) := by decide +kernel
theorem dH_init_35 : decode mH_init.2.1 35 = .ok (.aload_n 0, 1) := by decide +kernel
theorem dH_init_36 : decode mH_init.2.1 36 = .ok (.iconst 4, 1) := by decide +kernel
theorem dH_init_37 : decode mH_init.2.1 37 = .ok (.newarray .int, 2) := by decide +kernel
theorem dH_init_39 : decode mH_init.2.1 39 = .ok (.putfield 28, 3) := by decide +kernel
theorem dH_init_42 : decode mH_init.2.1 42 = .ok (.aload_n 0, 1) := by decide +kernel
theorem dH_init_43 : decode mH_init.2.1 43 = .ok (.iconst 2, 1) := by decide +kernel
theorem dH_init_44 : decode mH_init.2.1 44 = .ok (.newarray .int, 2) := by decide +kernel
theorem dH_init_46 : decode mH_init.2.1 46 = .ok (.putfield 31, 3) := by decide +kernel
theorem dH_init_49 : decode mH_init.2.1 49 = .ok (.return_, 1) := by decide +kernel
/-- rooms that are seen, as bits -/
def rsN (c : Cfg) (n : Nat) : Nat → Nat
  | 0 => 0
  | i + 1 => rsN c n i ||| if ld c n i ≠ 0 then 2 ^ (ld c n i - 1) else 0
def shutN (c : Cfg) (n : Nat) : Nat := bsum (fun p => pl c n p != 0 && !(rsN c n (dN c)).testBit (pl c n p - 1)) (pN c)
def fitN (c : Cfg) (f s : Int) (m : Nat) : Bool := (decide (pN c < 1) || decide (f = -2) || decide (((m % Bs c : Nat) : Int) = f)) && (decide (pN c < 2) || decide (s = -2) || decide (((m / Bs c : Nat) : Int) = s))
theorem rsN_lt {c : Cfg} (hc : okC c) (n : Nat) : ∀ i, rsN c n i < 16
  | 0 => by unfold rsN; decide
  | i + 1 => by
    unfold rsN
    refine Nat.or_lt_two_pow (n := 4) (rsN_lt hc n i) ?_
    have h1 := ld_lt c n i
    have h2 := Bs_le hc
    split
    · exact Nat.pow_lt_pow_right (by decide) (by omega)
    · decide
/-- what putting an arrangement changes -/
def putF (V V' : Nat → Nat → Int) (a : Nat) : Prop := (∀ b, b ≠ a → b ≠ a + 2 → b ≠ a + 3 → V' b = V b) ∧ ∀ j, j ≠ 7 → j ≠ 12 → j ≠ 13 → V' a j = V a j
theorem putF.rf (V : Nat → Nat → Int) (a : Nat) : putF V V a := ⟨fun _ _ _ _ => rfl, fun _ _ _ _ => rfl⟩
theorem putF.hw {V V' : Nat → Nat → Int} {a : Nat} {c : Cfg} (h : putF V V' a) (hW : HW V a c) : HW V' a c := by
  obtain ⟨g1, g2⟩ := h
  unfold HW
  rw [g2 0 (by decide) (by decide) (by decide), g2 1 (by decide) (by decide) (by decide), g2 2 (by decide) (by decide) (by decide), g2 3 (by decide) (by decide) (by decide), g2 4 (by decide) (by decide) (by decide), g2 5 (by decide) (by decide) (by decide), g2 6 (by decide) (by decide) (by decide), g2 9 (by decide) (by decide) (by decide), g2 10 (by decide) (by decide) (by decide), g2 11 (by decide) (by decide) (by decide), g1 (a + 1) (by omega) (by omega) (by omega), g1 (a + 4) (by omega) (by omega) (by omega), g1 (a + 5) (by omega) (by omega) (by omega)]
  exact hW
theorem HH.put {V V' : Nat → Nat → Int} {a : Nat} {c : Cfg} {n m : Nat} (h : HH V a c n) (g : putF V V' a) (hA : HA V' a c m) : HH V' a c m := ⟨h.1, g.hw h.2.1, hA⟩
section Hall3
variable {G : GE} {V : Nat → Nat → Int} {σ : Shp} {a : Nat} {K : Option AV → Mem → Prop} {c : Cfg} {n : Nat}
theorem wH_after {s : Int} (hr : 0 ≤ s ∧ s < stN c) (hn : n < spc c) (hH : hS σ a) (h : HH V a c n) (hK : K (some (vI (aftN c n s.toNat))) (V, σ)) : Wp G 2 mH_after [vR a, vI s] (V, σ) 0 0 K := by
  have hh := h
  have hH := hH
  obtain ⟨hc, hW, hA⟩ := h
  have hD4 := hc.1
  have hP2 := hc.2.1
  have v0 : V a 0 = dN c := hW.1
  have v1 : V a 1 = pN c := hW.2.1
  have v2 : V a 2 = stN c := hW.2.2.1
  obtain ⟨hD, hm1, hm2⟩ := divmod_lt (s := s.toNat) (D := dN c) (R := 2 + pN c) (by have : stN c = dN c * (2 + pN c) := rfl; omega)
  obtain ⟨q1, q2⟩ := tdm (D := dN c) hr.1
  unfold aftN at hK
  generalize s.toNat / dN c = row at *
  generalize s.toNat % dN c = dd at *
  have hg : ∀ x : Int, x = row → 2 ≤ row → (x - 2).toNat = row - 2 := fun x q1 q2 => by omega
  refine wp_intro mH_after_i.1 [some (vR a), some (vI s), none, none] rfl rfl (Nat.le_of_ble_eq_true rfl) ?_
  intro X hG F C
  have hm := C.rm
  refine aw_aload_0 (q := 1) F dH_after_0 rfl ?_
  refine aw_iload_1 (q := 2) F dH_after_1 rfl ?_
  refine av_callV1 (q := 5) (ci := 2) F hm mH_isStep_i mH_isStep_n lH_109 dH_after_2 rfl rfl rfl (by first | exact hH.o | exact hH.a1 | exact hH.a2 | exact hH.a3 | exact hH.a4 | exact hH.a5 | exact hH) (by decide) (Nat.le_refl _) (Nat.le_refl _) (Nat.le_of_ble_eq_true rfl) (wH_isStep hH (fun c2 => ?_) (fun c2 => ?_))
  · refine aw_if_eq (q := 8) (t := 15) F dH_after_5 rfl (by decide) (fun c5 => absurd c5 (by decide)) (fun c5 => ?_)
    refine aw_aload_0 (q := 9) F dH_after_8 rfl ?_
    refine av_geti (q := 12) F fH_45 dH_after_9 rfl rfl (by first | exact hH.o | exact hH.a1 | exact hH.a2 | exact hH.a3 | exact hH.a4 | exact hH.a5 | exact hH) ?_
    refine aw_if_gt (q := 15) (t := 20) F dH_after_12 rfl (by decide) (fun c12 => ?_) (fun c12 => by omega)
    refine aw_iload_1 (q := 21) F dH_after_20 rfl ?_
    refine aw_aload_0 (q := 22) F dH_after_21 rfl ?_
    refine av_geti (q := 25) F fH_45 dH_after_22 rfl rfl (by first | exact hH.o | exact hH.a1 | exact hH.a2 | exact hH.a3 | exact hH.a4 | exact hH.a5 | exact hH) ?_
    refine aw_idiv (q := 26) F dH_after_25 rfl (by omega) (by omega) ?_
    rw [v0, q1]
    refine aw_istore_2 (q := 27) F dH_after_26 rfl trivial ?_
    refine aw_iload_1 (q := 28) F dH_after_27 rfl ?_
    refine aw_aload_0 (q := 29) F dH_after_28 rfl ?_
    refine av_geti (q := 32) F fH_45 dH_after_29 rfl rfl (by first | exact hH.o | exact hH.a1 | exact hH.a2 | exact hH.a3 | exact hH.a4 | exact hH.a5 | exact hH) ?_
    refine aw_irem (q := 33) F dH_after_32 rfl (by omega) (by omega) ?_
    rw [v0, q2]
    refine aw_istore_3 (q := 34) F dH_after_33 rfl trivial ?_
    refine aw_iload_2 (q := 35) F dH_after_34 rfl ?_
    refine aw_if_ne (q := 38) (t := 44) F dH_after_35 rfl (by decide) (fun c35 => ?_) (fun c35 => ?_)
    · refine aw_iload_2 (q := 45) F dH_after_44 rfl ?_
      refine aw_iconst (q := 46) F dH_after_45 rfl (by decide) ?_
      refine aw_icmp_ne (q := 49) (t := 57) F dH_after_46 rfl (by decide) (fun c46 => ?_) (fun c46 => ?_)
      · refine aw_aload_0 (q := 58) F dH_after_57 rfl ?_
        refine aw_iload_2 (q := 59) F dH_after_58 rfl ?_
        refine aw_iconst (q := 60) F dH_after_59 rfl (by decide) ?_
        refine aw_isub (q := 61) F dH_after_60 rfl (by constructor <;> omega) ?_
        refine aw_iload_3 (q := 62) F dH_after_61 rfl ?_
        refine av_callV2 (q := 65) (ci := 2) F hm mH_afterGo_i mH_afterGo_n lH_136 dH_after_62 rfl rfl rfl (by first | exact hH.o | exact hH.a1 | exact hH.a2 | exact hH.a3 | exact hH.a4 | exact hH.a5 | exact hH) (by decide) (Nat.le_refl _) (Nat.le_refl _) (Nat.le_of_ble_eq_true rfl) (wH_afterGo (by omega) (by omega) hn hH hh ?_)
        refine aw_iret F C dH_after_65 rfl (Nat.le_refl _) (Nat.le_refl _) ?_
        first | (rw [if_neg (by omega), if_pos (by omega)] at hK; exact hK) | (rw [if_neg (by omega), if_neg (by omega)] at hK; rw [hg _ rfl (by omega)]; exact hK)
      · refine aw_aload_0 (q := 50) F dH_after_49 rfl ?_
        refine aw_iload_3 (q := 51) F dH_after_50 rfl ?_
        refine av_callV1 (q := 54) (ci := 2) F hm mH_afterShut_i mH_afterShut_n lH_133 dH_after_51 rfl rfl rfl (by first | exact hH.o | exact hH.a1 | exact hH.a2 | exact hH.a3 | exact hH.a4 | exact hH.a5 | exact hH) (by decide) (Nat.le_refl _) (Nat.le_refl _) (Nat.le_of_ble_eq_true rfl) (wH_afterShut (by omega) hn hH hh ?_)
        refine aw_goto (t := 65) F dH_after_54 (by decide) ?_
        refine aw_iret F C dH_after_65 rfl (Nat.le_refl _) (Nat.le_refl _) ?_
        first | (rw [if_neg (by omega), if_pos (by omega)] at hK; exact hK) | (rw [if_neg (by omega), if_neg (by omega)] at hK; rw [hg _ rfl (by omega)]; exact hK)
    · refine aw_aload_0 (q := 39) F dH_after_38 rfl ?_
      refine aw_iload_3 (q := 40) F dH_after_39 rfl ?_
      refine av_callV1 (q := 43) (ci := 2) F hm mH_afterOpen_i mH_afterOpen_n lH_130 dH_after_40 rfl rfl rfl (by first | exact hH.o | exact hH.a1 | exact hH.a2 | exact hH.a3 | exact hH.a4 | exact hH.a5 | exact hH) (by decide) (Nat.le_refl _) (Nat.le_refl _) (Nat.le_of_ble_eq_true rfl) (wH_afterOpen (by omega) hn hH hh ?_)
      refine aw_iret F C dH_after_43 rfl (Nat.le_refl _) (Nat.le_refl _) ?_
      rw [if_pos (by omega)] at hK; exact hK
  · refine aw_if_eq (q := 8) (t := 15) F dH_after_5 rfl (by decide) (fun c5 => ?_) (fun c5 => absurd c5 (by decide))
    refine aw_aload_0 (q := 16) F dH_after_15 rfl ?_
    refine av_geti (q := 19) F fH_73 dH_after_16 rfl rfl (by first | exact hH.o | exact hH.a1 | exact hH.a2 | exact hH.a3 | exact hH.a4 | exact hH.a5 | exact hH) ?_
    refine aw_iret F C dH_after_19 rfl (Nat.le_refl _) (Nat.le_refl _) ?_
    omega
theorem allP_lt (hc : okC c) : allP c < 4 := by
  have hp : 2 ^ pN c ≤ 2 ^ 2 := Nat.pow_le_pow_right (by decide) hc.2.1
  unfold allP
  omega
theorem cntB_le (f : Nat → Bool) : ∀ i, cntB f i ≤ i
  | 0 => Nat.le_refl _
  | i + 1 => by have := cntB_le f i; unfold cntB; split <;> omega
theorem stN_le (hc : okC c) : stN c ≤ 16 := by
  have := Nat.mul_le_mul hc.1 (show 2 + pN c ≤ 4 by have := hc.2.1; omega)
  unfold stN
  omega
theorem wH_countSteps (hH : hS σ a) (h : HH V a c n) (hK : K (some (vI (cntB (mayN c n (allP c)) (stN c)))) (V, σ)) : Wp G 3 mH_countSteps [vR a] (V, σ) 0 0 K := by
  have hh := h
  have hH := hH
  obtain ⟨hc, hW, hA⟩ := h
  have hD4 := hc.1
  have hP2 := hc.2.1
  have v0 : V a 0 = dN c := hW.1
  have v1 : V a 1 = pN c := hW.2.1
  have v2 : V a 2 = stN c := hW.2.2.1
  have h16 := stN_le hc
  have h4 := allP_lt hc
  refine wp_intro mH_countSteps_i.1 [some (vR a), none, none] rfl rfl (Nat.le_of_ble_eq_true rfl) ?_
  intro X hG F C
  have hm := C.rm
  have loop : ∀ (j i : Nat), stN c - i = j → i ≤ stN c → ∀ y z : Int, y = cntB (mayN c n (allP c)) i → z = i → AW X 4 [some (vR a), some (vI y), some (vI z)] [] (V, σ) 0 0 := by
    intro j
    induction j using Nat.strongRecOn with
    | ind j ih =>
      intro i hj hi y z hy hz
      have hle := cntB_le (mayN c n (allP c)) i
      have es : cntB (mayN c n (allP c)) (i + 1) = cntB (mayN c n (allP c)) i + if mayN c n (allP c) i then 1 else 0 := rfl
      have ez : z.toNat = i := by omega
      refine aw_iload_2 (q := 5) F dH_countSteps_4 rfl ?_
      refine aw_aload_0 (q := 6) F dH_countSteps_5 rfl ?_
      refine av_geti (q := 9) F fH_58 dH_countSteps_6 rfl rfl (by first | exact hH.o | exact hH.a1 | exact hH.a2 | exact hH.a3 | exact hH.a4 | exact hH.a5 | exact hH) ?_
      refine aw_icmp_ge (q := 12) (t := 38) F dH_countSteps_9 rfl (by decide) (fun c9 => ?_) (fun c9 => ?_)
      · refine aw_iload_1 (q := 39) F dH_countSteps_38 rfl ?_
        refine aw_iret F C dH_countSteps_39 rfl (Nat.le_refl _) (Nat.le_refl _) ?_
        rw [show i = stN c by omega] at hy; exact kI hK hy.symm
      · refine aw_iload_1 (q := 13) F dH_countSteps_12 rfl ?_
        refine aw_aload_0 (q := 14) F dH_countSteps_13 rfl ?_
        refine aw_iload_2 (q := 15) F dH_countSteps_14 rfl ?_
        refine aw_aload_0 (q := 16) F dH_countSteps_15 rfl ?_
        refine av_callV0 (q := 19) (ci := 2) F hm mH_everybody_i mH_everybody_n lH_102 dH_countSteps_16 rfl rfl rfl (by first | exact hH.o | exact hH.a1 | exact hH.a2 | exact hH.a3 | exact hH.a4 | exact hH.a5 | exact hH) (by decide) (Nat.le_refl _) (Nat.le_refl _) (Nat.le_of_ble_eq_true rfl) (wH_everybody hH hh ?_)
        refine av_callV2 (q := 22) (ci := 2) F hm mH_may_i mH_may_n lH_105 dH_countSteps_19 rfl rfl rfl (by first | exact hH.o | exact hH.a1 | exact hH.a2 | exact hH.a3 | exact hH.a4 | exact hH.a5 | exact hH) (by decide) (Nat.le_refl _) (Nat.le_refl _) (Nat.le_of_ble_eq_true rfl) (wH_may rfl h4 hH hh (fun x19 y19 m19 => ?_) (fun m19 => ?_))
        · refine aw_if_eq (q := 25) (t := 29) F dH_countSteps_22 rfl (by decide) (fun c22 => absurd c22 (by decide)) (fun c22 => ?_)
          refine aw_iconst (q := 26) F dH_countSteps_25 rfl (by decide) ?_
          refine aw_goto (t := 30) F dH_countSteps_26 (by decide) ?_
          refine aw_iadd (q := 31) F dH_countSteps_30 rfl (by constructor <;> omega) ?_
          refine aw_istore_1 (q := 32) F dH_countSteps_31 rfl trivial ?_
          refine aw_iinc_2 (q := 35) F dH_countSteps_32 rfl trivial (by constructor <;> omega) ?_
          refine aw_goto (t := 4) F dH_countSteps_35 (by decide) ?_
          first | (have m19 := m19 (by omega) (by omega); rw [ez] at m19; rw [m19] at es; exact ih _ (by omega) (i + 1) rfl (by omega) _ _ (by rw [es]; simp; omega) (by omega)) | (rw [ez] at m19; rw [m19] at es; exact ih _ (by omega) (i + 1) rfl (by omega) _ _ (by rw [es]; simp; omega) (by omega))
        · refine aw_if_eq (q := 25) (t := 29) F dH_countSteps_22 rfl (by decide) (fun c22 => ?_) (fun c22 => absurd c22 (by decide))
          refine aw_iconst (q := 30) F dH_countSteps_29 rfl (by decide) ?_
          refine aw_iadd (q := 31) F dH_countSteps_30 rfl (by constructor <;> omega) ?_
          refine aw_istore_1 (q := 32) F dH_countSteps_31 rfl trivial ?_
          refine aw_iinc_2 (q := 35) F dH_countSteps_32 rfl trivial (by constructor <;> omega) ?_
          refine aw_goto (t := 4) F dH_countSteps_35 (by decide) ?_
          first | (have m19 := m19 (by omega) (by omega); rw [ez] at m19; rw [m19] at es; exact ih _ (by omega) (i + 1) rfl (by omega) _ _ (by rw [es]; simp; omega) (by omega)) | (rw [ez] at m19; rw [m19] at es; exact ih _ (by omega) (i + 1) rfl (by omega) _ _ (by rw [es]; simp; omega) (by omega))
  refine aw_iconst (q := 1) F dH_countSteps_0 rfl (by decide) ?_
  refine aw_istore_1 (q := 2) F dH_countSteps_1 rfl trivial ?_
  refine aw_iconst (q := 3) F dH_countSteps_2 rfl (by decide) ?_
  refine aw_istore_2 (q := 4) F dH_countSteps_3 rfl trivial ?_
  exact loop _ 0 rfl (by omega) 0 0 rfl rfl
theorem wH_roomsSeen (hH : hS σ a) (h : HH V a c n) (hK : K (some (vI (rsN c n (dN c)))) (V, σ)) : Wp G 0 mH_roomsSeen [vR a] (V, σ) 0 0 K := by
  have hH := hH
  obtain ⟨hc, hW, hA⟩ := h
  have hD4 := hc.1
  have hP2 := hc.2.1
  have v0 : V a 0 = dN c := hW.1
  have v1 : V a 1 = pN c := hW.2.1
  have b5 := Bs_le hc
  refine wp_intro mH_roomsSeen_i.1 [some (vR a), none, none] rfl rfl (Nat.le_of_ble_eq_true rfl) ?_
  intro X hG F C
  have hm := C.rm
  have loop : ∀ (j i : Nat), dN c - i = j → i ≤ dN c → ∀ y z : Int, y = rsN c n i → z = i → AW X 4 [some (vR a), some (vI y), some (vI z)] [] (V, σ) 0 0 := by
    intro j
    induction j using Nat.strongRecOn with
    | ind j ih =>
      intro i hj hi y z hy hz
      have hv : i < dN c → V (a + 2) z.toNat = ld c n i := fun q => by rw [show z.toNat = i by omega]; exact hA.2.2.2.1 i q
      have hl := ld_lt c n i
      have r1 := rsN_lt hc n (i + 1)
      have es : rsN c n (i + 1) = rsN c n i ||| if ld c n i ≠ 0 then 2 ^ (ld c n i - 1) else 0 := rfl
      have s1 : i < dN c → ld c n i ≠ 0 → zor y (zshl 1 (V (a + 2) z.toNat - 1)) = rsN c n (i + 1) := fun q q2 => by
        rw [if_pos q2] at es
        rw [hv q, hy, shl1 (by omega) (by omega), show ((ld c n i : Int) - 1).toNat = ld c n i - 1 by omega, zor_n (by rw [← es]; omega), es]
      have s0 : ld c n i = 0 → zor y 0 = rsN c n (i + 1) := fun q2 => by
        rw [if_neg (by omega)] at es
        have := zor_n (a := rsN c n i) (b := 0) (by rw [← es]; omega)
        rw [hy, es]
        exact this
      refine aw_iload_2 (q := 5) F dH_roomsSeen_4 rfl ?_
      refine aw_aload_0 (q := 6) F dH_roomsSeen_5 rfl ?_
      refine av_geti (q := 9) F fH_45 dH_roomsSeen_6 rfl rfl (by first | exact hH.o | exact hH.a1 | exact hH.a2 | exact hH.a3 | exact hH.a4 | exact hH.a5 | exact hH) ?_
      refine aw_icmp_ge (q := 12) (t := 44) F dH_roomsSeen_9 rfl (by decide) (fun c9 => ?_) (fun c9 => ?_)
      · refine aw_iload_1 (q := 45) F dH_roomsSeen_44 rfl ?_
        refine aw_iret F C dH_roomsSeen_45 rfl (Nat.le_refl _) (Nat.le_refl _) ?_
        rw [show i = dN c by omega] at hy; exact kI hK hy.symm
      · refine aw_iload_1 (q := 13) F dH_roomsSeen_12 rfl ?_
        refine aw_aload_0 (q := 14) F dH_roomsSeen_13 rfl ?_
        refine av_getaE (q := 17) F fH_22 dH_roomsSeen_14 rfl rfl (by first | exact hH.o | exact hH.a1 | exact hH.a2 | exact hH.a3 | exact hH.a4 | exact hH.a5 | exact hH) hH.p14 ?_
        refine aw_iload_2 (q := 18) F dH_roomsSeen_17 rfl ?_
        refine av_iaload (q := 19) F dH_roomsSeen_18 rfl (by first | exact hH.o | exact hH.a1 | exact hH.a2 | exact hH.a3 | exact hH.a4 | exact hH.a5 | exact hH) (by omega) (by omega) ?_
        refine aw_if_eq (q := 22) (t := 35) F dH_roomsSeen_19 rfl (by decide) (fun c19 => ?_) (fun c19 => ?_)
        · refine aw_iconst (q := 36) F dH_roomsSeen_35 rfl (by decide) ?_
          refine aw_ior (q := 37) F dH_roomsSeen_36 rfl ?_
          refine aw_istore_1 (q := 38) F dH_roomsSeen_37 rfl trivial ?_
          refine aw_iinc_2 (q := 41) F dH_roomsSeen_38 rfl trivial (by constructor <;> omega) ?_
          refine aw_goto (t := 4) F dH_roomsSeen_41 (by decide) ?_
          have := hv (by omega); exact ih _ (by omega) (i + 1) rfl (by omega) _ _ (by first | rw [s1 (by omega) (by omega)] | rw [s0 (by omega)]) (by omega)
        · refine aw_iconst (q := 23) F dH_roomsSeen_22 rfl (by decide) ?_
          refine aw_aload_0 (q := 24) F dH_roomsSeen_23 rfl ?_
          refine av_getaE (q := 27) F fH_22 dH_roomsSeen_24 rfl rfl (by first | exact hH.o | exact hH.a1 | exact hH.a2 | exact hH.a3 | exact hH.a4 | exact hH.a5 | exact hH) hH.p14 ?_
          refine aw_iload_2 (q := 28) F dH_roomsSeen_27 rfl ?_
          refine av_iaload (q := 29) F dH_roomsSeen_28 rfl (by first | exact hH.o | exact hH.a1 | exact hH.a2 | exact hH.a3 | exact hH.a4 | exact hH.a5 | exact hH) (by omega) (by omega) ?_
          refine aw_iconst (q := 30) F dH_roomsSeen_29 rfl (by decide) ?_
          refine aw_isub (q := 31) F dH_roomsSeen_30 rfl (by have := hv (by omega); constructor <;> omega) ?_
          refine aw_ishl (q := 32) F dH_roomsSeen_31 rfl ?_
          refine aw_goto (t := 36) F dH_roomsSeen_32 (by decide) ?_
          refine aw_ior (q := 37) F dH_roomsSeen_36 rfl ?_
          refine aw_istore_1 (q := 38) F dH_roomsSeen_37 rfl trivial ?_
          refine aw_iinc_2 (q := 41) F dH_roomsSeen_38 rfl trivial (by constructor <;> omega) ?_
          refine aw_goto (t := 4) F dH_roomsSeen_41 (by decide) ?_
          have := hv (by omega); exact ih _ (by omega) (i + 1) rfl (by omega) _ _ (by first | rw [s1 (by omega) (by omega)] | rw [s0 (by omega)]) (by omega)
  refine aw_iconst (q := 1) F dH_roomsSeen_0 rfl (by decide) ?_
  refine aw_istore_1 (q := 2) F dH_roomsSeen_1 rfl trivial ?_
  refine aw_iconst (q := 3) F dH_roomsSeen_2 rfl (by decide) ?_
  refine aw_istore_2 (q := 4) F dH_roomsSeen_3 rfl trivial ?_
  exact loop _ 0 rfl (by omega) 0 0 rfl rfl
theorem wH_peopleShutIn (hH : hS σ a) (h : HH V a c n) (hK : K (some (vI (shutN c n))) (V, σ)) : Wp G 1 mH_peopleShutIn [vR a] (V, σ) 0 0 K := by
  have hh := h
  have hH := hH
  obtain ⟨hc, hW, hA⟩ := h
  have hD4 := hc.1
  have hP2 := hc.2.1
  have v0 : V a 0 = dN c := hW.1
  have v1 : V a 1 = pN c := hW.2.1
  have b5 := Bs_le hc
  have r1 := rsN_lt hc n (dN c)
  refine wp_intro mH_peopleShutIn_i.1 [some (vR a), none, none, none] rfl rfl (Nat.le_of_ble_eq_true rfl) ?_
  intro X hG F C
  have hm := C.rm
  have loop : ∀ (j i : Nat), pN c - i = j → i ≤ pN c → ∀ y z : Int, y = bsum (fun p => pl c n p != 0 && !(rsN c n (dN c)).testBit (pl c n p - 1)) i → z = i → AW X 9 [some (vR a), some (vI (rsN c n (dN c))), some (vI y), some (vI z)] [] (V, σ) 0 0 := by
    intro j
    induction j using Nat.strongRecOn with
    | ind j ih =>
      intro i hj hi y z hy hz
      have hv : i < pN c → V (a + 3) z.toNat = pl c n i := fun q => by rw [show z.toNat = i by omega]; exact hA.2.2.2.2 i q
      have hl := pl_lt c n i
      have hb : i < pN c → pl c n i ≠ 0 → zand (zshr (rsN c n (dN c)) (V (a + 3) z.toNat - 1)) 1 = if (rsN c n (dN c)).testBit (pl c n i - 1) then 1 else 0 := fun q q2 => by
        rw [hv q, bit_z (by omega) (by omega) (by omega), show ((pl c n i : Int) - 1).toNat = pl c n i - 1 by omega]
      refine aw_iload_3 (q := 10) F dH_peopleShutIn_9 rfl ?_
      refine aw_aload_0 (q := 11) F dH_peopleShutIn_10 rfl ?_
      refine av_geti (q := 14) F fH_49 dH_peopleShutIn_11 rfl rfl (by first | exact hH.o | exact hH.a1 | exact hH.a2 | exact hH.a3 | exact hH.a4 | exact hH.a5 | exact hH) ?_
      refine aw_icmp_ge (q := 17) (t := 57) F dH_peopleShutIn_14 rfl (by decide) (fun c14 => ?_) (fun c14 => ?_)
      · refine aw_iload_2 (q := 58) F dH_peopleShutIn_57 rfl ?_
        refine aw_iret F C dH_peopleShutIn_58 rfl (Nat.le_refl _) (Nat.le_refl _) ?_
        rw [show i = pN c by omega] at hy; exact kI hK hy.symm
      · refine aw_iload_2 (q := 18) F dH_peopleShutIn_17 rfl ?_
        refine aw_aload_0 (q := 19) F dH_peopleShutIn_18 rfl ?_
        refine av_getaE (q := 22) F fH_25 dH_peopleShutIn_19 rfl rfl (by first | exact hH.o | exact hH.a1 | exact hH.a2 | exact hH.a3 | exact hH.a4 | exact hH.a5 | exact hH) hH.p15 ?_
        refine aw_iload_3 (q := 23) F dH_peopleShutIn_22 rfl ?_
        refine av_iaload (q := 24) F dH_peopleShutIn_23 rfl (by first | exact hH.o | exact hH.a1 | exact hH.a2 | exact hH.a3 | exact hH.a4 | exact hH.a5 | exact hH) (by omega) (by omega) ?_
        refine aw_if_eq (q := 27) (t := 48) F dH_peopleShutIn_24 rfl (by decide) (fun c24 => ?_) (fun c24 => ?_)
        · refine aw_iconst (q := 49) F dH_peopleShutIn_48 rfl (by decide) ?_
          refine aw_ior (q := 50) F dH_peopleShutIn_49 rfl ?_
          refine aw_istore_2 (q := 51) F dH_peopleShutIn_50 rfl trivial ?_
          refine aw_iinc_3 (q := 54) F dH_peopleShutIn_51 rfl trivial (by constructor <;> omega) ?_
          refine aw_goto (t := 9) F dH_peopleShutIn_54 (by decide) ?_
          have := hv (by omega); exact ih _ (by omega) (i + 1) rfl (by omega) _ _ (by first | rw [bs1 hz hy (by omega) (by have hb := hb (by omega) (by omega); split at hb <;> first | omega | (simp [*]; omega))] | rw [bs0 hz hy (by omega) (by by_cases q : pl c n i = 0; simp [q]; have hb := hb (by omega) q; split at hb <;> first | omega | simp [*])]) (by omega)
        · refine aw_iload_1 (q := 28) F dH_peopleShutIn_27 rfl ?_
          refine aw_aload_0 (q := 29) F dH_peopleShutIn_28 rfl ?_
          refine av_getaE (q := 32) F fH_25 dH_peopleShutIn_29 rfl rfl (by first | exact hH.o | exact hH.a1 | exact hH.a2 | exact hH.a3 | exact hH.a4 | exact hH.a5 | exact hH) hH.p15 ?_
          refine aw_iload_3 (q := 33) F dH_peopleShutIn_32 rfl ?_
          refine av_iaload (q := 34) F dH_peopleShutIn_33 rfl (by first | exact hH.o | exact hH.a1 | exact hH.a2 | exact hH.a3 | exact hH.a4 | exact hH.a5 | exact hH) (by omega) (by omega) ?_
          refine aw_iconst (q := 35) F dH_peopleShutIn_34 rfl (by decide) ?_
          refine aw_isub (q := 36) F dH_peopleShutIn_35 rfl (by have := hv (by omega); constructor <;> omega) ?_
          refine aw_ishr (q := 37) F dH_peopleShutIn_36 rfl ?_
          refine aw_iconst (q := 38) F dH_peopleShutIn_37 rfl (by decide) ?_
          refine aw_iand (q := 39) F dH_peopleShutIn_38 rfl ?_
          refine aw_if_ne (q := 42) (t := 48) F dH_peopleShutIn_39 rfl (by decide) (fun c39 => ?_) (fun c39 => ?_)
          · refine aw_iconst (q := 49) F dH_peopleShutIn_48 rfl (by decide) ?_
            refine aw_ior (q := 50) F dH_peopleShutIn_49 rfl ?_
            refine aw_istore_2 (q := 51) F dH_peopleShutIn_50 rfl trivial ?_
            refine aw_iinc_3 (q := 54) F dH_peopleShutIn_51 rfl trivial (by constructor <;> omega) ?_
            refine aw_goto (t := 9) F dH_peopleShutIn_54 (by decide) ?_
            have := hv (by omega); exact ih _ (by omega) (i + 1) rfl (by omega) _ _ (by first | rw [bs1 hz hy (by omega) (by have hb := hb (by omega) (by omega); split at hb <;> first | omega | (simp [*]; omega))] | rw [bs0 hz hy (by omega) (by by_cases q : pl c n i = 0; simp [q]; have hb := hb (by omega) q; split at hb <;> first | omega | simp [*])]) (by omega)
          · refine aw_iconst (q := 43) F dH_peopleShutIn_42 rfl (by decide) ?_
            refine aw_iload_3 (q := 44) F dH_peopleShutIn_43 rfl ?_
            refine aw_ishl (q := 45) F dH_peopleShutIn_44 rfl ?_
            refine aw_goto (t := 49) F dH_peopleShutIn_45 (by decide) ?_
            refine aw_ior (q := 50) F dH_peopleShutIn_49 rfl ?_
            refine aw_istore_2 (q := 51) F dH_peopleShutIn_50 rfl trivial ?_
            refine aw_iinc_3 (q := 54) F dH_peopleShutIn_51 rfl trivial (by constructor <;> omega) ?_
            refine aw_goto (t := 9) F dH_peopleShutIn_54 (by decide) ?_
            have := hv (by omega); exact ih _ (by omega) (i + 1) rfl (by omega) _ _ (by first | rw [bs1 hz hy (by omega) (by have hb := hb (by omega) (by omega); split at hb <;> first | omega | (simp [*]; omega))] | rw [bs0 hz hy (by omega) (by by_cases q : pl c n i = 0; simp [q]; have hb := hb (by omega) q; split at hb <;> first | omega | simp [*])]) (by omega)
  refine aw_aload_0 (q := 1) F dH_peopleShutIn_0 rfl ?_
  refine av_callV0 (q := 4) (ci := 2) F hm mH_roomsSeen_i mH_roomsSeen_n lH_95 dH_peopleShutIn_1 rfl rfl rfl (by first | exact hH.o | exact hH.a1 | exact hH.a2 | exact hH.a3 | exact hH.a4 | exact hH.a5 | exact hH) (by decide) (Nat.le_refl _) (Nat.le_refl _) (Nat.le_of_ble_eq_true rfl) (wH_roomsSeen hH hh ?_)
  refine aw_istore_1 (q := 5) F dH_peopleShutIn_4 rfl trivial ?_
  refine aw_iconst (q := 6) F dH_peopleShutIn_5 rfl (by decide) ?_
  refine aw_istore_2 (q := 7) F dH_peopleShutIn_6 rfl trivial ?_
  refine aw_iconst (q := 8) F dH_peopleShutIn_7 rfl (by decide) ?_
  refine aw_istore_3 (q := 9) F dH_peopleShutIn_8 rfl trivial ?_
  exact loop _ 0 rfl (by omega) 0 0 rfl rfl
theorem wH_placingsFor {f s : Int} (hH : hS σ a) (h : HH V a c n) (hK : K (some (vI (bsum (fitN c f s) (wB c (pN c))))) (V, σ)) : Wp G 0 mH_placingsFor [vR a, vI f, vI s] (V, σ) 0 0 K := by
  have hH := hH
  obtain ⟨hc, hW, hA⟩ := h
  have hD4 := hc.1
  have hP2 := hc.2.1
  have v0 : V a 0 = dN c := hW.1
  have v1 : V a 1 = pN c := hW.2.1
  have b5 := Bs_le hc
  have b0 := Bs_pos c
  have v3 : V a 3 = Bs c := hW.2.2.2.1
  have v4 : V a 4 = wB c (pN c) := hW.2.2.2.2.1
  have w25 : wB c (pN c) ≤ 25 := by
    have h1 : wB c (pN c) ≤ 5 ^ pN c := Nat.pow_le_pow_left b5 _
    have h2 : 5 ^ pN c ≤ 5 ^ 2 := Nat.pow_le_pow_right (by decide) hP2
    omega
  refine wp_intro mH_placingsFor_i.1 [some (vR a), some (vI f), some (vI s), none, none, none, none] rfl rfl (Nat.le_of_ble_eq_true rfl) ?_
  intro X hG F C
  have hm := C.rm
  have loop : ∀ (j i : Nat), wB c (pN c) - i = j → i ≤ wB c (pN c) → ∀ (y z : Int) (u v : Option AV), nl u → nl v → y = bsum (fitN c f s) i → z = i → AW X 5 [some (vR a), some (vI f), some (vI s), some (vI y), some (vI z), u, v] [] (V, σ) 0 0 := by
    intro j
    induction j using Nat.strongRecOn with
    | ind j ih =>
      intro i hj hi y z u v hu hv hy hz
      have e1 : z % V a 3 = (i % Bs c : Nat) := by rw [hz, v3]; simp
      have e2 : z / V a 3 = (i / Bs c : Nat) := by rw [hz, v3]; simp
      refine aw_iload_4 (q := 7) F dH_placingsFor_5 rfl ?_
      refine aw_aload_0 (q := 8) F dH_placingsFor_7 rfl ?_
      refine av_geti (q := 11) F fH_15 dH_placingsFor_8 rfl rfl (by first | exact hH.o | exact hH.a1 | exact hH.a2 | exact hH.a3 | exact hH.a4 | exact hH.a5 | exact hH) ?_
      refine aw_icmp_ge (q := 14) (t := 112) F dH_placingsFor_11 rfl (by decide) (fun c11 => ?_) (fun c11 => ?_)
      · refine aw_iload_3 (q := 113) F dH_placingsFor_112 rfl ?_
        refine aw_iret F C dH_placingsFor_113 rfl (Nat.le_refl _) (Nat.le_refl _) ?_
        rw [show i = wB c (pN c) by omega] at hy; exact kI hK hy.symm
      · refine aw_aload_0 (q := 15) F dH_placingsFor_14 rfl ?_
        refine av_geti (q := 18) F fH_11 dH_placingsFor_15 rfl rfl (by first | exact hH.o | exact hH.a1 | exact hH.a2 | exact hH.a3 | exact hH.a4 | exact hH.a5 | exact hH) ?_
        refine aw_if_le (q := 21) (t := 112) F dH_placingsFor_18 rfl (by decide) (fun c18 => by omega) (fun c18 => ?_)
        refine aw_aload_0 (q := 22) F dH_placingsFor_21 rfl ?_
        refine av_geti (q := 25) F fH_49 dH_placingsFor_22 rfl rfl (by first | exact hH.o | exact hH.a1 | exact hH.a2 | exact hH.a3 | exact hH.a4 | exact hH.a5 | exact hH) ?_
        refine aw_iconst (q := 26) F dH_placingsFor_25 rfl (by decide) ?_
        refine aw_icmp_lt (q := 29) (t := 46) F dH_placingsFor_26 rfl (by decide) (fun c26 => ?_) (fun c26 => ?_)
        · refine aw_iconst (q := 47) F dH_placingsFor_46 rfl (by decide) ?_
          refine aw_goto (t := 51) F dH_placingsFor_47 (by decide) ?_
          refine aw_istore_5 (q := 53) F dH_placingsFor_51 rfl trivial ?_
          refine aw_aload_0 (q := 54) F dH_placingsFor_53 rfl ?_
          refine av_geti (q := 57) F fH_49 dH_placingsFor_54 rfl rfl (by first | exact hH.o | exact hH.a1 | exact hH.a2 | exact hH.a3 | exact hH.a4 | exact hH.a5 | exact hH) ?_
          refine aw_iconst (q := 58) F dH_placingsFor_57 rfl (by decide) ?_
          refine aw_icmp_lt (q := 61) (t := 78) F dH_placingsFor_58 rfl (by decide) (fun c58 => ?_) (fun c58 => ?_)
          · refine aw_iconst (q := 79) F dH_placingsFor_78 rfl (by decide) ?_
            refine aw_goto (t := 83) F dH_placingsFor_79 (by decide) ?_
            refine aw_istore_6 (q := 85) F dH_placingsFor_83 rfl trivial ?_
            refine aw_iload_3 (q := 86) F dH_placingsFor_85 rfl ?_
            refine aw_iload_5 (q := 88) F dH_placingsFor_86 rfl ?_
            refine aw_if_eq (q := 91) (t := 103) F dH_placingsFor_88 rfl (by decide) (fun c88 => absurd c88 (by decide)) (fun c88 => ?_)
            refine aw_iload_6 (q := 93) F dH_placingsFor_91 rfl ?_
            refine aw_if_eq (q := 96) (t := 103) F dH_placingsFor_93 rfl (by decide) (fun c93 => absurd c93 (by decide)) (fun c93 => ?_)
            refine aw_iconst (q := 97) F dH_placingsFor_96 rfl (by decide) ?_
            refine aw_iload_4 (q := 99) F dH_placingsFor_97 rfl ?_
            refine aw_ishl (q := 100) F dH_placingsFor_99 rfl ?_
            refine aw_goto (t := 104) F dH_placingsFor_100 (by decide) ?_
            refine aw_ior (q := 105) F dH_placingsFor_104 rfl ?_
            refine aw_istore_3 (q := 106) F dH_placingsFor_105 rfl trivial ?_
            refine aw_iinc_4 (q := 109) F dH_placingsFor_106 rfl trivial (by constructor <;> omega) ?_
            refine aw_goto (t := 5) F dH_placingsFor_109 (by decide) ?_
            refine ih _ (by omega) (i + 1) rfl (by omega) _ _ _ _ trivial trivial ?_ (by omega)
            first | rw [bs1 hz hy (by omega) (by unfold fitN; simp; omega)] | rw [bs0 hz hy (by omega) (by unfold fitN; simp; omega)]
          · refine aw_iload_2 (q := 62) F dH_placingsFor_61 rfl ?_
            refine aw_bipush (q := 64) F dH_placingsFor_62 rfl (by decide) ?_
            refine aw_icmp_eq (q := 67) (t := 78) F dH_placingsFor_64 rfl (by decide) (fun c64 => ?_) (fun c64 => ?_)
            · refine aw_iconst (q := 79) F dH_placingsFor_78 rfl (by decide) ?_
              refine aw_goto (t := 83) F dH_placingsFor_79 (by decide) ?_
              refine aw_istore_6 (q := 85) F dH_placingsFor_83 rfl trivial ?_
              refine aw_iload_3 (q := 86) F dH_placingsFor_85 rfl ?_
              refine aw_iload_5 (q := 88) F dH_placingsFor_86 rfl ?_
              refine aw_if_eq (q := 91) (t := 103) F dH_placingsFor_88 rfl (by decide) (fun c88 => absurd c88 (by decide)) (fun c88 => ?_)
              refine aw_iload_6 (q := 93) F dH_placingsFor_91 rfl ?_
              refine aw_if_eq (q := 96) (t := 103) F dH_placingsFor_93 rfl (by decide) (fun c93 => absurd c93 (by decide)) (fun c93 => ?_)
              refine aw_iconst (q := 97) F dH_placingsFor_96 rfl (by decide) ?_
              refine aw_iload_4 (q := 99) F dH_placingsFor_97 rfl ?_
              refine aw_ishl (q := 100) F dH_placingsFor_99 rfl ?_
              refine aw_goto (t := 104) F dH_placingsFor_100 (by decide) ?_
              refine aw_ior (q := 105) F dH_placingsFor_104 rfl ?_
              refine aw_istore_3 (q := 106) F dH_placingsFor_105 rfl trivial ?_
              refine aw_iinc_4 (q := 109) F dH_placingsFor_106 rfl trivial (by constructor <;> omega) ?_
              refine aw_goto (t := 5) F dH_placingsFor_109 (by decide) ?_
              refine ih _ (by omega) (i + 1) rfl (by omega) _ _ _ _ trivial trivial ?_ (by omega)
              first | rw [bs1 hz hy (by omega) (by unfold fitN; simp; omega)] | rw [bs0 hz hy (by omega) (by unfold fitN; simp; omega)]
            · refine aw_iload_4 (q := 69) F dH_placingsFor_67 rfl ?_
              refine aw_aload_0 (q := 70) F dH_placingsFor_69 rfl ?_
              refine av_geti (q := 73) F fH_11 dH_placingsFor_70 rfl rfl (by first | exact hH.o | exact hH.a1 | exact hH.a2 | exact hH.a3 | exact hH.a4 | exact hH.a5 | exact hH) ?_
              refine aw_idiv (q := 74) F dH_placingsFor_73 rfl (by omega) (by omega) ?_
              refine aw_iload_2 (q := 75) F dH_placingsFor_74 rfl ?_
              rw [e2]
              refine aw_icmp_ne (q := 78) (t := 82) F dH_placingsFor_75 rfl (by decide) (fun c75 => ?_) (fun c75 => ?_)
              · refine aw_iconst (q := 83) F dH_placingsFor_82 rfl (by decide) ?_
                refine aw_istore_6 (q := 85) F dH_placingsFor_83 rfl trivial ?_
                refine aw_iload_3 (q := 86) F dH_placingsFor_85 rfl ?_
                refine aw_iload_5 (q := 88) F dH_placingsFor_86 rfl ?_
                refine aw_if_eq (q := 91) (t := 103) F dH_placingsFor_88 rfl (by decide) (fun c88 => absurd c88 (by decide)) (fun c88 => ?_)
                refine aw_iload_6 (q := 93) F dH_placingsFor_91 rfl ?_
                refine aw_if_eq (q := 96) (t := 103) F dH_placingsFor_93 rfl (by decide) (fun c93 => ?_) (fun c93 => absurd c93 (by decide))
                refine aw_iconst (q := 104) F dH_placingsFor_103 rfl (by decide) ?_
                refine aw_ior (q := 105) F dH_placingsFor_104 rfl ?_
                refine aw_istore_3 (q := 106) F dH_placingsFor_105 rfl trivial ?_
                refine aw_iinc_4 (q := 109) F dH_placingsFor_106 rfl trivial (by constructor <;> omega) ?_
                refine aw_goto (t := 5) F dH_placingsFor_109 (by decide) ?_
                refine ih _ (by omega) (i + 1) rfl (by omega) _ _ _ _ trivial trivial ?_ (by omega)
                first | rw [bs1 hz hy (by omega) (by unfold fitN; simp; omega)] | rw [bs0 hz hy (by omega) (by unfold fitN; simp; omega)]
              · refine aw_iconst (q := 79) F dH_placingsFor_78 rfl (by decide) ?_
                refine aw_goto (t := 83) F dH_placingsFor_79 (by decide) ?_
                refine aw_istore_6 (q := 85) F dH_placingsFor_83 rfl trivial ?_
                refine aw_iload_3 (q := 86) F dH_placingsFor_85 rfl ?_
                refine aw_iload_5 (q := 88) F dH_placingsFor_86 rfl ?_
                refine aw_if_eq (q := 91) (t := 103) F dH_placingsFor_88 rfl (by decide) (fun c88 => absurd c88 (by decide)) (fun c88 => ?_)
                refine aw_iload_6 (q := 93) F dH_placingsFor_91 rfl ?_
                refine aw_if_eq (q := 96) (t := 103) F dH_placingsFor_93 rfl (by decide) (fun c93 => absurd c93 (by decide)) (fun c93 => ?_)
                refine aw_iconst (q := 97) F dH_placingsFor_96 rfl (by decide) ?_
                refine aw_iload_4 (q := 99) F dH_placingsFor_97 rfl ?_
                refine aw_ishl (q := 100) F dH_placingsFor_99 rfl ?_
                refine aw_goto (t := 104) F dH_placingsFor_100 (by decide) ?_
                refine aw_ior (q := 105) F dH_placingsFor_104 rfl ?_
                refine aw_istore_3 (q := 106) F dH_placingsFor_105 rfl trivial ?_
                refine aw_iinc_4 (q := 109) F dH_placingsFor_106 rfl trivial (by constructor <;> omega) ?_
                refine aw_goto (t := 5) F dH_placingsFor_109 (by decide) ?_
                refine ih _ (by omega) (i + 1) rfl (by omega) _ _ _ _ trivial trivial ?_ (by omega)
                first | rw [bs1 hz hy (by omega) (by unfold fitN; simp; omega)] | rw [bs0 hz hy (by omega) (by unfold fitN; simp; omega)]
        · refine aw_iload_1 (q := 30) F dH_placingsFor_29 rfl ?_
          refine aw_bipush (q := 32) F dH_placingsFor_30 rfl (by decide) ?_
          refine aw_icmp_eq (q := 35) (t := 46) F dH_placingsFor_32 rfl (by decide) (fun c32 => ?_) (fun c32 => ?_)
          · refine aw_iconst (q := 47) F dH_placingsFor_46 rfl (by decide) ?_
            refine aw_goto (t := 51) F dH_placingsFor_47 (by decide) ?_
            refine aw_istore_5 (q := 53) F dH_placingsFor_51 rfl trivial ?_
            refine aw_aload_0 (q := 54) F dH_placingsFor_53 rfl ?_
            refine av_geti (q := 57) F fH_49 dH_placingsFor_54 rfl rfl (by first | exact hH.o | exact hH.a1 | exact hH.a2 | exact hH.a3 | exact hH.a4 | exact hH.a5 | exact hH) ?_
            refine aw_iconst (q := 58) F dH_placingsFor_57 rfl (by decide) ?_
            refine aw_icmp_lt (q := 61) (t := 78) F dH_placingsFor_58 rfl (by decide) (fun c58 => ?_) (fun c58 => ?_)
            · refine aw_iconst (q := 79) F dH_placingsFor_78 rfl (by decide) ?_
              refine aw_goto (t := 83) F dH_placingsFor_79 (by decide) ?_
              refine aw_istore_6 (q := 85) F dH_placingsFor_83 rfl trivial ?_
              refine aw_iload_3 (q := 86) F dH_placingsFor_85 rfl ?_
              refine aw_iload_5 (q := 88) F dH_placingsFor_86 rfl ?_
              refine aw_if_eq (q := 91) (t := 103) F dH_placingsFor_88 rfl (by decide) (fun c88 => absurd c88 (by decide)) (fun c88 => ?_)
              refine aw_iload_6 (q := 93) F dH_placingsFor_91 rfl ?_
              refine aw_if_eq (q := 96) (t := 103) F dH_placingsFor_93 rfl (by decide) (fun c93 => absurd c93 (by decide)) (fun c93 => ?_)
              refine aw_iconst (q := 97) F dH_placingsFor_96 rfl (by decide) ?_
              refine aw_iload_4 (q := 99) F dH_placingsFor_97 rfl ?_
              refine aw_ishl (q := 100) F dH_placingsFor_99 rfl ?_
              refine aw_goto (t := 104) F dH_placingsFor_100 (by decide) ?_
              refine aw_ior (q := 105) F dH_placingsFor_104 rfl ?_
              refine aw_istore_3 (q := 106) F dH_placingsFor_105 rfl trivial ?_
              refine aw_iinc_4 (q := 109) F dH_placingsFor_106 rfl trivial (by constructor <;> omega) ?_
              refine aw_goto (t := 5) F dH_placingsFor_109 (by decide) ?_
              refine ih _ (by omega) (i + 1) rfl (by omega) _ _ _ _ trivial trivial ?_ (by omega)
              first | rw [bs1 hz hy (by omega) (by unfold fitN; simp; omega)] | rw [bs0 hz hy (by omega) (by unfold fitN; simp; omega)]
            · refine aw_iload_2 (q := 62) F dH_placingsFor_61 rfl ?_
              refine aw_bipush (q := 64) F dH_placingsFor_62 rfl (by decide) ?_
              refine aw_icmp_eq (q := 67) (t := 78) F dH_placingsFor_64 rfl (by decide) (fun c64 => ?_) (fun c64 => ?_)
              · refine aw_iconst (q := 79) F dH_placingsFor_78 rfl (by decide) ?_
                refine aw_goto (t := 83) F dH_placingsFor_79 (by decide) ?_
                refine aw_istore_6 (q := 85) F dH_placingsFor_83 rfl trivial ?_
                refine aw_iload_3 (q := 86) F dH_placingsFor_85 rfl ?_
                refine aw_iload_5 (q := 88) F dH_placingsFor_86 rfl ?_
                refine aw_if_eq (q := 91) (t := 103) F dH_placingsFor_88 rfl (by decide) (fun c88 => absurd c88 (by decide)) (fun c88 => ?_)
                refine aw_iload_6 (q := 93) F dH_placingsFor_91 rfl ?_
                refine aw_if_eq (q := 96) (t := 103) F dH_placingsFor_93 rfl (by decide) (fun c93 => absurd c93 (by decide)) (fun c93 => ?_)
                refine aw_iconst (q := 97) F dH_placingsFor_96 rfl (by decide) ?_
                refine aw_iload_4 (q := 99) F dH_placingsFor_97 rfl ?_
                refine aw_ishl (q := 100) F dH_placingsFor_99 rfl ?_
                refine aw_goto (t := 104) F dH_placingsFor_100 (by decide) ?_
                refine aw_ior (q := 105) F dH_placingsFor_104 rfl ?_
                refine aw_istore_3 (q := 106) F dH_placingsFor_105 rfl trivial ?_
                refine aw_iinc_4 (q := 109) F dH_placingsFor_106 rfl trivial (by constructor <;> omega) ?_
                refine aw_goto (t := 5) F dH_placingsFor_109 (by decide) ?_
                refine ih _ (by omega) (i + 1) rfl (by omega) _ _ _ _ trivial trivial ?_ (by omega)
                first | rw [bs1 hz hy (by omega) (by unfold fitN; simp; omega)] | rw [bs0 hz hy (by omega) (by unfold fitN; simp; omega)]
              · refine aw_iload_4 (q := 69) F dH_placingsFor_67 rfl ?_
                refine aw_aload_0 (q := 70) F dH_placingsFor_69 rfl ?_
                refine av_geti (q := 73) F fH_11 dH_placingsFor_70 rfl rfl (by first | exact hH.o | exact hH.a1 | exact hH.a2 | exact hH.a3 | exact hH.a4 | exact hH.a5 | exact hH) ?_
                refine aw_idiv (q := 74) F dH_placingsFor_73 rfl (by omega) (by omega) ?_
                refine aw_iload_2 (q := 75) F dH_placingsFor_74 rfl ?_
                rw [e2]
                refine aw_icmp_ne (q := 78) (t := 82) F dH_placingsFor_75 rfl (by decide) (fun c75 => ?_) (fun c75 => ?_)
                · refine aw_iconst (q := 83) F dH_placingsFor_82 rfl (by decide) ?_
                  refine aw_istore_6 (q := 85) F dH_placingsFor_83 rfl trivial ?_
                  refine aw_iload_3 (q := 86) F dH_placingsFor_85 rfl ?_
                  refine aw_iload_5 (q := 88) F dH_placingsFor_86 rfl ?_
                  refine aw_if_eq (q := 91) (t := 103) F dH_placingsFor_88 rfl (by decide) (fun c88 => absurd c88 (by decide)) (fun c88 => ?_)
                  refine aw_iload_6 (q := 93) F dH_placingsFor_91 rfl ?_
                  refine aw_if_eq (q := 96) (t := 103) F dH_placingsFor_93 rfl (by decide) (fun c93 => ?_) (fun c93 => absurd c93 (by decide))
                  refine aw_iconst (q := 104) F dH_placingsFor_103 rfl (by decide) ?_
                  refine aw_ior (q := 105) F dH_placingsFor_104 rfl ?_
                  refine aw_istore_3 (q := 106) F dH_placingsFor_105 rfl trivial ?_
                  refine aw_iinc_4 (q := 109) F dH_placingsFor_106 rfl trivial (by constructor <;> omega) ?_
                  refine aw_goto (t := 5) F dH_placingsFor_109 (by decide) ?_
                  refine ih _ (by omega) (i + 1) rfl (by omega) _ _ _ _ trivial trivial ?_ (by omega)
                  first | rw [bs1 hz hy (by omega) (by unfold fitN; simp; omega)] | rw [bs0 hz hy (by omega) (by unfold fitN; simp; omega)]
                · refine aw_iconst (q := 79) F dH_placingsFor_78 rfl (by decide) ?_
                  refine aw_goto (t := 83) F dH_placingsFor_79 (by decide) ?_
                  refine aw_istore_6 (q := 85) F dH_placingsFor_83 rfl trivial ?_
                  refine aw_iload_3 (q := 86) F dH_placingsFor_85 rfl ?_
                  refine aw_iload_5 (q := 88) F dH_placingsFor_86 rfl ?_
                  refine aw_if_eq (q := 91) (t := 103) F dH_placingsFor_88 rfl (by decide) (fun c88 => absurd c88 (by decide)) (fun c88 => ?_)
                  refine aw_iload_6 (q := 93) F dH_placingsFor_91 rfl ?_
                  refine aw_if_eq (q := 96) (t := 103) F dH_placingsFor_93 rfl (by decide) (fun c93 => absurd c93 (by decide)) (fun c93 => ?_)
                  refine aw_iconst (q := 97) F dH_placingsFor_96 rfl (by decide) ?_
                  refine aw_iload_4 (q := 99) F dH_placingsFor_97 rfl ?_
                  refine aw_ishl (q := 100) F dH_placingsFor_99 rfl ?_
                  refine aw_goto (t := 104) F dH_placingsFor_100 (by decide) ?_
                  refine aw_ior (q := 105) F dH_placingsFor_104 rfl ?_
                  refine aw_istore_3 (q := 106) F dH_placingsFor_105 rfl trivial ?_
                  refine aw_iinc_4 (q := 109) F dH_placingsFor_106 rfl trivial (by constructor <;> omega) ?_
                  refine aw_goto (t := 5) F dH_placingsFor_109 (by decide) ?_
                  refine ih _ (by omega) (i + 1) rfl (by omega) _ _ _ _ trivial trivial ?_ (by omega)
                  first | rw [bs1 hz hy (by omega) (by unfold fitN; simp; omega)] | rw [bs0 hz hy (by omega) (by unfold fitN; simp; omega)]
          · refine aw_iload_4 (q := 37) F dH_placingsFor_35 rfl ?_
            refine aw_aload_0 (q := 38) F dH_placingsFor_37 rfl ?_
            refine av_geti (q := 41) F fH_11 dH_placingsFor_38 rfl rfl (by first | exact hH.o | exact hH.a1 | exact hH.a2 | exact hH.a3 | exact hH.a4 | exact hH.a5 | exact hH) ?_
            refine aw_irem (q := 42) F dH_placingsFor_41 rfl (by omega) (by omega) ?_
            refine aw_iload_1 (q := 43) F dH_placingsFor_42 rfl ?_
            rw [e1]
            refine aw_icmp_ne (q := 46) (t := 50) F dH_placingsFor_43 rfl (by decide) (fun c43 => ?_) (fun c43 => ?_)
            · refine aw_iconst (q := 51) F dH_placingsFor_50 rfl (by decide) ?_
              refine aw_istore_5 (q := 53) F dH_placingsFor_51 rfl trivial ?_
              refine aw_aload_0 (q := 54) F dH_placingsFor_53 rfl ?_
              refine av_geti (q := 57) F fH_49 dH_placingsFor_54 rfl rfl (by first | exact hH.o | exact hH.a1 | exact hH.a2 | exact hH.a3 | exact hH.a4 | exact hH.a5 | exact hH) ?_
              refine aw_iconst (q := 58) F dH_placingsFor_57 rfl (by decide) ?_
              refine aw_icmp_lt (q := 61) (t := 78) F dH_placingsFor_58 rfl (by decide) (fun c58 => ?_) (fun c58 => ?_)
              · refine aw_iconst (q := 79) F dH_placingsFor_78 rfl (by decide) ?_
                refine aw_goto (t := 83) F dH_placingsFor_79 (by decide) ?_
                refine aw_istore_6 (q := 85) F dH_placingsFor_83 rfl trivial ?_
                refine aw_iload_3 (q := 86) F dH_placingsFor_85 rfl ?_
                refine aw_iload_5 (q := 88) F dH_placingsFor_86 rfl ?_
                refine aw_if_eq (q := 91) (t := 103) F dH_placingsFor_88 rfl (by decide) (fun c88 => ?_) (fun c88 => absurd c88 (by decide))
                refine aw_iconst (q := 104) F dH_placingsFor_103 rfl (by decide) ?_
                refine aw_ior (q := 105) F dH_placingsFor_104 rfl ?_
                refine aw_istore_3 (q := 106) F dH_placingsFor_105 rfl trivial ?_
                refine aw_iinc_4 (q := 109) F dH_placingsFor_106 rfl trivial (by constructor <;> omega) ?_
                refine aw_goto (t := 5) F dH_placingsFor_109 (by decide) ?_
                refine ih _ (by omega) (i + 1) rfl (by omega) _ _ _ _ trivial trivial ?_ (by omega)
                first | rw [bs1 hz hy (by omega) (by unfold fitN; simp; omega)] | rw [bs0 hz hy (by omega) (by unfold fitN; simp; omega)]
              · refine aw_iload_2 (q := 62) F dH_placingsFor_61 rfl ?_
                refine aw_bipush (q := 64) F dH_placingsFor_62 rfl (by decide) ?_
                refine aw_icmp_eq (q := 67) (t := 78) F dH_placingsFor_64 rfl (by decide) (fun c64 => ?_) (fun c64 => ?_)
                · refine aw_iconst (q := 79) F dH_placingsFor_78 rfl (by decide) ?_
                  refine aw_goto (t := 83) F dH_placingsFor_79 (by decide) ?_
                  refine aw_istore_6 (q := 85) F dH_placingsFor_83 rfl trivial ?_
                  refine aw_iload_3 (q := 86) F dH_placingsFor_85 rfl ?_
                  refine aw_iload_5 (q := 88) F dH_placingsFor_86 rfl ?_
                  refine aw_if_eq (q := 91) (t := 103) F dH_placingsFor_88 rfl (by decide) (fun c88 => ?_) (fun c88 => absurd c88 (by decide))
                  refine aw_iconst (q := 104) F dH_placingsFor_103 rfl (by decide) ?_
                  refine aw_ior (q := 105) F dH_placingsFor_104 rfl ?_
                  refine aw_istore_3 (q := 106) F dH_placingsFor_105 rfl trivial ?_
                  refine aw_iinc_4 (q := 109) F dH_placingsFor_106 rfl trivial (by constructor <;> omega) ?_
                  refine aw_goto (t := 5) F dH_placingsFor_109 (by decide) ?_
                  refine ih _ (by omega) (i + 1) rfl (by omega) _ _ _ _ trivial trivial ?_ (by omega)
                  first | rw [bs1 hz hy (by omega) (by unfold fitN; simp; omega)] | rw [bs0 hz hy (by omega) (by unfold fitN; simp; omega)]
                · refine aw_iload_4 (q := 69) F dH_placingsFor_67 rfl ?_
                  refine aw_aload_0 (q := 70) F dH_placingsFor_69 rfl ?_
                  refine av_geti (q := 73) F fH_11 dH_placingsFor_70 rfl rfl (by first | exact hH.o | exact hH.a1 | exact hH.a2 | exact hH.a3 | exact hH.a4 | exact hH.a5 | exact hH) ?_
                  refine aw_idiv (q := 74) F dH_placingsFor_73 rfl (by omega) (by omega) ?_
                  refine aw_iload_2 (q := 75) F dH_placingsFor_74 rfl ?_
                  rw [e2]
                  refine aw_icmp_ne (q := 78) (t := 82) F dH_placingsFor_75 rfl (by decide) (fun c75 => ?_) (fun c75 => ?_)
                  · refine aw_iconst (q := 83) F dH_placingsFor_82 rfl (by decide) ?_
                    refine aw_istore_6 (q := 85) F dH_placingsFor_83 rfl trivial ?_
                    refine aw_iload_3 (q := 86) F dH_placingsFor_85 rfl ?_
                    refine aw_iload_5 (q := 88) F dH_placingsFor_86 rfl ?_
                    refine aw_if_eq (q := 91) (t := 103) F dH_placingsFor_88 rfl (by decide) (fun c88 => ?_) (fun c88 => absurd c88 (by decide))
                    refine aw_iconst (q := 104) F dH_placingsFor_103 rfl (by decide) ?_
                    refine aw_ior (q := 105) F dH_placingsFor_104 rfl ?_
                    refine aw_istore_3 (q := 106) F dH_placingsFor_105 rfl trivial ?_
                    refine aw_iinc_4 (q := 109) F dH_placingsFor_106 rfl trivial (by constructor <;> omega) ?_
                    refine aw_goto (t := 5) F dH_placingsFor_109 (by decide) ?_
                    refine ih _ (by omega) (i + 1) rfl (by omega) _ _ _ _ trivial trivial ?_ (by omega)
                    first | rw [bs1 hz hy (by omega) (by unfold fitN; simp; omega)] | rw [bs0 hz hy (by omega) (by unfold fitN; simp; omega)]
                  · refine aw_iconst (q := 79) F dH_placingsFor_78 rfl (by decide) ?_
                    refine aw_goto (t := 83) F dH_placingsFor_79 (by decide) ?_
                    refine aw_istore_6 (q := 85) F dH_placingsFor_83 rfl trivial ?_
                    refine aw_iload_3 (q := 86) F dH_placingsFor_85 rfl ?_
                    refine aw_iload_5 (q := 88) F dH_placingsFor_86 rfl ?_
                    refine aw_if_eq (q := 91) (t := 103) F dH_placingsFor_88 rfl (by decide) (fun c88 => ?_) (fun c88 => absurd c88 (by decide))
                    refine aw_iconst (q := 104) F dH_placingsFor_103 rfl (by decide) ?_
                    refine aw_ior (q := 105) F dH_placingsFor_104 rfl ?_
                    refine aw_istore_3 (q := 106) F dH_placingsFor_105 rfl trivial ?_
                    refine aw_iinc_4 (q := 109) F dH_placingsFor_106 rfl trivial (by constructor <;> omega) ?_
                    refine aw_goto (t := 5) F dH_placingsFor_109 (by decide) ?_
                    refine ih _ (by omega) (i + 1) rfl (by omega) _ _ _ _ trivial trivial ?_ (by omega)
                    first | rw [bs1 hz hy (by omega) (by unfold fitN; simp; omega)] | rw [bs0 hz hy (by omega) (by unfold fitN; simp; omega)]
            · refine aw_iconst (q := 47) F dH_placingsFor_46 rfl (by decide) ?_
              refine aw_goto (t := 51) F dH_placingsFor_47 (by decide) ?_
              refine aw_istore_5 (q := 53) F dH_placingsFor_51 rfl trivial ?_
              refine aw_aload_0 (q := 54) F dH_placingsFor_53 rfl ?_
              refine av_geti (q := 57) F fH_49 dH_placingsFor_54 rfl rfl (by first | exact hH.o | exact hH.a1 | exact hH.a2 | exact hH.a3 | exact hH.a4 | exact hH.a5 | exact hH) ?_
              refine aw_iconst (q := 58) F dH_placingsFor_57 rfl (by decide) ?_
              refine aw_icmp_lt (q := 61) (t := 78) F dH_placingsFor_58 rfl (by decide) (fun c58 => ?_) (fun c58 => ?_)
              · refine aw_iconst (q := 79) F dH_placingsFor_78 rfl (by decide) ?_
                refine aw_goto (t := 83) F dH_placingsFor_79 (by decide) ?_
                refine aw_istore_6 (q := 85) F dH_placingsFor_83 rfl trivial ?_
                refine aw_iload_3 (q := 86) F dH_placingsFor_85 rfl ?_
                refine aw_iload_5 (q := 88) F dH_placingsFor_86 rfl ?_
                refine aw_if_eq (q := 91) (t := 103) F dH_placingsFor_88 rfl (by decide) (fun c88 => absurd c88 (by decide)) (fun c88 => ?_)
                refine aw_iload_6 (q := 93) F dH_placingsFor_91 rfl ?_
                refine aw_if_eq (q := 96) (t := 103) F dH_placingsFor_93 rfl (by decide) (fun c93 => absurd c93 (by decide)) (fun c93 => ?_)
                refine aw_iconst (q := 97) F dH_placingsFor_96 rfl (by decide) ?_
                refine aw_iload_4 (q := 99) F dH_placingsFor_97 rfl ?_
                refine aw_ishl (q := 100) F dH_placingsFor_99 rfl ?_
                refine aw_goto (t := 104) F dH_placingsFor_100 (by decide) ?_
                refine aw_ior (q := 105) F dH_placingsFor_104 rfl ?_
                refine aw_istore_3 (q := 106) F dH_placingsFor_105 rfl trivial ?_
                refine aw_iinc_4 (q := 109) F dH_placingsFor_106 rfl trivial (by constructor <;> omega) ?_
                refine aw_goto (t := 5) F dH_placingsFor_109 (by decide) ?_
                refine ih _ (by omega) (i + 1) rfl (by omega) _ _ _ _ trivial trivial ?_ (by omega)
                first | rw [bs1 hz hy (by omega) (by unfold fitN; simp; omega)] | rw [bs0 hz hy (by omega) (by unfold fitN; simp; omega)]
              · refine aw_iload_2 (q := 62) F dH_placingsFor_61 rfl ?_
                refine aw_bipush (q := 64) F dH_placingsFor_62 rfl (by decide) ?_
                refine aw_icmp_eq (q := 67) (t := 78) F dH_placingsFor_64 rfl (by decide) (fun c64 => ?_) (fun c64 => ?_)
                · refine aw_iconst (q := 79) F dH_placingsFor_78 rfl (by decide) ?_
                  refine aw_goto (t := 83) F dH_placingsFor_79 (by decide) ?_
                  refine aw_istore_6 (q := 85) F dH_placingsFor_83 rfl trivial ?_
                  refine aw_iload_3 (q := 86) F dH_placingsFor_85 rfl ?_
                  refine aw_iload_5 (q := 88) F dH_placingsFor_86 rfl ?_
                  refine aw_if_eq (q := 91) (t := 103) F dH_placingsFor_88 rfl (by decide) (fun c88 => absurd c88 (by decide)) (fun c88 => ?_)
                  refine aw_iload_6 (q := 93) F dH_placingsFor_91 rfl ?_
                  refine aw_if_eq (q := 96) (t := 103) F dH_placingsFor_93 rfl (by decide) (fun c93 => absurd c93 (by decide)) (fun c93 => ?_)
                  refine aw_iconst (q := 97) F dH_placingsFor_96 rfl (by decide) ?_
                  refine aw_iload_4 (q := 99) F dH_placingsFor_97 rfl ?_
                  refine aw_ishl (q := 100) F dH_placingsFor_99 rfl ?_
                  refine aw_goto (t := 104) F dH_placingsFor_100 (by decide) ?_
                  refine aw_ior (q := 105) F dH_placingsFor_104 rfl ?_
                  refine aw_istore_3 (q := 106) F dH_placingsFor_105 rfl trivial ?_
                  refine aw_iinc_4 (q := 109) F dH_placingsFor_106 rfl trivial (by constructor <;> omega) ?_
                  refine aw_goto (t := 5) F dH_placingsFor_109 (by decide) ?_
                  refine ih _ (by omega) (i + 1) rfl (by omega) _ _ _ _ trivial trivial ?_ (by omega)
                  first | rw [bs1 hz hy (by omega) (by unfold fitN; simp; omega)] | rw [bs0 hz hy (by omega) (by unfold fitN; simp; omega)]
                · refine aw_iload_4 (q := 69) F dH_placingsFor_67 rfl ?_
                  refine aw_aload_0 (q := 70) F dH_placingsFor_69 rfl ?_
                  refine av_geti (q := 73) F fH_11 dH_placingsFor_70 rfl rfl (by first | exact hH.o | exact hH.a1 | exact hH.a2 | exact hH.a3 | exact hH.a4 | exact hH.a5 | exact hH) ?_
                  refine aw_idiv (q := 74) F dH_placingsFor_73 rfl (by omega) (by omega) ?_
                  refine aw_iload_2 (q := 75) F dH_placingsFor_74 rfl ?_
                  rw [e2]
                  refine aw_icmp_ne (q := 78) (t := 82) F dH_placingsFor_75 rfl (by decide) (fun c75 => ?_) (fun c75 => ?_)
                  · refine aw_iconst (q := 83) F dH_placingsFor_82 rfl (by decide) ?_
                    refine aw_istore_6 (q := 85) F dH_placingsFor_83 rfl trivial ?_
                    refine aw_iload_3 (q := 86) F dH_placingsFor_85 rfl ?_
                    refine aw_iload_5 (q := 88) F dH_placingsFor_86 rfl ?_
                    refine aw_if_eq (q := 91) (t := 103) F dH_placingsFor_88 rfl (by decide) (fun c88 => absurd c88 (by decide)) (fun c88 => ?_)
                    refine aw_iload_6 (q := 93) F dH_placingsFor_91 rfl ?_
                    refine aw_if_eq (q := 96) (t := 103) F dH_placingsFor_93 rfl (by decide) (fun c93 => ?_) (fun c93 => absurd c93 (by decide))
                    refine aw_iconst (q := 104) F dH_placingsFor_103 rfl (by decide) ?_
                    refine aw_ior (q := 105) F dH_placingsFor_104 rfl ?_
                    refine aw_istore_3 (q := 106) F dH_placingsFor_105 rfl trivial ?_
                    refine aw_iinc_4 (q := 109) F dH_placingsFor_106 rfl trivial (by constructor <;> omega) ?_
                    refine aw_goto (t := 5) F dH_placingsFor_109 (by decide) ?_
                    refine ih _ (by omega) (i + 1) rfl (by omega) _ _ _ _ trivial trivial ?_ (by omega)
                    first | rw [bs1 hz hy (by omega) (by unfold fitN; simp; omega)] | rw [bs0 hz hy (by omega) (by unfold fitN; simp; omega)]
                  · refine aw_iconst (q := 79) F dH_placingsFor_78 rfl (by decide) ?_
                    refine aw_goto (t := 83) F dH_placingsFor_79 (by decide) ?_
                    refine aw_istore_6 (q := 85) F dH_placingsFor_83 rfl trivial ?_
                    refine aw_iload_3 (q := 86) F dH_placingsFor_85 rfl ?_
                    refine aw_iload_5 (q := 88) F dH_placingsFor_86 rfl ?_
                    refine aw_if_eq (q := 91) (t := 103) F dH_placingsFor_88 rfl (by decide) (fun c88 => absurd c88 (by decide)) (fun c88 => ?_)
                    refine aw_iload_6 (q := 93) F dH_placingsFor_91 rfl ?_
                    refine aw_if_eq (q := 96) (t := 103) F dH_placingsFor_93 rfl (by decide) (fun c93 => absurd c93 (by decide)) (fun c93 => ?_)
                    refine aw_iconst (q := 97) F dH_placingsFor_96 rfl (by decide) ?_
                    refine aw_iload_4 (q := 99) F dH_placingsFor_97 rfl ?_
                    refine aw_ishl (q := 100) F dH_placingsFor_99 rfl ?_
                    refine aw_goto (t := 104) F dH_placingsFor_100 (by decide) ?_
                    refine aw_ior (q := 105) F dH_placingsFor_104 rfl ?_
                    refine aw_istore_3 (q := 106) F dH_placingsFor_105 rfl trivial ?_
                    refine aw_iinc_4 (q := 109) F dH_placingsFor_106 rfl trivial (by constructor <;> omega) ?_
                    refine aw_goto (t := 5) F dH_placingsFor_109 (by decide) ?_
                    refine ih _ (by omega) (i + 1) rfl (by omega) _ _ _ _ trivial trivial ?_ (by omega)
                    first | rw [bs1 hz hy (by omega) (by unfold fitN; simp; omega)] | rw [bs0 hz hy (by omega) (by unfold fitN; simp; omega)]
  refine aw_iconst (q := 1) F dH_placingsFor_0 rfl (by decide) ?_
  refine aw_istore_3 (q := 2) F dH_placingsFor_1 rfl trivial ?_
  refine aw_iconst (q := 3) F dH_placingsFor_2 rfl (by decide) ?_
  refine aw_istore_4 (q := 5) F dH_placingsFor_3 rfl trivial ?_
  exact loop _ 0 rfl (by omega) 0 0 _ _ trivial trivial rfl rfl
theorem wH_placingsWith {p l : Int} (hH : hS σ a) (h : HH V a c n) (hK : K (some (vI (bsum (fitN c (if p = 0 then l else -2) (if p = 1 then l else -2)) (wB c (pN c))))) (V, σ)) : Wp G 1 mH_placingsWith [vR a, vI p, vI l] (V, σ) 0 0 K := by
  refine wp_intro mH_placingsWith_i.1 [some (vR a), some (vI p), some (vI l)] rfl rfl (Nat.le_of_ble_eq_true rfl) ?_
  intro X hG F C
  have hm := C.rm
  refine aw_aload_0 (q := 1) F dH_placingsWith_0 rfl ?_
  refine aw_iload_1 (q := 2) F dH_placingsWith_1 rfl ?_
  refine aw_if_ne (q := 5) (t := 9) F dH_placingsWith_2 rfl (by decide) (fun c2 => ?_) (fun c2 => ?_)
  · refine aw_bipush (q := 11) F dH_placingsWith_9 rfl (by decide) ?_
    refine aw_iload_1 (q := 12) F dH_placingsWith_11 rfl ?_
    refine aw_iconst (q := 13) F dH_placingsWith_12 rfl (by decide) ?_
    refine aw_icmp_ne (q := 16) (t := 20) F dH_placingsWith_13 rfl (by decide) (fun c13 => ?_) (fun c13 => ?_)
    · refine aw_bipush (q := 22) F dH_placingsWith_20 rfl (by decide) ?_
      refine av_callV2 (q := 25) (ci := 2) F hm mH_placingsFor_i mH_placingsFor_n lH_99 dH_placingsWith_22 rfl rfl rfl (by first | exact hH.o | exact hH.a1 | exact hH.a2 | exact hH.a3 | exact hH.a4 | exact hH.a5 | exact hH) (by decide) (Nat.le_refl _) (Nat.le_refl _) (Nat.le_of_ble_eq_true rfl) (wH_placingsFor hH h ?_)
      refine aw_iret F C dH_placingsWith_25 rfl (Nat.le_refl _) (Nat.le_refl _) ?_
      first | (exfalso; omega) | (simp only [*, if_true, if_false] at hK; exact hK) | (rw [if_neg (by omega)] at hK; exact hK) | (rw [if_pos (by omega), if_neg (by omega)] at hK; exact hK) | (rw [if_neg (by omega), if_pos (by omega)] at hK; exact hK) | (rw [if_neg (by omega), if_neg (by omega)] at hK; exact hK)
    · refine aw_iload_2 (q := 17) F dH_placingsWith_16 rfl ?_
      refine aw_goto (t := 22) F dH_placingsWith_17 (by decide) ?_
      refine av_callV2 (q := 25) (ci := 2) F hm mH_placingsFor_i mH_placingsFor_n lH_99 dH_placingsWith_22 rfl rfl rfl (by first | exact hH.o | exact hH.a1 | exact hH.a2 | exact hH.a3 | exact hH.a4 | exact hH.a5 | exact hH) (by decide) (Nat.le_refl _) (Nat.le_refl _) (Nat.le_of_ble_eq_true rfl) (wH_placingsFor hH h ?_)
      refine aw_iret F C dH_placingsWith_25 rfl (Nat.le_refl _) (Nat.le_refl _) ?_
      first | (exfalso; omega) | (simp only [*, if_true, if_false] at hK; exact hK) | (rw [if_neg (by omega)] at hK; exact hK) | (rw [if_pos (by omega), if_neg (by omega)] at hK; exact hK) | (rw [if_neg (by omega), if_pos (by omega)] at hK; exact hK) | (rw [if_neg (by omega), if_neg (by omega)] at hK; exact hK)
  · refine aw_iload_2 (q := 6) F dH_placingsWith_5 rfl ?_
    refine aw_goto (t := 11) F dH_placingsWith_6 (by decide) ?_
    refine aw_iload_1 (q := 12) F dH_placingsWith_11 rfl ?_
    refine aw_iconst (q := 13) F dH_placingsWith_12 rfl (by decide) ?_
    refine aw_icmp_ne (q := 16) (t := 20) F dH_placingsWith_13 rfl (by decide) (fun c13 => ?_) (fun c13 => ?_)
    · refine aw_bipush (q := 22) F dH_placingsWith_20 rfl (by decide) ?_
      refine av_callV2 (q := 25) (ci := 2) F hm mH_placingsFor_i mH_placingsFor_n lH_99 dH_placingsWith_22 rfl rfl rfl (by first | exact hH.o | exact hH.a1 | exact hH.a2 | exact hH.a3 | exact hH.a4 | exact hH.a5 | exact hH) (by decide) (Nat.le_refl _) (Nat.le_refl _) (Nat.le_of_ble_eq_true rfl) (wH_placingsFor hH h ?_)
      refine aw_iret F C dH_placingsWith_25 rfl (Nat.le_refl _) (Nat.le_refl _) ?_
      first | (exfalso; omega) | (simp only [*, if_true, if_false] at hK; exact hK) | (rw [if_neg (by omega)] at hK; exact hK) | (rw [if_pos (by omega), if_neg (by omega)] at hK; exact hK) | (rw [if_neg (by omega), if_pos (by omega)] at hK; exact hK) | (rw [if_neg (by omega), if_neg (by omega)] at hK; exact hK)
    · refine aw_iload_2 (q := 17) F dH_placingsWith_16 rfl ?_
      refine aw_goto (t := 22) F dH_placingsWith_17 (by decide) ?_
      refine av_callV2 (q := 25) (ci := 2) F hm mH_placingsFor_i mH_placingsFor_n lH_99 dH_placingsWith_22 rfl rfl rfl (by first | exact hH.o | exact hH.a1 | exact hH.a2 | exact hH.a3 | exact hH.a4 | exact hH.a5 | exact hH) (by decide) (Nat.le_refl _) (Nat.le_refl _) (Nat.le_of_ble_eq_true rfl) (wH_placingsFor hH h ?_)
      refine aw_iret F C dH_placingsWith_25 rfl (Nat.le_refl _) (Nat.le_refl _) ?_
      first | (exfalso; omega) | (simp only [*, if_true, if_false] at hK; exact hK) | (rw [if_neg (by omega)] at hK; exact hK) | (rw [if_pos (by omega), if_neg (by omega)] at hK; exact hK) | (rw [if_neg (by omega), if_pos (by omega)] at hK; exact hK) | (rw [if_neg (by omega), if_neg (by omega)] at hK; exact hK)
theorem wH_put {m : Nat} {x : Int} (hx : x = m) (hm0 : m < 2000000) (hH : hS σ a) (hc : okC c) (hW : HW V a c) (hK : ∀ V', putF V V' a → HA V' a c m → K none (V', σ)) : Wp G 0 mH_put [vR a, vI x] (V, σ) 0 0 K := by
  have hD4 := hc.1
  have hP2 := hc.2.1
  have b5 := Bs_le hc
  have b0 := Bs_pos c
  refine wp_intro mH_put_i.1 [some (vR a), some (vI x), none, none] rfl rfl (Nat.le_of_ble_eq_true rfl) ?_
  intro X hG F C
  have hm := C.rm
  have loop2 : ∀ (j i : Nat), dN c - i = j → i ≤ dN c → ∀ (V1 : Nat → Nat → Int) (y z : Int), putF V V1 a → (V1 a 13 = m ∧ V1 a 12 = inP c m 0 ∧ (∀ d, d < i → V1 (a + 2) d = ld c m d) ∧ ∀ p, p < pN c → V1 (a + 3) p = pl c m p) → y = (m / wB c (pN c + i) : Nat) → z = i → AW X 82 [some (vR a), some (vI x), some (vI y), some (vI z)] [] (V1, σ) 0 0 := by
    intro j
    induction j using Nat.strongRecOn with
    | ind j ih =>
      intro i hj hi V1 y z hF hV hy hz
      have v0 : V1 a 0 = dN c := (hF.2 0 (by decide) (by decide) (by decide)).trans hW.1
      have v3 : V1 a 3 = Bs c := (hF.2 3 (by decide) (by decide) (by decide)).trans hW.2.2.2.1
      have y0 : 0 ≤ y := by rw [hy]; exact Int.natCast_nonneg _
      have e1 : y % V1 a 3 = (ld c m i : Nat) := by rw [hy, v3]; unfold ld; simp
      have e2 : y / V1 a 3 = (m / wB c (pN c + (i + 1)) : Nat) := by rw [hy, v3, show pN c + (i + 1) = pN c + i + 1 by omega, wB_s, ← Nat.div_div_eq_div_mul]; simp
      refine aw_iload_3 (q := 83) F dH_put_82 rfl ?_
      refine aw_aload_0 (q := 84) F dH_put_83 rfl ?_
      refine av_geti (q := 87) F fH_45 dH_put_84 rfl rfl (by first | exact hH.o | exact hH.a1 | exact hH.a2 | exact hH.a3 | exact hH.a4 | exact hH.a5 | exact hH) ?_
      refine aw_icmp_ge (q := 90) (t := 115) F dH_put_87 rfl (by decide) (fun c87 => ?_) (fun c87 => ?_)
      · refine aw_aload_0 (q := 116) F dH_put_115 rfl ?_
        refine aw_iload_2 (q := 117) F dH_put_116 rfl ?_
        refine av_puti (q := 120) F fH_87 dH_put_117 rfl rfl (wr_2_7 _) (by first | exact hH.o | exact hH.a1 | exact hH.a2 | exact hH.a3 | exact hH.a4 | exact hH.a5 | exact hH) ?_
        refine aw_vret F C dH_put_120 rfl (Nat.le_refl _) (Nat.le_refl _) ?_
        rw [show i = dN c by omega] at hy hV; refine hK _ ⟨fun b h1 h2 h3 => by rw [up2_nea _ _ h1]; exact hF.1 b h1 h2 h3, fun k h1 h2 h3 => by rw [up2_nek _ _ h1]; exact hF.2 k h1 h2 h3⟩ ⟨by rw [up2_nek _ _ (by decide)]; exact hV.1, by rw [up2_nek _ _ (by decide)]; exact hV.2.1, by rw [up2_same]; exact hy, fun d hd => by rw [up2_nea _ _ (show a + 2 ≠ a by omega)]; exact hV.2.2.1 d hd, fun p hp => by rw [up2_nea _ _ (show a + 3 ≠ a by omega)]; exact hV.2.2.2 p hp⟩
      · refine aw_aload_0 (q := 91) F dH_put_90 rfl ?_
        refine av_getaE (q := 94) F fH_22 dH_put_91 rfl rfl (by first | exact hH.o | exact hH.a1 | exact hH.a2 | exact hH.a3 | exact hH.a4 | exact hH.a5 | exact hH) hH.p14 ?_
        refine aw_iload_3 (q := 95) F dH_put_94 rfl ?_
        refine aw_iload_2 (q := 96) F dH_put_95 rfl ?_
        refine aw_aload_0 (q := 97) F dH_put_96 rfl ?_
        refine av_geti (q := 100) F fH_11 dH_put_97 rfl rfl (by first | exact hH.o | exact hH.a1 | exact hH.a2 | exact hH.a3 | exact hH.a4 | exact hH.a5 | exact hH) ?_
        refine aw_irem (q := 101) F dH_put_100 rfl (by omega) (by omega) ?_
        rw [e1]
        refine av_iastore (q := 102) F dH_put_101 rfl (by first | exact hH.o | exact hH.a1 | exact hH.a2 | exact hH.a3 | exact hH.a4 | exact hH.a5 | exact hH) (by omega) (by omega) ?_
        refine aw_iload_2 (q := 103) F dH_put_102 rfl ?_
        refine aw_aload_0 (q := 104) F dH_put_103 rfl ?_
        refine av_geti (q := 107) F fH_11 dH_put_104 rfl rfl (by first | exact hH.o | exact hH.a1 | exact hH.a2 | exact hH.a3 | exact hH.a4 | exact hH.a5 | exact hH) ?_
        rw [up2_nea _ _ (show a ≠ a + 2 by omega)]
        refine aw_idiv (q := 108) F dH_put_107 rfl (by omega) (by omega) ?_
        rw [e2]
        refine aw_istore_2 (q := 109) F dH_put_108 rfl trivial ?_
        refine aw_iinc_3 (q := 112) F dH_put_109 rfl trivial (by constructor <;> omega) ?_
        refine aw_goto (t := 82) F dH_put_112 (by decide) ?_
        refine ih _ (by omega) (i + 1) rfl (by omega) _ _ _ ⟨fun b h1 h2 h3 => by rw [up2_nea _ _ h2]; exact hF.1 b h1 h2 h3, fun k h1 h2 h3 => by rw [up2_nea _ _ (show a ≠ a + 2 by omega)]; exact hF.2 k h1 h2 h3⟩ ⟨by rw [up2_nea _ _ (show a ≠ a + 2 by omega)]; exact hV.1, by rw [up2_nea _ _ (show a ≠ a + 2 by omega)]; exact hV.2.1, fun d hd => ?_, fun p hp => by rw [up2_nea _ _ (show a + 3 ≠ a + 2 by omega)]; exact hV.2.2.2 p hp⟩ rfl (by omega)
        rw [show z.toNat = i by omega]
        by_cases q : d = i
        · rw [q, up2_same]
        · rw [up2_nek _ _ q]; exact hV.2.2.1 d (by omega)
  have loop1 : ∀ (j i : Nat), pN c - i = j → i ≤ pN c → ∀ (V1 : Nat → Nat → Int) (y z : Int), putF V V1 a → (V1 a 13 = m ∧ V1 a 12 = bsum (fun p => pl c m p == 0) i ∧ ∀ p, p < i → V1 (a + 3) p = pl c m p) → y = (m / wB c i : Nat) → z = i → AW X 22 [some (vR a), some (vI x), some (vI y), some (vI z)] [] (V1, σ) 0 0 := by
    intro j
    induction j using Nat.strongRecOn with
    | ind j ih =>
      intro i hj hi V1 y z hF hV hy hz
      have v1 : V1 a 1 = pN c := (hF.2 1 (by decide) (by decide) (by decide)).trans hW.2.1
      have v3 : V1 a 3 = Bs c := (hF.2 3 (by decide) (by decide) (by decide)).trans hW.2.2.2.1
      have y0 : 0 ≤ y := by rw [hy]; exact Int.natCast_nonneg _
      have e1 : y % V1 a 3 = (pl c m i : Nat) := by rw [hy, v3]; unfold pl; simp
      have e2 : y / V1 a 3 = (m / wB c (i + 1) : Nat) := by rw [hy, v3, wB_s, ← Nat.div_div_eq_div_mul]; simp
      have ez : z.toNat = i := by omega
      have fin : ∀ w : Int, w = bsum (fun p => pl c m p == 0) (i + 1) → i < pN c → AW X 22 [some (vR a), some (vI x), some (vI (m / wB c (i + 1) : Nat)), some (vI (z + 1))] [] (up2 (up2 V1 (a + 3) i (pl c m i)) a 12 w, σ) 0 0 := fun w hw hlt => by
        refine ih _ (by omega) (i + 1) rfl (by omega) _ _ _ ⟨fun b h1 h2 h3 => by rw [up2_nea _ _ h1, up2_nea _ _ h3]; exact hF.1 b h1 h2 h3, fun k h1 h2 h3 => by rw [up2_nek _ _ h2, up2_nea _ _ (show a ≠ a + 3 by omega)]; exact hF.2 k h1 h2 h3⟩ ⟨by rw [up2_nek _ _ (by decide), up2_nea _ _ (show a ≠ a + 3 by omega)]; exact hV.1, by rw [up2_same]; exact hw, fun p hp => ?_⟩ rfl (by omega)
        rw [up2_nea _ _ (show a + 3 ≠ a by omega)]
        by_cases q : p = i
        · rw [q, up2_same]
        · rw [up2_nek _ _ q]; exact hV.2.2 p (by omega)
      refine aw_iload_3 (q := 23) F dH_put_22 rfl ?_
      refine aw_aload_0 (q := 24) F dH_put_23 rfl ?_
      refine av_geti (q := 27) F fH_49 dH_put_24 rfl rfl (by first | exact hH.o | exact hH.a1 | exact hH.a2 | exact hH.a3 | exact hH.a4 | exact hH.a5 | exact hH) ?_
      refine aw_icmp_ge (q := 30) (t := 80) F dH_put_27 rfl (by decide) (fun c27 => ?_) (fun c27 => ?_)
      · refine aw_iconst (q := 81) F dH_put_80 rfl (by decide) ?_
        refine aw_istore_3 (q := 82) F dH_put_81 rfl trivial ?_
        rw [show i = pN c by omega] at hy hV; exact loop2 _ 0 rfl (by omega) _ _ _ hF ⟨hV.1, hV.2.1, fun d hd => absurd hd (by omega), hV.2.2⟩ hy rfl
      · refine aw_aload_0 (q := 31) F dH_put_30 rfl ?_
        refine av_getaE (q := 34) F fH_25 dH_put_31 rfl rfl (by first | exact hH.o | exact hH.a1 | exact hH.a2 | exact hH.a3 | exact hH.a4 | exact hH.a5 | exact hH) hH.p15 ?_
        refine aw_iload_3 (q := 35) F dH_put_34 rfl ?_
        refine aw_iload_2 (q := 36) F dH_put_35 rfl ?_
        refine aw_aload_0 (q := 37) F dH_put_36 rfl ?_
        refine av_geti (q := 40) F fH_11 dH_put_37 rfl rfl (by first | exact hH.o | exact hH.a1 | exact hH.a2 | exact hH.a3 | exact hH.a4 | exact hH.a5 | exact hH) ?_
        refine aw_irem (q := 41) F dH_put_40 rfl (by omega) (by omega) ?_
        rw [e1]
        refine av_iastore (q := 42) F dH_put_41 rfl (by first | exact hH.o | exact hH.a1 | exact hH.a2 | exact hH.a3 | exact hH.a4 | exact hH.a5 | exact hH) (by omega) (by omega) ?_
        rw [ez]
        refine aw_iload_2 (q := 43) F dH_put_42 rfl ?_
        refine aw_aload_0 (q := 44) F dH_put_43 rfl ?_
        refine av_geti (q := 47) F fH_11 dH_put_44 rfl rfl (by first | exact hH.o | exact hH.a1 | exact hH.a2 | exact hH.a3 | exact hH.a4 | exact hH.a5 | exact hH) ?_
        rw [up2_nea _ _ (show a ≠ a + 3 by omega)]
        refine aw_idiv (q := 48) F dH_put_47 rfl (by omega) (by omega) ?_
        rw [e2]
        refine aw_istore_2 (q := 49) F dH_put_48 rfl trivial ?_
        refine aw_aload_0 (q := 50) F dH_put_49 rfl ?_
        refine aw_dup (q := 51) F dH_put_50 rfl trivial ?_
        refine av_geti (q := 54) F fH_84 dH_put_51 rfl rfl (by first | exact hH.o | exact hH.a1 | exact hH.a2 | exact hH.a3 | exact hH.a4 | exact hH.a5 | exact hH) ?_
        refine aw_aload_0 (q := 55) F dH_put_54 rfl ?_
        refine av_getaE (q := 58) F fH_25 dH_put_55 rfl rfl (by first | exact hH.o | exact hH.a1 | exact hH.a2 | exact hH.a3 | exact hH.a4 | exact hH.a5 | exact hH) hH.p15 ?_
        refine aw_iload_3 (q := 59) F dH_put_58 rfl ?_
        refine av_iaload (q := 60) F dH_put_59 rfl (by first | exact hH.o | exact hH.a1 | exact hH.a2 | exact hH.a3 | exact hH.a4 | exact hH.a5 | exact hH) (by omega) (by omega) ?_
        rw [ez, up2_same, up2_nea _ _ (show a ≠ a + 3 by omega)]
        refine aw_if_ne (q := 63) (t := 69) F dH_put_60 rfl (by decide) (fun c60 => ?_) (fun c60 => ?_)
        · refine aw_iconst (q := 70) F dH_put_69 rfl (by decide) ?_
          refine aw_ior (q := 71) F dH_put_70 rfl ?_
          refine av_puti (q := 74) F fH_84 dH_put_71 rfl rfl (wr_2_12 _) (by first | exact hH.o | exact hH.a1 | exact hH.a2 | exact hH.a3 | exact hH.a4 | exact hH.a5 | exact hH) ?_
          refine aw_iinc_3 (q := 77) F dH_put_74 rfl trivial (by constructor <;> omega) ?_
          refine aw_goto (t := 22) F dH_put_77 (by decide) ?_
          exact fin _ (by first | rw [bs1 hz hV.2.1 (by omega) (by simp; omega)] | rw [bs0 hz hV.2.1 (by omega) (by simp; omega)]) (by omega)
        · refine aw_iconst (q := 64) F dH_put_63 rfl (by decide) ?_
          refine aw_iload_3 (q := 65) F dH_put_64 rfl ?_
          refine aw_ishl (q := 66) F dH_put_65 rfl ?_
          refine aw_goto (t := 70) F dH_put_66 (by decide) ?_
          refine aw_ior (q := 71) F dH_put_70 rfl ?_
          refine av_puti (q := 74) F fH_84 dH_put_71 rfl rfl (wr_2_12 _) (by first | exact hH.o | exact hH.a1 | exact hH.a2 | exact hH.a3 | exact hH.a4 | exact hH.a5 | exact hH) ?_
          refine aw_iinc_3 (q := 77) F dH_put_74 rfl trivial (by constructor <;> omega) ?_
          refine aw_goto (t := 22) F dH_put_77 (by decide) ?_
          exact fin _ (by first | rw [bs1 hz hV.2.1 (by omega) (by simp; omega)] | rw [bs0 hz hV.2.1 (by omega) (by simp; omega)]) (by omega)
  refine aw_aload_0 (q := 1) F dH_put_0 rfl ?_
  refine aw_iload_1 (q := 2) F dH_put_1 rfl ?_
  refine av_puti (q := 5) F fH_73 dH_put_2 rfl rfl (wr_2_13 _) (by first | exact hH.o | exact hH.a1 | exact hH.a2 | exact hH.a3 | exact hH.a4 | exact hH.a5 | exact hH) ?_
  refine aw_aload_0 (q := 6) F dH_put_5 rfl ?_
  refine aw_iconst (q := 7) F dH_put_6 rfl (by decide) ?_
  refine av_puti (q := 10) F fH_84 dH_put_7 rfl rfl (wr_2_12 _) (by first | exact hH.o | exact hH.a1 | exact hH.a2 | exact hH.a3 | exact hH.a4 | exact hH.a5 | exact hH) ?_
  refine aw_aload_0 (q := 11) F dH_put_10 rfl ?_
  refine av_geti (q := 14) F fH_11 dH_put_11 rfl rfl (by first | exact hH.o | exact hH.a1 | exact hH.a2 | exact hH.a3 | exact hH.a4 | exact hH.a5 | exact hH) ?_
  rw [up2_nek _ _ (by decide), up2_nek _ _ (by decide), hW.2.2.2.1]
  refine aw_if_gt (q := 17) (t := 18) F dH_put_14 rfl (by decide) (fun c14 => ?_) (fun c14 => by omega)
  refine aw_iload_1 (q := 19) F dH_put_18 rfl ?_
  refine aw_istore_2 (q := 20) F dH_put_19 rfl trivial ?_
  refine aw_iconst (q := 21) F dH_put_20 rfl (by decide) ?_
  refine aw_istore_3 (q := 22) F dH_put_21 rfl trivial ?_
  refine loop1 _ 0 rfl (by omega) _ _ _ ⟨fun b h1 h2 h3 => by rw [up2_nea _ _ h1, up2_nea _ _ h1], fun k h1 h2 h3 => by rw [up2_nek _ _ h2, up2_nek _ _ h3]⟩ ⟨by rw [up2_nek _ _ (by decide), up2_same]; exact hx, by rw [up2_same]; rfl, fun p hp => absurd hp (by omega)⟩ (by rw [wB_0, Nat.div_one]; exact hx) rfl
end Hall3
