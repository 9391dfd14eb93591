theorem dL_keepNow_0 : decode mL_keepNow.2.1 0 = .ok (.aload_n 0, 1) := by decide +kernel
theorem dL_keepNow_1 : decode mL_keepNow.2.1 1 = .ok (.getfield 354, 3) := by decide +kernel
theorem dL_keepNow_4 : decode mL_keepNow.2.1 4 = .ok (.bipush 16, 2) := by decide +kernel
theorem dL_keepNow_6 : decode mL_keepNow.2.1 6 = .ok (.if_icmp .lt 37, 3) := by decide +kernel
theorem dL_keepNow_9 : decode mL_keepNow.2.1 9 = .ok (.iconst 1, 1) := by decide +kernel
theorem dL_keepNow_10 : decode mL_keepNow.2.1 10 = .ok (.istore_n 1, 1) := by decide +kernel
theorem dL_keepNow_11 : decode mL_keepNow.2.1 11 = .ok (.iload_n 1, 1) := by decide +kernel
theorem dL_keepNow_12 : decode mL_keepNow.2.1 12 = .ok (.bipush 16, 2) := by decide +kernel
theorem dL_keepNow_14 : decode mL_keepNow.2.1 14 = .ok (.if_icmp .ge 23, 3) := by decide +kernel
theorem dL_keepNow_17 : decode mL_keepNow.2.1 17 = .ok (.aload_n 0, 1) := by decide +kernel
theorem dL_keepNow_18 : decode mL_keepNow.2.1 18 = .ok (.getfield 27, 3) := by decide +kernel
theorem dL_keepNow_21 : decode mL_keepNow.2.1 21 = .ok (.iload_n 1, 1) := by decide +kernel
theorem dL_keepNow_22 : decode mL_keepNow.2.1 22 = .ok (.iconst 1, 1) := by decide +kernel
theorem dL_keepNow_23 : decode mL_keepNow.2.1 23 = .ok (.isub, 1) := by decide +kernel
theorem dL_keepNow_24 : decode mL_keepNow.2.1 24 = .ok (.aload_n 0, 1) := by decide +kernel
theorem dL_keepNow_25 : decode mL_keepNow.2.1 25 = .ok (.getfield 27, 3) := by decide +kernel
theorem dL_keepNow_28 : decode mL_keepNow.2.1 28 = .ok (.iload_n 1, 1) := by decide +kernel
theorem dL_keepNow_29 : decode mL_keepNow.2.1 29 = .ok (.iaload, 1) := by decide +kernel
theorem dL_keepNow_30 : decode mL_keepNow.2.1 30 = .ok (.iastore, 1) := by decide +kernel
theorem dL_keepNow_31 : decode mL_keepNow.2.1 31 = .ok (.iinc 1 1, 3) := by decide +kernel
theorem dL_keepNow_34 : decode mL_keepNow.2.1 34 = .ok (.goto (-23), 3) := by decide +kernel
theorem dL_keepNow_37 : decode mL_keepNow.2.1 37 = .ok (.aload_n 0, 1) := by decide +kernel
theorem dL_keepNow_38 : decode mL_keepNow.2.1 38 = .ok (.bipush 15, 2) := by decide +kernel
theorem dL_keepNow_40 : decode mL_keepNow.2.1 40 = .ok (.putfield 354, 3) := by decide +kernel
theorem dL_keepNow_43 : decode mL_keepNow.2.1 43 = .ok (.aload_n 0, 1) := by decide +kernel
theorem dL_keepNow_44 : decode mL_keepNow.2.1 44 = .ok (.getfield 27, 3) := by decide +kernel
theorem dL_keepNow_47 : decode mL_keepNow.2.1 47 = .ok (.aload_n 0, 1) := by decide +kernel
theorem dL_keepNow_48 : decode mL_keepNow.2.1 48 = .ok (.getfield 354, 3) := by decide +kernel
theorem dL_keepNow_51 : decode mL_keepNow.2.1 51 = .ok (.aload_n 0, 1) := by decide +kernel
theorem dL_keepNow_52 : decode mL_keepNow.2.1 52 = .ok (.getfield 23, 3) := by decide +kernel
theorem dL_keepNow_55 : decode mL_keepNow.2.1 55 = .ok (.invokevirtual 197, 3) := by decide +kernel
theorem dL_keepNow_58 : decode mL_keepNow.2.1 58 = .ok (.iastore, 1) := by decide +kernel
theorem dL_keepNow_59 : decode mL_keepNow.2.1 59 = .ok (.aload_n 0, 1) := by decide +kernel
theorem dL_keepNow_60 : decode mL_keepNow.2.1 60 = .ok (.dup, 1) := by decide +kernel
theorem dL_keepNow_61 : decode mL_keepNow.2.1 61 = .ok (.getfield 354, 3) := by decide +kernel
theorem dL_keepNow_64 : decode mL_keepNow.2.1 64 = .ok (.iconst 1, 1) := by decide +kernel
theorem dL_keepNow_65 : decode mL_keepNow.2.1 65 = .ok (.iadd, 1) := by decide +kernel
theorem dL_keepNow_66 : decode mL_keepNow.2.1 66 = .ok (.putfield 354, 3) := by decide +kernel
theorem dL_keepNow_69 : decode mL_keepNow.2.1 69 = .ok (.return_, 1) := by decide +kernel
theorem dL_open_0 : decode mL_open.2.1 0 = .ok (.aload_n 0, 1) := by decide +kernel
theorem dL_open_1 : decode mL_open.2.1 1 = .ok (.aload_n 0, 1) := by decide +kernel
theorem dL_open_2 : decode mL_open.2.1 2 = .ok (.getfield 23, 3) := by decide +kernel
theorem dL_open_5 : decode mL_open.2.1 5 = .ok (.iload_n 1, 1) := by decide +kernel
theorem dL_open_6 : decode mL_open.2.1 6 = .ok (.invokevirtual 110, 3) := by decide +kernel
theorem dL_open_9 : decode mL_open.2.1 9 = .ok (.aload_n 0, 1) := by decide +kernel
theorem dL_open_10 : decode mL_open.2.1 10 = .ok (.getfield 23, 3) := by decide +kernel
theorem dL_open_13 : decode mL_open.2.1 13 = .ok (.iload_n 1, 1) := by decide +kernel
theorem dL_open_14 : decode mL_open.2.1 14 = .ok (.invokevirtual 317, 3) := by decide +kernel
theorem dL_open_17 : decode mL_open.2.1 17 = .ok (.ifCond .ne 7, 3) := by decide +kernel
theorem dL_open_20 : decode mL_open.2.1 20 = .ok (.iconst 1, 1) := by decide +kernel
theorem dL_open_21 : decode mL_open.2.1 21 = .ok (.goto 4, 3) := by decide +kernel
theorem dL_open_24 : decode mL_open.2.1 24 = .ok (.iconst 0, 1) := by decide +kernel
theorem dL_open_25 : decode mL_open.2.1 25 = .ok (.aload_n 0, 1) := by decide +kernel
theorem dL_open_26 : decode mL_open.2.1 26 = .ok (.getfield 23, 3) := by decide +kernel
theorem dL_open_29 : decode mL_open.2.1 29 = .ok (.iload_n 1, 1) := by decide +kernel
theorem dL_open_30 : decode mL_open.2.1 30 = .ok (.aload_n 0, 1) := by decide +kernel
theorem dL_open_31 : decode mL_open.2.1 31 = .ok (.getfield 23, 3) := by decide +kernel
theorem dL_open_34 : decode mL_open.2.1 34 = .ok (.invokevirtual 160, 3) := by decide +kernel
theorem dL_open_37 : decode mL_open.2.1 37 = .ok (.invokevirtual 320, 3) := by decide +kernel
theorem dL_open_40 : decode mL_open.2.1 40 = .ok (.invokevirtual 323, 3) := by decide +kernel
theorem dL_open_43 : decode mL_open.2.1 43 = .ok (.ifCond .ne 5, 3) := by decide +kernel
theorem dL_open_46 : decode mL_open.2.1 46 = .ok (.iconst (-1), 1) := by decide +kernel
theorem dL_open_47 : decode mL_open.2.1 47 = .ok (.ireturn, 1) := by decide +kernel
theorem dL_open_48 : decode mL_open.2.1 48 = .ok (.aload_n 0, 1) := by decide +kernel
theorem dL_open_49 : decode mL_open.2.1 49 = .ok (.invokevirtual 327, 3) := by decide +kernel
theorem dL_open_52 : decode mL_open.2.1 52 = .ok (.aload_n 0, 1) := by decide +kernel
theorem dL_open_53 : decode mL_open.2.1 53 = .ok (.getfield 23, 3) := by decide +kernel
theorem dL_open_56 : decode mL_open.2.1 56 = .ok (.aload_n 0, 1) := by decide +kernel
theorem dL_open_57 : decode mL_open.2.1 57 = .ok (.getfield 23, 3) := by decide +kernel
theorem dL_open_60 : decode mL_open.2.1 60 = .ok (.iload_n 1, 1) := by decide +kernel
theorem dL_open_61 : decode mL_open.2.1 61 = .ok (.invokevirtual 330, 3) := by decide +kernel
theorem dL_open_64 : decode mL_open.2.1 64 = .ok (.invokevirtual 333, 3) := by decide +kernel
theorem dL_open_67 : decode mL_open.2.1 67 = .ok (.aload_n 0, 1) := by decide +kernel
theorem dL_open_68 : decode mL_open.2.1 68 = .ok (.getfield 23, 3) := by decide +kernel
theorem dL_open_71 : decode mL_open.2.1 71 = .ok (.iload_n 1, 1) := by decide +kernel
theorem dL_open_72 : decode mL_open.2.1 72 = .ok (.invokevirtual 121, 3) := by decide +kernel
theorem dL_open_75 : decode mL_open.2.1 75 = .ok (.ireturn, 1) := by decide +kernel
theorem dL_shut_0 : decode mL_shut.2.1 0 = .ok (.aload_n 0, 1) := by decide +kernel
theorem dL_shut_1 : decode mL_shut.2.1 1 = .ok (.aload_n 0, 1) := by decide +kernel
theorem dL_shut_2 : decode mL_shut.2.1 2 = .ok (.getfield 23, 3) := by decide +kernel
theorem dL_shut_5 : decode mL_shut.2.1 5 = .ok (.iload_n 1, 1) := by decide +kernel
theorem dL_shut_6 : decode mL_shut.2.1 6 = .ok (.invokevirtual 110, 3) := by decide +kernel
theorem dL_shut_9 : decode mL_shut.2.1 9 = .ok (.aload_n 0, 1) := by decide +kernel
theorem dL_shut_10 : decode mL_shut.2.1 10 = .ok (.getfield 23, 3) := by decide +kernel
theorem dL_shut_13 : decode mL_shut.2.1 13 = .ok (.iload_n 1, 1) := by decide +kernel
theorem dL_shut_14 : decode mL_shut.2.1 14 = .ok (.invokevirtual 317, 3) := by decide +kernel
theorem dL_shut_17 : decode mL_shut.2.1 17 = .ok (.aload_n 0, 1) := by decide +kernel
theorem dL_shut_18 : decode mL_shut.2.1 18 = .ok (.getfield 23, 3) := by decide +kernel
theorem dL_shut_21 : decode mL_shut.2.1 21 = .ok (.iload_n 1, 1) := by decide +kernel
theorem dL_shut_22 : decode mL_shut.2.1 22 = .ok (.aload_n 0, 1) := by decide +kernel
theorem dL_shut_23 : decode mL_shut.2.1 23 = .ok (.getfield 23, 3) := by decide +kernel
theorem dL_shut_26 : decode mL_shut.2.1 26 = .ok (.invokevirtual 160, 3) := by decide +kernel
theorem dL_shut_29 : decode mL_shut.2.1 29 = .ok (.invokevirtual 336, 3) := by decide +kernel
theorem dL_shut_32 : decode mL_shut.2.1 32 = .ok (.invokevirtual 323, 3) := by decide +kernel
theorem dL_shut_35 : decode mL_shut.2.1 35 = .ok (.ifCond .ne 5, 3) := by decide +kernel
theorem dL_shut_38 : decode mL_shut.2.1 38 = .ok (.iconst 0, 1) := by decide +kernel
theorem dL_shut_39 : decode mL_shut.2.1 39 = .ok (.ireturn, 1) := by decide +kernel
theorem dL_shut_40 : decode mL_shut.2.1 40 = .ok (.aload_n 0, 1) := by decide +kernel
theorem dL_shut_41 : decode mL_shut.2.1 41 = .ok (.invokevirtual 327, 3) := by decide +kernel
theorem dL_shut_44 : decode mL_shut.2.1 44 = .ok (.aload_n 0, 1) := by decide +kernel
theorem dL_shut_45 : decode mL_shut.2.1 45 = .ok (.getfield 23, 3) := by decide +kernel
theorem dL_shut_48 : decode mL_shut.2.1 48 = .ok (.aload_n 0, 1) := by decide +kernel
theorem dL_shut_49 : decode mL_shut.2.1 49 = .ok (.getfield 23, 3) := by decide +kernel
theorem dL_shut_52 : decode mL_shut.2.1 52 = .ok (.iload_n 1, 1) := by decide +kernel
theorem dL_shut_53 : decode mL_shut.2.1 53 = .ok (.invokevirtual 339, 3) := by decide +kernel
theorem dL_shut_56 : decode mL_shut.2.1 56 = .ok (.invokevirtual 333, 3) := by decide +kernel
theorem dL_shut_59 : decode mL_shut.2.1 59 = .ok (.iconst 1, 1) := by decide +kernel
theorem dL_shut_60 : decode mL_shut.2.1 60 = .ok (.ireturn, 1) := by decide +kernel
theorem dL_go_0 : decode mL_go.2.1 0 = .ok (.aload_n 0, 1) := by decide +kernel
theorem dL_go_1 : decode mL_go.2.1 1 = .ok (.aload_n 0, 1) := by decide +kernel
theorem dL_go_2 : decode mL_go.2.1 2 = .ok (.getfield 23, 3) := by decide +kernel
theorem dL_go_5 : decode mL_go.2.1 5 = .ok (.iload_n 2, 1) := by decide +kernel
theorem dL_go_6 : decode mL_go.2.1 6 = .ok (.invokevirtual 110, 3) := by decide +kernel
theorem dL_go_9 : decode mL_go.2.1 9 = .ok (.ifCond .eq 18, 3) := by decide +kernel
theorem dL_go_12 : decode mL_go.2.1 12 = .ok (.aload_n 0, 1) := by decide +kernel
theorem dL_go_13 : decode mL_go.2.1 13 = .ok (.getfield 23, 3) := by decide +kernel
theorem dL_go_16 : decode mL_go.2.1 16 = .ok (.iload_n 1, 1) := by decide +kernel
theorem dL_go_17 : decode mL_go.2.1 17 = .ok (.invokevirtual 136, 3) := by decide +kernel
theorem dL_go_20 : decode mL_go.2.1 20 = .ok (.ifCond .eq 7, 3) := by decide +kernel
theorem dL_go_23 : decode mL_go.2.1 23 = .ok (.iconst 1, 1) := by decide +kernel
theorem dL_go_24 : decode mL_go.2.1 24 = .ok (.goto 4, 3) := by decide +kernel
theorem dL_go_27 : decode mL_go.2.1 27 = .ok (.iconst 0, 1) := by decide +kernel
theorem dL_go_28 : decode mL_go.2.1 28 = .ok (.aload_n 0, 1) := by decide +kernel
theorem dL_go_29 : decode mL_go.2.1 29 = .ok (.getfield 23, 3) := by decide +kernel
theorem dL_go_32 : decode mL_go.2.1 32 = .ok (.iload_n 2, 1) := by decide +kernel
theorem dL_go_33 : decode mL_go.2.1 33 = .ok (.invokevirtual 317, 3) := by decide +kernel
theorem dL_go_36 : decode mL_go.2.1 36 = .ok (.aload_n 0, 1) := by decide +kernel
theorem dL_go_37 : decode mL_go.2.1 37 = .ok (.getfield 23, 3) := by decide +kernel
theorem dL_go_40 : decode mL_go.2.1 40 = .ok (.iload_n 1, 1) := by decide +kernel
theorem dL_go_41 : decode mL_go.2.1 41 = .ok (.iload_n 2, 1) := by decide +kernel
theorem dL_go_42 : decode mL_go.2.1 42 = .ok (.invokevirtual 342, 3) := by decide +kernel
theorem dL_go_45 : decode mL_go.2.1 45 = .ok (.invokevirtual 323, 3) := by decide +kernel
theorem dL_go_48 : decode mL_go.2.1 48 = .ok (.ifCond .ne 5, 3) := by decide +kernel
theorem dL_go_51 : decode mL_go.2.1 51 = .ok (.iconst (-1), 1) := by decide +kernel
theorem dL_go_52 : decode mL_go.2.1 52 = .ok (.ireturn, 1) := by decide +kernel
theorem dL_go_53 : decode mL_go.2.1 53 = .ok (.aload_n 0, 1) := by decide +kernel
theorem dL_go_54 : decode mL_go.2.1 54 = .ok (.invokevirtual 327, 3) := by decide +kernel
theorem dL_go_57 : decode mL_go.2.1 57 = .ok (.aload_n 0, 1) := by decide +kernel
theorem dL_go_58 : decode mL_go.2.1 58 = .ok (.getfield 23, 3) := by decide +kernel
theorem dL_go_61 : decode mL_go.2.1 61 = .ok (.aload_n 0, 1) := by decide +kernel
theorem dL_go_62 : decode mL_go.2.1 62 = .ok (.getfield 23, 3) := by decide +kernel
theorem dL_go_65 : decode mL_go.2.1 65 = .ok (.iload_n 1, 1) := by decide +kernel
theorem dL_go_66 : decode mL_go.2.1 66 = .ok (.iload_n 2, 1) := by decide +kernel
theorem dL_go_67 : decode mL_go.2.1 67 = .ok (.invokevirtual 345, 3) := by decide +kernel
theorem dL_go_70 : decode mL_go.2.1 70 = .ok (.invokevirtual 333, 3) := by decide +kernel
theorem dL_go_73 : decode mL_go.2.1 73 = .ok (.aload_n 0, 1) := by decide +kernel
theorem dL_go_74 : decode mL_go.2.1 74 = .ok (.getfield 23, 3) := by decide +kernel
theorem dL_go_77 : decode mL_go.2.1 77 = .ok (.iload_n 1, 1) := by decide +kernel
theorem dL_go_78 : decode mL_go.2.1 78 = .ok (.invokevirtual 139, 3) := by decide +kernel
theorem dL_go_81 : decode mL_go.2.1 81 = .ok (.ireturn, 1) := by decide +kernel
theorem dL_nail_0 : decode mL_nail.2.1 0 = .ok (.aload_n 0, 1) := by decide +kernel
theorem dL_nail_1 : decode mL_nail.2.1 1 = .ok (.aload_n 0, 1) := by decide +kernel
theorem dL_nail_2 : decode mL_nail.2.1 2 = .ok (.getfield 23, 3) := by decide +kernel
theorem dL_nail_5 : decode mL_nail.2.1 5 = .ok (.iload_n 1, 1) := by decide +kernel
theorem dL_nail_6 : decode mL_nail.2.1 6 = .ok (.invokevirtual 110, 3) := by decide +kernel
theorem dL_nail_9 : decode mL_nail.2.1 9 = .ok (.aload_n 0, 1) := by decide +kernel
theorem dL_nail_10 : decode mL_nail.2.1 10 = .ok (.getfield 23, 3) := by decide +kernel
theorem dL_nail_13 : decode mL_nail.2.1 13 = .ok (.iload_n 1, 1) := by decide +kernel
theorem dL_nail_14 : decode mL_nail.2.1 14 = .ok (.invokevirtual 348, 3) := by decide +kernel
theorem dL_nail_17 : decode mL_nail.2.1 17 = .ok (.ifCond .ne 7, 3) := by decide +kernel
theorem dL_nail_20 : decode mL_nail.2.1 20 = .ok (.iconst 1, 1) := by decide +kernel
theorem dL_nail_21 : decode mL_nail.2.1 21 = .ok (.goto 4, 3) := by decide +kernel
theorem dL_nail_24 : decode mL_nail.2.1 24 = .ok (.iconst 0, 1) := by decide +kernel
theorem dL_nail_25 : decode mL_nail.2.1 25 = .ok (.aload_n 0, 1) := by decide +kernel
theorem dL_nail_26 : decode mL_nail.2.1 26 = .ok (.getfield 23, 3) := by decide +kernel
theorem dL_nail_29 : decode mL_nail.2.1 29 = .ok (.iload_n 1, 1) := by decide +kernel
theorem dL_nail_30 : decode mL_nail.2.1 30 = .ok (.invokevirtual 317, 3) := by decide +kernel
theorem dL_nail_33 : decode mL_nail.2.1 33 = .ok (.ifCond .ne 7, 3) := by decide +kernel
theorem dL_nail_36 : decode mL_nail.2.1 36 = .ok (.iconst 1, 1) := by decide +kernel
theorem dL_nail_37 : decode mL_nail.2.1 37 = .ok (.goto 4, 3) := by decide +kernel
theorem dL_nail_40 : decode mL_nail.2.1 40 = .ok (.iconst 0, 1) := by decide +kernel
theorem dL_nail_41 : decode mL_nail.2.1 41 = .ok (.invokevirtual 323, 3) := by decide +kernel
theorem dL_nail_44 : decode mL_nail.2.1 44 = .ok (.ifCond .ne 5, 3) := by decide +kernel
theorem dL_nail_47 : decode mL_nail.2.1 47 = .ok (.iconst 0, 1) := by decide +kernel
theorem dL_nail_48 : decode mL_nail.2.1 48 = .ok (.ireturn, 1) := by decide +kernel
theorem dL_nail_49 : decode mL_nail.2.1 49 = .ok (.aload_n 0, 1) := by decide +kernel
theorem dL_nail_50 : decode mL_nail.2.1 50 = .ok (.invokevirtual 327, 3) := by decide +kernel
theorem dL_nail_53 : decode mL_nail.2.1 53 = .ok (.aload_n 0, 1) := by decide +kernel
theorem dL_nail_54 : decode mL_nail.2.1 54 = .ok (.getfield 23, 3) := by decide +kernel
theorem dL_nail_57 : decode mL_nail.2.1 57 = .ok (.dup, 1) := by decide +kernel
theorem dL_nail_58 : decode mL_nail.2.1 58 = .ok (.getfield 127, 3) := by decide +kernel
theorem dL_nail_61 : decode mL_nail.2.1 61 = .ok (.iconst 1, 1) := by decide +kernel
theorem dL_nail_62 : decode mL_nail.2.1 62 = .ok (.iload_n 1, 1) := by decide +kernel
theorem dL_nail_63 : decode mL_nail.2.1 63 = .ok (.ishl, 1) := by decide +kernel
theorem dL_nail_64 : decode mL_nail.2.1 64 = .ok (.ior, 1) := by decide +kernel
theorem dL_nail_65 : decode mL_nail.2.1 65 = .ok (.putfield 127, 3) := by decide +kernel
theorem dL_nail_68 : decode mL_nail.2.1 68 = .ok (.iconst 1, 1) := by decide +kernel
theorem dL_nail_69 : decode mL_nail.2.1 69 = .ok (.ireturn, 1) := by decide +kernel
theorem dL_spring_0 : decode mL_spring.2.1 0 = .ok (.aload_n 0, 1) := by decide +kernel
theorem dL_spring_1 : decode mL_spring.2.1 1 = .ok (.getfield 23, 3) := by decide +kernel
theorem dL_spring_4 : decode mL_spring.2.1 4 = .ok (.iload_n 1, 1) := by decide +kernel
theorem dL_spring_5 : decode mL_spring.2.1 5 = .ok (.invokevirtual 118, 3) := by decide +kernel
theorem dL_spring_8 : decode mL_spring.2.1 8 = .ok (.istore_n 2, 1) := by decide +kernel
theorem dL_spring_9 : decode mL_spring.2.1 9 = .ok (.aload_n 0, 1) := by decide +kernel
theorem dL_spring_10 : decode mL_spring.2.1 10 = .ok (.aload_n 0, 1) := by decide +kernel
theorem dL_spring_11 : decode mL_spring.2.1 11 = .ok (.getfield 23, 3) := by decide +kernel
theorem dL_spring_14 : decode mL_spring.2.1 14 = .ok (.iload_n 1, 1) := by decide +kernel
theorem dL_spring_15 : decode mL_spring.2.1 15 = .ok (.invokevirtual 110, 3) := by decide +kernel
theorem dL_spring_18 : decode mL_spring.2.1 18 = .ok (.iload_n 2, 1) := by decide +kernel
theorem dL_spring_19 : decode mL_spring.2.1 19 = .ok (.ifCond .eq 8, 3) := by decide +kernel
theorem dL_spring_22 : decode mL_spring.2.1 22 = .ok (.iload_n 2, 1) := by decide +kernel
theorem dL_spring_23 : decode mL_spring.2.1 23 = .ok (.iconst 1, 1) := by decide +kernel
theorem dL_spring_24 : decode mL_spring.2.1 24 = .ok (.if_icmp .ne 7, 3) := by decide +kernel
theorem dL_spring_27 : decode mL_spring.2.1 27 = .ok (.iconst 1, 1) := by decide +kernel
theorem dL_spring_28 : decode mL_spring.2.1 28 = .ok (.goto 4, 3) := by decide +kernel
theorem dL_spring_31 : decode mL_spring.2.1 31 = .ok (.iconst 0, 1) := by decide +kernel
theorem dL_spring_32 : decode mL_spring.2.1 32 = .ok (.iconst 1, 1) := by decide +kernel
theorem dL_spring_33 : decode mL_spring.2.1 33 = .ok (.invokevirtual 323, 3) := by decide +kernel
theorem dL_spring_36 : decode mL_spring.2.1 36 = .ok (.ifCond .ne 5, 3) := by decide +kernel
theorem dL_spring_39 : decode mL_spring.2.1 39 = .ok (.iconst (-1), 1) := by decide +kernel
theorem dL_spring_40 : decode mL_spring.2.1 40 = .ok (.ireturn, 1) := by decide +kernel
theorem dL_spring_41 : decode mL_spring.2.1 41 = .ok (.aload_n 0, 1) := by decide +kernel
theorem dL_spring_42 : decode mL_spring.2.1 42 = .ok (.invokevirtual 327, 3) := by decide +kernel
theorem dL_spring_45 : decode mL_spring.2.1 45 = .ok (.aload_n 0, 1) := by decide +kernel
theorem dL_spring_46 : decode mL_spring.2.1 46 = .ok (.getfield 23, 3) := by decide +kernel
theorem dL_spring_49 : decode mL_spring.2.1 49 = .ok (.getfield 351, 3) := by decide +kernel
theorem dL_spring_52 : decode mL_spring.2.1 52 = .ok (.iload_n 1, 1) := by decide +kernel
theorem dL_spring_53 : decode mL_spring.2.1 53 = .ok (.iload_n 2, 1) := by decide +kernel
theorem dL_spring_54 : decode mL_spring.2.1 54 = .ok (.ifCond .ne 7, 3) := by decide +kernel
theorem dL_spring_57 : decode mL_spring.2.1 57 = .ok (.iconst 1, 1) := by decide +kernel
theorem dL_spring_58 : decode mL_spring.2.1 58 = .ok (.goto 4, 3) := by decide +kernel
theorem dL_spring_61 : decode mL_spring.2.1 61 = .ok (.iconst 0, 1) := by decide +kernel
theorem dL_spring_62 : decode mL_spring.2.1 62 = .ok (.iastore, 1) := by decide +kernel
theorem dL_spring_63 : decode mL_spring.2.1 63 = .ok (.aload_n 0, 1) := by decide +kernel
theorem dL_spring_64 : decode mL_spring.2.1 64 = .ok (.getfield 23, 3) := by decide +kernel
theorem dL_spring_67 : decode mL_spring.2.1 67 = .ok (.getfield 351, 3) := by decide +kernel
theorem dL_spring_70 : decode mL_spring.2.1 70 = .ok (.iload_n 1, 1) := by decide +kernel
theorem dL_spring_71 : decode mL_spring.2.1 71 = .ok (.iaload, 1) := by decide +kernel
theorem dL_spring_72 : decode mL_spring.2.1 72 = .ok (.ireturn, 1) := by decide +kernel
theorem dL_undo_0 : decode mL_undo.2.1 0 = .ok (.aload_n 0, 1) := by decide +kernel
theorem dL_undo_1 : decode mL_undo.2.1 1 = .ok (.iconst 1, 1) := by decide +kernel
theorem dL_undo_2 : decode mL_undo.2.1 2 = .ok (.iconst 1, 1) := by decide +kernel
theorem dL_undo_3 : decode mL_undo.2.1 3 = .ok (.aload_n 0, 1) := by decide +kernel
theorem dL_undo_4 : decode mL_undo.2.1 4 = .ok (.getfield 354, 3) := by decide +kernel
theorem dL_undo_7 : decode mL_undo.2.1 7 = .ok (.ifCond .le 16, 3) := by decide +kernel
theorem dL_undo_10 : decode mL_undo.2.1 10 = .ok (.aload_n 0, 1) := by decide +kernel
theorem dL_undo_11 : decode mL_undo.2.1 11 = .ok (.getfield 354, 3) := by decide +kernel
theorem dL_undo_14 : decode mL_undo.2.1 14 = .ok (.bipush 16, 2) := by decide +kernel
theorem dL_undo_16 : decode mL_undo.2.1 16 = .ok (.if_icmp .gt 7, 3) := by decide +kernel
theorem dL_undo_19 : decode mL_undo.2.1 19 = .ok (.iconst 1, 1) := by decide +kernel
theorem dL_undo_20 : decode mL_undo.2.1 20 = .ok (.goto 4, 3) := by decide +kernel
theorem dL_undo_23 : decode mL_undo.2.1 23 = .ok (.iconst 0, 1) := by decide +kernel
theorem dL_undo_24 : decode mL_undo.2.1 24 = .ok (.invokevirtual 323, 3) := by decide +kernel
theorem dL_undo_27 : decode mL_undo.2.1 27 = .ok (.ifCond .ne 5, 3) := by decide +kernel
theorem dL_undo_30 : decode mL_undo.2.1 30 = .ok (.iconst 0, 1) := by decide +kernel
theorem dL_undo_31 : decode mL_undo.2.1 31 = .ok (.ireturn, 1) := by decide +kernel
theorem dL_undo_32 : decode mL_undo.2.1 32 = .ok (.aload_n 0, 1) := by decide +kernel
theorem dL_undo_33 : decode mL_undo.2.1 33 = .ok (.dup, 1) := by decide +kernel
theorem dL_undo_34 : decode mL_undo.2.1 34 = .ok (.getfield 354, 3) := by decide +kernel
theorem dL_undo_37 : decode mL_undo.2.1 37 = .ok (.iconst 1, 1) := by decide +kernel
theorem dL_undo_38 : decode mL_undo.2.1 38 = .ok (.isub, 1) := by decide +kernel
theorem dL_undo_39 : decode mL_undo.2.1 39 = .ok (.putfield 354, 3) := by decide +kernel
theorem dL_undo_42 : decode mL_undo.2.1 42 = .ok (.aload_n 0, 1) := by decide +kernel
theorem dL_undo_43 : decode mL_undo.2.1 43 = .ok (.getfield 23, 3) := by decide +kernel
theorem dL_undo_46 : decode mL_undo.2.1 46 = .ok (.aload_n 0, 1) := by decide +kernel
theorem dL_undo_47 : decode mL_undo.2.1 47 = .ok (.getfield 27, 3) := by decide +kernel
theorem dL_undo_50 : decode mL_undo.2.1 50 = .ok (.aload_n 0, 1) := by decide +kernel
theorem dL_undo_51 : decode mL_undo.2.1 51 = .ok (.getfield 354, 3) := by decide +kernel
theorem dL_undo_54 : decode mL_undo.2.1 54 = .ok (.iaload, 1) := by decide +kernel
theorem dL_undo_55 : decode mL_undo.2.1 55 = .ok (.invokevirtual 357, 3) := by decide +kernel
theorem dL_undo_58 : decode mL_undo.2.1 58 = .ok (.iconst 1, 1) := by decide +kernel
theorem dL_undo_59 : decode mL_undo.2.1 59 = .ok (.ireturn, 1) := by decide +kernel
theorem dL_image_0 : decode mL_image.2.1 0 = .ok (.aload_n 0, 1) := by decide +kernel
theorem dL_image_1 : decode mL_image.2.1 1 = .ok (.invokevirtual 154, 3) := by decide +kernel
theorem dL_image_4 : decode mL_image.2.1 4 = .ok (.ifCond .ne 9, 3) := by decide +kernel
theorem dL_image_7 : decode mL_image.2.1 7 = .ok (.aload_n 0, 1) := by decide +kernel
theorem dL_image_8 : decode mL_image.2.1 8 = .ok (.iconst 1, 1) := by decide +kernel
theorem dL_image_9 : decode mL_image.2.1 9 = .ok (.invokevirtual 76, 3) := by decide +kernel
theorem dL_image_12 : decode mL_image.2.1 12 = .ok (.ireturn, 1) := by decide +kernel
theorem dL_image_13 : decode mL_image.2.1 13 = .ok (.aload_n 0, 1) := by decide +kernel
theorem dL_image_14 : decode mL_image.2.1 14 = .ok (.getfield 360, 3) := by decide +kernel
theorem dL_image_17 : decode mL_image.2.1 17 = .ok (.iconst 3, 1) := by decide +kernel
theorem dL_image_18 : decode mL_image.2.1 18 = .ok (.if_icmp .lt 9, 3) := by decide +kernel
theorem dL_image_21 : decode mL_image.2.1 21 = .ok (.aload_n 0, 1) := by decide +kernel
theorem dL_image_22 : decode mL_image.2.1 22 = .ok (.iconst 3, 1) := by decide +kernel
theorem dL_image_23 : decode mL_image.2.1 23 = .ok (.invokevirtual 76, 3) := by decide +kernel
theorem dL_image_26 : decode mL_image.2.1 26 = .ok (.ireturn, 1) := by decide +kernel
theorem dL_image_27 : decode mL_image.2.1 27 = .ok (.aload_n 0, 1) := by decide +kernel
theorem dL_image_28 : decode mL_image.2.1 28 = .ok (.iconst 0, 1) := by decide +kernel
theorem dL_image_29 : decode mL_image.2.1 29 = .ok (.putfield 99, 3) := by decide +kernel
theorem dL_image_32 : decode mL_image.2.1 32 = .ok (.aload_n 0, 1) := by decide +kernel
theorem dL_image_33 : decode mL_image.2.1 33 = .ok (.getfield 31, 3) := by decide +kernel
theorem dL_image_36 : decode mL_image.2.1 36 = .ok (.aload_n 0, 1) := by decide +kernel
theorem dL_image_37 : decode mL_image.2.1 37 = .ok (.getfield 360, 3) := by decide +kernel
theorem dL_image_40 : decode mL_image.2.1 40 = .ok (.aload_n 0, 1) := by decide +kernel
theorem dL_image_41 : decode mL_image.2.1 41 = .ok (.getfield 23, 3) := by decide +kernel
theorem dL_image_44 : decode mL_image.2.1 44 = .ok (.invokevirtual 197, 3) := by decide +kernel
theorem dL_image_47 : decode mL_image.2.1 47 = .ok (.iastore, 1) := by decide +kernel
theorem dL_image_48 : decode mL_image.2.1 48 = .ok (.aload_n 0, 1) := by decide +kernel
theorem dL_image_49 : decode mL_image.2.1 49 = .ok (.dup, 1) := by decide +kernel
theorem dL_image_50 : decode mL_image.2.1 50 = .ok (.getfield 360, 3) := by decide +kernel
theorem dL_image_53 : decode mL_image.2.1 53 = .ok (.iconst 1, 1) := by decide +kernel
theorem dL_image_54 : decode mL_image.2.1 54 = .ok (.iadd, 1) := by decide +kernel
theorem dL_image_55 : decode mL_image.2.1 55 = .ok (.putfield 360, 3) := by decide +kernel
theorem dL_image_58 : decode mL_image.2.1 58 = .ok (.aload_n 0, 1) := by decide +kernel
theorem dL_image_59 : decode mL_image.2.1 59 = .ok (.getfield 360, 3) := by decide +kernel
theorem dL_image_62 : decode mL_image.2.1 62 = .ok (.iconst 1, 1) := by decide +kernel
theorem dL_image_63 : decode mL_image.2.1 63 = .ok (.isub, 1) := by decide +kernel
theorem dL_image_64 : decode mL_image.2.1 64 = .ok (.ireturn, 1) := by decide +kernel
theorem dL_back_0 : decode mL_back.2.1 0 = .ok (.aload_n 0, 1) := by decide +kernel
theorem dL_back_1 : decode mL_back.2.1 1 = .ok (.iload_n 1, 1) := by decide +kernel
theorem dL_back_2 : decode mL_back.2.1 2 = .ok (.ifCond .lt 15, 3) := by decide +kernel
theorem dL_back_5 : decode mL_back.2.1 5 = .ok (.iload_n 1, 1) := by decide +kernel
theorem dL_back_6 : decode mL_back.2.1 6 = .ok (.aload_n 0, 1) := by decide +kernel
theorem dL_back_7 : decode mL_back.2.1 7 = .ok (.getfield 360, 3) := by decide +kernel
theorem dL_back_10 : decode mL_back.2.1 10 = .ok (.if_icmp .ge 7, 3) := by decide +kernel
theorem dL_back_13 : decode mL_back.2.1 13 = .ok (.iconst 1, 1) := by decide +kernel
theorem dL_back_14 : decode mL_back.2.1 14 = .ok (.goto 4, 3) := by decide +kernel
theorem dL_back_17 : decode mL_back.2.1 17 = .ok (.iconst 0, 1) := by decide +kernel
theorem dL_back_18 : decode mL_back.2.1 18 = .ok (.iconst 1, 1) := by decide +kernel
theorem dL_back_19 : decode mL_back.2.1 19 = .ok (.invokevirtual 114, 3) := by decide +kernel
theorem dL_back_22 : decode mL_back.2.1 22 = .ok (.ifCond .ne 5, 3) := by decide +kernel
theorem dL_back_25 : decode mL_back.2.1 25 = .ok (.iconst 0, 1) := by decide +kernel
theorem dL_back_26 : decode mL_back.2.1 26 = .ok (.ireturn, 1) := by decide +kernel
theorem dL_back_27 : decode mL_back.2.1 27 = .ok (.aload_n 0, 1) := by decide +kernel
theorem dL_back_28 : decode mL_back.2.1 28 = .ok (.getfield 23, 3) := by decide +kernel
theorem dL_back_31 : decode mL_back.2.1 31 = .ok (.aload_n 0, 1) := by decide +kernel
theorem dL_back_32 : decode mL_back.2.1 32 = .ok (.getfield 31, 3) := by decide +kernel
theorem dL_back_35 : decode mL_back.2.1 35 = .ok (.iload_n 1, 1) := by decide +kernel
theorem dL_back_36 : decode mL_back.2.1 36 = .ok (.iaload, 1) := by decide +kernel
theorem dL_back_37 : decode mL_back.2.1 37 = .ok (.invokevirtual 357, 3) := by decide +kernel
theorem dL_back_40 : decode mL_back.2.1 40 = .ok (.aload_n 0, 1) := by decide +kernel
theorem dL_back_41 : decode mL_back.2.1 41 = .ok (.iconst 0, 1) := by decide +kernel
theorem dL_back_42 : decode mL_back.2.1 42 = .ok (.putfield 354, 3) := by decide +kernel
theorem dL_back_45 : decode mL_back.2.1 45 = .ok (.iconst 1, 1) := by decide +kernel
theorem dL_back_46 : decode mL_back.2.1 46 = .ok (.ireturn, 1) := by decide +kernel
def wya (s n p : Prop) [Decidable s] [Decidable n] [Decidable p] : Int := if s then (if n then (if p then 0 else 6) else 5) else 1
theorem wya_1 {s n p : Prop} [Decidable s] [Decidable n] [Decidable p] (h : s) (g : n) (k : p) : wya s n p = 0 := by unfold wya; rw [if_pos h, if_pos g, if_pos k]
theorem wya_2 {s n p : Prop} [Decidable s] [Decidable n] [Decidable p] (h : ¬ s) : wya s n p = 1 := by unfold wya; rw [if_neg h]
theorem wya_3 {s n p : Prop} [Decidable s] [Decidable n] [Decidable p] (h : s) (g : ¬ n) : wya s n p = 5 := by unfold wya; rw [if_pos h, if_neg g]
theorem wya_4 {s n p : Prop} [Decidable s] [Decidable n] [Decidable p] (h : s) (g : n) (k : ¬ p) : wya s n p = 6 := by unfold wya; rw [if_pos h, if_pos g, if_neg k]
/-- the state behind an act that may be refused -/
def ifS (w : Int) (S' S : PS) : PS := if w = 0 then S' else setR S w
theorem g4 {K : Option AV → Mem → Prop} {V : Nat → Nat → Int} {σ : Shp} {ow : Nat → Nat} {S S' : PS} {kn : Bool} {s n p : Prop} [Decidable s] [Decidable n] [Decidable p] {r d : Int} (hK : CK K V σ ow (ifS (wya s n p) S' S) kn (some (vI (rfD (wya s n p) r d)))) : (s → n → p → CK K V σ ow S' kn (some (vI r))) ∧ (¬ s → CK K V σ ow (setR S 1) kn (some (vI d))) ∧ (s → ¬ n → CK K V σ ow (setR S 5) kn (some (vI d))) ∧ (s → n → ¬ p → CK K V σ ow (setR S 6) kn (some (vI d))) :=
  ⟨fun a b c => by rw [wya_1 a b c] at hK; exact hK, fun a => by rw [wya_2 a] at hK; exact hK, fun a b => by rw [wya_3 a b] at hK; exact hK, fun a b c => by rw [wya_4 a b c] at hK; exact hK⟩
def scS (S : PS) (s : Sc) : PS := (psB S, psN S, psR S, psF S, psL S, psT S, s, psP S, psI S)
def paS (S : PS) (L : List Sc) : PS := (psB S, psN S, psR S, psF S, psL S, psT S, psS S, L, psI S)
def imS (S : PS) (L : List Sc) : PS := (psB S, psN S, psR S, psF S, psL S, psT S, psS S, psP S, L)
def kpP (L : List Sc) (s : Sc) : List Sc := (if L.length < 16 then L else L.drop 1) ++ [s]
def actS (S : PS) (s : Sc) : PS := scS (paS (setR S 0) (kpP (psP S) (psS S))) s
section Acts0
variable {V V' : Nat → Nat → Int} {σ : Shp} {ow : Nat → Nat} {y : Dy} {S : PS} {kn : Bool}
theorem CL.fr (hL : CL ow y) {P : Nat → Prop} (hP : ∀ b, P b → fx b) (hv : ∀ b, ¬ P b → V' b = V b) : FR V V' σ σ ow ow := ⟨Nat.le_refl _, fun b hb ho => ⟨hv b (fun q => by have h1 := hL.f (hP b q); have h2 := hP b q; unfold fx at h2; omega), rfl, rfl, rfl, fun _ => rfl⟩⟩
theorem CL.tn (hL : CL ow y) {i b : Nat} (hi : i ≤ 6) (hb : fx b) : dT y + i ≠ b := hL.nf hb (by rw [hL.t hi]; omega)
/-- the hall has changed -/
theorem CW.hl {s : Sc} (h : CW V σ ow y S kn) (hv : ∀ b, b < 10 ∨ 15 < b → V' b = V b) (hH : HH V' 10 (cfS (psT S) s) s.2.2) (hs : okS (psT S) s) : CW V' σ ow y (scS S s) kn ∧ FR V V' σ σ ow ow := by
  have hL := h.cl
  have hv2 : ∀ {b : Nat}, ow b < 100 → V' b = V b := fun {b} hb => hv b (Nat.lt_or_ge b 10 |>.elim Or.inl fun q => by
    refine Or.inr (Nat.lt_of_not_le fun q2 => ?_)
    exact hL.nf (b := b) (x := b) (by unfold fx; omega) hb rfl)
  refine ⟨⟨h.cs, hL, h.cb, ?_, ?_, ?_, ?_⟩, hL.fr (P := fun b => 10 ≤ b ∧ b ≤ 15) (fun b q => by unfold fx; omega) (fun b q => hv b (by omega))⟩
  · obtain ⟨o1, o2, o3, o4, o5⟩ := h.ok
    exact ⟨o1, o2, o3, hs, o5⟩
  · have := h.cf
    unfold CF at this ⊢
    rw [hv 1 (by omega)]
    exact this
  · obtain ⟨r1, r2, r3, r4, r5, r6, r7⟩ := h.cr
    exact ⟨by rw [hv 2 (by omega)]; exact r1, r2.same (fun i hi => hv2 (by rw [hL.t hi]; omega)), hH, by rw [hv 16 (by omega)]; exact r4, by rw [hv 17 (by omega)]; exact r5, by rw [hv 36 (by omega)]; exact r6, fun q => ⟨(r7 q).1, by unfold KR; rw [hv 37 (by omega), hv 38 (by omega)]; exact (r7 q).2⟩⟩
  · have hw := h.wk
    unfold WK at hw ⊢
    rw [hv 1 (by omega)]
    rcases hw with hw | ⟨s', k, m, q1, q2, q3, q4⟩
    · exact Or.inl hw
    · refine Or.inr ⟨s', k, m, q1, q2, q3, q4.same (fun b hb => ?_)⟩
      rcases hb with hb | hb | hb
      · exact hv b (by omega)
      · rw [hb]; exact hv2 (by rw [hL.2.1.1]; omega)
      · rw [hb]; exact hv2 (by rw [hL.2.1.2.1]; omega)
/-- the past has changed -/
theorem CW.pa {L : List Sc} (h : CW V σ ow y S kn) (hv : ∀ b, b ≠ 1 → b ≠ 16 → V' b = V b) (hf : ∀ j, j ≠ 8 → V' 1 j = V 1 j) (hl : V' 1 8 = L.length) (h16 : ∀ i s, L[i]? = some s → V' 16 i = snS (psT S) s) (hlen : L.length ≤ 16) (hok : ∀ s ∈ L, okS (psT S) s) (hd : tDn (psT S) = 0 → L = []) : CW V' σ ow y (paS S L) kn ∧ FR V V' σ σ ow ow := by
  have hL := h.cl
  have hv2 : ∀ {b : Nat}, ow b < 100 → V' b = V b := fun {b} hb => hv b (hL.nf (by unfold fx; omega) hb) (hL.nf (by unfold fx; omega) hb)
  refine ⟨⟨h.cs, hL, h.cb, ?_, ?_, ?_, ?_⟩, hL.fr (P := fun b => b = 1 ∨ b = 16) (fun b q => by unfold fx; omega) (fun b q => hv b (by omega) (by omega))⟩
  · obtain ⟨o1, o2, o3, o4, o5, o6, o7, o8, o9⟩ := h.ok
    exact ⟨o1, o2, o3, o4, hlen, hok, o7, o8, fun q => ⟨hd q, (o9 q).2⟩⟩
  · have := h.cf
    unfold CF at this ⊢
    rw [hf 1 (by decide), hf 2 (by decide), hf 3 (by decide), hf 4 (by decide), hf 10 (by decide)]
    exact ⟨this.1, this.2.1, this.2.2.1, this.2.2.2.1, hl, this.2.2.2.2.2⟩
  · obtain ⟨r1, r2, r3, r4, r5, r6, r7⟩ := h.cr
    exact ⟨by rw [hv 2 (by omega) (by omega)]; exact r1, r2.same (fun i hi => hv2 (by rw [hL.t hi]; omega)), r3.same (fun b q1 q2 => hv b (by omega) (by omega)), h16, by rw [hv 17 (by omega) (by omega)]; exact r5, by rw [hv 36 (by omega) (by omega)]; exact r6, fun q => ⟨(r7 q).1, by unfold KR; rw [hv 37 (by omega) (by omega), hv 38 (by omega) (by omega)]; exact (r7 q).2⟩⟩
  · have hw := h.wk
    unfold WK at hw ⊢
    rw [hf 12 (by decide)]
    rcases hw with hw | ⟨s', k, m, q1, q2, q3, q4⟩
    · exact Or.inl hw
    · refine Or.inr ⟨s', k, m, q1, q2, q3, q4.same (fun b hb => ?_)⟩
      rcases hb with hb | hb | hb
      · exact hv b (by omega) (by omega)
      · rw [hb]; exact hv2 (by rw [hL.2.1.1]; omega)
      · rw [hb]; exact hv2 (by rw [hL.2.1.2.1]; omega)
/-- the images have changed -/
theorem CW.im {L : List Sc} (h : CW V σ ow y S kn) (hv : ∀ b, b ≠ 1 → b ≠ 17 → V' b = V b) (hf : ∀ j, j ≠ 10 → V' 1 j = V 1 j) (hl : V' 1 10 = L.length) (h17 : ∀ i s, L[i]? = some s → V' 17 i = snS (psT S) s) (hlen : L.length ≤ 3) (hok : ∀ s ∈ L, okS (psT S) s) (hd : tDn (psT S) = 0 → L = []) : CW V' σ ow y (imS S L) kn ∧ FR V V' σ σ ow ow := by
  have hL := h.cl
  have hv2 : ∀ {b : Nat}, ow b < 100 → V' b = V b := fun {b} hb => hv b (hL.nf (by unfold fx; omega) hb) (hL.nf (by unfold fx; omega) hb)
  refine ⟨⟨h.cs, hL, h.cb, ?_, ?_, ?_, ?_⟩, hL.fr (P := fun b => b = 1 ∨ b = 17) (fun b q => by unfold fx; omega) (fun b q => hv b (by omega) (by omega))⟩
  · obtain ⟨o1, o2, o3, o4, o5, o6, o7, o8, o9⟩ := h.ok
    exact ⟨o1, o2, o3, o4, o5, o6, hlen, hok, fun q => ⟨(o9 q).1, hd q⟩⟩
  · have := h.cf
    unfold CF at this ⊢
    rw [hf 1 (by decide), hf 2 (by decide), hf 3 (by decide), hf 4 (by decide), hf 8 (by decide)]
    exact ⟨this.1, this.2.1, this.2.2.1, this.2.2.2.1, this.2.2.2.2.1, hl⟩
  · obtain ⟨r1, r2, r3, r4, r5, r6, r7⟩ := h.cr
    exact ⟨by rw [hv 2 (by omega) (by omega)]; exact r1, r2.same (fun i hi => hv2 (by rw [hL.t hi]; omega)), r3.same (fun b q1 q2 => hv b (by omega) (by omega)), by rw [hv 16 (by omega) (by omega)]; exact r4, h17, by rw [hv 36 (by omega) (by omega)]; exact r6, fun q => ⟨(r7 q).1, by unfold KR; rw [hv 37 (by omega) (by omega), hv 38 (by omega) (by omega)]; exact (r7 q).2⟩⟩
  · have hw := h.wk
    unfold WK at hw ⊢
    rw [hf 12 (by decide)]
    rcases hw with hw | ⟨s', k, m, q1, q2, q3, q4⟩
    · exact Or.inl hw
    · refine Or.inr ⟨s', k, m, q1, q2, q3, q4.same (fun b hb => ?_)⟩
      rcases hb with hb | hb | hb
      · exact hv b (by omega) (by omega)
      · rw [hb]; exact hv2 (by rw [hL.2.1.1]; omega)
      · rw [hb]; exact hv2 (by rw [hL.2.1.2.1]; omega)
theorem okT.okC {T : TL} {s : Sc} (h : okT T) (g : okS T s) : okC (cfS T s) := ⟨h.2.1, h.2.2.1, Nat.lt_of_lt_of_le h.2.2.2.1 (two_le h.2.1), Nat.lt_of_lt_of_le h.2.2.2.2.1 (Nat.pow_le_pow_right (by decide) h.2.2.1 : 2 ^ tPn T ≤ 2 ^ 2), g.1, Nat.lt_of_lt_of_le g.2.2.1 (two_le h.2.1)⟩
theorem HH.w0 {a : Nat} {c : Cfg} {n : Nat} (h : HH V a c n) (hd : 0 < dN c) : HW0 V a c := by
  obtain ⟨-, ⟨h0, h1, h2, h3, h4, h5, h6, h9, h10, h11, h12, h13⟩, -⟩ := h
  exact ⟨h0, h1, h2, h3, h4, h5, h9, h10, h11 hd, fun d q => (h12 d q).2, h13⟩
end Acts0
section Acts
variable {G : GE} {V : Nat → Nat → Int} {σ : Shp} {K : Option AV → Mem → Prop} {ow : Nat → Nat} {y : Dy} {S : PS} {kn : Bool}
theorem wL_keepNow (h : CW V σ ow y S kn) (hd : 0 < tDn (psT S)) (hK : ∀ V' : Nat → Nat → Int, CW V' σ ow y (paS S (kpP (psP S) (psS S))) kn → FR V V' σ σ ow ow → K none (V', σ)) : Wp G 1 mL_keepNow [vR 1] (V, σ) 0 0 K := by
  have hW := h.cs
  have hF8 := h.cf.2.2.2.2.1
  obtain ⟨-, -, -, -, o5, o6, -, -, o9⟩ := h.ok
  have hP := h.cr.2.2.2.1
  have hn : psA S < 65536 := Nat.lt_of_lt_of_le (h.oS.2.2.2.1 hd) (Nat.le_trans (spc_le (h.oT.okC h.oS)) (by decide))
  have fin : ∀ (V1 : Nat → Nat → Int) (L : List Sc), (∀ b, b ≠ 1 → b ≠ 16 → V1 b = V b) → (∀ j, j ≠ 8 → V1 1 j = V 1 j) → V1 1 8 = L.length → (∀ i s, L[i]? = some s → V1 16 i = snS (psT S) s) → L.length ≤ 15 → (∀ s ∈ L, s ∈ psP S) → L ++ [psS S] = kpP (psP S) (psS S) → K none (up2 (up2 V1 16 L.length (snS (psT S) (psS S))) 1 8 (L.length + 1), σ) := by
    intro V1 L f1 f2 f3 f4 f5 f6 f7
    obtain ⟨q1, q2⟩ := h.pa (V' := up2 (up2 V1 16 L.length (snS (psT S) (psS S))) 1 8 (L.length + 1)) (L := kpP (psP S) (psS S)) (fun b h1 h2 => by rw [up2_nea _ _ h1, up2_nea _ _ h2]; exact f1 b h1 h2) (fun j hj => by rw [up2_nek _ _ hj, up2_nea _ _ (by decide)]; exact f2 j hj) (by rw [up2_same, ← f7]; simp) (fun i s hi => by
      rw [up2_nea _ _ (by decide)]
      rw [← f7] at hi
      by_cases e : i = L.length
      · subst e
        rw [up2_same]
        rw [List.getElem?_append_right (Nat.le_refl _), Nat.sub_self] at hi
        cases hi
        rfl
      · have hlt := (List.getElem?_eq_some_iff.mp hi).1
        simp at hlt
        rw [up2_nek _ _ e]
        rw [List.getElem?_append_left (by omega)] at hi
        exact f4 i s hi) (by rw [← f7]; simp; omega) (fun s hs => by
      rw [← f7] at hs
      rcases List.mem_append.mp hs with hs | hs
      · exact o6 s (f6 s hs)
      · rw [List.mem_singleton.mp hs]; exact h.oS) (fun q => by omega)
    exact hK _ q1 q2
  refine wp_intro mL_keepNow_i.1 [some (vR 1), none] rfl rfl (Nat.le_of_ble_eq_true rfl) ?_
  intro X hG F C
  have hm := C.rm
  have go : ∀ (V1 : Nat → Nat → Int) (L : List Sc) (u : Option AV), (∀ b, b ≠ 1 → b ≠ 16 → V1 b = V b) → (∀ j, j ≠ 8 → V1 1 j = V 1 j) → V1 1 8 = L.length → (∀ i s, L[i]? = some s → V1 16 i = snS (psT S) s) → L.length ≤ 15 → (∀ s ∈ L, s ∈ psP S) → L ++ [psS S] = kpP (psP S) (psS S) → AW X 43 [some (vR 1), u] [] (V1, σ) 0 0 := by
    intro V1 L u f1 f2 f3 f4 f5 f6 f7
    have hh1 : HH V1 10 (psC S) (psA S) := h.hh.same (fun b q1 q2 => f1 b (by omega) (by omega))
    have f8 := fin V1 L f1 f2 f3 f4 f5 f6 f7
    refine aw_aload_0 (q := 44) F dL_keepNow_43 rfl ?_
    refine av_getaE (q := 47) F fL_27 dL_keepNow_44 rfl rfl (by first | exact hW.o | exact hW.ho | exact hW.to | exact hW.a16 | exact hW.a17 | exact hW.h.a1) hW.p7 ?_
    refine aw_aload_0 (q := 48) F dL_keepNow_47 rfl ?_
    refine av_geti (q := 51) F fL_354 dL_keepNow_48 rfl rfl (by first | exact hW.o | exact hW.ho | exact hW.to | exact hW.a16 | exact hW.a17 | exact hW.h.a1) ?_
    refine aw_aload_0 (q := 52) F dL_keepNow_51 rfl ?_
    refine av_getaE (q := 55) F fL_23 dL_keepNow_52 rfl rfl (by first | exact hW.o | exact hW.ho | exact hW.to | exact hW.a16 | exact hW.a17 | exact hW.h.a1) hW.p6 ?_
    refine av_callV0 (q := 58) (ci := 2) F hm mH_scene_i mH_scene_n lL_197 dL_keepNow_55 rfl rfl rfl (by first | exact hW.o | exact hW.ho | exact hW.to | exact hW.a16 | exact hW.a17 | exact hW.h.a1) (by decide) (Nat.le_refl _) (Nat.le_refl _) (Nat.le_of_ble_eq_true rfl) (wH_scene hn hW.h hh1 ?_)
    rw [f3]
    refine av_iastore (q := 59) F dL_keepNow_58 rfl (by first | exact hW.o | exact hW.ho | exact hW.to | exact hW.a16 | exact hW.a17 | exact hW.h.a1) (by omega) (by omega) ?_
    refine aw_aload_0 (q := 60) F dL_keepNow_59 rfl ?_
    refine aw_dup (q := 61) F dL_keepNow_60 rfl trivial ?_
    refine av_geti (q := 64) F fL_354 dL_keepNow_61 rfl rfl (by first | exact hW.o | exact hW.ho | exact hW.to | exact hW.a16 | exact hW.a17 | exact hW.h.a1) ?_
    rw [up2_nea _ _ (by decide), f3]
    refine aw_iconst (q := 65) F dL_keepNow_64 rfl (by decide) ?_
    refine aw_iadd (q := 66) F dL_keepNow_65 rfl (by constructor <;> omega) ?_
    refine av_puti (q := 69) F fL_354 dL_keepNow_66 rfl rfl (wr_7_8 _) (by first | exact hW.o | exact hW.ho | exact hW.to | exact hW.a16 | exact hW.a17 | exact hW.h.a1) ?_
    refine aw_vret F C dL_keepNow_69 rfl (Nat.le_refl _) (Nat.le_refl _) ?_
    exact f8
  have loop : 16 ≤ (psP S).length → ∀ (j i : Nat), 16 - i = j → 1 ≤ i → i ≤ 16 → ∀ (V1 : Nat → Nat → Int) (z : Int), (∀ b, b ≠ 16 → V1 b = V b) → (∀ k, k + 1 < i → V1 16 k = V 16 (k + 1)) → (∀ k, i ≤ k → V1 16 k = V 16 k) → z = i → AW X 11 [some (vR 1), some (vI z)] [] (V1, σ) 0 0 := by
    intro h16 j
    induction j using Nat.strongRecOn with
    | ind j ih =>
      intro i hj h1 hi V1 z f1 f2 f3 hz
      refine aw_iload_1 (q := 12) F dL_keepNow_11 rfl ?_
      refine aw_bipush (q := 14) F dL_keepNow_12 rfl (by decide) ?_
      refine aw_icmp_ge (q := 17) (t := 37) F dL_keepNow_14 rfl (by decide) (fun c14 => ?_) (fun c14 => ?_)
      · refine aw_aload_0 (q := 38) F dL_keepNow_37 rfl ?_
        refine aw_bipush (q := 40) F dL_keepNow_38 rfl (by decide) ?_
        refine av_puti (q := 43) F fL_354 dL_keepNow_40 rfl rfl (wr_7_8 _) (by first | exact hW.o | exact hW.ho | exact hW.to | exact hW.a16 | exact hW.a17 | exact hW.h.a1) ?_
        refine go _ ((psP S).drop 1) _ (fun b h1 h2 => by rw [up2_nea _ _ h1]; exact f1 b h2) (fun j hj => by rw [up2_nek _ _ hj, f1 1 (by decide)]) (by rw [up2_same]; simp; omega) (fun k s hk => ?_) (by simp; omega) (fun s hs => List.mem_of_mem_drop hs) (by unfold kpP; rw [if_neg (by omega)])
        rw [up2_nea _ _ (by decide)]
        rw [List.getElem?_drop] at hk
        have hlt := (List.getElem?_eq_some_iff.mp hk).1
        rw [f2 k (by omega), Nat.add_comm k 1]
        exact hP _ s hk
      · refine aw_aload_0 (q := 18) F dL_keepNow_17 rfl ?_
        refine av_getaE (q := 21) F fL_27 dL_keepNow_18 rfl rfl (by first | exact hW.o | exact hW.ho | exact hW.to | exact hW.a16 | exact hW.a17 | exact hW.h.a1) hW.p7 ?_
        refine aw_iload_1 (q := 22) F dL_keepNow_21 rfl ?_
        refine aw_iconst (q := 23) F dL_keepNow_22 rfl (by decide) ?_
        refine aw_isub (q := 24) F dL_keepNow_23 rfl (by constructor <;> omega) ?_
        refine aw_aload_0 (q := 25) F dL_keepNow_24 rfl ?_
        refine av_getaE (q := 28) F fL_27 dL_keepNow_25 rfl rfl (by first | exact hW.o | exact hW.ho | exact hW.to | exact hW.a16 | exact hW.a17 | exact hW.h.a1) hW.p7 ?_
        refine aw_iload_1 (q := 29) F dL_keepNow_28 rfl ?_
        refine av_iaload (q := 30) F dL_keepNow_29 rfl (by first | exact hW.o | exact hW.ho | exact hW.to | exact hW.a16 | exact hW.a17 | exact hW.h.a1) (by omega) (by omega) ?_
        refine av_iastore (q := 31) F dL_keepNow_30 rfl (by first | exact hW.o | exact hW.ho | exact hW.to | exact hW.a16 | exact hW.a17 | exact hW.h.a1) (by omega) (by omega) ?_
        refine aw_iinc_1 (q := 34) F dL_keepNow_31 rfl trivial (by constructor <;> omega) ?_
        refine aw_goto (t := 11) F dL_keepNow_34 (by decide) ?_
        refine ih _ (by omega) (i + 1) rfl (by omega) (by omega) _ _ (fun b hb => by rw [up2_nea _ _ hb]; exact f1 b hb) (fun k hk => ?_) (fun k hk => ?_) (by omega)
        · rw [show (z - 1).toNat = i - 1 by omega, show z.toNat = i by omega]
          by_cases e : k = i - 1
          · subst e; rw [up2_same, f3 i (by omega), show i - 1 + 1 = i by omega]
          · rw [up2_nek _ _ e]; exact f2 k (by omega)
        · rw [up2_nek _ _ (by omega)]; exact f3 k (by omega)
  refine aw_aload_0 (q := 1) F dL_keepNow_0 rfl ?_
  refine av_geti (q := 4) F fL_354 dL_keepNow_1 rfl rfl (by first | exact hW.o | exact hW.ho | exact hW.to | exact hW.a16 | exact hW.a17 | exact hW.h.a1) ?_
  refine aw_bipush (q := 6) F dL_keepNow_4 rfl (by decide) ?_
  refine aw_icmp_lt (q := 9) (t := 43) F dL_keepNow_6 rfl (by decide) (fun c6 => ?_) (fun c6 => ?_)
  · exact go V (psP S) _ (fun _ _ _ => rfl) (fun _ _ => rfl) hF8 hP (by omega) (fun s hs => hs) (by unfold kpP; rw [if_pos (by omega)])
  · refine aw_iconst (q := 10) F dL_keepNow_9 rfl (by decide) ?_
    refine aw_istore_1 (q := 11) F dL_keepNow_10 rfl trivial ?_
    exact loop (by omega) _ 1 rfl (by omega) (by omega) V _ (fun _ _ => rfl) (fun k hk => absurd hk (by omega)) (fun _ _ => rfl) rfl
end Acts
