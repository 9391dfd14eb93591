theorem dL_shuttings_0 : decode mL_shuttings.2.1 0 = .ok (.aload_n 0, 1) := by decide +kernel
theorem dL_shuttings_1 : decode mL_shuttings.2.1 1 = .ok (.aload_n 0, 1) := by decide +kernel
theorem dL_shuttings_2 : decode mL_shuttings.2.1 2 = .ok (.invokevirtual 154, 3) := by decide +kernel
theorem dL_shuttings_5 : decode mL_shuttings.2.1 5 = .ok (.iload_n 1, 1) := by decide +kernel
theorem dL_shuttings_6 : decode mL_shuttings.2.1 6 = .ok (.invokestatic 177, 3) := by decide +kernel
theorem dL_shuttings_9 : decode mL_shuttings.2.1 9 = .ok (.invokevirtual 114, 3) := by decide +kernel
theorem dL_shuttings_12 : decode mL_shuttings.2.1 12 = .ok (.ifCond .ne 5, 3) := by decide +kernel
theorem dL_shuttings_15 : decode mL_shuttings.2.1 15 = .ok (.iconst (-1), 1) := by decide +kernel
theorem dL_shuttings_16 : decode mL_shuttings.2.1 16 = .ok (.ireturn, 1) := by decide +kernel
theorem dL_shuttings_17 : decode mL_shuttings.2.1 17 = .ok (.aload_n 0, 1) := by decide +kernel
theorem dL_shuttings_18 : decode mL_shuttings.2.1 18 = .ok (.getfield 45, 3) := by decide +kernel
theorem dL_shuttings_21 : decode mL_shuttings.2.1 21 = .ok (.aload_n 0, 1) := by decide +kernel
theorem dL_shuttings_22 : decode mL_shuttings.2.1 22 = .ok (.getfield 16, 3) := by decide +kernel
theorem dL_shuttings_25 : decode mL_shuttings.2.1 25 = .ok (.aload_n 0, 1) := by decide +kernel
theorem dL_shuttings_26 : decode mL_shuttings.2.1 26 = .ok (.getfield 23, 3) := by decide +kernel
theorem dL_shuttings_29 : decode mL_shuttings.2.1 29 = .ok (.invokevirtual 197, 3) := by decide +kernel
theorem dL_shuttings_32 : decode mL_shuttings.2.1 32 = .ok (.invokevirtual 200, 3) := by decide +kernel
theorem dL_shuttings_35 : decode mL_shuttings.2.1 35 = .ok (.aload_n 0, 1) := by decide +kernel
theorem dL_shuttings_36 : decode mL_shuttings.2.1 36 = .ok (.getfield 45, 3) := by decide +kernel
theorem dL_shuttings_39 : decode mL_shuttings.2.1 39 = .ok (.aload_n 0, 1) := by decide +kernel
theorem dL_shuttings_40 : decode mL_shuttings.2.1 40 = .ok (.iload_n 1, 1) := by decide +kernel
theorem dL_shuttings_41 : decode mL_shuttings.2.1 41 = .ok (.invokevirtual 184, 3) := by decide +kernel
theorem dL_shuttings_44 : decode mL_shuttings.2.1 44 = .ok (.invokevirtual 203, 3) := by decide +kernel
theorem dL_shuttings_47 : decode mL_shuttings.2.1 47 = .ok (.ireturn, 1) := by decide +kernel
theorem dL_nails_0 : decode mL_nails.2.1 0 = .ok (.aload_n 0, 1) := by decide +kernel
theorem dL_nails_1 : decode mL_nails.2.1 1 = .ok (.aload_n 0, 1) := by decide +kernel
theorem dL_nails_2 : decode mL_nails.2.1 2 = .ok (.getfield 23, 3) := by decide +kernel
theorem dL_nails_5 : decode mL_nails.2.1 5 = .ok (.iload_n 1, 1) := by decide +kernel
theorem dL_nails_6 : decode mL_nails.2.1 6 = .ok (.invokevirtual 136, 3) := by decide +kernel
theorem dL_nails_9 : decode mL_nails.2.1 9 = .ok (.ifCond .eq 18, 3) := by decide +kernel
theorem dL_nails_12 : decode mL_nails.2.1 12 = .ok (.aload_n 0, 1) := by decide +kernel
theorem dL_nails_13 : decode mL_nails.2.1 13 = .ok (.getfield 23, 3) := by decide +kernel
theorem dL_nails_16 : decode mL_nails.2.1 16 = .ok (.iload_n 2, 1) := by decide +kernel
theorem dL_nails_17 : decode mL_nails.2.1 17 = .ok (.invokevirtual 110, 3) := by decide +kernel
theorem dL_nails_20 : decode mL_nails.2.1 20 = .ok (.ifCond .eq 7, 3) := by decide +kernel
theorem dL_nails_23 : decode mL_nails.2.1 23 = .ok (.iconst 1, 1) := by decide +kernel
theorem dL_nails_24 : decode mL_nails.2.1 24 = .ok (.goto 4, 3) := by decide +kernel
theorem dL_nails_27 : decode mL_nails.2.1 27 = .ok (.iconst 0, 1) := by decide +kernel
theorem dL_nails_28 : decode mL_nails.2.1 28 = .ok (.iconst 1, 1) := by decide +kernel
theorem dL_nails_29 : decode mL_nails.2.1 29 = .ok (.invokevirtual 114, 3) := by decide +kernel
theorem dL_nails_32 : decode mL_nails.2.1 32 = .ok (.ifCond .ne 5, 3) := by decide +kernel
theorem dL_nails_35 : decode mL_nails.2.1 35 = .ok (.iconst (-1), 1) := by decide +kernel
theorem dL_nails_36 : decode mL_nails.2.1 36 = .ok (.ireturn, 1) := by decide +kernel
theorem dL_nails_37 : decode mL_nails.2.1 37 = .ok (.aload_n 0, 1) := by decide +kernel
theorem dL_nails_38 : decode mL_nails.2.1 38 = .ok (.aload_n 0, 1) := by decide +kernel
theorem dL_nails_39 : decode mL_nails.2.1 39 = .ok (.getfield 23, 3) := by decide +kernel
theorem dL_nails_42 : decode mL_nails.2.1 42 = .ok (.iload_n 1, 1) := by decide +kernel
theorem dL_nails_43 : decode mL_nails.2.1 43 = .ok (.iload_n 2, 1) := by decide +kernel
theorem dL_nails_44 : decode mL_nails.2.1 44 = .ok (.iconst 1, 1) := by decide +kernel
theorem dL_nails_45 : decode mL_nails.2.1 45 = .ok (.iadd, 1) := by decide +kernel
theorem dL_nails_46 : decode mL_nails.2.1 46 = .ok (.invokevirtual 209, 3) := by decide +kernel
theorem dL_nails_49 : decode mL_nails.2.1 49 = .ok (.invokevirtual 246, 3) := by decide +kernel
theorem dL_nails_52 : decode mL_nails.2.1 52 = .ok (.ireturn, 1) := by decide +kernel
theorem dL_fewestNails_0 : decode mL_fewestNails.2.1 0 = .ok (.aload_n 0, 1) := by decide +kernel
theorem dL_fewestNails_1 : decode mL_fewestNails.2.1 1 = .ok (.getfield 23, 3) := by decide +kernel
theorem dL_fewestNails_4 : decode mL_fewestNails.2.1 4 = .ok (.invokevirtual 279, 3) := by decide +kernel
theorem dL_fewestNails_7 : decode mL_fewestNails.2.1 7 = .ok (.iconst (-1), 1) := by decide +kernel
theorem dL_fewestNails_8 : decode mL_fewestNails.2.1 8 = .ok (.ixor, 1) := by decide +kernel
theorem dL_fewestNails_9 : decode mL_fewestNails.2.1 9 = .ok (.iconst 1, 1) := by decide +kernel
theorem dL_fewestNails_10 : decode mL_fewestNails.2.1 10 = .ok (.aload_n 0, 1) := by decide +kernel
theorem dL_fewestNails_11 : decode mL_fewestNails.2.1 11 = .ok (.getfield 23, 3) := by decide +kernel
theorem dL_fewestNails_14 : decode mL_fewestNails.2.1 14 = .ok (.getfield 218, 3) := by decide +kernel
theorem dL_fewestNails_17 : decode mL_fewestNails.2.1 17 = .ok (.ishl, 1) := by decide +kernel
theorem dL_fewestNails_18 : decode mL_fewestNails.2.1 18 = .ok (.iconst 1, 1) := by decide +kernel
theorem dL_fewestNails_19 : decode mL_fewestNails.2.1 19 = .ok (.isub, 1) := by decide +kernel
theorem dL_fewestNails_20 : decode mL_fewestNails.2.1 20 = .ok (.iand, 1) := by decide +kernel
theorem dL_fewestNails_21 : decode mL_fewestNails.2.1 21 = .ok (.istore_n 2, 1) := by decide +kernel
theorem dL_fewestNails_22 : decode mL_fewestNails.2.1 22 = .ok (.iconst 0, 1) := by decide +kernel
theorem dL_fewestNails_23 : decode mL_fewestNails.2.1 23 = .ok (.istore_n 3, 1) := by decide +kernel
theorem dL_fewestNails_24 : decode mL_fewestNails.2.1 24 = .ok (.iload_n 3, 1) := by decide +kernel
theorem dL_fewestNails_25 : decode mL_fewestNails.2.1 25 = .ok (.aload_n 0, 1) := by decide +kernel
theorem dL_fewestNails_26 : decode mL_fewestNails.2.1 26 = .ok (.getfield 23, 3) := by decide +kernel
theorem dL_fewestNails_29 : decode mL_fewestNails.2.1 29 = .ok (.getfield 218, 3) := by decide +kernel
theorem dL_fewestNails_32 : decode mL_fewestNails.2.1 32 = .ok (.if_icmp .gt 75, 3) := by decide +kernel
theorem dL_fewestNails_35 : decode mL_fewestNails.2.1 35 = .ok (.iconst 0, 1) := by decide +kernel
theorem dL_fewestNails_36 : decode mL_fewestNails.2.1 36 = .ok (.istore 4, 2) := by decide +kernel
theorem dL_fewestNails_38 : decode mL_fewestNails.2.1 38 = .ok (.iload 4, 2) := by decide +kernel
theorem dL_fewestNails_40 : decode mL_fewestNails.2.1 40 = .ok (.iconst 1, 1) := by decide +kernel
theorem dL_fewestNails_41 : decode mL_fewestNails.2.1 41 = .ok (.aload_n 0, 1) := by decide +kernel
theorem dL_fewestNails_42 : decode mL_fewestNails.2.1 42 = .ok (.getfield 23, 3) := by decide +kernel
theorem dL_fewestNails_45 : decode mL_fewestNails.2.1 45 = .ok (.getfield 218, 3) := by decide +kernel
theorem dL_fewestNails_48 : decode mL_fewestNails.2.1 48 = .ok (.ishl, 1) := by decide +kernel
theorem dL_fewestNails_49 : decode mL_fewestNails.2.1 49 = .ok (.if_icmp .ge 52, 3) := by decide +kernel
theorem dL_fewestNails_52 : decode mL_fewestNails.2.1 52 = .ok (.iload 4, 2) := by decide +kernel
theorem dL_fewestNails_54 : decode mL_fewestNails.2.1 54 = .ok (.iload_n 2, 1) := by decide +kernel
theorem dL_fewestNails_55 : decode mL_fewestNails.2.1 55 = .ok (.iconst (-1), 1) := by decide +kernel
theorem dL_fewestNails_56 : decode mL_fewestNails.2.1 56 = .ok (.ixor, 1) := by decide +kernel
theorem dL_fewestNails_57 : decode mL_fewestNails.2.1 57 = .ok (.iand, 1) := by decide +kernel
theorem dL_fewestNails_58 : decode mL_fewestNails.2.1 58 = .ok (.ifCond .ne 16, 3) := by decide +kernel
theorem dL_fewestNails_61 : decode mL_fewestNails.2.1 61 = .ok (.iload 4, 2) := by decide +kernel
theorem dL_fewestNails_63 : decode mL_fewestNails.2.1 63 = .ok (.invokestatic 222, 3) := by decide +kernel
theorem dL_fewestNails_66 : decode mL_fewestNails.2.1 66 = .ok (.iload_n 3, 1) := by decide +kernel
theorem dL_fewestNails_67 : decode mL_fewestNails.2.1 67 = .ok (.if_icmp .ne 7, 3) := by decide +kernel
theorem dL_fewestNails_70 : decode mL_fewestNails.2.1 70 = .ok (.iconst 1, 1) := by decide +kernel
theorem dL_fewestNails_71 : decode mL_fewestNails.2.1 71 = .ok (.goto 4, 3) := by decide +kernel
theorem dL_fewestNails_74 : decode mL_fewestNails.2.1 74 = .ok (.iconst 0, 1) := by decide +kernel
theorem dL_fewestNails_75 : decode mL_fewestNails.2.1 75 = .ok (.istore 5, 2) := by decide +kernel
theorem dL_fewestNails_77 : decode mL_fewestNails.2.1 77 = .ok (.iload 5, 2) := by decide +kernel
theorem dL_fewestNails_79 : decode mL_fewestNails.2.1 79 = .ok (.ifCond .eq 16, 3) := by decide +kernel
theorem dL_fewestNails_82 : decode mL_fewestNails.2.1 82 = .ok (.aload_n 0, 1) := by decide +kernel
theorem dL_fewestNails_83 : decode mL_fewestNails.2.1 83 = .ok (.iload_n 1, 1) := by decide +kernel
theorem dL_fewestNails_84 : decode mL_fewestNails.2.1 84 = .ok (.iload 4, 2) := by decide +kernel
theorem dL_fewestNails_86 : decode mL_fewestNails.2.1 86 = .ok (.invokevirtual 404, 3) := by decide +kernel
theorem dL_fewestNails_89 : decode mL_fewestNails.2.1 89 = .ok (.ifCond .eq 6, 3) := by decide +kernel
theorem dL_fewestNails_92 : decode mL_fewestNails.2.1 92 = .ok (.iload 4, 2) := by decide +kernel
theorem dL_fewestNails_94 : decode mL_fewestNails.2.1 94 = .ok (.ireturn, 1) := by decide +kernel
theorem dL_fewestNails_95 : decode mL_fewestNails.2.1 95 = .ok (.iinc 4 1, 3) := by decide +kernel
theorem dL_fewestNails_98 : decode mL_fewestNails.2.1 98 = .ok (.goto (-60), 3) := by decide +kernel
theorem dL_fewestNails_101 : decode mL_fewestNails.2.1 101 = .ok (.iinc 3 1, 3) := by decide +kernel
theorem dL_fewestNails_104 : decode mL_fewestNails.2.1 104 = .ok (.goto (-80), 3) := by decide +kernel
theorem dL_fewestNails_107 : decode mL_fewestNails.2.1 107 = .ok (.bipush (-2), 2) := by decide +kernel
theorem dL_fewestNails_109 : decode mL_fewestNails.2.1 109 = .ok (.ireturn, 1) := by decide +kernel
theorem dL_keepsFrom_0 : decode mL_keepsFrom.2.1 0 = .ok (.aload_n 0, 1) := by decide +kernel
theorem dL_keepsFrom_1 : decode mL_keepsFrom.2.1 1 = .ok (.getfield 45, 3) := by decide +kernel
theorem dL_keepsFrom_4 : decode mL_keepsFrom.2.1 4 = .ok (.aload_n 0, 1) := by decide +kernel
theorem dL_keepsFrom_5 : decode mL_keepsFrom.2.1 5 = .ok (.getfield 16, 3) := by decide +kernel
theorem dL_keepsFrom_8 : decode mL_keepsFrom.2.1 8 = .ok (.aload_n 0, 1) := by decide +kernel
theorem dL_keepsFrom_9 : decode mL_keepsFrom.2.1 9 = .ok (.getfield 23, 3) := by decide +kernel
theorem dL_keepsFrom_12 : decode mL_keepsFrom.2.1 12 = .ok (.invokevirtual 197, 3) := by decide +kernel
theorem dL_keepsFrom_15 : decode mL_keepsFrom.2.1 15 = .ok (.invokevirtual 200, 3) := by decide +kernel
theorem dL_keepsFrom_18 : decode mL_keepsFrom.2.1 18 = .ok (.aload_n 0, 1) := by decide +kernel
theorem dL_keepsFrom_19 : decode mL_keepsFrom.2.1 19 = .ok (.getfield 45, 3) := by decide +kernel
theorem dL_keepsFrom_22 : decode mL_keepsFrom.2.1 22 = .ok (.getfield 407, 3) := by decide +kernel
theorem dL_keepsFrom_25 : decode mL_keepsFrom.2.1 25 = .ok (.dup, 1) := by decide +kernel
theorem dL_keepsFrom_26 : decode mL_keepsFrom.2.1 26 = .ok (.getfield 127, 3) := by decide +kernel
theorem dL_keepsFrom_29 : decode mL_keepsFrom.2.1 29 = .ok (.iload_n 2, 1) := by decide +kernel
theorem dL_keepsFrom_30 : decode mL_keepsFrom.2.1 30 = .ok (.ior, 1) := by decide +kernel
theorem dL_keepsFrom_31 : decode mL_keepsFrom.2.1 31 = .ok (.putfield 127, 3) := by decide +kernel
theorem dL_keepsFrom_34 : decode mL_keepsFrom.2.1 34 = .ok (.aload_n 0, 1) := by decide +kernel
theorem dL_keepsFrom_35 : decode mL_keepsFrom.2.1 35 = .ok (.getfield 45, 3) := by decide +kernel
theorem dL_keepsFrom_38 : decode mL_keepsFrom.2.1 38 = .ok (.iload_n 1, 1) := by decide +kernel
theorem dL_keepsFrom_39 : decode mL_keepsFrom.2.1 39 = .ok (.invokevirtual 187, 3) := by decide +kernel
theorem dL_keepsFrom_42 : decode mL_keepsFrom.2.1 42 = .ok (.iconst (-1), 1) := by decide +kernel
theorem dL_keepsFrom_43 : decode mL_keepsFrom.2.1 43 = .ok (.if_icmp .ne 7, 3) := by decide +kernel
theorem dL_keepsFrom_46 : decode mL_keepsFrom.2.1 46 = .ok (.iconst 1, 1) := by decide +kernel
theorem dL_keepsFrom_47 : decode mL_keepsFrom.2.1 47 = .ok (.goto 4, 3) := by decide +kernel
theorem dL_keepsFrom_50 : decode mL_keepsFrom.2.1 50 = .ok (.iconst 0, 1) := by decide +kernel
theorem dL_keepsFrom_51 : decode mL_keepsFrom.2.1 51 = .ok (.ireturn, 1) := by decide +kernel
theorem dL_gets_0 : decode mL_gets.2.1 0 = .ok (.aload_n 0, 1) := by decide +kernel
theorem dL_gets_1 : decode mL_gets.2.1 1 = .ok (.aload_n 0, 1) := by decide +kernel
theorem dL_gets_2 : decode mL_gets.2.1 2 = .ok (.iload_n 1, 1) := by decide +kernel
theorem dL_gets_3 : decode mL_gets.2.1 3 = .ok (.iload_n 2, 1) := by decide +kernel
theorem dL_gets_4 : decode mL_gets.2.1 4 = .ok (.invokevirtual 249, 3) := by decide +kernel
theorem dL_gets_7 : decode mL_gets.2.1 7 = .ok (.iload_n 3, 1) := by decide +kernel
theorem dL_gets_8 : decode mL_gets.2.1 8 = .ok (.ifCond .lt 12, 3) := by decide +kernel
theorem dL_gets_11 : decode mL_gets.2.1 11 = .ok (.iload_n 3, 1) := by decide +kernel
theorem dL_gets_12 : decode mL_gets.2.1 12 = .ok (.iconst 4, 1) := by decide +kernel
theorem dL_gets_13 : decode mL_gets.2.1 13 = .ok (.if_icmp .gt 7, 3) := by decide +kernel
theorem dL_gets_16 : decode mL_gets.2.1 16 = .ok (.iconst 1, 1) := by decide +kernel
theorem dL_gets_17 : decode mL_gets.2.1 17 = .ok (.goto 4, 3) := by decide +kernel
theorem dL_gets_20 : decode mL_gets.2.1 20 = .ok (.iconst 0, 1) := by decide +kernel
theorem dL_gets_21 : decode mL_gets.2.1 21 = .ok (.invokevirtual 114, 3) := by decide +kernel
theorem dL_gets_24 : decode mL_gets.2.1 24 = .ok (.ifCond .ne 5, 3) := by decide +kernel
theorem dL_gets_27 : decode mL_gets.2.1 27 = .ok (.iconst (-1), 1) := by decide +kernel
theorem dL_gets_28 : decode mL_gets.2.1 28 = .ok (.ireturn, 1) := by decide +kernel
theorem dL_gets_29 : decode mL_gets.2.1 29 = .ok (.aload_n 0, 1) := by decide +kernel
theorem dL_gets_30 : decode mL_gets.2.1 30 = .ok (.getfield 58, 3) := by decide +kernel
theorem dL_gets_33 : decode mL_gets.2.1 33 = .ok (.aload_n 0, 1) := by decide +kernel
theorem dL_gets_34 : decode mL_gets.2.1 34 = .ok (.getfield 16, 3) := by decide +kernel
theorem dL_gets_37 : decode mL_gets.2.1 37 = .ok (.aload_n 0, 1) := by decide +kernel
theorem dL_gets_38 : decode mL_gets.2.1 38 = .ok (.getfield 23, 3) := by decide +kernel
theorem dL_gets_41 : decode mL_gets.2.1 41 = .ok (.invokevirtual 197, 3) := by decide +kernel
theorem dL_gets_44 : decode mL_gets.2.1 44 = .ok (.iload_n 1, 1) := by decide +kernel
theorem dL_gets_45 : decode mL_gets.2.1 45 = .ok (.iload_n 2, 1) := by decide +kernel
theorem dL_gets_46 : decode mL_gets.2.1 46 = .ok (.iconst 1, 1) := by decide +kernel
theorem dL_gets_47 : decode mL_gets.2.1 47 = .ok (.iadd, 1) := by decide +kernel
theorem dL_gets_48 : decode mL_gets.2.1 48 = .ok (.invokevirtual 252, 3) := by decide +kernel
theorem dL_gets_51 : decode mL_gets.2.1 51 = .ok (.aload_n 0, 1) := by decide +kernel
theorem dL_gets_52 : decode mL_gets.2.1 52 = .ok (.getfield 58, 3) := by decide +kernel
theorem dL_gets_55 : decode mL_gets.2.1 55 = .ok (.aload_n 0, 1) := by decide +kernel
theorem dL_gets_56 : decode mL_gets.2.1 56 = .ok (.getfield 23, 3) := by decide +kernel
theorem dL_gets_59 : decode mL_gets.2.1 59 = .ok (.invokevirtual 255, 3) := by decide +kernel
theorem dL_gets_62 : decode mL_gets.2.1 62 = .ok (.iload_n 3, 1) := by decide +kernel
theorem dL_gets_63 : decode mL_gets.2.1 63 = .ok (.invokevirtual 258, 3) := by decide +kernel
theorem dL_gets_66 : decode mL_gets.2.1 66 = .ok (.ifCond .eq 7, 3) := by decide +kernel
theorem dL_gets_69 : decode mL_gets.2.1 69 = .ok (.iconst 1, 1) := by decide +kernel
theorem dL_gets_70 : decode mL_gets.2.1 70 = .ok (.goto 4, 3) := by decide +kernel
theorem dL_gets_73 : decode mL_gets.2.1 73 = .ok (.iconst 0, 1) := by decide +kernel
theorem dL_gets_74 : decode mL_gets.2.1 74 = .ok (.ireturn, 1) := by decide +kernel
theorem dL_opensWith_0 : decode mL_opensWith.2.1 0 = .ok (.aload_n 0, 1) := by decide +kernel
theorem dL_opensWith_1 : decode mL_opensWith.2.1 1 = .ok (.aload_n 0, 1) := by decide +kernel
theorem dL_opensWith_2 : decode mL_opensWith.2.1 2 = .ok (.iload_n 1, 1) := by decide +kernel
theorem dL_opensWith_3 : decode mL_opensWith.2.1 3 = .ok (.iload_n 2, 1) := by decide +kernel
theorem dL_opensWith_4 : decode mL_opensWith.2.1 4 = .ok (.invokevirtual 249, 3) := by decide +kernel
theorem dL_opensWith_7 : decode mL_opensWith.2.1 7 = .ok (.iload_n 3, 1) := by decide +kernel
theorem dL_opensWith_8 : decode mL_opensWith.2.1 8 = .ok (.iconst 1, 1) := by decide +kernel
theorem dL_opensWith_9 : decode mL_opensWith.2.1 9 = .ok (.if_icmp .lt 12, 3) := by decide +kernel
theorem dL_opensWith_12 : decode mL_opensWith.2.1 12 = .ok (.iload_n 3, 1) := by decide +kernel
theorem dL_opensWith_13 : decode mL_opensWith.2.1 13 = .ok (.iconst 4, 1) := by decide +kernel
theorem dL_opensWith_14 : decode mL_opensWith.2.1 14 = .ok (.if_icmp .gt 7, 3) := by decide +kernel
theorem dL_opensWith_17 : decode mL_opensWith.2.1 17 = .ok (.iconst 1, 1) := by decide +kernel
theorem dL_opensWith_18 : decode mL_opensWith.2.1 18 = .ok (.goto 4, 3) := by decide +kernel
theorem dL_opensWith_21 : decode mL_opensWith.2.1 21 = .ok (.iconst 0, 1) := by decide +kernel
theorem dL_opensWith_22 : decode mL_opensWith.2.1 22 = .ok (.invokevirtual 114, 3) := by decide +kernel
theorem dL_opensWith_25 : decode mL_opensWith.2.1 25 = .ok (.ifCond .ne 5, 3) := by decide +kernel
theorem dL_opensWith_28 : decode mL_opensWith.2.1 28 = .ok (.iconst (-1), 1) := by decide +kernel
theorem dL_opensWith_29 : decode mL_opensWith.2.1 29 = .ok (.ireturn, 1) := by decide +kernel
theorem dL_opensWith_30 : decode mL_opensWith.2.1 30 = .ok (.aload_n 0, 1) := by decide +kernel
theorem dL_opensWith_31 : decode mL_opensWith.2.1 31 = .ok (.getfield 58, 3) := by decide +kernel
theorem dL_opensWith_34 : decode mL_opensWith.2.1 34 = .ok (.aload_n 0, 1) := by decide +kernel
theorem dL_opensWith_35 : decode mL_opensWith.2.1 35 = .ok (.getfield 16, 3) := by decide +kernel
theorem dL_opensWith_38 : decode mL_opensWith.2.1 38 = .ok (.aload_n 0, 1) := by decide +kernel
theorem dL_opensWith_39 : decode mL_opensWith.2.1 39 = .ok (.getfield 23, 3) := by decide +kernel
theorem dL_opensWith_42 : decode mL_opensWith.2.1 42 = .ok (.invokevirtual 197, 3) := by decide +kernel
theorem dL_opensWith_45 : decode mL_opensWith.2.1 45 = .ok (.iload_n 1, 1) := by decide +kernel
theorem dL_opensWith_46 : decode mL_opensWith.2.1 46 = .ok (.iload_n 2, 1) := by decide +kernel
theorem dL_opensWith_47 : decode mL_opensWith.2.1 47 = .ok (.iconst 1, 1) := by decide +kernel
theorem dL_opensWith_48 : decode mL_opensWith.2.1 48 = .ok (.iadd, 1) := by decide +kernel
theorem dL_opensWith_49 : decode mL_opensWith.2.1 49 = .ok (.invokevirtual 252, 3) := by decide +kernel
theorem dL_opensWith_52 : decode mL_opensWith.2.1 52 = .ok (.aload_n 0, 1) := by decide +kernel
theorem dL_opensWith_53 : decode mL_opensWith.2.1 53 = .ok (.getfield 58, 3) := by decide +kernel
theorem dL_opensWith_56 : decode mL_opensWith.2.1 56 = .ok (.aload_n 0, 1) := by decide +kernel
theorem dL_opensWith_57 : decode mL_opensWith.2.1 57 = .ok (.getfield 23, 3) := by decide +kernel
theorem dL_opensWith_60 : decode mL_opensWith.2.1 60 = .ok (.invokevirtual 255, 3) := by decide +kernel
theorem dL_opensWith_63 : decode mL_opensWith.2.1 63 = .ok (.iload_n 3, 1) := by decide +kernel
theorem dL_opensWith_64 : decode mL_opensWith.2.1 64 = .ok (.invokevirtual 261, 3) := by decide +kernel
theorem dL_opensWith_67 : decode mL_opensWith.2.1 67 = .ok (.ireturn, 1) := by decide +kernel
theorem stF_some {c : Cfg} {n P j i k : Nat} {q q1 : Nat × Nat} (hn : n < spc c) (h : ffO c P (fuS c n).1 = some i) (hi : i < (itS c (t0S n) j).1.length) (hk : k < dpL (itS c (t0S n) j).1 (itS c (t0S n) j).1.length i) (hq : (itS c (t0S n) j).1[upL (itS c (t0S n) j).1 (dpL (itS c (t0S n) j).1 (itS c (t0S n) j).1.length i - 1 - k) i]? = some q) (hq1 : (itS c (t0S n) j).1[q.2]? = some q1) : stF c n P k = fbF (fun x => mayN c q1.1 (allP c) x && aftN c q1.1 x == q.1) (stN c) := by
  obtain ⟨M, hM⟩ := it_pre hn j
  have h1 := (itS_ok (t0_ok hn) j).2.2
  have h2 := (fu_ok hn).2.2
  rw [hM] at h2
  have hd : dpE (fuS c n).1 i = dpL (itS c (t0S n) j).1 (itS c (t0S n) j).1.length i := by rw [hM]; exact dpE_app h1 h2 hi
  unfold stF
  rw [h]
  show (if 0 ≤ (k : Int) ∧ (k : Int) < dpE (fuS c n).1 i then _ else _) = _
  rw [if_pos ⟨by omega, by rw [hd]; omega⟩, hd, Int.toNat_natCast, hM, upL_app h1 hi]
  have hlt := (List.getElem?_eq_some_iff.mp hq).1
  have hlt1 := (List.getElem?_eq_some_iff.mp hq1).1
  have e1 := nmL_get (L := (itS c (t0S n) j).1 ++ M) (by rw [List.getElem?_append_left hlt]; exact hq)
  have e2 := nmL_get (L := (itS c (t0S n) j).1 ++ M) (by rw [List.getElem?_append_left hlt1]; exact hq1)
  have e3 : parL ((itS c (t0S n) j).1 ++ M) (upL (itS c (t0S n) j).1 (dpL (itS c (t0S n) j).1 (itS c (t0S n) j).1.length i - 1 - k) i) = q.2 := by rw [parL_app hlt, parL_some hq]
  unfold stG
  rw [e3, e2, e1]
theorem stF_out {c : Cfg} {n P j i : Nat} {k : Int} (hn : n < spc c) (h : ffO c P (fuS c n).1 = some i) (hi : i < (itS c (t0S n) j).1.length) (hk : ∀ k' : Nat, k = k' → dpL (itS c (t0S n) j).1 (itS c (t0S n) j).1.length i ≤ k') : stF c n P k = -1 := by
  obtain ⟨M, hM⟩ := it_pre hn j
  have h1 := (itS_ok (t0_ok hn) j).2.2
  have h2 := (fu_ok hn).2.2
  rw [hM] at h2
  have hd : dpE (fuS c n).1 i = dpL (itS c (t0S n) j).1 (itS c (t0S n) j).1.length i := by rw [hM]; exact dpE_app h1 h2 hi
  unfold stF
  rw [h]
  show (if 0 ≤ k ∧ k < dpE (fuS c n).1 i then _ else _) = _
  rw [if_neg (fun q => by have := hk k.toNat (by omega); rw [hd] at q; omega)]
section Errat
variable {G : GE} {V : Nat → Nat → Int} {σ : Shp} {K : Option AV → Mem → Prop} {ow : Nat → Nat} {y : Dy} {S : PS} {kn : Bool}
theorem wL_errandAt {w i : Int} (hB : sX σ + 10 < BG) (h : CW V σ ow y S kn) (hK : CK K V σ ow (setR S (wyE S w i)) kn (some (vI (rfD (wyE S w i) (stF (psC S) (psA S) (goN S w) i) (-1))))) : Wp G 6 mL_errandAt [vR 1, vI w, vI i] (V, σ) 2 63500 K := by
  have hW := h.cs
  have hT1 : V (dT y) 1 = tDn (psT S) := h.tv.1.2.1
  have h2 := h.tr (z := 0) (by decide)
  have hc := h.oT.okC h.oS
  have g : 0 < tDn (psT S) → 0 ≤ w ∧ w ≤ 2 → stF (psC S) (psA S) (goN S w) i ≠ -1 → CK K V σ ow (setR S 0) kn (some (vI (stF (psC S) (psA S) (goN S w) i))) := fun a b c => by
    have e : wyE S w i = 0 := by unfold wyE; rw [if_pos a, if_pos b, if_neg c]
    rw [e] at hK; exact hK
  have g1 : 0 < tDn (psT S) → 0 ≤ w ∧ w ≤ 2 → stF (psC S) (psA S) (goN S w) i = -1 → CK K V σ ow (setR S 1) kn (some (vI (-1))) := fun a b c => by
    have e : wyE S w i = 1 := by unfold wyE; rw [if_pos a, if_pos b, if_pos c]
    rw [e] at hK; exact hK
  have r1 : ¬ 0 < tDn (psT S) → CK K V σ ow (setR S 1) kn (some (vI (-1))) := fun a => by
    have e : wyE S w i = 1 := by unfold wyE; rw [if_neg a]
    rw [e] at hK; exact hK
  have r2 : 0 < tDn (psT S) → ¬ (0 ≤ w ∧ w ≤ 2) → CK K V σ ow (setR S 2) kn (some (vI (-1))) := fun a b => by
    have e : wyE S w i = 2 := by unfold wyE; rw [if_pos a, if_neg b]
    rw [e] at hK; exact hK
  refine wp_intro mL_errandAt_i.1 [some (vR 1), some (vI w), some (vI i), none, none] rfl rfl (Nat.le_of_ble_eq_true rfl) ?_
  intro X hG F C
  have hm := C.rm
  have go : 0 < tDn (psT S) → 0 ≤ w ∧ w ≤ 2 → AW X 17 [some (vR 1), some (vI w), some (vI i), none, none] [] (up2 V 1 2 0, σ) 0 0 := by
    intro hd hw
    have hsp : psA S < spc (psC S) := h.oS.2.2.2.1 hd
    have fin : ∀ (V1 : Nat → Nat → Int) (σ1 : Shp) (ow1 : Nat → Nat) (y1 : Dy) (r : Int), CW V1 σ1 ow1 y1 (setR S 0) kn → FR V V1 σ σ1 ow ow1 → stF (psC S) (psA S) (goN S w) i = r → AW X 36 [some (vR 1), some (vI w), some (vI i), some (vR 18), none] [vI r] (V1, σ1) (0 + 2) (0 + 63500) := by
      intro V1 σ1 ow1 y1 r c1 f1 hr
      have hW := c1.cs
      refine aw_istore_4 (q := 38) F dL_errandAt_36 rfl trivial ?_
      refine aw_iload_4 (q := 40) F dL_errandAt_38 rfl ?_
      refine aw_iconst (q := 41) F dL_errandAt_40 rfl (by decide) ?_
      refine aw_icmp_ne (q := 44) (t := 52) F dL_errandAt_41 rfl (by decide) (fun c41 => ?_) (fun c41 => ?_)
      · refine aw_iload_4 (q := 54) F dL_errandAt_52 rfl ?_
        refine aw_iret F C dL_errandAt_54 rfl (by decide) (by decide) ?_
        first
        | exact kI (g hd hw (by omega) _ _ _ _ c1 f1) hr
        | exact g1 hd hw (by omega) _ _ _ _ (c1.tr (z := 1) (by decide)) (f1.tr c1.fr)
      · refine aw_aload_0 (q := 45) F dL_errandAt_44 rfl ?_
        refine aw_iconst (q := 46) F dL_errandAt_45 rfl (by decide) ?_
        refine av_callV1 (q := 49) (ci := 7) F hm mL_refuse_i mL_refuse_n lL_76 dL_errandAt_46 rfl rfl rfl (by first | exact hW.o | exact hW.ho | exact hW.to | exact hs.o | exact hs.ho | exact hW5.o | exact hW5.ho | exact hW5.s1.o) (by decide) (by decide) (by decide) (Nat.le_of_ble_eq_true rfl) (wL_refuse hW ?_)
        refine aw_goto (t := 54) F dL_errandAt_49 (by decide) ?_
        refine aw_iret F C dL_errandAt_54 rfl (by decide) (by decide) ?_
        first
        | exact kI (g hd hw (by omega) _ _ _ _ c1 f1) hr
        | exact g1 hd hw (by omega) _ _ _ _ (c1.tr (z := 1) (by decide)) (f1.tr c1.fr)
    refine aw_aload_0 (q := 18) F dL_errandAt_17 rfl ?_
    refine av_callV0 (q := 21) (ci := 7) F hm mL_walkFromNow_i mL_walkFromNow_n lL_180 dL_errandAt_18 rfl rfl rfl (by first | exact hW.o | exact hW.ho | exact hW.to | exact hs.o | exact hs.ho | exact hW5.o | exact hW5.ho | exact hW5.s1.o) (by decide) (Nat.le_refl _) (Nat.le_refl _) (Nat.le_of_ble_eq_true rfl) (wL_walkFromNow h2 hd hB (fun v18 sg18 ow18 y18 c18 f18 w18 => ?_))
    obtain ⟨k, m, hM, h12, hSQ⟩ := w18
    have hSQ : SQ v18 18 (dQ1 y18) (dK1 y18) (dL1 y18) (psC S) (itS (psC S) (t0S (psA S)) k) m := hSQ
    have hW5 := c18.cs
    have hs : sS sg18 18 (dQ1 y18) (dK1 y18) (dL1 y18) := by have := c18.cs.s1; rw [hM] at this; exact this
    refine aw_astore_3 (q := 22) F dL_errandAt_21 rfl trivial ?_
    refine aw_aload_3 (q := 23) F dL_errandAt_22 rfl ?_
    refine aw_aload_3 (q := 24) F dL_errandAt_23 rfl ?_
    refine aw_aload_0 (q := 25) F dL_errandAt_24 rfl ?_
    refine aw_iload_1 (q := 26) F dL_errandAt_25 rfl ?_
    refine av_callV1 (q := 29) (ci := 7) F hm mL_goalOf_i mL_goalOf_n lL_184 dL_errandAt_26 rfl rfl rfl (by first | exact hW.o | exact hW.ho | exact hW.to | exact hs.o | exact hs.ho | exact hW5.o | exact hW5.ho | exact hW5.s1.o) (by decide) (by decide) (by decide) (Nat.le_of_ble_eq_true rfl) (wL_goalOf (w := w) c18 ?_)
    refine av_callV1 (q := 32) (ci := 5) F hm mS_firstFit_i mS_firstFit_n lL_187 dL_errandAt_29 rfl rfl rfl (by first | exact hW.o | exact hW.ho | exact hW.to | exact hs.o | exact hs.ho | exact hW5.o | exact hW5.ho | exact hW5.s1.o) (by decide) (by decide) (by decide) (Nat.le_of_ble_eq_true rfl) (wS_firstFit (c := psC S) (P := goN S w) rfl (bs25 hc _) hs hSQ (fun v29 k29 m29 r29 f29 s29 e29 => ?_))
    rw [← itS_add] at s29 e29
    have hff := ff_fu hsp e29
    refine aw_iload_2 (q := 33) F dL_errandAt_32 rfl ?_
    refine av_callV2 (q := 36) (ci := 5) F hm mS_stepOnTheWay_i mS_stepOnTheWay_n lL_193 dL_errandAt_33 rfl rfl rfl (by first | exact hW.o | exact hW.ho | exact hW.to | exact hs.o | exact hs.ho | exact hW5.o | exact hW5.ho | exact hW5.s1.o) (by decide) (by decide) (by decide) (Nat.le_of_ble_eq_true rfl) (wS_stepOnTheWay (c := psC S) hs s29.1 (itS_ok (t0_ok hsp) _).2.2 (fun v33 i33 k33 qa33 qb33 r33 x33 l33 y33 d33 p33 a33 ga33 gb33 rs33 => ?_) (fun n33 => ?_))
    · first
      | (obtain ⟨q1, q2, -⟩ := WN.on c18 hM h12 (V' := v33) (fun b b1 b2 b3 => (p33.1 b (by omega) (by omega) (by omega)).trans (f29 b b1 b2 b3)) (s29.put hs p33 a33)
         refine fin _ _ _ _ _ q1 ((h.fr.tr f18).tr q2) ?_
         rcases hff with ⟨e1, e2⟩ | ⟨i', e1, e2, e3⟩
         · rw [e1] at x33; omega
         · rw [e1] at x33
           have : i' = i33 := Int.ofNat.inj x33
           subst this
           rw [y33, stF_some hsp e2 e3 d33 ga33 gb33]
           exact rs33.eq.symm)
      | (obtain ⟨q1, q2, -⟩ := WN.on c18 hM h12 f29 s29
         refine fin _ _ _ _ _ q1 ((h.fr.tr f18).tr q2) ?_
         rcases hff with ⟨e1, e2⟩ | ⟨i', e1, e2, e3⟩
         · unfold stF; rw [e2]
         · exact stF_out hsp e2 e3 (fun k' hk' => n33 i' k' e1 hk' e3))
    · first
      | (obtain ⟨q1, q2, -⟩ := WN.on c18 hM h12 (V' := v33) (fun b b1 b2 b3 => (p33.1 b (by omega) (by omega) (by omega)).trans (f29 b b1 b2 b3)) (s29.put hs p33 a33)
         refine fin _ _ _ _ _ q1 ((h.fr.tr f18).tr q2) ?_
         rcases hff with ⟨e1, e2⟩ | ⟨i', e1, e2, e3⟩
         · rw [e1] at x33; omega
         · rw [e1] at x33
           have : i' = i33 := Int.ofNat.inj x33
           subst this
           rw [y33, stF_some hsp e2 e3 d33 ga33 gb33]
           exact rs33.eq.symm)
      | (obtain ⟨q1, q2, -⟩ := WN.on c18 hM h12 f29 s29
         refine fin _ _ _ _ _ q1 ((h.fr.tr f18).tr q2) ?_
         rcases hff with ⟨e1, e2⟩ | ⟨i', e1, e2, e3⟩
         · unfold stF; rw [e2]
         · exact stF_out hsp e2 e3 (fun k' hk' => n33 i' k' e1 hk' e3))
  refine aw_aload_0 (q := 1) F dL_errandAt_0 rfl ?_
  refine aw_aload_0 (q := 2) F dL_errandAt_1 rfl ?_
  refine av_callV0 (q := 5) (ci := 7) F hm mL_hasLane_i mL_hasLane_n lL_154 dL_errandAt_2 rfl rfl rfl (by first | exact hW.o | exact hW.ho | exact hW.to | exact hs.o | exact hs.ho | exact hW5.o | exact hW5.ho | exact hW5.s1.o) (by decide) (by decide) (by decide) (Nat.le_of_ble_eq_true rfl) (wL_hasLane hW (fun c2 => ?_) (fun c2 => ?_))
  · refine aw_iload_1 (q := 6) F dL_errandAt_5 rfl ?_
    refine av_callS1 (q := 9) F hm mL_isErrand_i mL_isErrand_n lL_177 dL_errandAt_6 rfl (by decide) (by decide) (by decide) (Nat.le_of_ble_eq_true rfl) (wL_isErrand (fun c6 => ?_) (fun c6 => ?_))
    · refine av_callV2 (q := 12) (ci := 7) F hm mL_passes_i mL_passes_n lL_114 dL_errandAt_9 rfl rfl rfl (by first | exact hW.o | exact hW.ho | exact hW.to | exact hs.o | exact hs.ho | exact hW5.o | exact hW5.ho | exact hW5.s1.o) (by decide) (by decide) (by decide) (Nat.le_of_ble_eq_true rfl) (wL_passes hW (fun c9 d9 => ?_) (fun c9 => ?_) (fun c9 d9 => ?_))
      · refine aw_if_ne (q := 15) (t := 17) F dL_errandAt_12 rfl (by decide) (fun c12 => ?_) (fun c12 => absurd c12 (by decide))
        first | (exfalso; omega) | exact go (by omega) (by omega)
      · refine aw_if_ne (q := 15) (t := 17) F dL_errandAt_12 rfl (by decide) (fun c12 => absurd c12 (by decide)) (fun c12 => ?_)
        refine aw_iconst (q := 16) F dL_errandAt_15 rfl (by decide) ?_
        refine aw_iret F C dL_errandAt_16 rfl (by decide) (by decide) ?_
        first | (exfalso; omega) | exact h.now (by decide) (r1 (by omega)) | exact h.now (by decide) (r2 (by omega) (by omega))
      · refine aw_if_ne (q := 15) (t := 17) F dL_errandAt_12 rfl (by decide) (fun c12 => absurd c12 (by decide)) (fun c12 => ?_)
        refine aw_iconst (q := 16) F dL_errandAt_15 rfl (by decide) ?_
        refine aw_iret F C dL_errandAt_16 rfl (by decide) (by decide) ?_
        first | (exfalso; omega) | exact h.now (by decide) (r1 (by omega)) | exact h.now (by decide) (r2 (by omega) (by omega))
    · refine av_callV2 (q := 12) (ci := 7) F hm mL_passes_i mL_passes_n lL_114 dL_errandAt_9 rfl rfl rfl (by first | exact hW.o | exact hW.ho | exact hW.to | exact hs.o | exact hs.ho | exact hW5.o | exact hW5.ho | exact hW5.s1.o) (by decide) (by decide) (by decide) (Nat.le_of_ble_eq_true rfl) (wL_passes hW (fun c9 d9 => ?_) (fun c9 => ?_) (fun c9 d9 => ?_))
      · refine aw_if_ne (q := 15) (t := 17) F dL_errandAt_12 rfl (by decide) (fun c12 => ?_) (fun c12 => absurd c12 (by decide))
        first | (exfalso; omega) | exact go (by omega) (by omega)
      · refine aw_if_ne (q := 15) (t := 17) F dL_errandAt_12 rfl (by decide) (fun c12 => absurd c12 (by decide)) (fun c12 => ?_)
        refine aw_iconst (q := 16) F dL_errandAt_15 rfl (by decide) ?_
        refine aw_iret F C dL_errandAt_16 rfl (by decide) (by decide) ?_
        first | (exfalso; omega) | exact h.now (by decide) (r1 (by omega)) | exact h.now (by decide) (r2 (by omega) (by omega))
      · refine aw_if_ne (q := 15) (t := 17) F dL_errandAt_12 rfl (by decide) (fun c12 => absurd c12 (by decide)) (fun c12 => ?_)
        refine aw_iconst (q := 16) F dL_errandAt_15 rfl (by decide) ?_
        refine aw_iret F C dL_errandAt_16 rfl (by decide) (by decide) ?_
        first | (exfalso; omega) | exact h.now (by decide) (r1 (by omega)) | exact h.now (by decide) (r2 (by omega) (by omega))
  · refine aw_iload_1 (q := 6) F dL_errandAt_5 rfl ?_
    refine av_callS1 (q := 9) F hm mL_isErrand_i mL_isErrand_n lL_177 dL_errandAt_6 rfl (by decide) (by decide) (by decide) (Nat.le_of_ble_eq_true rfl) (wL_isErrand (fun c6 => ?_) (fun c6 => ?_))
    · refine av_callV2 (q := 12) (ci := 7) F hm mL_passes_i mL_passes_n lL_114 dL_errandAt_9 rfl rfl rfl (by first | exact hW.o | exact hW.ho | exact hW.to | exact hs.o | exact hs.ho | exact hW5.o | exact hW5.ho | exact hW5.s1.o) (by decide) (by decide) (by decide) (Nat.le_of_ble_eq_true rfl) (wL_passes hW (fun c9 d9 => ?_) (fun c9 => ?_) (fun c9 d9 => ?_))
      · refine aw_if_ne (q := 15) (t := 17) F dL_errandAt_12 rfl (by decide) (fun c12 => ?_) (fun c12 => absurd c12 (by decide))
        first | (exfalso; omega) | exact go (by omega) (by omega)
      · refine aw_if_ne (q := 15) (t := 17) F dL_errandAt_12 rfl (by decide) (fun c12 => absurd c12 (by decide)) (fun c12 => ?_)
        refine aw_iconst (q := 16) F dL_errandAt_15 rfl (by decide) ?_
        refine aw_iret F C dL_errandAt_16 rfl (by decide) (by decide) ?_
        first | (exfalso; omega) | exact h.now (by decide) (r1 (by omega)) | exact h.now (by decide) (r2 (by omega) (by omega))
      · refine aw_if_ne (q := 15) (t := 17) F dL_errandAt_12 rfl (by decide) (fun c12 => absurd c12 (by decide)) (fun c12 => ?_)
        refine aw_iconst (q := 16) F dL_errandAt_15 rfl (by decide) ?_
        refine aw_iret F C dL_errandAt_16 rfl (by decide) (by decide) ?_
        first | (exfalso; omega) | exact h.now (by decide) (r1 (by omega)) | exact h.now (by decide) (r2 (by omega) (by omega))
    · refine av_callV2 (q := 12) (ci := 7) F hm mL_passes_i mL_passes_n lL_114 dL_errandAt_9 rfl rfl rfl (by first | exact hW.o | exact hW.ho | exact hW.to | exact hs.o | exact hs.ho | exact hW5.o | exact hW5.ho | exact hW5.s1.o) (by decide) (by decide) (by decide) (Nat.le_of_ble_eq_true rfl) (wL_passes hW (fun c9 d9 => ?_) (fun c9 => ?_) (fun c9 d9 => ?_))
      · refine aw_if_ne (q := 15) (t := 17) F dL_errandAt_12 rfl (by decide) (fun c12 => ?_) (fun c12 => absurd c12 (by decide))
        first | (exfalso; omega) | exact go (by omega) (by omega)
      · refine aw_if_ne (q := 15) (t := 17) F dL_errandAt_12 rfl (by decide) (fun c12 => absurd c12 (by decide)) (fun c12 => ?_)
        refine aw_iconst (q := 16) F dL_errandAt_15 rfl (by decide) ?_
        refine aw_iret F C dL_errandAt_16 rfl (by decide) (by decide) ?_
        first | (exfalso; omega) | exact h.now (by decide) (r1 (by omega)) | exact h.now (by decide) (r2 (by omega) (by omega))
      · refine aw_if_ne (q := 15) (t := 17) F dL_errandAt_12 rfl (by decide) (fun c12 => absurd c12 (by decide)) (fun c12 => ?_)
        refine aw_iconst (q := 16) F dL_errandAt_15 rfl (by decide) ?_
        refine aw_iret F C dL_errandAt_16 rfl (by decide) (by decide) ?_
        first | (exfalso; omega) | exact h.now (by decide) (r1 (by omega)) | exact h.now (by decide) (r2 (by omega) (by omega))
end Errat
