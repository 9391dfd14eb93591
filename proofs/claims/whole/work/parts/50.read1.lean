theorem dE_readNewName_0 : decode mE_readNewName.2.1 0 = .ok (.aload_n 0, 1) := by decide +kernel
theorem dE_readNewName_1 : decode mE_readNewName.2.1 1 = .ok (.invokevirtual 145, 3) := by decide +kernel
theorem dE_readNewName_4 : decode mE_readNewName.2.1 4 = .ok (.ifCond .ne 9, 3) := by decide +kernel
theorem dE_readNewName_7 : decode mE_readNewName.2.1 7 = .ok (.aload_n 0, 1) := by decide +kernel
theorem dE_readNewName_8 : decode mE_readNewName.2.1 8 = .ok (.iconst 1, 1) := by decide +kernel
theorem dE_readNewName_9 : decode mE_readNewName.2.1 9 = .ok (.invokevirtual 49, 3) := by decide +kernel
theorem dE_readNewName_12 : decode mE_readNewName.2.1 12 = .ok (.ireturn, 1) := by decide +kernel
theorem dE_readNewName_13 : decode mE_readNewName.2.1 13 = .ok (.aload_n 0, 1) := by decide +kernel
theorem dE_readNewName_14 : decode mE_readNewName.2.1 14 = .ok (.invokevirtual 148, 3) := by decide +kernel
theorem dE_readNewName_17 : decode mE_readNewName.2.1 17 = .ok (.iconst (-1), 1) := by decide +kernel
theorem dE_readNewName_18 : decode mE_readNewName.2.1 18 = .ok (.if_icmp .eq 9, 3) := by decide +kernel
theorem dE_readNewName_21 : decode mE_readNewName.2.1 21 = .ok (.aload_n 0, 1) := by decide +kernel
theorem dE_readNewName_22 : decode mE_readNewName.2.1 22 = .ok (.iconst 3, 1) := by decide +kernel
theorem dE_readNewName_23 : decode mE_readNewName.2.1 23 = .ok (.invokevirtual 49, 3) := by decide +kernel
theorem dE_readNewName_26 : decode mE_readNewName.2.1 26 = .ok (.ireturn, 1) := by decide +kernel
theorem dE_readNewName_27 : decode mE_readNewName.2.1 27 = .ok (.iload_n 1, 1) := by decide +kernel
theorem dE_readNewName_28 : decode mE_readNewName.2.1 28 = .ok (.ifCond .lt 12, 3) := by decide +kernel
theorem dE_readNewName_31 : decode mE_readNewName.2.1 31 = .ok (.iload_n 1, 1) := by decide +kernel
theorem dE_readNewName_32 : decode mE_readNewName.2.1 32 = .ok (.aload_n 0, 1) := by decide +kernel
theorem dE_readNewName_33 : decode mE_readNewName.2.1 33 = .ok (.getfield 18, 3) := by decide +kernel
theorem dE_readNewName_36 : decode mE_readNewName.2.1 36 = .ok (.arraylength, 1) := by decide +kernel
theorem dE_readNewName_37 : decode mE_readNewName.2.1 37 = .ok (.if_icmp .lt 9, 3) := by decide +kernel
theorem dE_readNewName_40 : decode mE_readNewName.2.1 40 = .ok (.aload_n 0, 1) := by decide +kernel
theorem dE_readNewName_41 : decode mE_readNewName.2.1 41 = .ok (.iconst 5, 1) := by decide +kernel
theorem dE_readNewName_42 : decode mE_readNewName.2.1 42 = .ok (.invokevirtual 49, 3) := by decide +kernel
theorem dE_readNewName_45 : decode mE_readNewName.2.1 45 = .ok (.ireturn, 1) := by decide +kernel
theorem dE_readNewName_46 : decode mE_readNewName.2.1 46 = .ok (.aload_n 0, 1) := by decide +kernel
theorem dE_readNewName_47 : decode mE_readNewName.2.1 47 = .ok (.getfield 18, 3) := by decide +kernel
theorem dE_readNewName_50 : decode mE_readNewName.2.1 50 = .ok (.iload_n 1, 1) := by decide +kernel
theorem dE_readNewName_51 : decode mE_readNewName.2.1 51 = .ok (.aload_n 0, 1) := by decide +kernel
theorem dE_readNewName_52 : decode mE_readNewName.2.1 52 = .ok (.getfield 151, 3) := by decide +kernel
theorem dE_readNewName_55 : decode mE_readNewName.2.1 55 = .ok (.lastore, 1) := by decide +kernel
theorem dE_readNewName_56 : decode mE_readNewName.2.1 56 = .ok (.iconst 1, 1) := by decide +kernel
theorem dE_readNewName_57 : decode mE_readNewName.2.1 57 = .ok (.ireturn, 1) := by decide +kernel
theorem dE_doorHere_0 : decode mE_doorHere.2.1 0 = .ok (.aload_n 0, 1) := by decide +kernel
theorem dE_doorHere_1 : decode mE_doorHere.2.1 1 = .ok (.invokevirtual 145, 3) := by decide +kernel
theorem dE_doorHere_4 : decode mE_doorHere.2.1 4 = .ok (.ifCond .eq 10, 3) := by decide +kernel
theorem dE_doorHere_7 : decode mE_doorHere.2.1 7 = .ok (.aload_n 0, 1) := by decide +kernel
theorem dE_doorHere_8 : decode mE_doorHere.2.1 8 = .ok (.invokevirtual 148, 3) := by decide +kernel
theorem dE_doorHere_11 : decode mE_doorHere.2.1 11 = .ok (.goto 4, 3) := by decide +kernel
theorem dE_doorHere_14 : decode mE_doorHere.2.1 14 = .ok (.iconst (-1), 1) := by decide +kernel
theorem dE_doorHere_15 : decode mE_doorHere.2.1 15 = .ok (.istore_n 1, 1) := by decide +kernel
theorem dE_doorHere_16 : decode mE_doorHere.2.1 16 = .ok (.iload_n 1, 1) := by decide +kernel
theorem dE_doorHere_17 : decode mE_doorHere.2.1 17 = .ok (.ifCond .lt 10, 3) := by decide +kernel
theorem dE_doorHere_20 : decode mE_doorHere.2.1 20 = .ok (.iload_n 1, 1) := by decide +kernel
theorem dE_doorHere_21 : decode mE_doorHere.2.1 21 = .ok (.iconst 4, 1) := by decide +kernel
theorem dE_doorHere_22 : decode mE_doorHere.2.1 22 = .ok (.if_icmp .ge 5, 3) := by decide +kernel
theorem dE_doorHere_25 : decode mE_doorHere.2.1 25 = .ok (.iload_n 1, 1) := by decide +kernel
theorem dE_doorHere_26 : decode mE_doorHere.2.1 26 = .ok (.ireturn, 1) := by decide +kernel
theorem dE_doorHere_27 : decode mE_doorHere.2.1 27 = .ok (.aload_n 0, 1) := by decide +kernel
theorem dE_doorHere_28 : decode mE_doorHere.2.1 28 = .ok (.aload_n 0, 1) := by decide +kernel
theorem dE_doorHere_29 : decode mE_doorHere.2.1 29 = .ok (.invokevirtual 145, 3) := by decide +kernel
theorem dE_doorHere_32 : decode mE_doorHere.2.1 32 = .ok (.ifCond .eq 7, 3) := by decide +kernel
theorem dE_doorHere_35 : decode mE_doorHere.2.1 35 = .ok (.iconst 2, 1) := by decide +kernel
theorem dE_doorHere_36 : decode mE_doorHere.2.1 36 = .ok (.goto 4, 3) := by decide +kernel
theorem dE_doorHere_39 : decode mE_doorHere.2.1 39 = .ok (.iconst 1, 1) := by decide +kernel
theorem dE_doorHere_40 : decode mE_doorHere.2.1 40 = .ok (.invokevirtual 49, 3) := by decide +kernel
theorem dE_doorHere_43 : decode mE_doorHere.2.1 43 = .ok (.pop, 1) := by decide +kernel
theorem dE_doorHere_44 : decode mE_doorHere.2.1 44 = .ok (.iconst (-1), 1) := by decide +kernel
theorem dE_doorHere_45 : decode mE_doorHere.2.1 45 = .ok (.ireturn, 1) := by decide +kernel
theorem dE_personHere_0 : decode mE_personHere.2.1 0 = .ok (.aload_n 0, 1) := by decide +kernel
theorem dE_personHere_1 : decode mE_personHere.2.1 1 = .ok (.invokevirtual 145, 3) := by decide +kernel
theorem dE_personHere_4 : decode mE_personHere.2.1 4 = .ok (.ifCond .eq 10, 3) := by decide +kernel
theorem dE_personHere_7 : decode mE_personHere.2.1 7 = .ok (.aload_n 0, 1) := by decide +kernel
theorem dE_personHere_8 : decode mE_personHere.2.1 8 = .ok (.invokevirtual 148, 3) := by decide +kernel
theorem dE_personHere_11 : decode mE_personHere.2.1 11 = .ok (.goto 4, 3) := by decide +kernel
theorem dE_personHere_14 : decode mE_personHere.2.1 14 = .ok (.iconst (-1), 1) := by decide +kernel
theorem dE_personHere_15 : decode mE_personHere.2.1 15 = .ok (.istore_n 1, 1) := by decide +kernel
theorem dE_personHere_16 : decode mE_personHere.2.1 16 = .ok (.iload_n 1, 1) := by decide +kernel
theorem dE_personHere_17 : decode mE_personHere.2.1 17 = .ok (.iconst 4, 1) := by decide +kernel
theorem dE_personHere_18 : decode mE_personHere.2.1 18 = .ok (.if_icmp .lt 13, 3) := by decide +kernel
theorem dE_personHere_21 : decode mE_personHere.2.1 21 = .ok (.iload_n 1, 1) := by decide +kernel
theorem dE_personHere_22 : decode mE_personHere.2.1 22 = .ok (.bipush 6, 2) := by decide +kernel
theorem dE_personHere_24 : decode mE_personHere.2.1 24 = .ok (.if_icmp .ge 7, 3) := by decide +kernel
theorem dE_personHere_27 : decode mE_personHere.2.1 27 = .ok (.iload_n 1, 1) := by decide +kernel
theorem dE_personHere_28 : decode mE_personHere.2.1 28 = .ok (.iconst 4, 1) := by decide +kernel
theorem dE_personHere_29 : decode mE_personHere.2.1 29 = .ok (.isub, 1) := by decide +kernel
theorem dE_personHere_30 : decode mE_personHere.2.1 30 = .ok (.ireturn, 1) := by decide +kernel
theorem dE_personHere_31 : decode mE_personHere.2.1 31 = .ok (.aload_n 0, 1) := by decide +kernel
theorem dE_personHere_32 : decode mE_personHere.2.1 32 = .ok (.aload_n 0, 1) := by decide +kernel
theorem dE_personHere_33 : decode mE_personHere.2.1 33 = .ok (.invokevirtual 145, 3) := by decide +kernel
theorem dE_personHere_36 : decode mE_personHere.2.1 36 = .ok (.ifCond .eq 7, 3) := by decide +kernel
theorem dE_personHere_39 : decode mE_personHere.2.1 39 = .ok (.iconst 2, 1) := by decide +kernel
theorem dE_personHere_40 : decode mE_personHere.2.1 40 = .ok (.goto 4, 3) := by decide +kernel
theorem dE_personHere_43 : decode mE_personHere.2.1 43 = .ok (.iconst 1, 1) := by decide +kernel
theorem dE_personHere_44 : decode mE_personHere.2.1 44 = .ok (.invokevirtual 49, 3) := by decide +kernel
theorem dE_personHere_47 : decode mE_personHere.2.1 47 = .ok (.pop, 1) := by decide +kernel
theorem dE_personHere_48 : decode mE_personHere.2.1 48 = .ok (.iconst (-1), 1) := by decide +kernel
theorem dE_personHere_49 : decode mE_personHere.2.1 49 = .ok (.ireturn, 1) := by decide +kernel
theorem dE_readLane_0 : decode mE_readLane.2.1 0 = .ok (.aload_n 0, 1) := by decide +kernel
theorem dE_readLane_1 : decode mE_readLane.2.1 1 = .ok (.getfield 59, 3) := by decide +kernel
theorem dE_readLane_4 : decode mE_readLane.2.1 4 = .ok (.ifCond .eq 9, 3) := by decide +kernel
theorem dE_readLane_7 : decode mE_readLane.2.1 7 = .ok (.aload_n 0, 1) := by decide +kernel
theorem dE_readLane_8 : decode mE_readLane.2.1 8 = .ok (.iconst 3, 1) := by decide +kernel
theorem dE_readLane_9 : decode mE_readLane.2.1 9 = .ok (.invokevirtual 49, 3) := by decide +kernel
theorem dE_readLane_12 : decode mE_readLane.2.1 12 = .ok (.ireturn, 1) := by decide +kernel
theorem dE_readLane_13 : decode mE_readLane.2.1 13 = .ok (.aload_n 0, 1) := by decide +kernel
theorem dE_readLane_14 : decode mE_readLane.2.1 14 = .ok (.invokevirtual 36, 3) := by decide +kernel
theorem dE_readLane_17 : decode mE_readLane.2.1 17 = .ok (.pop, 1) := by decide +kernel
theorem dE_readLane_18 : decode mE_readLane.2.1 18 = .ok (.aload_n 0, 1) := by decide +kernel
theorem dE_readLane_19 : decode mE_readLane.2.1 19 = .ok (.ldc 101, 2) := by decide +kernel
theorem dE_readLane_21 : decode mE_readLane.2.1 21 = .ok (.invokevirtual 55, 3) := by decide +kernel
theorem dE_readLane_24 : decode mE_readLane.2.1 24 = .ok (.iconst (-1), 1) := by decide +kernel
theorem dE_readLane_25 : decode mE_readLane.2.1 25 = .ok (.if_icmp .ne 9, 3) := by decide +kernel
theorem dE_readLane_28 : decode mE_readLane.2.1 28 = .ok (.aload_n 0, 1) := by decide +kernel
theorem dE_readLane_29 : decode mE_readLane.2.1 29 = .ok (.iconst 1, 1) := by decide +kernel
theorem dE_readLane_30 : decode mE_readLane.2.1 30 = .ok (.invokevirtual 49, 3) := by decide +kernel
theorem dE_readLane_33 : decode mE_readLane.2.1 33 = .ok (.ireturn, 1) := by decide +kernel
theorem dE_readLane_34 : decode mE_readLane.2.1 34 = .ok (.aload_n 0, 1) := by decide +kernel
theorem dE_readLane_35 : decode mE_readLane.2.1 35 = .ok (.invokevirtual 36, 3) := by decide +kernel
theorem dE_readLane_38 : decode mE_readLane.2.1 38 = .ok (.pop, 1) := by decide +kernel
theorem dE_readLane_39 : decode mE_readLane.2.1 39 = .ok (.aload_n 0, 1) := by decide +kernel
theorem dE_readLane_40 : decode mE_readLane.2.1 40 = .ok (.getfield 43, 3) := by decide +kernel
theorem dE_readLane_43 : decode mE_readLane.2.1 43 = .ok (.iconst 2, 1) := by decide +kernel
theorem dE_readLane_44 : decode mE_readLane.2.1 44 = .ok (.if_icmp .eq 9, 3) := by decide +kernel
theorem dE_readLane_47 : decode mE_readLane.2.1 47 = .ok (.aload_n 0, 1) := by decide +kernel
theorem dE_readLane_48 : decode mE_readLane.2.1 48 = .ok (.iconst 1, 1) := by decide +kernel
theorem dE_readLane_49 : decode mE_readLane.2.1 49 = .ok (.invokevirtual 49, 3) := by decide +kernel
theorem dE_readLane_52 : decode mE_readLane.2.1 52 = .ok (.ireturn, 1) := by decide +kernel
theorem dE_readLane_53 : decode mE_readLane.2.1 53 = .ok (.aload_n 0, 1) := by decide +kernel
theorem dE_readLane_54 : decode mE_readLane.2.1 54 = .ok (.getfield 103, 3) := by decide +kernel
theorem dE_readLane_57 : decode mE_readLane.2.1 57 = .ok (.bipush 100, 2) := by decide +kernel
theorem dE_readLane_59 : decode mE_readLane.2.1 59 = .ok (.if_icmp .le 9, 3) := by decide +kernel
theorem dE_readLane_62 : decode mE_readLane.2.1 62 = .ok (.aload_n 0, 1) := by decide +kernel
theorem dE_readLane_63 : decode mE_readLane.2.1 63 = .ok (.iconst 4, 1) := by decide +kernel
theorem dE_readLane_64 : decode mE_readLane.2.1 64 = .ok (.invokevirtual 49, 3) := by decide +kernel
theorem dE_readLane_67 : decode mE_readLane.2.1 67 = .ok (.ireturn, 1) := by decide +kernel
theorem dE_readLane_68 : decode mE_readLane.2.1 68 = .ok (.aload_n 0, 1) := by decide +kernel
theorem dE_readLane_69 : decode mE_readLane.2.1 69 = .ok (.getfield 12, 3) := by decide +kernel
theorem dE_readLane_72 : decode mE_readLane.2.1 72 = .ok (.aload_n 0, 1) := by decide +kernel
theorem dE_readLane_73 : decode mE_readLane.2.1 73 = .ok (.getfield 103, 3) := by decide +kernel
theorem dE_readLane_76 : decode mE_readLane.2.1 76 = .ok (.putfield 106, 3) := by decide +kernel
theorem dE_readLane_79 : decode mE_readLane.2.1 79 = .ok (.aload_n 0, 1) := by decide +kernel
theorem dE_readLane_80 : decode mE_readLane.2.1 80 = .ok (.iconst 1, 1) := by decide +kernel
theorem dE_readLane_81 : decode mE_readLane.2.1 81 = .ok (.putfield 59, 3) := by decide +kernel
theorem dE_readLane_84 : decode mE_readLane.2.1 84 = .ok (.aload_n 0, 1) := by decide +kernel
theorem dE_readLane_85 : decode mE_readLane.2.1 85 = .ok (.invokevirtual 36, 3) := by decide +kernel
theorem dE_readLane_88 : decode mE_readLane.2.1 88 = .ok (.ireturn, 1) := by decide +kernel
theorem dE_readDoor_0 : decode mE_readDoor.2.1 0 = .ok (.aload_n 0, 1) := by decide +kernel
theorem dE_readDoor_1 : decode mE_readDoor.2.1 1 = .ok (.getfield 12, 3) := by decide +kernel
theorem dE_readDoor_4 : decode mE_readDoor.2.1 4 = .ok (.getfield 46, 3) := by decide +kernel
theorem dE_readDoor_7 : decode mE_readDoor.2.1 7 = .ok (.iconst 4, 1) := by decide +kernel
theorem dE_readDoor_8 : decode mE_readDoor.2.1 8 = .ok (.if_icmp .lt 9, 3) := by decide +kernel
theorem dE_readDoor_11 : decode mE_readDoor.2.1 11 = .ok (.aload_n 0, 1) := by decide +kernel
theorem dE_readDoor_12 : decode mE_readDoor.2.1 12 = .ok (.iconst 5, 1) := by decide +kernel
theorem dE_readDoor_13 : decode mE_readDoor.2.1 13 = .ok (.invokevirtual 49, 3) := by decide +kernel
theorem dE_readDoor_16 : decode mE_readDoor.2.1 16 = .ok (.ireturn, 1) := by decide +kernel
theorem dE_readDoor_17 : decode mE_readDoor.2.1 17 = .ok (.aload_n 0, 1) := by decide +kernel
theorem dE_readDoor_18 : decode mE_readDoor.2.1 18 = .ok (.invokevirtual 36, 3) := by decide +kernel
theorem dE_readDoor_21 : decode mE_readDoor.2.1 21 = .ok (.pop, 1) := by decide +kernel
theorem dE_readDoor_22 : decode mE_readDoor.2.1 22 = .ok (.aload_n 0, 1) := by decide +kernel
theorem dE_readDoor_23 : decode mE_readDoor.2.1 23 = .ok (.aload_n 0, 1) := by decide +kernel
theorem dE_readDoor_24 : decode mE_readDoor.2.1 24 = .ok (.getfield 12, 3) := by decide +kernel
theorem dE_readDoor_27 : decode mE_readDoor.2.1 27 = .ok (.getfield 46, 3) := by decide +kernel
theorem dE_readDoor_30 : decode mE_readDoor.2.1 30 = .ok (.invokevirtual 109, 3) := by decide +kernel
theorem dE_readDoor_33 : decode mE_readDoor.2.1 33 = .ok (.ifCond .ne 5, 3) := by decide +kernel
theorem dE_readDoor_36 : decode mE_readDoor.2.1 36 = .ok (.iconst 0, 1) := by decide +kernel
theorem dE_readDoor_37 : decode mE_readDoor.2.1 37 = .ok (.ireturn, 1) := by decide +kernel
theorem dE_readDoor_38 : decode mE_readDoor.2.1 38 = .ok (.aload_n 0, 1) := by decide +kernel
theorem dE_readDoor_39 : decode mE_readDoor.2.1 39 = .ok (.invokevirtual 36, 3) := by decide +kernel
theorem dE_readDoor_42 : decode mE_readDoor.2.1 42 = .ok (.pop, 1) := by decide +kernel
theorem dE_readDoor_43 : decode mE_readDoor.2.1 43 = .ok (.aload_n 0, 1) := by decide +kernel
theorem dE_readDoor_44 : decode mE_readDoor.2.1 44 = .ok (.ldc 112, 2) := by decide +kernel
theorem dE_readDoor_46 : decode mE_readDoor.2.1 46 = .ok (.invokevirtual 55, 3) := by decide +kernel
theorem dE_readDoor_49 : decode mE_readDoor.2.1 49 = .ok (.istore_n 1, 1) := by decide +kernel
theorem dE_readDoor_50 : decode mE_readDoor.2.1 50 = .ok (.iload_n 1, 1) := by decide +kernel
theorem dE_readDoor_51 : decode mE_readDoor.2.1 51 = .ok (.iconst (-1), 1) := by decide +kernel
theorem dE_readDoor_52 : decode mE_readDoor.2.1 52 = .ok (.if_icmp .ne 9, 3) := by decide +kernel
theorem dE_readDoor_55 : decode mE_readDoor.2.1 55 = .ok (.aload_n 0, 1) := by decide +kernel
theorem dE_readDoor_56 : decode mE_readDoor.2.1 56 = .ok (.iconst 1, 1) := by decide +kernel
theorem dE_readDoor_57 : decode mE_readDoor.2.1 57 = .ok (.invokevirtual 49, 3) := by decide +kernel
theorem dE_readDoor_60 : decode mE_readDoor.2.1 60 = .ok (.ireturn, 1) := by decide +kernel
theorem dE_readDoor_61 : decode mE_readDoor.2.1 61 = .ok (.aload_n 0, 1) := by decide +kernel
theorem dE_readDoor_62 : decode mE_readDoor.2.1 62 = .ok (.getfield 12, 3) := by decide +kernel
theorem dE_readDoor_65 : decode mE_readDoor.2.1 65 = .ok (.getfield 114, 3) := by decide +kernel
theorem dE_readDoor_68 : decode mE_readDoor.2.1 68 = .ok (.aload_n 0, 1) := by decide +kernel
theorem dE_readDoor_69 : decode mE_readDoor.2.1 69 = .ok (.getfield 12, 3) := by decide +kernel
theorem dE_readDoor_72 : decode mE_readDoor.2.1 72 = .ok (.getfield 46, 3) := by decide +kernel
theorem dE_readDoor_75 : decode mE_readDoor.2.1 75 = .ok (.iload_n 1, 1) := by decide +kernel
theorem dE_readDoor_76 : decode mE_readDoor.2.1 76 = .ok (.iastore, 1) := by decide +kernel
theorem dE_readDoor_77 : decode mE_readDoor.2.1 77 = .ok (.aload_n 0, 1) := by decide +kernel
theorem dE_readDoor_78 : decode mE_readDoor.2.1 78 = .ok (.getfield 12, 3) := by decide +kernel
theorem dE_readDoor_81 : decode mE_readDoor.2.1 81 = .ok (.dup, 1) := by decide +kernel
theorem dE_readDoor_82 : decode mE_readDoor.2.1 82 = .ok (.getfield 46, 3) := by decide +kernel
theorem dE_readDoor_85 : decode mE_readDoor.2.1 85 = .ok (.iconst 1, 1) := by decide +kernel
theorem dE_readDoor_86 : decode mE_readDoor.2.1 86 = .ok (.iadd, 1) := by decide +kernel
theorem dE_readDoor_87 : decode mE_readDoor.2.1 87 = .ok (.putfield 46, 3) := by decide +kernel
theorem dE_readDoor_90 : decode mE_readDoor.2.1 90 = .ok (.aload_n 0, 1) := by decide +kernel
theorem dE_readDoor_91 : decode mE_readDoor.2.1 91 = .ok (.invokevirtual 36, 3) := by decide +kernel
theorem dE_readDoor_94 : decode mE_readDoor.2.1 94 = .ok (.ireturn, 1) := by decide +kernel
theorem dE_readPerson_0 : decode mE_readPerson.2.1 0 = .ok (.aload_n 0, 1) := by decide +kernel
theorem dE_readPerson_1 : decode mE_readPerson.2.1 1 = .ok (.getfield 12, 3) := by decide +kernel
theorem dE_readPerson_4 : decode mE_readPerson.2.1 4 = .ok (.getfield 117, 3) := by decide +kernel
theorem dE_readPerson_7 : decode mE_readPerson.2.1 7 = .ok (.iconst 2, 1) := by decide +kernel
theorem dE_readPerson_8 : decode mE_readPerson.2.1 8 = .ok (.if_icmp .lt 9, 3) := by decide +kernel
theorem dE_readPerson_11 : decode mE_readPerson.2.1 11 = .ok (.aload_n 0, 1) := by decide +kernel
theorem dE_readPerson_12 : decode mE_readPerson.2.1 12 = .ok (.iconst 5, 1) := by decide +kernel
theorem dE_readPerson_13 : decode mE_readPerson.2.1 13 = .ok (.invokevirtual 49, 3) := by decide +kernel
theorem dE_readPerson_16 : decode mE_readPerson.2.1 16 = .ok (.ireturn, 1) := by decide +kernel
theorem dE_readPerson_17 : decode mE_readPerson.2.1 17 = .ok (.aload_n 0, 1) := by decide +kernel
theorem dE_readPerson_18 : decode mE_readPerson.2.1 18 = .ok (.invokevirtual 36, 3) := by decide +kernel
theorem dE_readPerson_21 : decode mE_readPerson.2.1 21 = .ok (.pop, 1) := by decide +kernel
theorem dE_readPerson_22 : decode mE_readPerson.2.1 22 = .ok (.aload_n 0, 1) := by decide +kernel
theorem dE_readPerson_23 : decode mE_readPerson.2.1 23 = .ok (.iconst 4, 1) := by decide +kernel
theorem dE_readPerson_24 : decode mE_readPerson.2.1 24 = .ok (.aload_n 0, 1) := by decide +kernel
theorem dE_readPerson_25 : decode mE_readPerson.2.1 25 = .ok (.getfield 12, 3) := by decide +kernel
theorem dE_readPerson_28 : decode mE_readPerson.2.1 28 = .ok (.getfield 117, 3) := by decide +kernel
theorem dE_readPerson_31 : decode mE_readPerson.2.1 31 = .ok (.iadd, 1) := by decide +kernel
theorem dE_readPerson_32 : decode mE_readPerson.2.1 32 = .ok (.invokevirtual 109, 3) := by decide +kernel
theorem dE_readPerson_35 : decode mE_readPerson.2.1 35 = .ok (.ifCond .ne 5, 3) := by decide +kernel
theorem dE_readPerson_38 : decode mE_readPerson.2.1 38 = .ok (.iconst 0, 1) := by decide +kernel
theorem dE_readPerson_39 : decode mE_readPerson.2.1 39 = .ok (.ireturn, 1) := by decide +kernel
theorem dE_readPerson_40 : decode mE_readPerson.2.1 40 = .ok (.aload_n 0, 1) := by decide +kernel
theorem dE_readPerson_41 : decode mE_readPerson.2.1 41 = .ok (.getfield 12, 3) := by decide +kernel
theorem dE_readPerson_44 : decode mE_readPerson.2.1 44 = .ok (.dup, 1) := by decide +kernel
theorem dE_readPerson_45 : decode mE_readPerson.2.1 45 = .ok (.getfield 117, 3) := by decide +kernel
theorem dE_readPerson_48 : decode mE_readPerson.2.1 48 = .ok (.iconst 1, 1) := by decide +kernel
theorem dE_readPerson_49 : decode mE_readPerson.2.1 49 = .ok (.iadd, 1) := by decide +kernel
theorem dE_readPerson_50 : decode mE_readPerson.2.1 50 = .ok (.putfield 117, 3) := by decide +kernel
theorem dE_readPerson_53 : decode mE_readPerson.2.1 53 = .ok (.aload_n 0, 1) := by decide +kernel
theorem dE_readPerson_54 : decode mE_readPerson.2.1 54 = .ok (.invokevirtual 36, 3) := by decide +kernel
theorem dE_readPerson_57 : decode mE_readPerson.2.1 57 = .ok (.ireturn, 1) := by decide +kernel
theorem dE_readLocked_0 : decode mE_readLocked.2.1 0 = .ok (.aload_n 0, 1) := by decide +kernel
theorem dE_readLocked_1 : decode mE_readLocked.2.1 1 = .ok (.invokevirtual 36, 3) := by decide +kernel
theorem dE_readLocked_4 : decode mE_readLocked.2.1 4 = .ok (.pop, 1) := by decide +kernel
theorem dE_readLocked_5 : decode mE_readLocked.2.1 5 = .ok (.aload_n 0, 1) := by decide +kernel
theorem dE_readLocked_6 : decode mE_readLocked.2.1 6 = .ok (.invokevirtual 120, 3) := by decide +kernel
theorem dE_readLocked_9 : decode mE_readLocked.2.1 9 = .ok (.istore_n 1, 1) := by decide +kernel
theorem dE_readLocked_10 : decode mE_readLocked.2.1 10 = .ok (.iload_n 1, 1) := by decide +kernel
theorem dE_readLocked_11 : decode mE_readLocked.2.1 11 = .ok (.iconst (-1), 1) := by decide +kernel
theorem dE_readLocked_12 : decode mE_readLocked.2.1 12 = .ok (.if_icmp .ne 5, 3) := by decide +kernel
theorem dE_readLocked_15 : decode mE_readLocked.2.1 15 = .ok (.iconst 0, 1) := by decide +kernel
theorem dE_readLocked_16 : decode mE_readLocked.2.1 16 = .ok (.ireturn, 1) := by decide +kernel
theorem dE_readLocked_17 : decode mE_readLocked.2.1 17 = .ok (.aload_n 0, 1) := by decide +kernel
theorem dE_readLocked_18 : decode mE_readLocked.2.1 18 = .ok (.getfield 12, 3) := by decide +kernel
theorem dE_readLocked_21 : decode mE_readLocked.2.1 21 = .ok (.getfield 124, 3) := by decide +kernel
theorem dE_readLocked_24 : decode mE_readLocked.2.1 24 = .ok (.iload_n 1, 1) := by decide +kernel
theorem dE_readLocked_25 : decode mE_readLocked.2.1 25 = .ok (.ishr, 1) := by decide +kernel
theorem dE_readLocked_26 : decode mE_readLocked.2.1 26 = .ok (.iconst 1, 1) := by decide +kernel
theorem dE_readLocked_27 : decode mE_readLocked.2.1 27 = .ok (.iand, 1) := by decide +kernel
theorem dE_readLocked_28 : decode mE_readLocked.2.1 28 = .ok (.ifCond .eq 9, 3) := by decide +kernel
theorem dE_readLocked_31 : decode mE_readLocked.2.1 31 = .ok (.aload_n 0, 1) := by decide +kernel
theorem dE_readLocked_32 : decode mE_readLocked.2.1 32 = .ok (.iconst 3, 1) := by decide +kernel
theorem dE_readLocked_33 : decode mE_readLocked.2.1 33 = .ok (.invokevirtual 49, 3) := by decide +kernel
theorem dE_readLocked_36 : decode mE_readLocked.2.1 36 = .ok (.ireturn, 1) := by decide +kernel
theorem dE_readLocked_37 : decode mE_readLocked.2.1 37 = .ok (.aload_n 0, 1) := by decide +kernel
theorem dE_readLocked_38 : decode mE_readLocked.2.1 38 = .ok (.getfield 12, 3) := by decide +kernel
theorem dE_readLocked_41 : decode mE_readLocked.2.1 41 = .ok (.dup, 1) := by decide +kernel
theorem dE_readLocked_42 : decode mE_readLocked.2.1 42 = .ok (.getfield 124, 3) := by decide +kernel
theorem dE_readLocked_45 : decode mE_readLocked.2.1 45 = .ok (.iconst 1, 1) := by decide +kernel
theorem dE_readLocked_46 : decode mE_readLocked.2.1 46 = .ok (.iload_n 1, 1) := by decide +kernel
theorem dE_readLocked_47 : decode mE_readLocked.2.1 47 = .ok (.ishl, 1) := by decide +kernel
theorem dE_readLocked_48 : decode mE_readLocked.2.1 48 = .ok (.ior, 1) := by decide +kernel
theorem dE_readLocked_49 : decode mE_readLocked.2.1 49 = .ok (.putfield 124, 3) := by decide +kernel
theorem dE_readLocked_52 : decode mE_readLocked.2.1 52 = .ok (.aload_n 0, 1) := by decide +kernel
theorem dE_readLocked_53 : decode mE_readLocked.2.1 53 = .ok (.invokevirtual 36, 3) := by decide +kernel
theorem dE_readLocked_56 : decode mE_readLocked.2.1 56 = .ok (.ireturn, 1) := by decide +kernel
theorem dE_readLast_0 : decode mE_readLast.2.1 0 = .ok (.aload_n 0, 1) := by decide +kernel
theorem dE_readLast_1 : decode mE_readLast.2.1 1 = .ok (.getfield 127, 3) := by decide +kernel
theorem dE_readLast_4 : decode mE_readLast.2.1 4 = .ok (.ifCond .eq 9, 3) := by decide +kernel
theorem dE_readLast_7 : decode mE_readLast.2.1 7 = .ok (.aload_n 0, 1) := by decide +kernel
theorem dE_readLast_8 : decode mE_readLast.2.1 8 = .ok (.iconst 3, 1) := by decide +kernel
theorem dE_readLast_9 : decode mE_readLast.2.1 9 = .ok (.invokevirtual 49, 3) := by decide +kernel
theorem dE_readLast_12 : decode mE_readLast.2.1 12 = .ok (.ireturn, 1) := by decide +kernel
theorem dE_readLast_13 : decode mE_readLast.2.1 13 = .ok (.aload_n 0, 1) := by decide +kernel
theorem dE_readLast_14 : decode mE_readLast.2.1 14 = .ok (.invokevirtual 36, 3) := by decide +kernel
theorem dE_readLast_17 : decode mE_readLast.2.1 17 = .ok (.pop, 1) := by decide +kernel
theorem dE_readLast_18 : decode mE_readLast.2.1 18 = .ok (.aload_n 0, 1) := by decide +kernel
theorem dE_readLast_19 : decode mE_readLast.2.1 19 = .ok (.invokevirtual 120, 3) := by decide +kernel
theorem dE_readLast_22 : decode mE_readLast.2.1 22 = .ok (.istore_n 1, 1) := by decide +kernel
theorem dE_readLast_23 : decode mE_readLast.2.1 23 = .ok (.iload_n 1, 1) := by decide +kernel
theorem dE_readLast_24 : decode mE_readLast.2.1 24 = .ok (.iconst (-1), 1) := by decide +kernel
theorem dE_readLast_25 : decode mE_readLast.2.1 25 = .ok (.if_icmp .ne 5, 3) := by decide +kernel
theorem dE_readLast_28 : decode mE_readLast.2.1 28 = .ok (.iconst 0, 1) := by decide +kernel
theorem dE_readLast_29 : decode mE_readLast.2.1 29 = .ok (.ireturn, 1) := by decide +kernel
theorem dE_readLast_30 : decode mE_readLast.2.1 30 = .ok (.aload_n 0, 1) := by decide +kernel
theorem dE_readLast_31 : decode mE_readLast.2.1 31 = .ok (.getfield 12, 3) := by decide +kernel
theorem dE_readLast_34 : decode mE_readLast.2.1 34 = .ok (.getfield 130, 3) := by decide +kernel
theorem dE_readLast_37 : decode mE_readLast.2.1 37 = .ok (.iload_n 1, 1) := by decide +kernel
theorem dE_readLast_38 : decode mE_readLast.2.1 38 = .ok (.iaload, 1) := by decide +kernel
theorem dE_readLast_39 : decode mE_readLast.2.1 39 = .ok (.ifCond .eq 10, 3) := by decide +kernel
theorem dE_readLast_42 : decode mE_readLast.2.1 42 = .ok (.aload_n 0, 1) := by decide +kernel
theorem dE_readLast_43 : decode mE_readLast.2.1 43 = .ok (.bipush 7, 2) := by decide +kernel
theorem dE_readLast_45 : decode mE_readLast.2.1 45 = .ok (.invokevirtual 49, 3) := by decide +kernel
theorem dE_readLast_48 : decode mE_readLast.2.1 48 = .ok (.ireturn, 1) := by decide +kernel
theorem dE_readLast_49 : decode mE_readLast.2.1 49 = .ok (.aload_n 0, 1) := by decide +kernel
theorem dE_readLast_50 : decode mE_readLast.2.1 50 = .ok (.getfield 12, 3) := by decide +kernel
theorem dE_readLast_53 : decode mE_readLast.2.1 53 = .ok (.iload_n 1, 1) := by decide +kernel
theorem dE_readLast_54 : decode mE_readLast.2.1 54 = .ok (.putfield 133, 3) := by decide +kernel
theorem dE_readLast_57 : decode mE_readLast.2.1 57 = .ok (.aload_n 0, 1) := by decide +kernel
theorem dE_readLast_58 : decode mE_readLast.2.1 58 = .ok (.iconst 1, 1) := by decide +kernel
theorem dE_readLast_59 : decode mE_readLast.2.1 59 = .ok (.putfield 127, 3) := by decide +kernel
theorem dE_readLast_62 : decode mE_readLast.2.1 62 = .ok (.aload_n 0, 1) := by decide +kernel
theorem dE_readLast_63 : decode mE_readLast.2.1 63 = .ok (.invokevirtual 36, 3) := by decide +kernel
theorem dE_readLast_66 : decode mE_readLast.2.1 66 = .ok (.ireturn, 1) := by decide +kernel
theorem dE_readAjar_0 : decode mE_readAjar.2.1 0 = .ok (.aload_n 0, 1) := by decide +kernel
theorem dE_readAjar_1 : decode mE_readAjar.2.1 1 = .ok (.invokevirtual 36, 3) := by decide +kernel
theorem dE_readAjar_4 : decode mE_readAjar.2.1 4 = .ok (.pop, 1) := by decide +kernel
theorem dE_readAjar_5 : decode mE_readAjar.2.1 5 = .ok (.aload_n 0, 1) := by decide +kernel
theorem dE_readAjar_6 : decode mE_readAjar.2.1 6 = .ok (.invokevirtual 120, 3) := by decide +kernel
theorem dE_readAjar_9 : decode mE_readAjar.2.1 9 = .ok (.istore_n 1, 1) := by decide +kernel
theorem dE_readAjar_10 : decode mE_readAjar.2.1 10 = .ok (.iload_n 1, 1) := by decide +kernel
theorem dE_readAjar_11 : decode mE_readAjar.2.1 11 = .ok (.iconst (-1), 1) := by decide +kernel
theorem dE_readAjar_12 : decode mE_readAjar.2.1 12 = .ok (.if_icmp .ne 5, 3) := by decide +kernel
theorem dE_readAjar_15 : decode mE_readAjar.2.1 15 = .ok (.iconst 0, 1) := by decide +kernel
theorem dE_readAjar_16 : decode mE_readAjar.2.1 16 = .ok (.ireturn, 1) := by decide +kernel
theorem dE_readAjar_17 : decode mE_readAjar.2.1 17 = .ok (.aload_n 0, 1) := by decide +kernel
theorem dE_readAjar_18 : decode mE_readAjar.2.1 18 = .ok (.getfield 12, 3) := by decide +kernel
theorem dE_readAjar_21 : decode mE_readAjar.2.1 21 = .ok (.getfield 130, 3) := by decide +kernel
theorem dE_readAjar_24 : decode mE_readAjar.2.1 24 = .ok (.iload_n 1, 1) := by decide +kernel
theorem dE_readAjar_25 : decode mE_readAjar.2.1 25 = .ok (.iaload, 1) := by decide +kernel
theorem dE_readAjar_26 : decode mE_readAjar.2.1 26 = .ok (.ifCond .eq 9, 3) := by decide +kernel
theorem dE_readAjar_29 : decode mE_readAjar.2.1 29 = .ok (.aload_n 0, 1) := by decide +kernel
theorem dE_readAjar_30 : decode mE_readAjar.2.1 30 = .ok (.iconst 3, 1) := by decide +kernel
theorem dE_readAjar_31 : decode mE_readAjar.2.1 31 = .ok (.invokevirtual 49, 3) := by decide +kernel
theorem dE_readAjar_34 : decode mE_readAjar.2.1 34 = .ok (.ireturn, 1) := by decide +kernel
theorem dE_readAjar_35 : decode mE_readAjar.2.1 35 = .ok (.aload_n 0, 1) := by decide +kernel
theorem dE_readAjar_36 : decode mE_readAjar.2.1 36 = .ok (.getfield 127, 3) := by decide +kernel
theorem dE_readAjar_39 : decode mE_readAjar.2.1 39 = .ok (.ifCond .eq 21, 3) := by decide +kernel
theorem dE_readAjar_42 : decode mE_readAjar.2.1 42 = .ok (.aload_n 0, 1) := by decide +kernel
theorem dE_readAjar_43 : decode mE_readAjar.2.1 43 = .ok (.getfield 12, 3) := by decide +kernel
theorem dE_readAjar_46 : decode mE_readAjar.2.1 46 = .ok (.getfield 133, 3) := by decide +kernel
theorem dE_readAjar_49 : decode mE_readAjar.2.1 49 = .ok (.iload_n 1, 1) := by decide +kernel
theorem dE_readAjar_50 : decode mE_readAjar.2.1 50 = .ok (.if_icmp .ne 10, 3) := by decide +kernel
theorem dE_readAjar_53 : decode mE_readAjar.2.1 53 = .ok (.aload_n 0, 1) := by decide +kernel
theorem dE_readAjar_54 : decode mE_readAjar.2.1 54 = .ok (.bipush 7, 2) := by decide +kernel
theorem dE_readAjar_56 : decode mE_readAjar.2.1 56 = .ok (.invokevirtual 49, 3) := by decide +kernel
theorem dE_readAjar_59 : decode mE_readAjar.2.1 59 = .ok (.ireturn, 1) := by decide +kernel
theorem dE_readAjar_60 : decode mE_readAjar.2.1 60 = .ok (.aload_n 0, 1) := by decide +kernel
theorem dE_readAjar_61 : decode mE_readAjar.2.1 61 = .ok (.invokevirtual 36, 3) := by decide +kernel
theorem dE_readAjar_64 : decode mE_readAjar.2.1 64 = .ok (.pop, 1) := by decide +kernel
theorem dE_readAjar_65 : decode mE_readAjar.2.1 65 = .ok (.aload_n 0, 1) := by decide +kernel
theorem dE_readAjar_66 : decode mE_readAjar.2.1 66 = .ok (.invokevirtual 120, 3) := by decide +kernel
theorem dE_readAjar_69 : decode mE_readAjar.2.1 69 = .ok (.istore_n 2, 1) := by decide +kernel
theorem dE_readAjar_70 : decode mE_readAjar.2.1 70 = .ok (.iload_n 2, 1) := by decide +kernel
theorem dE_readAjar_71 : decode mE_readAjar.2.1 71 = .ok (.iconst (-1), 1) := by decide +kernel
theorem dE_readAjar_72 : decode mE_readAjar.2.1 72 = .ok (.if_icmp .ne 5, 3) := by decide +kernel
theorem dE_readAjar_75 : decode mE_readAjar.2.1 75 = .ok (.iconst 0, 1) := by decide +kernel
theorem dE_readAjar_76 : decode mE_readAjar.2.1 76 = .ok (.ireturn, 1) := by decide +kernel
theorem dE_readAjar_77 : decode mE_readAjar.2.1 77 = .ok (.aload_n 0, 1) := by decide +kernel
theorem dE_readAjar_78 : decode mE_readAjar.2.1 78 = .ok (.getfield 12, 3) := by decide +kernel
theorem dE_readAjar_81 : decode mE_readAjar.2.1 81 = .ok (.getfield 130, 3) := by decide +kernel
theorem dE_readAjar_84 : decode mE_readAjar.2.1 84 = .ok (.iload_n 1, 1) := by decide +kernel
theorem dE_readAjar_85 : decode mE_readAjar.2.1 85 = .ok (.iload_n 2, 1) := by decide +kernel
theorem dE_readAjar_86 : decode mE_readAjar.2.1 86 = .ok (.iconst 1, 1) := by decide +kernel
theorem dE_readAjar_87 : decode mE_readAjar.2.1 87 = .ok (.iadd, 1) := by decide +kernel
theorem dE_readAjar_88 : decode mE_readAjar.2.1 88 = .ok (.iastore, 1) := by decide +kernel
theorem dE_readAjar_89 : decode mE_readAjar.2.1 89 = .ok (.aload_n 0, 1) := by decide +kernel
theorem dE_readAjar_90 : decode mE_readAjar.2.1 90 = .ok (.invokevirtual 36, 3) := by decide +kernel
theorem dE_readAjar_93 : decode mE_readAjar.2.1 93 = .ok (.ireturn, 1) := by decide +kernel
theorem dE_readInside_0 : decode mE_readInside.2.1 0 = .ok (.aload_n 0, 1) := by decide +kernel
theorem dE_readInside_1 : decode mE_readInside.2.1 1 = .ok (.invokevirtual 36, 3) := by decide +kernel
theorem dE_readInside_4 : decode mE_readInside.2.1 4 = .ok (.pop, 1) := by decide +kernel
theorem dE_readInside_5 : decode mE_readInside.2.1 5 = .ok (.aload_n 0, 1) := by decide +kernel
theorem dE_readInside_6 : decode mE_readInside.2.1 6 = .ok (.invokevirtual 136, 3) := by decide +kernel
theorem dE_readInside_9 : decode mE_readInside.2.1 9 = .ok (.istore_n 1, 1) := by decide +kernel
theorem dE_readInside_10 : decode mE_readInside.2.1 10 = .ok (.iload_n 1, 1) := by decide +kernel
theorem dE_readInside_11 : decode mE_readInside.2.1 11 = .ok (.iconst (-1), 1) := by decide +kernel
theorem dE_readInside_12 : decode mE_readInside.2.1 12 = .ok (.if_icmp .ne 5, 3) := by decide +kernel
theorem dE_readInside_15 : decode mE_readInside.2.1 15 = .ok (.iconst 0, 1) := by decide +kernel
theorem dE_readInside_16 : decode mE_readInside.2.1 16 = .ok (.ireturn, 1) := by decide +kernel
theorem dE_readInside_17 : decode mE_readInside.2.1 17 = .ok (.aload_n 0, 1) := by decide +kernel
theorem dE_readInside_18 : decode mE_readInside.2.1 18 = .ok (.getfield 12, 3) := by decide +kernel
theorem dE_readInside_21 : decode mE_readInside.2.1 21 = .ok (.getfield 139, 3) := by decide +kernel
theorem dE_readInside_24 : decode mE_readInside.2.1 24 = .ok (.iload_n 1, 1) := by decide +kernel
theorem dE_readInside_25 : decode mE_readInside.2.1 25 = .ok (.iaload, 1) := by decide +kernel
theorem dE_readInside_26 : decode mE_readInside.2.1 26 = .ok (.ifCond .eq 9, 3) := by decide +kernel
theorem dE_readInside_29 : decode mE_readInside.2.1 29 = .ok (.aload_n 0, 1) := by decide +kernel
theorem dE_readInside_30 : decode mE_readInside.2.1 30 = .ok (.iconst 3, 1) := by decide +kernel
theorem dE_readInside_31 : decode mE_readInside.2.1 31 = .ok (.invokevirtual 49, 3) := by decide +kernel
theorem dE_readInside_34 : decode mE_readInside.2.1 34 = .ok (.ireturn, 1) := by decide +kernel
theorem dE_readInside_35 : decode mE_readInside.2.1 35 = .ok (.aload_n 0, 1) := by decide +kernel
theorem dE_readInside_36 : decode mE_readInside.2.1 36 = .ok (.invokevirtual 36, 3) := by decide +kernel
theorem dE_readInside_39 : decode mE_readInside.2.1 39 = .ok (.pop, 1) := by decide +kernel
theorem dE_readInside_40 : decode mE_readInside.2.1 40 = .ok (.aload_n 0, 1) := by decide +kernel
theorem dE_readInside_41 : decode mE_readInside.2.1 41 = .ok (.invokevirtual 120, 3) := by decide +kernel
theorem dE_readInside_44 : decode mE_readInside.2.1 44 = .ok (.istore_n 2, 1) := by decide +kernel
theorem dE_readInside_45 : decode mE_readInside.2.1 45 = .ok (.iload_n 2, 1) := by decide +kernel
theorem dE_readInside_46 : decode mE_readInside.2.1 46 = .ok (.iconst (-1), 1) := by decide +kernel
theorem dE_readInside_47 : decode mE_readInside.2.1 47 = .ok (.if_icmp .ne 5, 3) := by decide +kernel
theorem dE_readInside_50 : decode mE_readInside.2.1 50 = .ok (.iconst 0, 1) := by decide +kernel
theorem dE_readInside_51 : decode mE_readInside.2.1 51 = .ok (.ireturn, 1) := by decide +kernel
theorem dE_readInside_52 : decode mE_readInside.2.1 52 = .ok (.aload_n 0, 1) := by decide +kernel
theorem dE_readInside_53 : decode mE_readInside.2.1 53 = .ok (.getfield 12, 3) := by decide +kernel
theorem dE_readInside_56 : decode mE_readInside.2.1 56 = .ok (.getfield 139, 3) := by decide +kernel
theorem dE_readInside_59 : decode mE_readInside.2.1 59 = .ok (.iload_n 1, 1) := by decide +kernel
theorem dE_readInside_60 : decode mE_readInside.2.1 60 = .ok (.iload_n 2, 1) := by decide +kernel
theorem dE_readInside_61 : decode mE_readInside.2.1 61 = .ok (.iconst 1, 1) := by decide +kernel
theorem dE_readInside_62 : decode mE_readInside.2.1 62 = .ok (.iadd, 1) := by decide +kernel
theorem dE_readInside_63 : decode mE_readInside.2.1 63 = .ok (.iastore, 1) := by decide +kernel
theorem dE_readInside_64 : decode mE_readInside.2.1 64 = .ok (.aload_n 0, 1) := by decide +kernel
theorem dE_readInside_65 : decode mE_readInside.2.1 65 = .ok (.invokevirtual 36, 3) := by decide +kernel
theorem dE_readInside_68 : decode mE_readInside.2.1 68 = .ok (.ireturn, 1) := by decide +kernel
theorem dE_readKey_0 : decode mE_readKey.2.1 0 = .ok (.aload_n 0, 1) := by decide +kernel
theorem dE_readKey_1 : decode mE_readKey.2.1 1 = .ok (.invokevirtual 36, 3) := by decide +kernel
theorem dE_readKey_4 : decode mE_readKey.2.1 4 = .ok (.pop, 1) := by decide +kernel
theorem dE_readKey_5 : decode mE_readKey.2.1 5 = .ok (.aload_n 0, 1) := by decide +kernel
theorem dE_readKey_6 : decode mE_readKey.2.1 6 = .ok (.invokevirtual 136, 3) := by decide +kernel
theorem dE_readKey_9 : decode mE_readKey.2.1 9 = .ok (.istore_n 1, 1) := by decide +kernel
theorem dE_readKey_10 : decode mE_readKey.2.1 10 = .ok (.iload_n 1, 1) := by decide +kernel
theorem dE_readKey_11 : decode mE_readKey.2.1 11 = .ok (.iconst (-1), 1) := by decide +kernel
theorem dE_readKey_12 : decode mE_readKey.2.1 12 = .ok (.if_icmp .ne 5, 3) := by decide +kernel
theorem dE_readKey_15 : decode mE_readKey.2.1 15 = .ok (.iconst 0, 1) := by decide +kernel
theorem dE_readKey_16 : decode mE_readKey.2.1 16 = .ok (.ireturn, 1) := by decide +kernel
theorem dE_readKey_17 : decode mE_readKey.2.1 17 = .ok (.aload_n 0, 1) := by decide +kernel
theorem dE_readKey_18 : decode mE_readKey.2.1 18 = .ok (.getfield 12, 3) := by decide +kernel
theorem dE_readKey_21 : decode mE_readKey.2.1 21 = .ok (.getfield 142, 3) := by decide +kernel
theorem dE_readKey_24 : decode mE_readKey.2.1 24 = .ok (.iload_n 1, 1) := by decide +kernel
theorem dE_readKey_25 : decode mE_readKey.2.1 25 = .ok (.ishr, 1) := by decide +kernel
theorem dE_readKey_26 : decode mE_readKey.2.1 26 = .ok (.iconst 1, 1) := by decide +kernel
theorem dE_readKey_27 : decode mE_readKey.2.1 27 = .ok (.iand, 1) := by decide +kernel
theorem dE_readKey_28 : decode mE_readKey.2.1 28 = .ok (.ifCond .eq 9, 3) := by decide +kernel
theorem dE_readKey_31 : decode mE_readKey.2.1 31 = .ok (.aload_n 0, 1) := by decide +kernel
theorem dE_readKey_32 : decode mE_readKey.2.1 32 = .ok (.iconst 3, 1) := by decide +kernel
theorem dE_readKey_33 : decode mE_readKey.2.1 33 = .ok (.invokevirtual 49, 3) := by decide +kernel
theorem dE_readKey_36 : decode mE_readKey.2.1 36 = .ok (.ireturn, 1) := by decide +kernel
theorem dE_readKey_37 : decode mE_readKey.2.1 37 = .ok (.aload_n 0, 1) := by decide +kernel
theorem dE_readKey_38 : decode mE_readKey.2.1 38 = .ok (.getfield 12, 3) := by decide +kernel
theorem dE_readKey_41 : decode mE_readKey.2.1 41 = .ok (.dup, 1) := by decide +kernel
theorem dE_readKey_42 : decode mE_readKey.2.1 42 = .ok (.getfield 142, 3) := by decide +kernel
theorem dE_readKey_45 : decode mE_readKey.2.1 45 = .ok (.iconst 1, 1) := by decide +kernel
theorem dE_readKey_46 : decode mE_readKey.2.1 46 = .ok (.iload_n 1, 1) := by decide +kernel
theorem dE_readKey_47 : decode mE_readKey.2.1 47 = .ok (.ishl, 1) := by decide +kernel
theorem dE_readKey_48 : decode mE_readKey.2.1 48 = .ok (.ior, 1) := by decide +kernel
theorem dE_readKey_49 : decode mE_readKey.2.1 49 = .ok (.putfield 142, 3) := by decide +kernel
theorem dE_readKey_52 : decode mE_readKey.2.1 52 = .ok (.aload_n 0, 1) := by decide +kernel
theorem dE_readKey_53 : decode mE_readKey.2.1 53 = .ok (.invokevirtual 36, 3) := by decide +kernel
theorem dE_readKey_56 : decode mE_readKey.2.1 56 = .ok (.ireturn, 1) := by decide +kernel
theorem dE_readPlace_0 : decode mE_readPlace.2.1 0 = .ok (.aload_n 0, 1) := by decide +kernel
theorem dE_readPlace_1 : decode mE_readPlace.2.1 1 = .ok (.invokevirtual 36, 3) := by decide +kernel
theorem dE_readPlace_4 : decode mE_readPlace.2.1 4 = .ok (.pop, 1) := by decide +kernel
theorem dE_readPlace_5 : decode mE_readPlace.2.1 5 = .ok (.aload_n 0, 1) := by decide +kernel
theorem dE_readPlace_6 : decode mE_readPlace.2.1 6 = .ok (.invokevirtual 136, 3) := by decide +kernel
theorem dE_readPlace_9 : decode mE_readPlace.2.1 9 = .ok (.istore_n 3, 1) := by decide +kernel
theorem dE_readPlace_10 : decode mE_readPlace.2.1 10 = .ok (.iload_n 3, 1) := by decide +kernel
theorem dE_readPlace_11 : decode mE_readPlace.2.1 11 = .ok (.iconst (-1), 1) := by decide +kernel
theorem dE_readPlace_12 : decode mE_readPlace.2.1 12 = .ok (.if_icmp .eq 9, 3) := by decide +kernel
theorem dE_readPlace_15 : decode mE_readPlace.2.1 15 = .ok (.iload_n 3, 1) := by decide +kernel
theorem dE_readPlace_16 : decode mE_readPlace.2.1 16 = .ok (.aload_n 1, 1) := by decide +kernel
theorem dE_readPlace_17 : decode mE_readPlace.2.1 17 = .ok (.arraylength, 1) := by decide +kernel
theorem dE_readPlace_18 : decode mE_readPlace.2.1 18 = .ok (.if_icmp .lt 5, 3) := by decide +kernel
theorem dE_readPlace_21 : decode mE_readPlace.2.1 21 = .ok (.iconst 0, 1) := by decide +kernel
theorem dE_readPlace_22 : decode mE_readPlace.2.1 22 = .ok (.ireturn, 1) := by decide +kernel
theorem dE_readPlace_23 : decode mE_readPlace.2.1 23 = .ok (.aload_n 1, 1) := by decide +kernel
theorem dE_readPlace_24 : decode mE_readPlace.2.1 24 = .ok (.iload_n 3, 1) := by decide +kernel
theorem dE_readPlace_25 : decode mE_readPlace.2.1 25 = .ok (.iaload, 1) := by decide +kernel
theorem dE_readPlace_26 : decode mE_readPlace.2.1 26 = .ok (.bipush (-2), 2) := by decide +kernel
theorem dE_readPlace_28 : decode mE_readPlace.2.1 28 = .ok (.if_icmp .eq 9, 3) := by decide +kernel
theorem dE_readPlace_31 : decode mE_readPlace.2.1 31 = .ok (.aload_n 0, 1) := by decide +kernel
theorem dE_readPlace_32 : decode mE_readPlace.2.1 32 = .ok (.iconst 3, 1) := by decide +kernel
theorem dE_readPlace_33 : decode mE_readPlace.2.1 33 = .ok (.invokevirtual 49, 3) := by decide +kernel
theorem dE_readPlace_36 : decode mE_readPlace.2.1 36 = .ok (.ireturn, 1) := by decide +kernel
theorem dE_readPlace_37 : decode mE_readPlace.2.1 37 = .ok (.aload_n 0, 1) := by decide +kernel
theorem dE_readPlace_38 : decode mE_readPlace.2.1 38 = .ok (.invokevirtual 36, 3) := by decide +kernel
theorem dE_readPlace_41 : decode mE_readPlace.2.1 41 = .ok (.pop, 1) := by decide +kernel
theorem dE_readPlace_42 : decode mE_readPlace.2.1 42 = .ok (.iload_n 2, 1) := by decide +kernel
theorem dE_readPlace_43 : decode mE_readPlace.2.1 43 = .ok (.ifCond .eq 21, 3) := by decide +kernel
theorem dE_readPlace_46 : decode mE_readPlace.2.1 46 = .ok (.aload_n 0, 1) := by decide +kernel
theorem dE_readPlace_47 : decode mE_readPlace.2.1 47 = .ok (.ldc 53, 2) := by decide +kernel
theorem dE_readPlace_49 : decode mE_readPlace.2.1 49 = .ok (.invokevirtual 55, 3) := by decide +kernel
theorem dE_readPlace_52 : decode mE_readPlace.2.1 52 = .ok (.ifCond .ne 12, 3) := by decide +kernel
theorem dE_readPlace_55 : decode mE_readPlace.2.1 55 = .ok (.aload_n 1, 1) := by decide +kernel
theorem dE_readPlace_56 : decode mE_readPlace.2.1 56 = .ok (.iload_n 3, 1) := by decide +kernel
theorem dE_readPlace_57 : decode mE_readPlace.2.1 57 = .ok (.iconst 0, 1) := by decide +kernel
theorem dE_readPlace_58 : decode mE_readPlace.2.1 58 = .ok (.iastore, 1) := by decide +kernel
theorem dE_readPlace_59 : decode mE_readPlace.2.1 59 = .ok (.aload_n 0, 1) := by decide +kernel
theorem dE_readPlace_60 : decode mE_readPlace.2.1 60 = .ok (.invokevirtual 36, 3) := by decide +kernel
theorem dE_readPlace_63 : decode mE_readPlace.2.1 63 = .ok (.ireturn, 1) := by decide +kernel
theorem dE_readPlace_64 : decode mE_readPlace.2.1 64 = .ok (.aload_n 0, 1) := by decide +kernel
theorem dE_readPlace_65 : decode mE_readPlace.2.1 65 = .ok (.invokevirtual 120, 3) := by decide +kernel
theorem dE_readPlace_68 : decode mE_readPlace.2.1 68 = .ok (.istore 4, 2) := by decide +kernel
theorem dE_readPlace_70 : decode mE_readPlace.2.1 70 = .ok (.iload 4, 2) := by decide +kernel
theorem dE_readPlace_72 : decode mE_readPlace.2.1 72 = .ok (.iconst (-1), 1) := by decide +kernel
theorem dE_readPlace_73 : decode mE_readPlace.2.1 73 = .ok (.if_icmp .ne 5, 3) := by decide +kernel
theorem dE_readPlace_76 : decode mE_readPlace.2.1 76 = .ok (.iconst 0, 1) := by decide +kernel
theorem dE_readPlace_77 : decode mE_readPlace.2.1 77 = .ok (.ireturn, 1) := by decide +kernel
theorem dE_readPlace_78 : decode mE_readPlace.2.1 78 = .ok (.aload_n 1, 1) := by decide +kernel
theorem dE_readPlace_79 : decode mE_readPlace.2.1 79 = .ok (.iload_n 3, 1) := by decide +kernel
theorem dE_readPlace_80 : decode mE_readPlace.2.1 80 = .ok (.iload 4, 2) := by decide +kernel
theorem dE_readPlace_82 : decode mE_readPlace.2.1 82 = .ok (.iconst 1, 1) := by decide +kernel
theorem dE_readPlace_83 : decode mE_readPlace.2.1 83 = .ok (.iadd, 1) := by decide +kernel
theorem dE_readPlace_84 : decode mE_readPlace.2.1 84 = .ok (.iastore, 1) := by decide +kernel
theorem dE_readPlace_85 : decode mE_readPlace.2.1 85 = .ok (.aload_n 0, 1) := by decide +kernel
theorem dE_readPlace_86 : decode mE_readPlace.2.1 86 = .ok (.invokevirtual 36, 3) := by decide +kernel
theorem dE_readPlace_89 : decode mE_readPlace.2.1 89 = .ok (.ireturn, 1) := by decide +kernel
theorem dE_readLine_0 : decode mE_readLine.2.1 0 = .ok (.aload_n 0, 1) := by decide +kernel
theorem dE_readLine_1 : decode mE_readLine.2.1 1 = .ok (.ldc 53, 2) := by decide +kernel
theorem dE_readLine_3 : decode mE_readLine.2.1 3 = .ok (.invokevirtual 55, 3) := by decide +kernel
theorem dE_readLine_6 : decode mE_readLine.2.1 6 = .ok (.istore_n 1, 1) := by decide +kernel
theorem dE_readLine_7 : decode mE_readLine.2.1 7 = .ok (.iload_n 1, 1) := by decide +kernel
theorem dE_readLine_8 : decode mE_readLine.2.1 8 = .ok (.iconst (-1), 1) := by decide +kernel
theorem dE_readLine_9 : decode mE_readLine.2.1 9 = .ok (.if_icmp .ne 9, 3) := by decide +kernel
theorem dE_readLine_12 : decode mE_readLine.2.1 12 = .ok (.aload_n 0, 1) := by decide +kernel
theorem dE_readLine_13 : decode mE_readLine.2.1 13 = .ok (.iconst 1, 1) := by decide +kernel
theorem dE_readLine_14 : decode mE_readLine.2.1 14 = .ok (.invokevirtual 49, 3) := by decide +kernel
theorem dE_readLine_17 : decode mE_readLine.2.1 17 = .ok (.ireturn, 1) := by decide +kernel
theorem dE_readLine_18 : decode mE_readLine.2.1 18 = .ok (.aload_n 0, 1) := by decide +kernel
theorem dE_readLine_19 : decode mE_readLine.2.1 19 = .ok (.getfield 59, 3) := by decide +kernel
theorem dE_readLine_22 : decode mE_readLine.2.1 22 = .ok (.ifCond .ne 14, 3) := by decide +kernel
theorem dE_readLine_25 : decode mE_readLine.2.1 25 = .ok (.iload_n 1, 1) := by decide +kernel
theorem dE_readLine_26 : decode mE_readLine.2.1 26 = .ok (.ifCond .eq 10, 3) := by decide +kernel
theorem dE_readLine_29 : decode mE_readLine.2.1 29 = .ok (.aload_n 0, 1) := by decide +kernel
theorem dE_readLine_30 : decode mE_readLine.2.1 30 = .ok (.bipush 6, 2) := by decide +kernel
theorem dE_readLine_32 : decode mE_readLine.2.1 32 = .ok (.invokevirtual 49, 3) := by decide +kernel
theorem dE_readLine_35 : decode mE_readLine.2.1 35 = .ok (.ireturn, 1) := by decide +kernel
theorem dE_readLine_36 : decode mE_readLine.2.1 36 = .ok (.iload_n 1, 1) := by decide +kernel
theorem dE_readLine_37 : decode mE_readLine.2.1 37 = .ok (.tableswitch 121 0 9 #[55, 60, 65, 70, 75, 80, 85, 90, 95, 108], 55) := by decide +kernel
theorem dE_readLine_92 : decode mE_readLine.2.1 92 = .ok (.aload_n 0, 1) := by decide +kernel
theorem dE_readLine_93 : decode mE_readLine.2.1 93 = .ok (.invokevirtual 63, 3) := by decide +kernel
theorem dE_readLine_96 : decode mE_readLine.2.1 96 = .ok (.ireturn, 1) := by decide +kernel
theorem dE_readLine_97 : decode mE_readLine.2.1 97 = .ok (.aload_n 0, 1) := by decide +kernel
theorem dE_readLine_98 : decode mE_readLine.2.1 98 = .ok (.invokevirtual 66, 3) := by decide +kernel
theorem dE_readLine_101 : decode mE_readLine.2.1 101 = .ok (.ireturn, 1) := by decide +kernel
theorem dE_readLine_102 : decode mE_readLine.2.1 102 = .ok (.aload_n 0, 1) := by decide +kernel
theorem dE_readLine_103 : decode mE_readLine.2.1 103 = .ok (.invokevirtual 69, 3) := by decide +kernel
theorem dE_readLine_106 : decode mE_readLine.2.1 106 = .ok (.ireturn, 1) := by decide +kernel
theorem dE_readLine_107 : decode mE_readLine.2.1 107 = .ok (.aload_n 0, 1) := by decide +kernel
theorem dE_readLine_108 : decode mE_readLine.2.1 108 = .ok (.invokevirtual 72, 3) := by decide +kernel
theorem dE_readLine_111 : decode mE_readLine.2.1 111 = .ok (.ireturn, 1) := by decide +kernel
theorem dE_readLine_112 : decode mE_readLine.2.1 112 = .ok (.aload_n 0, 1) := by decide +kernel
theorem dE_readLine_113 : decode mE_readLine.2.1 113 = .ok (.invokevirtual 75, 3) := by decide +kernel
theorem dE_readLine_116 : decode mE_readLine.2.1 116 = .ok (.ireturn, 1) := by decide +kernel
theorem dE_readLine_117 : decode mE_readLine.2.1 117 = .ok (.aload_n 0, 1) := by decide +kernel
theorem dE_readLine_118 : decode mE_readLine.2.1 118 = .ok (.invokevirtual 78, 3) := by decide +kernel
theorem dE_readLine_121 : decode mE_readLine.2.1 121 = .ok (.ireturn, 1) := by decide +kernel
theorem dE_readLine_122 : decode mE_readLine.2.1 122 = .ok (.aload_n 0, 1) := by decide +kernel
theorem dE_readLine_123 : decode mE_readLine.2.1 123 = .ok (.invokevirtual 81, 3) := by decide +kernel
theorem dE_readLine_126 : decode mE_readLine.2.1 126 = .ok (.ireturn, 1) := by decide +kernel
theorem dE_readLine_127 : decode mE_readLine.2.1 127 = .ok (.aload_n 0, 1) := by decide +kernel
theorem dE_readLine_128 : decode mE_readLine.2.1 128 = .ok (.invokevirtual 84, 3) := by decide +kernel
theorem dE_readLine_131 : decode mE_readLine.2.1 131 = .ok (.ireturn, 1) := by decide +kernel
theorem dE_readLine_132 : decode mE_readLine.2.1 132 = .ok (.aload_n 0, 1) := by decide +kernel
theorem dE_readLine_133 : decode mE_readLine.2.1 133 = .ok (.aload_n 0, 1) := by decide +kernel
theorem dE_readLine_134 : decode mE_readLine.2.1 134 = .ok (.getfield 12, 3) := by decide +kernel
theorem dE_readLine_137 : decode mE_readLine.2.1 137 = .ok (.getfield 87, 3) := by decide +kernel
theorem dE_readLine_140 : decode mE_readLine.2.1 140 = .ok (.iconst 0, 1) := by decide +kernel
theorem dE_readLine_141 : decode mE_readLine.2.1 141 = .ok (.invokevirtual 91, 3) := by decide +kernel
theorem dE_readLine_144 : decode mE_readLine.2.1 144 = .ok (.ireturn, 1) := by decide +kernel
theorem dE_readLine_145 : decode mE_readLine.2.1 145 = .ok (.aload_n 0, 1) := by decide +kernel
theorem dE_readLine_146 : decode mE_readLine.2.1 146 = .ok (.aload_n 0, 1) := by decide +kernel
theorem dE_readLine_147 : decode mE_readLine.2.1 147 = .ok (.getfield 12, 3) := by decide +kernel
theorem dE_readLine_150 : decode mE_readLine.2.1 150 = .ok (.getfield 95, 3) := by decide +kernel
theorem dE_readLine_153 : decode mE_readLine.2.1 153 = .ok (.iconst 1, 1) := by decide +kernel
theorem dE_readLine_154 : decode mE_readLine.2.1 154 = .ok (.invokevirtual 91, 3) := by decide +kernel
theorem dE_readLine_157 : decode mE_readLine.2.1 157 = .ok (.ireturn, 1) := by decide +kernel
theorem dE_readLine_158 : decode mE_readLine.2.1 158 = .ok (.aload_n 0, 1) := by decide +kernel
theorem dE_readLine_159 : decode mE_readLine.2.1 159 = .ok (.aload_n 0, 1) := by decide +kernel
theorem dE_readLine_160 : decode mE_readLine.2.1 160 = .ok (.getfield 12, 3) := by decide +kernel
theorem dE_readLine_163 : decode mE_readLine.2.1 163 = .ok (.getfield 98, 3) := by decide +kernel
theorem dE_readLine_166 : decode mE_readLine.2.1 166 = .ok (.iconst 1, 1) := by decide +kernel
theorem dE_readLine_167 : decode mE_readLine.2.1 167 = .ok (.invokevirtual 91, 3) := by decide +kernel
theorem dE_readLine_170 : decode mE_readLine.2.1 170 = .ok (.ireturn, 1) := by decide +kernel
theorem dE_readText_0 : decode mE_readText.2.1 0 = .ok (.aload_n 0, 1) := by decide +kernel
theorem dE_readText_1 : decode mE_readText.2.1 1 = .ok (.invokevirtual 36, 3) := by decide +kernel
theorem dE_readText_4 : decode mE_readText.2.1 4 = .ok (.pop, 1) := by decide +kernel
theorem dE_readText_5 : decode mE_readText.2.1 5 = .ok (.iconst 0, 1) := by decide +kernel
theorem dE_readText_6 : decode mE_readText.2.1 6 = .ok (.istore_n 1, 1) := by decide +kernel
theorem dE_readText_7 : decode mE_readText.2.1 7 = .ok (.iload_n 1, 1) := by decide +kernel
theorem dE_readText_8 : decode mE_readText.2.1 8 = .ok (.aload_n 0, 1) := by decide +kernel
theorem dE_readText_9 : decode mE_readText.2.1 9 = .ok (.getfield 32, 3) := by decide +kernel
theorem dE_readText_12 : decode mE_readText.2.1 12 = .ok (.if_icmp .gt 69, 3) := by decide +kernel
theorem dE_readText_15 : decode mE_readText.2.1 15 = .ok (.aload_n 0, 1) := by decide +kernel
theorem dE_readText_16 : decode mE_readText.2.1 16 = .ok (.invokevirtual 40, 3) := by decide +kernel
theorem dE_readText_19 : decode mE_readText.2.1 19 = .ok (.ifCond .ne 5, 3) := by decide +kernel
theorem dE_readText_22 : decode mE_readText.2.1 22 = .ok (.iconst 0, 1) := by decide +kernel
theorem dE_readText_23 : decode mE_readText.2.1 23 = .ok (.ireturn, 1) := by decide +kernel
theorem dE_readText_24 : decode mE_readText.2.1 24 = .ok (.aload_n 0, 1) := by decide +kernel
theorem dE_readText_25 : decode mE_readText.2.1 25 = .ok (.getfield 43, 3) := by decide +kernel
theorem dE_readText_28 : decode mE_readText.2.1 28 = .ok (.ifCond .ne 28, 3) := by decide +kernel
theorem dE_readText_31 : decode mE_readText.2.1 31 = .ok (.aload_n 0, 1) := by decide +kernel
theorem dE_readText_32 : decode mE_readText.2.1 32 = .ok (.getfield 12, 3) := by decide +kernel
theorem dE_readText_35 : decode mE_readText.2.1 35 = .ok (.getfield 46, 3) := by decide +kernel
theorem dE_readText_38 : decode mE_readText.2.1 38 = .ok (.ifCond .gt 12, 3) := by decide +kernel
theorem dE_readText_41 : decode mE_readText.2.1 41 = .ok (.aload_n 0, 1) := by decide +kernel
theorem dE_readText_42 : decode mE_readText.2.1 42 = .ok (.bipush 6, 2) := by decide +kernel
theorem dE_readText_44 : decode mE_readText.2.1 44 = .ok (.invokevirtual 49, 3) := by decide +kernel
theorem dE_readText_47 : decode mE_readText.2.1 47 = .ok (.ifCond .eq 7, 3) := by decide +kernel
theorem dE_readText_50 : decode mE_readText.2.1 50 = .ok (.iconst 1, 1) := by decide +kernel
theorem dE_readText_51 : decode mE_readText.2.1 51 = .ok (.goto 4, 3) := by decide +kernel
theorem dE_readText_54 : decode mE_readText.2.1 54 = .ok (.iconst 0, 1) := by decide +kernel
theorem dE_readText_55 : decode mE_readText.2.1 55 = .ok (.ireturn, 1) := by decide +kernel
theorem dE_readText_56 : decode mE_readText.2.1 56 = .ok (.aload_n 0, 1) := by decide +kernel
theorem dE_readText_57 : decode mE_readText.2.1 57 = .ok (.getfield 43, 3) := by decide +kernel
theorem dE_readText_60 : decode mE_readText.2.1 60 = .ok (.iconst 3, 1) := by decide +kernel
theorem dE_readText_61 : decode mE_readText.2.1 61 = .ok (.if_icmp .eq 9, 3) := by decide +kernel
theorem dE_readText_64 : decode mE_readText.2.1 64 = .ok (.aload_n 0, 1) := by decide +kernel
theorem dE_readText_65 : decode mE_readText.2.1 65 = .ok (.iconst 1, 1) := by decide +kernel
theorem dE_readText_66 : decode mE_readText.2.1 66 = .ok (.invokevirtual 49, 3) := by decide +kernel
theorem dE_readText_69 : decode mE_readText.2.1 69 = .ok (.ireturn, 1) := by decide +kernel
theorem dE_readText_70 : decode mE_readText.2.1 70 = .ok (.aload_n 0, 1) := by decide +kernel
theorem dE_readText_71 : decode mE_readText.2.1 71 = .ok (.invokevirtual 36, 3) := by decide +kernel
theorem dE_readText_74 : decode mE_readText.2.1 74 = .ok (.pop, 1) := by decide +kernel
theorem dE_readText_75 : decode mE_readText.2.1 75 = .ok (.iinc 1 1, 3) := by decide +kernel
theorem dE_readText_78 : decode mE_readText.2.1 78 = .ok (.goto (-71), 3) := by decide +kernel
theorem dE_readText_81 : decode mE_readText.2.1 81 = .ok (.aload_n 0, 1) := by decide +kernel
theorem dE_readText_82 : decode mE_readText.2.1 82 = .ok (.iconst 1, 1) := by decide +kernel
theorem dE_readText_83 : decode mE_readText.2.1 83 = .ok (.invokevirtual 49, 3) := by decide +kernel
theorem dE_readText_86 : decode mE_readText.2.1 86 = .ok (.ireturn, 1) := by decide +kernel
-- words by their letters
def spI (j : Nat) : Nat → Nat
  | 0 => 0
  | i + 1 => if i % 8 = 7 then 0 else (if kCh j i = 32 then spI j i else spI j i * 32 + (kCh j i).toNat % 32)
def spC (j i : Nat) : Nat := if kCh j i = 32 then spI j i else spI j i * 32 + (kCh j i).toNat % 32
def wnF (j w : Nat) : Nat → Nat → Int
  | 0, _ => -1
  | f + 1, i => if i % 8 = 7 ∧ spC j i = w then ((i / 8 : Nat) : Int) else wnF j w f (i + 1)
theorem sp_lt : ∀ j : Nat, j < 3 → ∀ i : Nat, i < kLen.getD j 0 → spI j i < 32 ^ 8 ∧ spC j i < 32 ^ 8 := by decide +kernel
/-- the number of a word in a text's columns, else -1 -/
def wnI (j : Nat) (t : TK) : Int := if t.1 = 1 then wnF j t.2.2.2 (kLen.getD j 0) 0 else -1
-- what was read so far: what is told, whether the lane is, whether the last one is, names (doors' first, then people's; 0 none yet)
abbrev PR : Type := TL × Bool × Bool × (Nat → Nat)
abbrev PO : Type := (PR × TK) ⊕ (Nat × Nat)
def isNm (t : TK) : Bool := t.1 == 1 && wnI 0 t == -1
def nmI (r : PR) (t : TK) : Int := fbF (fun k => r.2.2.2 k == t.2.2.2) 6
def nxT (B : Nat → Int) (n : Nat) (t : TK) : TK := lexT B n t.2.2.1
def pDr (r : PR) (t : TK) (k : Nat → PO) : PO := if isNm t = true ∧ 0 ≤ nmI r t ∧ nmI r t < 4 then k (nmI r t).toNat else .inr (if isNm t then 2 else 1, t.2.1)
def pPe (r : PR) (t : TK) (k : Nat → PO) : PO := if isNm t = true ∧ 4 ≤ nmI r t then k ((nmI r t).toNat - 4) else .inr (if isNm t then 2 else 1, t.2.1)
def pNw (r : PR) (t : TK) (k : PO) : PO := if isNm t then (if nmI r t = -1 then k else .inr (3, t.2.1)) else .inr (1, t.2.1)
def uNm (f : Nat → Nat) (i w : Nat) : Nat → Nat := fun k => if k = i then w else f k
def uF {α : Type} (f : Nat → α) (i : Nat) (v : α) : Nat → α := fun k => if k = i then v else f k
def uDr (T : TL) (v : Nat) : TL := ((v, T.1.2), T.2)
def uDo (T : TL) (k : Nat) : TL := ((tDr T, tDn T + 1, T.1.2.2), uF (tKd T) (tDn T) k, T.2.2)
def uPn (T : TL) : TL := ((tDr T, tDn T, tPn T + 1, T.1.2.2.2), T.2)
def uLk (T : TL) (d : Nat) : TL := ((tDr T, tDn T, tPn T, tLk T ||| 2 ^ d, T.1.2.2.2.2), T.2)
def uKy (T : TL) (p : Nat) : TL := ((tDr T, tDn T, tPn T, tLk T, tKy T ||| 2 ^ p, tLa T), T.2)
def uLa (T : TL) (d : Nat) : TL := ((tDr T, tDn T, tPn T, tLk T, tKy T, d), T.2)
def uLd (T : TL) (d v : Nat) : TL := (T.1, tKd T, uF (tLd T) d v, T.2.2.2)
def uAt (T : TL) (p v : Nat) : TL := (T.1, tKd T, tLd T, uF (tAt T) p v, T.2.2.2.2)
def plS (s : Nat) (T : TL) : Nat → Int := if s = 0 then tHo T else if s = 1 then tWi T else tSi T
def uPl (s : Nat) (T : TL) (p : Nat) (v : Int) : TL := (T.1, tKd T, tLd T, tAt T, if s = 0 then uF (tHo T) p v else tHo T, if s = 1 then uF (tWi T) p v else tWi T, if s = 0 ∨ s = 1 then tSi T else uF (tSi T) p v)
section PLines
variable (B : Nat → Int) (n : Nat) (r : PR) (t : TK)
def pLane : PO := if r.2.1 then .inr (3, t.2.1) else if wnI 1 (nxT B n t) = -1 then .inr (1, (nxT B n t).2.1) else if (nxT B n (nxT B n t)).1 = 2 then (if (nxT B n (nxT B n t)).2.2.2 ≤ 100 then .inl ((uDr r.1 (nxT B n (nxT B n t)).2.2.2, true, r.2.2), nxT B n (nxT B n (nxT B n t))) else .inr (4, (nxT B n (nxT B n t)).2.1)) else .inr (1, (nxT B n (nxT B n t)).2.1)
def pDoor : PO := if 4 ≤ tDn r.1 then .inr (5, t.2.1) else pNw r (nxT B n t) (if wnI 2 (nxT B n (nxT B n t)) = -1 then .inr (1, (nxT B n (nxT B n t)).2.1) else .inl ((uDo r.1 (wnI 2 (nxT B n (nxT B n t))).toNat, r.2.1, r.2.2.1, uNm r.2.2.2 (tDn r.1) (nxT B n t).2.2.2), nxT B n (nxT B n (nxT B n t))))
def pPerson : PO := if 2 ≤ tPn r.1 then .inr (5, t.2.1) else pNw r (nxT B n t) (.inl ((uPn r.1, r.2.1, r.2.2.1, uNm r.2.2.2 (4 + tPn r.1) (nxT B n t).2.2.2), nxT B n (nxT B n t)))
def pLocked : PO := pDr r (nxT B n t) (fun d => if (tLk r.1).testBit d then .inr (3, (nxT B n t).2.1) else .inl ((uLk r.1 d, r.2), nxT B n (nxT B n t)))
def pLast : PO := if r.2.2.1 then .inr (3, t.2.1) else pDr r (nxT B n t) (fun d => if tLd r.1 d ≠ 0 then .inr (7, (nxT B n t).2.1) else .inl ((uLa r.1 d, r.2.1, true, r.2.2.2), nxT B n (nxT B n t)))
def pAjar : PO := pDr r (nxT B n t) (fun d => if tLd r.1 d ≠ 0 then .inr (3, (nxT B n t).2.1) else if r.2.2.1 = true ∧ tLa r.1 = d then .inr (7, (nxT B n t).2.1) else pDr r (nxT B n (nxT B n t)) (fun m => .inl ((uLd r.1 d (m + 1), r.2), nxT B n (nxT B n (nxT B n t)))))
def pInside : PO := pPe r (nxT B n t) (fun p => if tAt r.1 p ≠ 0 then .inr (3, (nxT B n t).2.1) else pDr r (nxT B n (nxT B n t)) (fun m => .inl ((uAt r.1 p (m + 1), r.2), nxT B n (nxT B n (nxT B n t)))))
def pKey : PO := pPe r (nxT B n t) (fun p => if (tKy r.1).testBit p then .inr (3, (nxT B n t).2.1) else .inl ((uKy r.1 p, r.2), nxT B n (nxT B n t)))
def pPlace (s : Nat) : PO := pPe r (nxT B n t) (fun p => if plS s r.1 p ≠ -2 then .inr (3, (nxT B n t).2.1) else if s ≠ 0 ∧ wnI 0 (nxT B n (nxT B n t)) = 0 then .inl ((uPl s r.1 p 0, r.2), nxT B n (nxT B n (nxT B n t))) else pDr r (nxT B n (nxT B n t)) (fun m => .inl ((uPl s r.1 p (m + 1 : Nat), r.2), nxT B n (nxT B n (nxT B n t)))))
def pLine : PO := if wnI 0 t = -1 then .inr (1, t.2.1) else if r.2.1 = false ∧ wnI 0 t ≠ 0 then .inr (6, t.2.1) else if wnI 0 t = 0 then pLane B n r t else if wnI 0 t = 1 then pDoor B n r t else if wnI 0 t = 2 then pLocked B n r t else if wnI 0 t = 3 then pLast B n r t else if wnI 0 t = 4 then pAjar B n r t else if wnI 0 t = 5 then pPerson B n r t else if wnI 0 t = 6 then pInside B n r t else if wnI 0 t = 7 then pKey B n r t else if wnI 0 t = 8 then pPlace B n r t 0 else if wnI 0 t = 9 then pPlace B n r t 1 else pPlace B n r t 2
end PLines
/-- lines to the end: what is told, or the fault and its place -/
def pAll (B : Nat → Int) (n : Nat) : Nat → PR → TK → TL ⊕ (Nat × Nat)
  | 0, _, t => .inr (1, t.2.1)
  | f + 1, r, t => match pLine B n r t with
    | .inr q => .inr q
    | .inl (r', t') => if t'.1 = 0 then (if 0 < tDn r'.1 then .inl r'.1 else .inr (6, t'.2.1)) else if t'.1 = 3 then pAll B n f r' (nxT B n t') else .inr (1, t'.2.1)
-- what is in order while reading
def okU (T : TL) : Prop := tDr T ≤ 100 ∧ tDn T ≤ 4 ∧ tPn T ≤ 2 ∧ tLk T < 2 ^ tDn T ∧ tKy T < 2 ^ tPn T ∧ (0 < tDn T → tLa T < tDn T) ∧ (tDn T = 0 → tLa T = 0) ∧ (∀ d, tKd T d < 4 ∧ tLd T d ≤ tDn T) ∧ (∀ d, tDn T ≤ d → tKd T d = 0 ∧ tLd T d = 0) ∧ (∀ p, tAt T p ≤ tDn T) ∧ (∀ p, tPn T ≤ p → tAt T p = 0 ∧ tHo T p = -2 ∧ tWi T p = -2 ∧ tSi T p = -2) ∧ ∀ p, (tHo T p = -2 ∨ 0 ≤ tHo T p ∧ tHo T p ≤ tDn T) ∧ (tWi T p = -2 ∨ 0 ≤ tWi T p ∧ tWi T p ≤ tDn T) ∧ (tSi T p = -2 ∨ 0 ≤ tSi T p ∧ tSi T p ≤ tDn T)
def okN (r : PR) : Prop := okU r.1 ∧ (∀ k, k < 6 → r.2.2.2 k < 32 ^ 8) ∧ (∀ d, d < 4 → (0 < r.2.2.2 d ↔ d < tDn r.1)) ∧ (∀ p, p < 2 → (0 < r.2.2.2 (4 + p) ↔ p < tPn r.1))
def okTk (n : Nat) (t : TK) : Prop := t.2.1 ≤ t.2.2.1 ∧ t.2.2.1 ≤ n ∧ (t.1 = 1 → 0 < t.2.2.2 ∧ t.2.2.2 < 32 ^ 8)
theorem wv_pos {B : Nat → Int} {n s : Nat} : ∀ k, 0 < k → isLb (byN B n s) = true → 0 < wvT B n s k
  | 1, _, h => by
    unfold isLb at h
    simp at h
    show 0 < 0 * 32 + (byN B n (s + 0)).toNat % 32
    rw [Nat.add_zero]
    omega
  | k + 2, _, h => by
    have := wv_pos (k + 1) (by omega) h
    show 0 < wvT B n s (k + 1) * 32 + _
    omega
theorem lex_ok {B : Nat → Int} {n p : Nat} (h : p ≤ n) : okTk n (lexT B n p) := by
  have h1 := lex_le (B := B) h
  refine ⟨h1.1, h1.2.1, ?_⟩
  unfold lexT lexS
  intro h2
  split at h2
  · exact absurd h2 (by show ¬ 0 = 1; decide)
  · rename_i q1
    rw [if_neg q1]
    split at h2
    · rename_i q2
      rw [if_pos q2]
      have h2 : (if rnT isLb B n (p + rnT isSb B n p) ≤ 8 then 1 else 4) = 1 := h2
      have h8 : rnT isLb B n (p + rnT isSb B n p) ≤ 8 := by split at h2 <;> omega
      have hin := byN_in q1
      have hpos : 0 < rnT isLb B n (p + rnT isSb B n p) := by
        unfold rnT
        rw [show n = (n - 1) + 1 by omega]
        unfold rnF
        rw [show n - 1 + 1 = n by omega]
        unfold rnT at q2
        rw [if_pos q2]
        omega
      exact ⟨wv_pos _ hpos q2, Nat.lt_of_lt_of_le (wvT_lt _) (Nat.pow_le_pow_right (by decide) h8)⟩
    · split at h2
      · have h2 : (if rnT isDb B n (p + rnT isSb B n p) ≤ 3 then 2 else 4) = 1 := h2
        split at h2 <;> omega
      · have h2 : (if byN B n (p + rnT isSb B n p) = 59 then 3 else 4) = 1 := h2
        split at h2 <;> omega
/-- a Reader holds what was read -/
def RER (V : Nat → Nat → Int) (e : Nat) (r : PR) : Prop := TV V (e + 1) r.1 ∧ V e 9 = bz r.2.1 ∧ V e 10 = bz r.2.2.1 ∧ ∀ k, k < 6 → V (e + 8) k = r.2.2.2 k
def rdF (V V' : Nat → Nat → Int) (e : Nat) : Prop := (∀ b, b < e ∨ e + 8 < b → V' b = V b) ∧ V' e 4 = V e 4
theorem rdF.rf (V : Nat → Nat → Int) (e : Nat) : rdF V V e := ⟨fun _ _ => rfl, rfl⟩
theorem rdF.tr {V V1 V2 : Nat → Nat → Int} {e : Nat} (h : rdF V V1 e) (g : rdF V1 V2 e) : rdF V V2 e := ⟨fun b hb => (g.1 b hb).trans (h.1 b hb), g.2.trans h.2⟩
theorem tkF.rd {V V' : Nat → Nat → Int} {e : Nat} (h : tkF V V' e) : rdF V V' e := ⟨fun b hb => h.1 b (by omega), h.2 4 (by decide) (by decide) (by decide) (by decide) (by decide)⟩
theorem TX.rd {V V' : Nat → Nat → Int} {σ : Shp} {e n : Nat} {B : Nat → Int} (hs : rdS σ e) (h : TX V e n B) (g : rdF V V' e) : TX V' e n B := ⟨g.2.trans h.1, h.2.1, by rw [g.1 2 (by have := hs.lt; omega)]; exact h.2.2.1, h.2.2.2⟩
theorem RER.tk {V V' : Nat → Nat → Int} {e : Nat} {r : PR} (h : RER V e r) (g : tkF V V' e) : RER V' e r := by
  obtain ⟨h1, h2, h3, h4⟩ := h
  exact ⟨h1.same (fun i hi => g.1 _ (by omega)), by rw [g.2 9 (by decide) (by decide) (by decide) (by decide) (by decide)]; exact h2, by rw [g.2 10 (by decide) (by decide) (by decide) (by decide) (by decide)]; exact h3, by rw [g.1 _ (by omega)]; exact h4⟩
