theorem dH_isDoor_0 : decode mH_isDoor.2.1 0 = .ok (.iload_n 1, 1) := by decide +kernel
theorem dH_isDoor_1 : decode mH_isDoor.2.1 1 = .ok (.ifCond .lt 15, 3) := by decide +kernel
theorem dH_isDoor_4 : decode mH_isDoor.2.1 4 = .ok (.iload_n 1, 1) := by decide +kernel
theorem dH_isDoor_5 : decode mH_isDoor.2.1 5 = .ok (.aload_n 0, 1) := by decide +kernel
theorem dH_isDoor_6 : decode mH_isDoor.2.1 6 = .ok (.getfield 45, 3) := by decide +kernel
theorem dH_isDoor_9 : decode mH_isDoor.2.1 9 = .ok (.if_icmp .ge 7, 3) := by decide +kernel
theorem dH_isDoor_12 : decode mH_isDoor.2.1 12 = .ok (.iconst 1, 1) := by decide +kernel
theorem dH_isDoor_13 : decode mH_isDoor.2.1 13 = .ok (.goto 4, 3) := by decide +kernel
theorem dH_isDoor_16 : decode mH_isDoor.2.1 16 = .ok (.iconst 0, 1) := by decide +kernel
theorem dH_isDoor_17 : decode mH_isDoor.2.1 17 = .ok (.ireturn, 1) := by decide +kernel
theorem dH_isPerson_0 : decode mH_isPerson.2.1 0 = .ok (.iload_n 1, 1) := by decide +kernel
theorem dH_isPerson_1 : decode mH_isPerson.2.1 1 = .ok (.ifCond .lt 15, 3) := by decide +kernel
theorem dH_isPerson_4 : decode mH_isPerson.2.1 4 = .ok (.iload_n 1, 1) := by decide +kernel
theorem dH_isPerson_5 : decode mH_isPerson.2.1 5 = .ok (.aload_n 0, 1) := by decide +kernel
theorem dH_isPerson_6 : decode mH_isPerson.2.1 6 = .ok (.getfield 49, 3) := by decide +kernel
theorem dH_isPerson_9 : decode mH_isPerson.2.1 9 = .ok (.if_icmp .ge 7, 3) := by decide +kernel
theorem dH_isPerson_12 : decode mH_isPerson.2.1 12 = .ok (.iconst 1, 1) := by decide +kernel
theorem dH_isPerson_13 : decode mH_isPerson.2.1 13 = .ok (.goto 4, 3) := by decide +kernel
theorem dH_isPerson_16 : decode mH_isPerson.2.1 16 = .ok (.iconst 0, 1) := by decide +kernel
theorem dH_isPerson_17 : decode mH_isPerson.2.1 17 = .ok (.ireturn, 1) := by decide +kernel
theorem dH_isPlace_0 : decode mH_isPlace.2.1 0 = .ok (.iload_n 1, 1) := by decide +kernel
theorem dH_isPlace_1 : decode mH_isPlace.2.1 1 = .ok (.ifCond .lt 22, 3) := by decide +kernel
theorem dH_isPlace_4 : decode mH_isPlace.2.1 4 = .ok (.iload_n 1, 1) := by decide +kernel
theorem dH_isPlace_5 : decode mH_isPlace.2.1 5 = .ok (.aload_n 0, 1) := by decide +kernel
theorem dH_isPlace_6 : decode mH_isPlace.2.1 6 = .ok (.getfield 45, 3) := by decide +kernel
theorem dH_isPlace_9 : decode mH_isPlace.2.1 9 = .ok (.if_icmp .gt 14, 3) := by decide +kernel
theorem dH_isPlace_12 : decode mH_isPlace.2.1 12 = .ok (.aload_n 0, 1) := by decide +kernel
theorem dH_isPlace_13 : decode mH_isPlace.2.1 13 = .ok (.getfield 45, 3) := by decide +kernel
theorem dH_isPlace_16 : decode mH_isPlace.2.1 16 = .ok (.ifCond .le 7, 3) := by decide +kernel
theorem dH_isPlace_19 : decode mH_isPlace.2.1 19 = .ok (.iconst 1, 1) := by decide +kernel
theorem dH_isPlace_20 : decode mH_isPlace.2.1 20 = .ok (.goto 4, 3) := by decide +kernel
theorem dH_isPlace_23 : decode mH_isPlace.2.1 23 = .ok (.iconst 0, 1) := by decide +kernel
theorem dH_isPlace_24 : decode mH_isPlace.2.1 24 = .ok (.ireturn, 1) := by decide +kernel
theorem dH_isStep_0 : decode mH_isStep.2.1 0 = .ok (.iload_n 1, 1) := by decide +kernel
theorem dH_isStep_1 : decode mH_isStep.2.1 1 = .ok (.ifCond .lt 15, 3) := by decide +kernel
theorem dH_isStep_4 : decode mH_isStep.2.1 4 = .ok (.iload_n 1, 1) := by decide +kernel
theorem dH_isStep_5 : decode mH_isStep.2.1 5 = .ok (.aload_n 0, 1) := by decide +kernel
theorem dH_isStep_6 : decode mH_isStep.2.1 6 = .ok (.getfield 58, 3) := by decide +kernel
theorem dH_isStep_9 : decode mH_isStep.2.1 9 = .ok (.if_icmp .ge 7, 3) := by decide +kernel
theorem dH_isStep_12 : decode mH_isStep.2.1 12 = .ok (.iconst 1, 1) := by decide +kernel
theorem dH_isStep_13 : decode mH_isStep.2.1 13 = .ok (.goto 4, 3) := by decide +kernel
theorem dH_isStep_16 : decode mH_isStep.2.1 16 = .ok (.iconst 0, 1) := by decide +kernel
theorem dH_isStep_17 : decode mH_isStep.2.1 17 = .ok (.ireturn, 1) := by decide +kernel
theorem dH_isOpen_0 : decode mH_isOpen.2.1 0 = .ok (.aload_n 0, 1) := by decide +kernel
theorem dH_isOpen_1 : decode mH_isOpen.2.1 1 = .ok (.iload_n 1, 1) := by decide +kernel
theorem dH_isOpen_2 : decode mH_isOpen.2.1 2 = .ok (.invokevirtual 88, 3) := by decide +kernel
theorem dH_isOpen_5 : decode mH_isOpen.2.1 5 = .ok (.ifCond .eq 16, 3) := by decide +kernel
theorem dH_isOpen_8 : decode mH_isOpen.2.1 8 = .ok (.aload_n 0, 1) := by decide +kernel
theorem dH_isOpen_9 : decode mH_isOpen.2.1 9 = .ok (.getfield 22, 3) := by decide +kernel
theorem dH_isOpen_12 : decode mH_isOpen.2.1 12 = .ok (.iload_n 1, 1) := by decide +kernel
theorem dH_isOpen_13 : decode mH_isOpen.2.1 13 = .ok (.iaload, 1) := by decide +kernel
theorem dH_isOpen_14 : decode mH_isOpen.2.1 14 = .ok (.ifCond .eq 7, 3) := by decide +kernel
theorem dH_isOpen_17 : decode mH_isOpen.2.1 17 = .ok (.iconst 1, 1) := by decide +kernel
theorem dH_isOpen_18 : decode mH_isOpen.2.1 18 = .ok (.goto 4, 3) := by decide +kernel
theorem dH_isOpen_21 : decode mH_isOpen.2.1 21 = .ok (.iconst 0, 1) := by decide +kernel
theorem dH_isOpen_22 : decode mH_isOpen.2.1 22 = .ok (.ireturn, 1) := by decide +kernel
theorem dH_isNailed_0 : decode mH_isNailed.2.1 0 = .ok (.aload_n 0, 1) := by decide +kernel
theorem dH_isNailed_1 : decode mH_isNailed.2.1 1 = .ok (.iload_n 1, 1) := by decide +kernel
theorem dH_isNailed_2 : decode mH_isNailed.2.1 2 = .ok (.invokevirtual 88, 3) := by decide +kernel
theorem dH_isNailed_5 : decode mH_isNailed.2.1 5 = .ok (.ifCond .eq 18, 3) := by decide +kernel
theorem dH_isNailed_8 : decode mH_isNailed.2.1 8 = .ok (.aload_n 0, 1) := by decide +kernel
theorem dH_isNailed_9 : decode mH_isNailed.2.1 9 = .ok (.getfield 76, 3) := by decide +kernel
theorem dH_isNailed_12 : decode mH_isNailed.2.1 12 = .ok (.iload_n 1, 1) := by decide +kernel
theorem dH_isNailed_13 : decode mH_isNailed.2.1 13 = .ok (.ishr, 1) := by decide +kernel
theorem dH_isNailed_14 : decode mH_isNailed.2.1 14 = .ok (.iconst 1, 1) := by decide +kernel
theorem dH_isNailed_15 : decode mH_isNailed.2.1 15 = .ok (.iand, 1) := by decide +kernel
theorem dH_isNailed_16 : decode mH_isNailed.2.1 16 = .ok (.ifCond .eq 7, 3) := by decide +kernel
theorem dH_isNailed_19 : decode mH_isNailed.2.1 19 = .ok (.iconst 1, 1) := by decide +kernel
theorem dH_isNailed_20 : decode mH_isNailed.2.1 20 = .ok (.goto 4, 3) := by decide +kernel
theorem dH_isNailed_23 : decode mH_isNailed.2.1 23 = .ok (.iconst 0, 1) := by decide +kernel
theorem dH_isNailed_24 : decode mH_isNailed.2.1 24 = .ok (.ireturn, 1) := by decide +kernel
theorem dH_kindOf_0 : decode mH_kindOf.2.1 0 = .ok (.aload_n 0, 1) := by decide +kernel
theorem dH_kindOf_1 : decode mH_kindOf.2.1 1 = .ok (.iload_n 1, 1) := by decide +kernel
theorem dH_kindOf_2 : decode mH_kindOf.2.1 2 = .ok (.invokevirtual 88, 3) := by decide +kernel
theorem dH_kindOf_5 : decode mH_kindOf.2.1 5 = .ok (.ifCond .eq 12, 3) := by decide +kernel
theorem dH_kindOf_8 : decode mH_kindOf.2.1 8 = .ok (.aload_n 0, 1) := by decide +kernel
theorem dH_kindOf_9 : decode mH_kindOf.2.1 9 = .ok (.getfield 18, 3) := by decide +kernel
theorem dH_kindOf_12 : decode mH_kindOf.2.1 12 = .ok (.iload_n 1, 1) := by decide +kernel
theorem dH_kindOf_13 : decode mH_kindOf.2.1 13 = .ok (.iaload, 1) := by decide +kernel
theorem dH_kindOf_14 : decode mH_kindOf.2.1 14 = .ok (.goto 4, 3) := by decide +kernel
theorem dH_kindOf_17 : decode mH_kindOf.2.1 17 = .ok (.iconst (-1), 1) := by decide +kernel
theorem dH_kindOf_18 : decode mH_kindOf.2.1 18 = .ok (.ireturn, 1) := by decide +kernel
theorem dH_leadOf_0 : decode mH_leadOf.2.1 0 = .ok (.aload_n 0, 1) := by decide +kernel
theorem dH_leadOf_1 : decode mH_leadOf.2.1 1 = .ok (.iload_n 1, 1) := by decide +kernel
theorem dH_leadOf_2 : decode mH_leadOf.2.1 2 = .ok (.invokevirtual 88, 3) := by decide +kernel
theorem dH_leadOf_5 : decode mH_leadOf.2.1 5 = .ok (.ifCond .eq 12, 3) := by decide +kernel
theorem dH_leadOf_8 : decode mH_leadOf.2.1 8 = .ok (.aload_n 0, 1) := by decide +kernel
theorem dH_leadOf_9 : decode mH_leadOf.2.1 9 = .ok (.getfield 22, 3) := by decide +kernel
theorem dH_leadOf_12 : decode mH_leadOf.2.1 12 = .ok (.iload_n 1, 1) := by decide +kernel
theorem dH_leadOf_13 : decode mH_leadOf.2.1 13 = .ok (.iaload, 1) := by decide +kernel
theorem dH_leadOf_14 : decode mH_leadOf.2.1 14 = .ok (.goto 4, 3) := by decide +kernel
theorem dH_leadOf_17 : decode mH_leadOf.2.1 17 = .ok (.iconst (-1), 1) := by decide +kernel
theorem dH_leadOf_18 : decode mH_leadOf.2.1 18 = .ok (.ireturn, 1) := by decide +kernel
theorem dH_placeOf_0 : decode mH_placeOf.2.1 0 = .ok (.aload_n 0, 1) := by decide +kernel
theorem dH_placeOf_1 : decode mH_placeOf.2.1 1 = .ok (.iload_n 1, 1) := by decide +kernel
theorem dH_placeOf_2 : decode mH_placeOf.2.1 2 = .ok (.invokevirtual 92, 3) := by decide +kernel
theorem dH_placeOf_5 : decode mH_placeOf.2.1 5 = .ok (.ifCond .eq 12, 3) := by decide +kernel
theorem dH_placeOf_8 : decode mH_placeOf.2.1 8 = .ok (.aload_n 0, 1) := by decide +kernel
theorem dH_placeOf_9 : decode mH_placeOf.2.1 9 = .ok (.getfield 25, 3) := by decide +kernel
theorem dH_placeOf_12 : decode mH_placeOf.2.1 12 = .ok (.iload_n 1, 1) := by decide +kernel
theorem dH_placeOf_13 : decode mH_placeOf.2.1 13 = .ok (.iaload, 1) := by decide +kernel
theorem dH_placeOf_14 : decode mH_placeOf.2.1 14 = .ok (.goto 4, 3) := by decide +kernel
theorem dH_placeOf_17 : decode mH_placeOf.2.1 17 = .ok (.iconst (-1), 1) := by decide +kernel
theorem dH_placeOf_18 : decode mH_placeOf.2.1 18 = .ok (.ireturn, 1) := by decide +kernel
theorem dH_everybody_0 : decode mH_everybody.2.1 0 = .ok (.iconst 1, 1) := by decide +kernel
theorem dH_everybody_1 : decode mH_everybody.2.1 1 = .ok (.aload_n 0, 1) := by decide +kernel
theorem dH_everybody_2 : decode mH_everybody.2.1 2 = .ok (.getfield 49, 3) := by decide +kernel
theorem dH_everybody_5 : decode mH_everybody.2.1 5 = .ok (.ishl, 1) := by decide +kernel
theorem dH_everybody_6 : decode mH_everybody.2.1 6 = .ok (.iconst 1, 1) := by decide +kernel
theorem dH_everybody_7 : decode mH_everybody.2.1 7 = .ok (.isub, 1) := by decide +kernel
theorem dH_everybody_8 : decode mH_everybody.2.1 8 = .ok (.ireturn, 1) := by decide +kernel
theorem dH_arrangement_0 : decode mH_arrangement.2.1 0 = .ok (.aload_n 0, 1) := by decide +kernel
theorem dH_arrangement_1 : decode mH_arrangement.2.1 1 = .ok (.getfield 73, 3) := by decide +kernel
theorem dH_arrangement_4 : decode mH_arrangement.2.1 4 = .ok (.ireturn, 1) := by decide +kernel
theorem dH_placingOf_0 : decode mH_placingOf.2.1 0 = .ok (.aload_n 0, 1) := by decide +kernel
theorem dH_placingOf_1 : decode mH_placingOf.2.1 1 = .ok (.getfield 15, 3) := by decide +kernel
theorem dH_placingOf_4 : decode mH_placingOf.2.1 4 = .ok (.ifCond .le 12, 3) := by decide +kernel
theorem dH_placingOf_7 : decode mH_placingOf.2.1 7 = .ok (.iload_n 1, 1) := by decide +kernel
theorem dH_placingOf_8 : decode mH_placingOf.2.1 8 = .ok (.aload_n 0, 1) := by decide +kernel
theorem dH_placingOf_9 : decode mH_placingOf.2.1 9 = .ok (.getfield 15, 3) := by decide +kernel
theorem dH_placingOf_12 : decode mH_placingOf.2.1 12 = .ok (.irem, 1) := by decide +kernel
theorem dH_placingOf_13 : decode mH_placingOf.2.1 13 = .ok (.goto 4, 3) := by decide +kernel
theorem dH_placingOf_16 : decode mH_placingOf.2.1 16 = .ok (.iconst 0, 1) := by decide +kernel
theorem dH_placingOf_17 : decode mH_placingOf.2.1 17 = .ok (.ireturn, 1) := by decide +kernel
theorem dH_peopleAt_0 : decode mH_peopleAt.2.1 0 = .ok (.iconst 0, 1) := by decide +kernel
theorem dH_peopleAt_1 : decode mH_peopleAt.2.1 1 = .ok (.istore_n 2, 1) := by decide +kernel
theorem dH_peopleAt_2 : decode mH_peopleAt.2.1 2 = .ok (.iconst 0, 1) := by decide +kernel
theorem dH_peopleAt_3 : decode mH_peopleAt.2.1 3 = .ok (.istore_n 3, 1) := by decide +kernel
theorem dH_peopleAt_4 : decode mH_peopleAt.2.1 4 = .ok (.iload_n 3, 1) := by decide +kernel
theorem dH_peopleAt_5 : decode mH_peopleAt.2.1 5 = .ok (.aload_n 0, 1) := by decide +kernel
theorem dH_peopleAt_6 : decode mH_peopleAt.2.1 6 = .ok (.getfield 49, 3) := by decide +kernel
theorem dH_peopleAt_9 : decode mH_peopleAt.2.1 9 = .ok (.if_icmp .ge 29, 3) := by decide +kernel
theorem dH_peopleAt_12 : decode mH_peopleAt.2.1 12 = .ok (.iload_n 2, 1) := by decide +kernel
theorem dH_peopleAt_13 : decode mH_peopleAt.2.1 13 = .ok (.aload_n 0, 1) := by decide +kernel
theorem dH_peopleAt_14 : decode mH_peopleAt.2.1 14 = .ok (.getfield 25, 3) := by decide +kernel
theorem dH_peopleAt_17 : decode mH_peopleAt.2.1 17 = .ok (.iload_n 3, 1) := by decide +kernel
theorem dH_peopleAt_18 : decode mH_peopleAt.2.1 18 = .ok (.iaload, 1) := by decide +kernel
theorem dH_peopleAt_19 : decode mH_peopleAt.2.1 19 = .ok (.iload_n 1, 1) := by decide +kernel
theorem dH_peopleAt_20 : decode mH_peopleAt.2.1 20 = .ok (.if_icmp .ne 9, 3) := by decide +kernel
theorem dH_peopleAt_23 : decode mH_peopleAt.2.1 23 = .ok (.iconst 1, 1) := by decide +kernel
theorem dH_peopleAt_24 : decode mH_peopleAt.2.1 24 = .ok (.iload_n 3, 1) := by decide +kernel
theorem dH_peopleAt_25 : decode mH_peopleAt.2.1 25 = .ok (.ishl, 1) := by decide +kernel
theorem dH_peopleAt_26 : decode mH_peopleAt.2.1 26 = .ok (.goto 4, 3) := by decide +kernel
theorem dH_peopleAt_29 : decode mH_peopleAt.2.1 29 = .ok (.iconst 0, 1) := by decide +kernel
theorem dH_peopleAt_30 : decode mH_peopleAt.2.1 30 = .ok (.ior, 1) := by decide +kernel
theorem dH_peopleAt_31 : decode mH_peopleAt.2.1 31 = .ok (.istore_n 2, 1) := by decide +kernel
theorem dH_peopleAt_32 : decode mH_peopleAt.2.1 32 = .ok (.iinc 3 1, 3) := by decide +kernel
theorem dH_peopleAt_35 : decode mH_peopleAt.2.1 35 = .ok (.goto (-31), 3) := by decide +kernel
theorem dH_peopleAt_38 : decode mH_peopleAt.2.1 38 = .ok (.iload_n 2, 1) := by decide +kernel
theorem dH_peopleAt_39 : decode mH_peopleAt.2.1 39 = .ok (.ireturn, 1) := by decide +kernel
theorem dH_openDoors_0 : decode mH_openDoors.2.1 0 = .ok (.iconst 0, 1) := by decide +kernel
theorem dH_openDoors_1 : decode mH_openDoors.2.1 1 = .ok (.istore_n 1, 1) := by decide +kernel
theorem dH_openDoors_2 : decode mH_openDoors.2.1 2 = .ok (.iconst 0, 1) := by decide +kernel
theorem dH_openDoors_3 : decode mH_openDoors.2.1 3 = .ok (.istore_n 2, 1) := by decide +kernel
theorem dH_openDoors_4 : decode mH_openDoors.2.1 4 = .ok (.iload_n 2, 1) := by decide +kernel
theorem dH_openDoors_5 : decode mH_openDoors.2.1 5 = .ok (.aload_n 0, 1) := by decide +kernel
theorem dH_openDoors_6 : decode mH_openDoors.2.1 6 = .ok (.getfield 45, 3) := by decide +kernel
theorem dH_openDoors_9 : decode mH_openDoors.2.1 9 = .ok (.if_icmp .ge 28, 3) := by decide +kernel
theorem dH_openDoors_12 : decode mH_openDoors.2.1 12 = .ok (.iload_n 1, 1) := by decide +kernel
theorem dH_openDoors_13 : decode mH_openDoors.2.1 13 = .ok (.aload_n 0, 1) := by decide +kernel
theorem dH_openDoors_14 : decode mH_openDoors.2.1 14 = .ok (.getfield 22, 3) := by decide +kernel
theorem dH_openDoors_17 : decode mH_openDoors.2.1 17 = .ok (.iload_n 2, 1) := by decide +kernel
theorem dH_openDoors_18 : decode mH_openDoors.2.1 18 = .ok (.iaload, 1) := by decide +kernel
theorem dH_openDoors_19 : decode mH_openDoors.2.1 19 = .ok (.ifCond .eq 9, 3) := by decide +kernel
theorem dH_openDoors_22 : decode mH_openDoors.2.1 22 = .ok (.iconst 1, 1) := by decide +kernel
theorem dH_openDoors_23 : decode mH_openDoors.2.1 23 = .ok (.iload_n 2, 1) := by decide +kernel
theorem dH_openDoors_24 : decode mH_openDoors.2.1 24 = .ok (.ishl, 1) := by decide +kernel
theorem dH_openDoors_25 : decode mH_openDoors.2.1 25 = .ok (.goto 4, 3) := by decide +kernel
theorem dH_openDoors_28 : decode mH_openDoors.2.1 28 = .ok (.iconst 0, 1) := by decide +kernel
theorem dH_openDoors_29 : decode mH_openDoors.2.1 29 = .ok (.ior, 1) := by decide +kernel
theorem dH_openDoors_30 : decode mH_openDoors.2.1 30 = .ok (.istore_n 1, 1) := by decide +kernel
theorem dH_openDoors_31 : decode mH_openDoors.2.1 31 = .ok (.iinc 2 1, 3) := by decide +kernel
theorem dH_openDoors_34 : decode mH_openDoors.2.1 34 = .ok (.goto (-30), 3) := by decide +kernel
theorem dH_openDoors_37 : decode mH_openDoors.2.1 37 = .ok (.iload_n 1, 1) := by decide +kernel
theorem dH_openDoors_38 : decode mH_openDoors.2.1 38 = .ok (.ireturn, 1) := by decide +kernel
theorem dH_roomsSeen_0 : decode mH_roomsSeen.2.1 0 = .ok (.iconst 0, 1) := by decide +kernel
theorem dH_roomsSeen_1 : decode mH_roomsSeen.2.1 1 = .ok (.istore_n 1, 1) := by decide +kernel
theorem dH_roomsSeen_2 : decode mH_roomsSeen.2.1 2 = .ok (.iconst 0, 1) := by decide +kernel
theorem dH_roomsSeen_3 : decode mH_roomsSeen.2.1 3 = .ok (.istore_n 2, 1) := by decide +kernel
theorem dH_roomsSeen_4 : decode mH_roomsSeen.2.1 4 = .ok (.iload_n 2, 1) := by decide +kernel
theorem dH_roomsSeen_5 : decode mH_roomsSeen.2.1 5 = .ok (.aload_n 0, 1) := by decide +kernel
theorem dH_roomsSeen_6 : decode mH_roomsSeen.2.1 6 = .ok (.getfield 45, 3) := by decide +kernel
theorem dH_roomsSeen_9 : decode mH_roomsSeen.2.1 9 = .ok (.if_icmp .ge 35, 3) := by decide +kernel
theorem dH_roomsSeen_12 : decode mH_roomsSeen.2.1 12 = .ok (.iload_n 1, 1) := by decide +kernel
theorem dH_roomsSeen_13 : decode mH_roomsSeen.2.1 13 = .ok (.aload_n 0, 1) := by decide +kernel
theorem dH_roomsSeen_14 : decode mH_roomsSeen.2.1 14 = .ok (.getfield 22, 3) := by decide +kernel
theorem dH_roomsSeen_17 : decode mH_roomsSeen.2.1 17 = .ok (.iload_n 2, 1) := by decide +kernel
theorem dH_roomsSeen_18 : decode mH_roomsSeen.2.1 18 = .ok (.iaload, 1) := by decide +kernel
theorem dH_roomsSeen_19 : decode mH_roomsSeen.2.1 19 = .ok (.ifCond .eq 16, 3) := by decide +kernel
theorem dH_roomsSeen_22 : decode mH_roomsSeen.2.1 22 = .ok (.iconst 1, 1) := by decide +kernel
theorem dH_roomsSeen_23 : decode mH_roomsSeen.2.1 23 = .ok (.aload_n 0, 1) := by decide +kernel
theorem dH_roomsSeen_24 : decode mH_roomsSeen.2.1 24 = .ok (.getfield 22, 3) := by decide +kernel
theorem dH_roomsSeen_27 : decode mH_roomsSeen.2.1 27 = .ok (.iload_n 2, 1) := by decide +kernel
theorem dH_roomsSeen_28 : decode mH_roomsSeen.2.1 28 = .ok (.iaload, 1) := by decide +kernel
theorem dH_roomsSeen_29 : decode mH_roomsSeen.2.1 29 = .ok (.iconst 1, 1) := by decide +kernel
theorem dH_roomsSeen_30 : decode mH_roomsSeen.2.1 30 = .ok (.isub, 1) := by decide +kernel
theorem dH_roomsSeen_31 : decode mH_roomsSeen.2.1 31 = .ok (.ishl, 1) := by decide +kernel
theorem dH_roomsSeen_32 : decode mH_roomsSeen.2.1 32 = .ok (.goto 4, 3) := by decide +kernel
theorem dH_roomsSeen_35 : decode mH_roomsSeen.2.1 35 = .ok (.iconst 0, 1) := by decide +kernel
theorem dH_roomsSeen_36 : decode mH_roomsSeen.2.1 36 = .ok (.ior, 1) := by decide +kernel
theorem dH_roomsSeen_37 : decode mH_roomsSeen.2.1 37 = .ok (.istore_n 1, 1) := by decide +kernel
theorem dH_roomsSeen_38 : decode mH_roomsSeen.2.1 38 = .ok (.iinc 2 1, 3) := by decide +kernel
theorem dH_roomsSeen_41 : decode mH_roomsSeen.2.1 41 = .ok (.goto (-37), 3) := by decide +kernel
theorem dH_roomsSeen_44 : decode mH_roomsSeen.2.1 44 = .ok (.iload_n 1, 1) := by decide +kernel
theorem dH_roomsSeen_45 : decode mH_roomsSeen.2.1 45 = .ok (.ireturn, 1) := by decide +kernel
theorem dH_peopleShutIn_0 : decode mH_peopleShutIn.2.1 0 = .ok (.aload_n 0, 1) := by decide +kernel
theorem dH_peopleShutIn_1 : decode mH_peopleShutIn.2.1 1 = .ok (.invokevirtual 95, 3) := by decide +kernel
theorem dH_peopleShutIn_4 : decode mH_peopleShutIn.2.1 4 = .ok (.istore_n 1, 1) := by decide +kernel
theorem dH_peopleShutIn_5 : decode mH_peopleShutIn.2.1 5 = .ok (.iconst 0, 1) := by decide +kernel
theorem dH_peopleShutIn_6 : decode mH_peopleShutIn.2.1 6 = .ok (.istore_n 2, 1) := by decide +kernel
theorem dH_peopleShutIn_7 : decode mH_peopleShutIn.2.1 7 = .ok (.iconst 0, 1) := by decide +kernel
theorem dH_peopleShutIn_8 : decode mH_peopleShutIn.2.1 8 = .ok (.istore_n 3, 1) := by decide +kernel
theorem dH_peopleShutIn_9 : decode mH_peopleShutIn.2.1 9 = .ok (.iload_n 3, 1) := by decide +kernel
theorem dH_peopleShutIn_10 : decode mH_peopleShutIn.2.1 10 = .ok (.aload_n 0, 1) := by decide +kernel
theorem dH_peopleShutIn_11 : decode mH_peopleShutIn.2.1 11 = .ok (.getfield 49, 3) := by decide +kernel
theorem dH_peopleShutIn_14 : decode mH_peopleShutIn.2.1 14 = .ok (.if_icmp .ge 43, 3) := by decide +kernel
theorem dH_peopleShutIn_17 : decode mH_peopleShutIn.2.1 17 = .ok (.iload_n 2, 1) := by decide +kernel
theorem dH_peopleShutIn_18 : decode mH_peopleShutIn.2.1 18 = .ok (.aload_n 0, 1) := by decide +kernel
theorem dH_peopleShutIn_19 : decode mH_peopleShutIn.2.1 19 = .ok (.getfield 25, 3) := by decide +kernel
theorem dH_peopleShutIn_22 : decode mH_peopleShutIn.2.1 22 = .ok (.iload_n 3, 1) := by decide +kernel
theorem dH_peopleShutIn_23 : decode mH_peopleShutIn.2.1 23 = .ok (.iaload, 1) := by decide +kernel
theorem dH_peopleShutIn_24 : decode mH_peopleShutIn.2.1 24 = .ok (.ifCond .eq 24, 3) := by decide +kernel
theorem dH_peopleShutIn_27 : decode mH_peopleShutIn.2.1 27 = .ok (.iload_n 1, 1) := by decide +kernel
theorem dH_peopleShutIn_28 : decode mH_peopleShutIn.2.1 28 = .ok (.aload_n 0, 1) := by decide +kernel
theorem dH_peopleShutIn_29 : decode mH_peopleShutIn.2.1 29 = .ok (.getfield 25, 3) := by decide +kernel
theorem dH_peopleShutIn_32 : decode mH_peopleShutIn.2.1 32 = .ok (.iload_n 3, 1) := by decide +kernel
theorem dH_peopleShutIn_33 : decode mH_peopleShutIn.2.1 33 = .ok (.iaload, 1) := by decide +kernel
theorem dH_peopleShutIn_34 : decode mH_peopleShutIn.2.1 34 = .ok (.iconst 1, 1) := by decide +kernel
theorem dH_peopleShutIn_35 : decode mH_peopleShutIn.2.1 35 = .ok (.isub, 1) := by decide +kernel
theorem dH_peopleShutIn_36 : decode mH_peopleShutIn.2.1 36 = .ok (.ishr, 1) := by decide +kernel
theorem dH_peopleShutIn_37 : decode mH_peopleShutIn.2.1 37 = .ok (.iconst 1, 1) := by decide +kernel
theorem dH_peopleShutIn_38 : decode mH_peopleShutIn.2.1 38 = .ok (.iand, 1) := by decide +kernel
theorem dH_peopleShutIn_39 : decode mH_peopleShutIn.2.1 39 = .ok (.ifCond .ne 9, 3) := by decide +kernel
theorem dH_peopleShutIn_42 : decode mH_peopleShutIn.2.1 42 = .ok (.iconst 1, 1) := by decide +kernel
theorem dH_peopleShutIn_43 : decode mH_peopleShutIn.2.1 43 = .ok (.iload_n 3, 1) := by decide +kernel
theorem dH_peopleShutIn_44 : decode mH_peopleShutIn.2.1 44 = .ok (.ishl, 1) := by decide +kernel
theorem dH_peopleShutIn_45 : decode mH_peopleShutIn.2.1 45 = .ok (.goto 4, 3) := by decide +kernel
theorem dH_peopleShutIn_48 : decode mH_peopleShutIn.2.1 48 = .ok (.iconst 0, 1) := by decide +kernel
theorem dH_peopleShutIn_49 : decode mH_peopleShutIn.2.1 49 = .ok (.ior, 1) := by decide +kernel
theorem dH_peopleShutIn_50 : decode mH_peopleShutIn.2.1 50 = .ok (.istore_n 2, 1) := by decide +kernel
theorem dH_peopleShutIn_51 : decode mH_peopleShutIn.2.1 51 = .ok (.iinc 3 1, 3) := by decide +kernel
theorem dH_peopleShutIn_54 : decode mH_peopleShutIn.2.1 54 = .ok (.goto (-45), 3) := by decide +kernel
theorem dH_peopleShutIn_57 : decode mH_peopleShutIn.2.1 57 = .ok (.iload_n 2, 1) := by decide +kernel
theorem dH_peopleShutIn_58 : decode mH_peopleShutIn.2.1 58 = .ok (.ireturn, 1) := by decide +kernel
theorem dH_placingsFor_0 : decode mH_placingsFor.2.1 0 = .ok (.iconst 0, 1) := by decide +kernel
theorem dH_placingsFor_1 : decode mH_placingsFor.2.1 1 = .ok (.istore_n 3, 1) := by decide +kernel
theorem dH_placingsFor_2 : decode mH_placingsFor.2.1 2 = .ok (.iconst 0, 1) := by decide +kernel
theorem dH_placingsFor_3 : decode mH_placingsFor.2.1 3 = .ok (.istore 4, 2) := by decide +kernel
theorem dH_placingsFor_5 : decode mH_placingsFor.2.1 5 = .ok (.iload 4, 2) := by decide +kernel
theorem dH_placingsFor_7 : decode mH_placingsFor.2.1 7 = .ok (.aload_n 0, 1) := by decide +kernel
theorem dH_placingsFor_8 : decode mH_placingsFor.2.1 8 = .ok (.getfield 15, 3) := by decide +kernel
theorem dH_placingsFor_11 : decode mH_placingsFor.2.1 11 = .ok (.if_icmp .ge 101, 3) := by decide +kernel
theorem dH_placingsFor_14 : decode mH_placingsFor.2.1 14 = .ok (.aload_n 0, 1) := by decide +kernel
theorem dH_placingsFor_15 : decode mH_placingsFor.2.1 15 = .ok (.getfield 11, 3) := by decide +kernel
theorem dH_placingsFor_18 : decode mH_placingsFor.2.1 18 = .ok (.ifCond .le 94, 3) := by decide +kernel
theorem dH_placingsFor_21 : decode mH_placingsFor.2.1 21 = .ok (.aload_n 0, 1) := by decide +kernel
theorem dH_placingsFor_22 : decode mH_placingsFor.2.1 22 = .ok (.getfield 49, 3) := by decide +kernel
theorem dH_placingsFor_25 : decode mH_placingsFor.2.1 25 = .ok (.iconst 1, 1) := by decide +kernel
theorem dH_placingsFor_26 : decode mH_placingsFor.2.1 26 = .ok (.if_icmp .lt 20, 3) := by decide +kernel
theorem dH_placingsFor_29 : decode mH_placingsFor.2.1 29 = .ok (.iload_n 1, 1) := by decide +kernel
theorem dH_placingsFor_30 : decode mH_placingsFor.2.1 30 = .ok (.bipush (-2), 2) := by decide +kernel
theorem dH_placingsFor_32 : decode mH_placingsFor.2.1 32 = .ok (.if_icmp .eq 14, 3) := by decide +kernel
theorem dH_placingsFor_35 : decode mH_placingsFor.2.1 35 = .ok (.iload 4, 2) := by decide +kernel
theorem dH_placingsFor_37 : decode mH_placingsFor.2.1 37 = .ok (.aload_n 0, 1) := by decide +kernel
theorem dH_placingsFor_38 : decode mH_placingsFor.2.1 38 = .ok (.getfield 11, 3) := by decide +kernel
theorem dH_placingsFor_41 : decode mH_placingsFor.2.1 41 = .ok (.irem, 1) := by decide +kernel
theorem dH_placingsFor_42 : decode mH_placingsFor.2.1 42 = .ok (.iload_n 1, 1) := by decide +kernel
theorem dH_placingsFor_43 : decode mH_placingsFor.2.1 43 = .ok (.if_icmp .ne 7, 3) := by decide +kernel
theorem dH_placingsFor_46 : decode mH_placingsFor.2.1 46 = .ok (.iconst 1, 1) := by decide +kernel
theorem dH_placingsFor_47 : decode mH_placingsFor.2.1 47 = .ok (.goto 4, 3) := by decide +kernel
theorem dH_placingsFor_50 : decode mH_placingsFor.2.1 50 = .ok (.iconst 0, 1) := by decide +kernel
theorem dH_placingsFor_51 : decode mH_placingsFor.2.1 51 = .ok (.istore 5, 2) := by decide +kernel
theorem dH_placingsFor_53 : decode mH_placingsFor.2.1 53 = .ok (.aload_n 0, 1) := by decide +kernel
theorem dH_placingsFor_54 : decode mH_placingsFor.2.1 54 = .ok (.getfield 49, 3) := by decide +kernel
theorem dH_placingsFor_57 : decode mH_placingsFor.2.1 57 = .ok (.iconst 2, 1) := by decide +kernel
theorem dH_placingsFor_58 : decode mH_placingsFor.2.1 58 = .ok (.if_icmp .lt 20, 3) := by decide +kernel
theorem dH_placingsFor_61 : decode mH_placingsFor.2.1 61 = .ok (.iload_n 2, 1) := by decide +kernel
theorem dH_placingsFor_62 : decode mH_placingsFor.2.1 62 = .ok (.bipush (-2), 2) := by decide +kernel
theorem dH_placingsFor_64 : decode mH_placingsFor.2.1 64 = .ok (.if_icmp .eq 14, 3) := by decide +kernel
theorem dH_placingsFor_67 : decode mH_placingsFor.2.1 67 = .ok (.iload 4, 2) := by decide +kernel
theorem dH_placingsFor_69 : decode mH_placingsFor.2.1 69 = .ok (.aload_n 0, 1) := by decide +kernel
theorem dH_placingsFor_70 : decode mH_placingsFor.2.1 70 = .ok (.getfield 11, 3) := by decide +kernel
theorem dH_placingsFor_73 : decode mH_placingsFor.2.1 73 = .ok (.idiv, 1) := by decide +kernel
theorem dH_placingsFor_74 : decode mH_placingsFor.2.1 74 = .ok (.iload_n 2, 1) := by decide +kernel
theorem dH_placingsFor_75 : decode mH_placingsFor.2.1 75 = .ok (.if_icmp .ne 7, 3) := by decide +kernel
theorem dH_placingsFor_78 : decode mH_placingsFor.2.1 78 = .ok (.iconst 1, 1) := by decide +kernel
theorem dH_placingsFor_79 : decode mH_placingsFor.2.1 79 = .ok (.goto 4, 3) := by decide +kernel
theorem dH_placingsFor_82 : decode mH_placingsFor.2.1 82 = .ok (.iconst 0, 1) := by decide +kernel
theorem dH_placingsFor_83 : decode mH_placingsFor.2.1 83 = .ok (.istore 6, 2) := by decide +kernel
theorem dH_placingsFor_85 : decode mH_placingsFor.2.1 85 = .ok (.iload_n 3, 1) := by decide +kernel
theorem dH_placingsFor_86 : decode mH_placingsFor.2.1 86 = .ok (.iload 5, 2) := by decide +kernel
theorem dH_placingsFor_88 : decode mH_placingsFor.2.1 88 = .ok (.ifCond .eq 15, 3) := by decide +kernel
theorem dH_placingsFor_91 : decode mH_placingsFor.2.1 91 = .ok (.iload 6, 2) := by decide +kernel
theorem dH_placingsFor_93 : decode mH_placingsFor.2.1 93 = .ok (.ifCond .eq 10, 3) := by decide +kernel
theorem dH_placingsFor_96 : decode mH_placingsFor.2.1 96 = .ok (.iconst 1, 1) := by decide +kernel
theorem dH_placingsFor_97 : decode mH_placingsFor.2.1 97 = .ok (.iload 4, 2) := by decide +kernel
theorem dH_placingsFor_99 : decode mH_placingsFor.2.1 99 = .ok (.ishl, 1) := by decide +kernel
theorem dH_placingsFor_100 : decode mH_placingsFor.2.1 100 = .ok (.goto 4, 3) := by decide +kernel
theorem dH_placingsFor_103 : decode mH_placingsFor.2.1 103 = .ok (.iconst 0, 1) := by decide +kernel
theorem dH_placingsFor_104 : decode mH_placingsFor.2.1 104 = .ok (.ior, 1) := by decide +kernel
theorem dH_placingsFor_105 : decode mH_placingsFor.2.1 105 = .ok (.istore_n 3, 1) := by decide +kernel
theorem dH_placingsFor_106 : decode mH_placingsFor.2.1 106 = .ok (.iinc 4 1, 3) := by decide +kernel
theorem dH_placingsFor_109 : decode mH_placingsFor.2.1 109 = .ok (.goto (-104), 3) := by decide +kernel
theorem dH_placingsFor_112 : decode mH_placingsFor.2.1 112 = .ok (.iload_n 3, 1) := by decide +kernel
theorem dH_placingsFor_113 : decode mH_placingsFor.2.1 113 = .ok (.ireturn, 1) := by decide +kernel
theorem dH_placingsWith_0 : decode mH_placingsWith.2.1 0 = .ok (.aload_n 0, 1) := by decide +kernel
theorem dH_placingsWith_1 : decode mH_placingsWith.2.1 1 = .ok (.iload_n 1, 1) := by decide +kernel
theorem dH_placingsWith_2 : decode mH_placingsWith.2.1 2 = .ok (.ifCond .ne 7, 3) := by decide +kernel
theorem dH_placingsWith_5 : decode mH_placingsWith.2.1 5 = .ok (.iload_n 2, 1) := by decide +kernel
theorem dH_placingsWith_6 : decode mH_placingsWith.2.1 6 = .ok (.goto 5, 3) := by decide +kernel
theorem dH_placingsWith_9 : decode mH_placingsWith.2.1 9 = .ok (.bipush (-2), 2) := by decide +kernel
theorem dH_placingsWith_11 : decode mH_placingsWith.2.1 11 = .ok (.iload_n 1, 1) := by decide +kernel
theorem dH_placingsWith_12 : decode mH_placingsWith.2.1 12 = .ok (.iconst 1, 1) := by decide +kernel
theorem dH_placingsWith_13 : decode mH_placingsWith.2.1 13 = .ok (.if_icmp .ne 7, 3) := by decide +kernel
theorem dH_placingsWith_16 : decode mH_placingsWith.2.1 16 = .ok (.iload_n 2, 1) := by decide +kernel
theorem dH_placingsWith_17 : decode mH_placingsWith.2.1 17 = .ok (.goto 5, 3) := by decide +kernel
theorem dH_placingsWith_20 : decode mH_placingsWith.2.1 20 = .ok (.bipush (-2), 2) := by decide +kernel
theorem dH_placingsWith_22 : decode mH_placingsWith.2.1 22 = .ok (.invokevirtual 99, 3) := by decide +kernel
theorem dH_placingsWith_25 : decode mH_placingsWith.2.1 25 = .ok (.ireturn, 1) := by decide +kernel
theorem dH_countSteps_0 : decode mH_countSteps.2.1 0 = .ok (.iconst 0, 1) := by decide +kernel
theorem dH_countSteps_1 : decode mH_countSteps.2.1 1 = .ok (.istore_n 1, 1) := by decide +kernel
theorem dH_countSteps_2 : decode mH_countSteps.2.1 2 = .ok (.iconst 0, 1) := by decide +kernel
theorem dH_countSteps_3 : decode mH_countSteps.2.1 3 = .ok (.istore_n 2, 1) := by decide +kernel
theorem dH_countSteps_4 : decode mH_countSteps.2.1 4 = .ok (.iload_n 2, 1) := by decide +kernel
theorem dH_countSteps_5 : decode mH_countSteps.2.1 5 = .ok (.aload_n 0, 1) := by decide +kernel
theorem dH_countSteps_6 : decode mH_countSteps.2.1 6 = .ok (.getfield 58, 3) := by decide +kernel
theorem dH_countSteps_9 : decode mH_countSteps.2.1 9 = .ok (.if_icmp .ge 29, 3) := by decide +kernel
theorem dH_countSteps_12 : decode mH_countSteps.2.1 12 = .ok (.iload_n 1, 1) := by decide +kernel
theorem dH_countSteps_13 : decode mH_countSteps.2.1 13 = .ok (.aload_n 0, 1) := by decide +kernel
theorem dH_countSteps_14 : decode mH_countSteps.2.1 14 = .ok (.iload_n 2, 1) := by decide +kernel
theorem dH_countSteps_15 : decode mH_countSteps.2.1 15 = .ok (.aload_n 0, 1) := by decide +kernel
theorem dH_countSteps_16 : decode mH_countSteps.2.1 16 = .ok (.invokevirtual 102, 3) := by decide +kernel
theorem dH_countSteps_19 : decode mH_countSteps.2.1 19 = .ok (.invokevirtual 105, 3) := by decide +kernel
theorem dH_countSteps_22 : decode mH_countSteps.2.1 22 = .ok (.ifCond .eq 7, 3) := by decide +kernel
theorem dH_countSteps_25 : decode mH_countSteps.2.1 25 = .ok (.iconst 1, 1) := by decide +kernel
theorem dH_countSteps_26 : decode mH_countSteps.2.1 26 = .ok (.goto 4, 3) := by decide +kernel
theorem dH_countSteps_29 : decode mH_countSteps.2.1 29 = .ok (.iconst 0, 1) := by decide +kernel
theorem dH_countSteps_30 : decode mH_countSteps.2.1 30 = .ok (.iadd, 1) := by decide +kernel
theorem dH_countSteps_31 : decode mH_countSteps.2.1 31 = .ok (.istore_n 1, 1) := by decide +kernel
theorem dH_countSteps_32 : decode mH_countSteps.2.1 32 = .ok (.iinc 2 1, 3) := by decide +kernel
theorem dH_countSteps_35 : decode mH_countSteps.2.1 35 = .ok (.goto (-31), 3) := by decide +kernel
theorem dH_countSteps_38 : decode mH_countSteps.2.1 38 = .ok (.iload_n 1, 1) := by decide +kernel
theorem dH_countSteps_39 : decode mH_countSteps.2.1 39 = .ok (.ireturn, 1) := by decide +kernel
theorem dH_may_0 : decode mH_may.2.1 0 = .ok (.aload_n 0, 1) := by decide +kernel
theorem dH_may_1 : decode mH_may.2.1 1 = .ok (.iload_n 1, 1) := by decide +kernel
theorem dH_may_2 : decode mH_may.2.1 2 = .ok (.invokevirtual 109, 3) := by decide +kernel
theorem dH_may_5 : decode mH_may.2.1 5 = .ok (.ifCond .eq 10, 3) := by decide +kernel
theorem dH_may_8 : decode mH_may.2.1 8 = .ok (.aload_n 0, 1) := by decide +kernel
theorem dH_may_9 : decode mH_may.2.1 9 = .ok (.getfield 45, 3) := by decide +kernel
theorem dH_may_12 : decode mH_may.2.1 12 = .ok (.ifCond .gt 5, 3) := by decide +kernel
theorem dH_may_15 : decode mH_may.2.1 15 = .ok (.iconst 0, 1) := by decide +kernel
theorem dH_may_16 : decode mH_may.2.1 16 = .ok (.ireturn, 1) := by decide +kernel
theorem dH_may_17 : decode mH_may.2.1 17 = .ok (.iload_n 1, 1) := by decide +kernel
theorem dH_may_18 : decode mH_may.2.1 18 = .ok (.aload_n 0, 1) := by decide +kernel
theorem dH_may_19 : decode mH_may.2.1 19 = .ok (.getfield 45, 3) := by decide +kernel
theorem dH_may_22 : decode mH_may.2.1 22 = .ok (.idiv, 1) := by decide +kernel
theorem dH_may_23 : decode mH_may.2.1 23 = .ok (.istore_n 3, 1) := by decide +kernel
theorem dH_may_24 : decode mH_may.2.1 24 = .ok (.iload_n 1, 1) := by decide +kernel
theorem dH_may_25 : decode mH_may.2.1 25 = .ok (.aload_n 0, 1) := by decide +kernel
theorem dH_may_26 : decode mH_may.2.1 26 = .ok (.getfield 45, 3) := by decide +kernel
theorem dH_may_29 : decode mH_may.2.1 29 = .ok (.irem, 1) := by decide +kernel
theorem dH_may_30 : decode mH_may.2.1 30 = .ok (.istore 4, 2) := by decide +kernel
theorem dH_may_32 : decode mH_may.2.1 32 = .ok (.iload_n 3, 1) := by decide +kernel
theorem dH_may_33 : decode mH_may.2.1 33 = .ok (.ifCond .ne 11, 3) := by decide +kernel
theorem dH_may_36 : decode mH_may.2.1 36 = .ok (.aload_n 0, 1) := by decide +kernel
theorem dH_may_37 : decode mH_may.2.1 37 = .ok (.iload 4, 2) := by decide +kernel
theorem dH_may_39 : decode mH_may.2.1 39 = .ok (.iload_n 2, 1) := by decide +kernel
theorem dH_may_40 : decode mH_may.2.1 40 = .ok (.invokevirtual 112, 3) := by decide +kernel
theorem dH_may_43 : decode mH_may.2.1 43 = .ok (.ireturn, 1) := by decide +kernel
theorem dH_may_44 : decode mH_may.2.1 44 = .ok (.iload_n 3, 1) := by decide +kernel
theorem dH_may_45 : decode mH_may.2.1 45 = .ok (.iconst 1, 1) := by decide +kernel
theorem dH_may_46 : decode mH_may.2.1 46 = .ok (.if_icmp .ne 11, 3) := by decide +kernel
theorem dH_may_49 : decode mH_may.2.1 49 = .ok (.aload_n 0, 1) := by decide +kernel
theorem dH_may_50 : decode mH_may.2.1 50 = .ok (.iload 4, 2) := by decide +kernel
theorem dH_may_52 : decode mH_may.2.1 52 = .ok (.iload_n 2, 1) := by decide +kernel
theorem dH_may_53 : decode mH_may.2.1 53 = .ok (.invokevirtual 115, 3) := by decide +kernel
theorem dH_may_56 : decode mH_may.2.1 56 = .ok (.ireturn, 1) := by decide +kernel
theorem dH_may_57 : decode mH_may.2.1 57 = .ok (.iload_n 3, 1) := by decide +kernel
theorem dH_may_58 : decode mH_may.2.1 58 = .ok (.iconst 2, 1) := by decide +kernel
theorem dH_may_59 : decode mH_may.2.1 59 = .ok (.isub, 1) := by decide +kernel
theorem dH_may_60 : decode mH_may.2.1 60 = .ok (.istore 5, 2) := by decide +kernel
theorem dH_may_62 : decode mH_may.2.1 62 = .ok (.iload_n 2, 1) := by decide +kernel
theorem dH_may_63 : decode mH_may.2.1 63 = .ok (.iload 5, 2) := by decide +kernel
theorem dH_may_65 : decode mH_may.2.1 65 = .ok (.ishr, 1) := by decide +kernel
theorem dH_may_66 : decode mH_may.2.1 66 = .ok (.iconst 1, 1) := by decide +kernel
theorem dH_may_67 : decode mH_may.2.1 67 = .ok (.iand, 1) := by decide +kernel
theorem dH_may_68 : decode mH_may.2.1 68 = .ok (.ifCond .eq 18, 3) := by decide +kernel
theorem dH_may_71 : decode mH_may.2.1 71 = .ok (.aload_n 0, 1) := by decide +kernel
theorem dH_may_72 : decode mH_may.2.1 72 = .ok (.iload 5, 2) := by decide +kernel
theorem dH_may_74 : decode mH_may.2.1 74 = .ok (.iload 4, 2) := by decide +kernel
theorem dH_may_76 : decode mH_may.2.1 76 = .ok (.invokevirtual 118, 3) := by decide +kernel
theorem dH_may_79 : decode mH_may.2.1 79 = .ok (.ifCond .eq 7, 3) := by decide +kernel
theorem dH_may_82 : decode mH_may.2.1 82 = .ok (.iconst 1, 1) := by decide +kernel
theorem dH_may_83 : decode mH_may.2.1 83 = .ok (.goto 4, 3) := by decide +kernel
theorem dH_may_86 : decode mH_may.2.1 86 = .ok (.iconst 0, 1) := by decide +kernel
theorem dH_may_87 : decode mH_may.2.1 87 = .ok (.ireturn, 1) := by decide +kernel
theorem dH_mayOpen_0 : decode mH_mayOpen.2.1 0 = .ok (.aload_n 0, 1) := by decide +kernel
theorem dH_mayOpen_1 : decode mH_mayOpen.2.1 1 = .ok (.getfield 84, 3) := by decide +kernel
theorem dH_mayOpen_4 : decode mH_mayOpen.2.1 4 = .ok (.iload_n 2, 1) := by decide +kernel
theorem dH_mayOpen_5 : decode mH_mayOpen.2.1 5 = .ok (.iand, 1) := by decide +kernel
theorem dH_mayOpen_6 : decode mH_mayOpen.2.1 6 = .ok (.istore_n 3, 1) := by decide +kernel
theorem dH_mayOpen_7 : decode mH_mayOpen.2.1 7 = .ok (.iload_n 1, 1) := by decide +kernel
theorem dH_mayOpen_8 : decode mH_mayOpen.2.1 8 = .ok (.ifCond .lt 35, 3) := by decide +kernel
theorem dH_mayOpen_11 : decode mH_mayOpen.2.1 11 = .ok (.iload_n 1, 1) := by decide +kernel
theorem dH_mayOpen_12 : decode mH_mayOpen.2.1 12 = .ok (.aload_n 0, 1) := by decide +kernel
theorem dH_mayOpen_13 : decode mH_mayOpen.2.1 13 = .ok (.getfield 45, 3) := by decide +kernel
theorem dH_mayOpen_16 : decode mH_mayOpen.2.1 16 = .ok (.if_icmp .ge 27, 3) := by decide +kernel
theorem dH_mayOpen_19 : decode mH_mayOpen.2.1 19 = .ok (.aload_n 0, 1) := by decide +kernel
theorem dH_mayOpen_20 : decode mH_mayOpen.2.1 20 = .ok (.getfield 22, 3) := by decide +kernel
theorem dH_mayOpen_23 : decode mH_mayOpen.2.1 23 = .ok (.iload_n 1, 1) := by decide +kernel
theorem dH_mayOpen_24 : decode mH_mayOpen.2.1 24 = .ok (.iaload, 1) := by decide +kernel
theorem dH_mayOpen_25 : decode mH_mayOpen.2.1 25 = .ok (.ifCond .ne 18, 3) := by decide +kernel
theorem dH_mayOpen_28 : decode mH_mayOpen.2.1 28 = .ok (.iload_n 3, 1) := by decide +kernel
theorem dH_mayOpen_29 : decode mH_mayOpen.2.1 29 = .ok (.ifCond .eq 14, 3) := by decide +kernel
theorem dH_mayOpen_32 : decode mH_mayOpen.2.1 32 = .ok (.aload_n 0, 1) := by decide +kernel
theorem dH_mayOpen_33 : decode mH_mayOpen.2.1 33 = .ok (.getfield 76, 3) := by decide +kernel
theorem dH_mayOpen_36 : decode mH_mayOpen.2.1 36 = .ok (.iload_n 1, 1) := by decide +kernel
theorem dH_mayOpen_37 : decode mH_mayOpen.2.1 37 = .ok (.ishr, 1) := by decide +kernel
theorem dH_mayOpen_38 : decode mH_mayOpen.2.1 38 = .ok (.iconst 1, 1) := by decide +kernel
theorem dH_mayOpen_39 : decode mH_mayOpen.2.1 39 = .ok (.iand, 1) := by decide +kernel
theorem dH_mayOpen_40 : decode mH_mayOpen.2.1 40 = .ok (.ifCond .eq 5, 3) := by decide +kernel
theorem dH_mayOpen_43 : decode mH_mayOpen.2.1 43 = .ok (.iconst 0, 1) := by decide +kernel
theorem dH_mayOpen_44 : decode mH_mayOpen.2.1 44 = .ok (.ireturn, 1) := by decide +kernel
theorem dH_mayOpen_45 : decode mH_mayOpen.2.1 45 = .ok (.aload_n 0, 1) := by decide +kernel
theorem dH_mayOpen_46 : decode mH_mayOpen.2.1 46 = .ok (.getfield 18, 3) := by decide +kernel
theorem dH_mayOpen_49 : decode mH_mayOpen.2.1 49 = .ok (.iload_n 1, 1) := by decide +kernel
theorem dH_mayOpen_50 : decode mH_mayOpen.2.1 50 = .ok (.iaload, 1) := by decide +kernel
theorem dH_mayOpen_51 : decode mH_mayOpen.2.1 51 = .ok (.iconst 2, 1) := by decide +kernel
theorem dH_mayOpen_52 : decode mH_mayOpen.2.1 52 = .ok (.if_icmp .ne 11, 3) := by decide +kernel
theorem dH_mayOpen_55 : decode mH_mayOpen.2.1 55 = .ok (.iload_n 3, 1) := by decide +kernel
theorem dH_mayOpen_56 : decode mH_mayOpen.2.1 56 = .ok (.invokestatic 121, 3) := by decide +kernel
theorem dH_mayOpen_59 : decode mH_mayOpen.2.1 59 = .ok (.iconst 2, 1) := by decide +kernel
theorem dH_mayOpen_60 : decode mH_mayOpen.2.1 60 = .ok (.if_icmp .lt 7, 3) := by decide +kernel
theorem dH_mayOpen_63 : decode mH_mayOpen.2.1 63 = .ok (.iconst 1, 1) := by decide +kernel
theorem dH_mayOpen_64 : decode mH_mayOpen.2.1 64 = .ok (.goto 4, 3) := by decide +kernel
theorem dH_mayOpen_67 : decode mH_mayOpen.2.1 67 = .ok (.iconst 0, 1) := by decide +kernel
theorem dH_mayOpen_68 : decode mH_mayOpen.2.1 68 = .ok (.istore 4, 2) := by decide +kernel
theorem dH_mayOpen_70 : decode mH_mayOpen.2.1 70 = .ok (.iload 4, 2) := by decide +kernel
theorem dH_mayOpen_72 : decode mH_mayOpen.2.1 72 = .ok (.ifCond .eq 27, 3) := by decide +kernel
theorem dH_mayOpen_75 : decode mH_mayOpen.2.1 75 = .ok (.aload_n 0, 1) := by decide +kernel
theorem dH_mayOpen_76 : decode mH_mayOpen.2.1 76 = .ok (.getfield 53, 3) := by decide +kernel
theorem dH_mayOpen_79 : decode mH_mayOpen.2.1 79 = .ok (.iload_n 1, 1) := by decide +kernel
theorem dH_mayOpen_80 : decode mH_mayOpen.2.1 80 = .ok (.ishr, 1) := by decide +kernel
theorem dH_mayOpen_81 : decode mH_mayOpen.2.1 81 = .ok (.iconst 1, 1) := by decide +kernel
theorem dH_mayOpen_82 : decode mH_mayOpen.2.1 82 = .ok (.iand, 1) := by decide +kernel
theorem dH_mayOpen_83 : decode mH_mayOpen.2.1 83 = .ok (.ifCond .eq 12, 3) := by decide +kernel
theorem dH_mayOpen_86 : decode mH_mayOpen.2.1 86 = .ok (.iload_n 3, 1) := by decide +kernel
theorem dH_mayOpen_87 : decode mH_mayOpen.2.1 87 = .ok (.aload_n 0, 1) := by decide +kernel
theorem dH_mayOpen_88 : decode mH_mayOpen.2.1 88 = .ok (.getfield 57, 3) := by decide +kernel
theorem dH_mayOpen_91 : decode mH_mayOpen.2.1 91 = .ok (.iand, 1) := by decide +kernel
theorem dH_mayOpen_92 : decode mH_mayOpen.2.1 92 = .ok (.ifCond .eq 7, 3) := by decide +kernel
theorem dH_mayOpen_95 : decode mH_mayOpen.2.1 95 = .ok (.iconst 1, 1) := by decide +kernel
theorem dH_mayOpen_96 : decode mH_mayOpen.2.1 96 = .ok (.goto 4, 3) := by decide +kernel
theorem dH_mayOpen_99 : decode mH_mayOpen.2.1 99 = .ok (.iconst 0, 1) := by decide +kernel
theorem dH_mayOpen_100 : decode mH_mayOpen.2.1 100 = .ok (.ireturn, 1) := by decide +kernel
theorem dH_mayShut_0 : decode mH_mayShut.2.1 0 = .ok (.iload_n 1, 1) := by decide +kernel
theorem dH_mayShut_1 : decode mH_mayShut.2.1 1 = .ok (.ifCond .lt 30, 3) := by decide +kernel
theorem dH_mayShut_4 : decode mH_mayShut.2.1 4 = .ok (.iload_n 1, 1) := by decide +kernel
theorem dH_mayShut_5 : decode mH_mayShut.2.1 5 = .ok (.aload_n 0, 1) := by decide +kernel
theorem dH_mayShut_6 : decode mH_mayShut.2.1 6 = .ok (.getfield 45, 3) := by decide +kernel
theorem dH_mayShut_9 : decode mH_mayShut.2.1 9 = .ok (.if_icmp .ge 22, 3) := by decide +kernel
theorem dH_mayShut_12 : decode mH_mayShut.2.1 12 = .ok (.aload_n 0, 1) := by decide +kernel
theorem dH_mayShut_13 : decode mH_mayShut.2.1 13 = .ok (.getfield 22, 3) := by decide +kernel
theorem dH_mayShut_16 : decode mH_mayShut.2.1 16 = .ok (.iload_n 1, 1) := by decide +kernel
theorem dH_mayShut_17 : decode mH_mayShut.2.1 17 = .ok (.iaload, 1) := by decide +kernel
theorem dH_mayShut_18 : decode mH_mayShut.2.1 18 = .ok (.ifCond .eq 13, 3) := by decide +kernel
theorem dH_mayShut_21 : decode mH_mayShut.2.1 21 = .ok (.aload_n 0, 1) := by decide +kernel
theorem dH_mayShut_22 : decode mH_mayShut.2.1 22 = .ok (.getfield 18, 3) := by decide +kernel
theorem dH_mayShut_25 : decode mH_mayShut.2.1 25 = .ok (.iload_n 1, 1) := by decide +kernel
theorem dH_mayShut_26 : decode mH_mayShut.2.1 26 = .ok (.iaload, 1) := by decide +kernel
theorem dH_mayShut_27 : decode mH_mayShut.2.1 27 = .ok (.iconst 3, 1) := by decide +kernel
theorem dH_mayShut_28 : decode mH_mayShut.2.1 28 = .ok (.if_icmp .ne 5, 3) := by decide +kernel
theorem dH_mayShut_31 : decode mH_mayShut.2.1 31 = .ok (.iconst 0, 1) := by decide +kernel
theorem dH_mayShut_32 : decode mH_mayShut.2.1 32 = .ok (.ireturn, 1) := by decide +kernel
theorem dH_mayShut_33 : decode mH_mayShut.2.1 33 = .ok (.aload_n 0, 1) := by decide +kernel
theorem dH_mayShut_34 : decode mH_mayShut.2.1 34 = .ok (.getfield 84, 3) := by decide +kernel
theorem dH_mayShut_37 : decode mH_mayShut.2.1 37 = .ok (.aload_n 0, 1) := by decide +kernel
theorem dH_mayShut_38 : decode mH_mayShut.2.1 38 = .ok (.aload_n 0, 1) := by decide +kernel
theorem dH_mayShut_39 : decode mH_mayShut.2.1 39 = .ok (.getfield 22, 3) := by decide +kernel
theorem dH_mayShut_42 : decode mH_mayShut.2.1 42 = .ok (.iload_n 1, 1) := by decide +kernel
theorem dH_mayShut_43 : decode mH_mayShut.2.1 43 = .ok (.iaload, 1) := by decide +kernel
theorem dH_mayShut_44 : decode mH_mayShut.2.1 44 = .ok (.invokevirtual 127, 3) := by decide +kernel
theorem dH_mayShut_47 : decode mH_mayShut.2.1 47 = .ok (.ior, 1) := by decide +kernel
theorem dH_mayShut_48 : decode mH_mayShut.2.1 48 = .ok (.iload_n 2, 1) := by decide +kernel
theorem dH_mayShut_49 : decode mH_mayShut.2.1 49 = .ok (.iand, 1) := by decide +kernel
theorem dH_mayShut_50 : decode mH_mayShut.2.1 50 = .ok (.ifCond .eq 7, 3) := by decide +kernel
theorem dH_mayShut_53 : decode mH_mayShut.2.1 53 = .ok (.iconst 1, 1) := by decide +kernel
theorem dH_mayShut_54 : decode mH_mayShut.2.1 54 = .ok (.goto 4, 3) := by decide +kernel
theorem dH_mayShut_57 : decode mH_mayShut.2.1 57 = .ok (.iconst 0, 1) := by decide +kernel
theorem dH_mayShut_58 : decode mH_mayShut.2.1 58 = .ok (.ireturn, 1) := by decide +kernel
theorem dH_mayGo_0 : decode mH_mayGo.2.1 0 = .ok (.iload_n 1, 1) := by decide +kernel
theorem dH_mayGo_1 : decode mH_mayGo.2.1 1 = .ok (.ifCond .lt 32, 3) := by decide +kernel
theorem dH_mayGo_4 : decode mH_mayGo.2.1 4 = .ok (.iload_n 1, 1) := by decide +kernel
theorem dH_mayGo_5 : decode mH_mayGo.2.1 5 = .ok (.aload_n 0, 1) := by decide +kernel
theorem dH_mayGo_6 : decode mH_mayGo.2.1 6 = .ok (.getfield 49, 3) := by decide +kernel
theorem dH_mayGo_9 : decode mH_mayGo.2.1 9 = .ok (.if_icmp .ge 24, 3) := by decide +kernel
theorem dH_mayGo_12 : decode mH_mayGo.2.1 12 = .ok (.iload_n 2, 1) := by decide +kernel
theorem dH_mayGo_13 : decode mH_mayGo.2.1 13 = .ok (.ifCond .lt 20, 3) := by decide +kernel
theorem dH_mayGo_16 : decode mH_mayGo.2.1 16 = .ok (.iload_n 2, 1) := by decide +kernel
theorem dH_mayGo_17 : decode mH_mayGo.2.1 17 = .ok (.aload_n 0, 1) := by decide +kernel
theorem dH_mayGo_18 : decode mH_mayGo.2.1 18 = .ok (.getfield 45, 3) := by decide +kernel
theorem dH_mayGo_21 : decode mH_mayGo.2.1 21 = .ok (.if_icmp .ge 12, 3) := by decide +kernel
theorem dH_mayGo_24 : decode mH_mayGo.2.1 24 = .ok (.aload_n 0, 1) := by decide +kernel
theorem dH_mayGo_25 : decode mH_mayGo.2.1 25 = .ok (.getfield 22, 3) := by decide +kernel
theorem dH_mayGo_28 : decode mH_mayGo.2.1 28 = .ok (.iload_n 2, 1) := by decide +kernel
theorem dH_mayGo_29 : decode mH_mayGo.2.1 29 = .ok (.iaload, 1) := by decide +kernel
theorem dH_mayGo_30 : decode mH_mayGo.2.1 30 = .ok (.ifCond .ne 5, 3) := by decide +kernel
theorem dH_mayGo_33 : decode mH_mayGo.2.1 33 = .ok (.iconst 0, 1) := by decide +kernel
theorem dH_mayGo_34 : decode mH_mayGo.2.1 34 = .ok (.ireturn, 1) := by decide +kernel
theorem dH_mayGo_35 : decode mH_mayGo.2.1 35 = .ok (.aload_n 0, 1) := by decide +kernel
theorem dH_mayGo_36 : decode mH_mayGo.2.1 36 = .ok (.getfield 25, 3) := by decide +kernel
theorem dH_mayGo_39 : decode mH_mayGo.2.1 39 = .ok (.iload_n 1, 1) := by decide +kernel
theorem dH_mayGo_40 : decode mH_mayGo.2.1 40 = .ok (.iaload, 1) := by decide +kernel
theorem dH_mayGo_41 : decode mH_mayGo.2.1 41 = .ok (.ifCond .eq 18, 3) := by decide +kernel
theorem dH_mayGo_44 : decode mH_mayGo.2.1 44 = .ok (.aload_n 0, 1) := by decide +kernel
theorem dH_mayGo_45 : decode mH_mayGo.2.1 45 = .ok (.getfield 25, 3) := by decide +kernel
theorem dH_mayGo_48 : decode mH_mayGo.2.1 48 = .ok (.iload_n 1, 1) := by decide +kernel
theorem dH_mayGo_49 : decode mH_mayGo.2.1 49 = .ok (.iaload, 1) := by decide +kernel
theorem dH_mayGo_50 : decode mH_mayGo.2.1 50 = .ok (.aload_n 0, 1) := by decide +kernel
theorem dH_mayGo_51 : decode mH_mayGo.2.1 51 = .ok (.getfield 22, 3) := by decide +kernel
theorem dH_mayGo_54 : decode mH_mayGo.2.1 54 = .ok (.iload_n 2, 1) := by decide +kernel
theorem dH_mayGo_55 : decode mH_mayGo.2.1 55 = .ok (.iaload, 1) := by decide +kernel
theorem dH_mayGo_56 : decode mH_mayGo.2.1 56 = .ok (.if_icmp .ne 7, 3) := by decide +kernel
theorem dH_mayGo_59 : decode mH_mayGo.2.1 59 = .ok (.iconst 1, 1) := by decide +kernel
theorem dH_mayGo_60 : decode mH_mayGo.2.1 60 = .ok (.goto 4, 3) := by decide +kernel
theorem dH_mayGo_63 : decode mH_mayGo.2.1 63 = .ok (.iconst 0, 1) := by decide +kernel
theorem dH_mayGo_64 : decode mH_mayGo.2.1 64 = .ok (.ireturn, 1) := by decide +kernel
theorem dH_after_0 : decode mH_after.2.1 0 = .ok (.aload_n 0, 1) := by decide +kernel
theorem dH_after_1 : decode mH_after.2.1 1 = .ok (.iload_n 1, 1) := by decide +kernel
theorem dH_after_2 : decode mH_after.2.1 2 = .ok (.invokevirtual 109, 3) := by decide +kernel
theorem dH_after_5 : decode mH_after.2.1 5 = .ok (.ifCond .eq 10, 3) := by decide +kernel
theorem dH_after_8 : decode mH_after.2.1 8 = .ok (.aload_n 0, 1) := by decide +kernel
theorem dH_after_9 : decode mH_after.2.1 9 = .ok (.getfield 45, 3) := by decide +kernel
theorem dH_after_12 : decode mH_after.2.1 12 = .ok (.ifCond .gt 8, 3) := by decide +kernel
theorem dH_after_15 : decode mH_after.2.1 15 = .ok (.aload_n 0, 1) := by decide +kernel
theorem dH_after_16 : decode mH_after.2.1 16 = .ok (.getfield 73, 3) := by decide +kernel
theorem dH_after_19 : decode mH_after.2.1 19 = .ok (.ireturn, 1) := by decide +kernel
theorem dH_after_20 : decode mH_after.2.1 20 = .ok (.iload_n 1, 1) := by decide +kernel
theorem dH_after_21 : decode mH_after.2.1 21 = .ok (.aload_n 0, 1) := by decide +kernel
theorem dH_after_22 : decode mH_after.2.1 22 = .ok (.getfield 45, 3) := by decide +kernel
theorem dH_after_25 : decode mH_after.2.1 25 = .ok (.idiv, 1) := by decide +kernel
theorem dH_after_26 : decode mH_after.2.1 26 = .ok (.istore_n 2, 1) := by decide +kernel
theorem dH_after_27 : decode mH_after.2.1 27 = .ok (.iload_n 1, 1) := by decide +kernel
theorem dH_after_28 : decode mH_after.2.1 28 = .ok (.aload_n 0, 1) := by decide +kernel
theorem dH_after_29 : decode mH_after.2.1 29 = .ok (.getfield 45, 3) := by decide +kernel
theorem dH_after_32 : decode mH_after.2.1 32 = .ok (.irem, 1) := by decide +kernel
theorem dH_after_33 : decode mH_after.2.1 33 = .ok (.istore_n 3, 1) := by decide +kernel
theorem dH_after_34 : decode mH_after.2.1 34 = .ok (.iload_n 2, 1) := by decide +kernel
theorem dH_after_35 : decode mH_after.2.1 35 = .ok (.ifCond .ne 9, 3) := by decide +kernel
theorem dH_after_38 : decode mH_after.2.1 38 = .ok (.aload_n 0, 1) := by decide +kernel
theorem dH_after_39 : decode mH_after.2.1 39 = .ok (.iload_n 3, 1) := by decide +kernel
theorem dH_after_40 : decode mH_after.2.1 40 = .ok (.invokevirtual 130, 3) := by decide +kernel
theorem dH_after_43 : decode mH_after.2.1 43 = .ok (.ireturn, 1) := by decide +kernel
theorem dH_after_44 : decode mH_after.2.1 44 = .ok (.iload_n 2, 1) := by decide +kernel
theorem dH_after_45 : decode mH_after.2.1 45 = .ok (.iconst 1, 1) := by decide +kernel
theorem dH_after_46 : decode mH_after.2.1 46 = .ok (.if_icmp .ne 11, 3) := by decide +kernel
theorem dH_after_49 : decode mH_after.2.1 49 = .ok (.aload_n 0, 1) := by decide +kernel
theorem dH_after_50 : decode mH_after.2.1 50 = .ok (.iload_n 3, 1) := by decide +kernel
theorem dH_after_51 : decode mH_after.2.1 51 = .ok (.invokevirtual 133, 3) := by decide +kernel
theorem dH_after_54 : decode mH_after.2.1 54 = .ok (.goto 11, 3) := by decide +kernel
theorem dH_after_57 : decode mH_after.2.1 57 = .ok (.aload_n 0, 1) := by decide +kernel
theorem dH_after_58 : decode mH_after.2.1 58 = .ok (.iload_n 2, 1) := by decide +kernel
theorem dH_after_59 : decode mH_after.2.1 59 = .ok (.iconst 2, 1) := by decide +kernel
theorem dH_after_60 : decode mH_after.2.1 60 = .ok (.isub, 1) := by decide +kernel
theorem dH_after_61 : decode mH_after.2.1 61 = .ok (.iload_n 3, 1) := by decide +kernel
theorem dH_after_62 : decode mH_after.2.1 62 = .ok (.invokevirtual 136, 3) := by decide +kernel
theorem dH_after_65 : decode mH_after.2.1 65 = .ok (.ireturn, 1) := by decide +kernel
theorem dH_afterOpen_0 : decode mH_afterOpen.2.1 0 = .ok (.aload_n 0, 1) := by decide +kernel
theorem dH_afterOpen_1 : decode mH_afterOpen.2.1 1 = .ok (.iload_n 1, 1) := by decide +kernel
theorem dH_afterOpen_2 : decode mH_afterOpen.2.1 2 = .ok (.invokevirtual 88, 3) := by decide +kernel
theorem dH_afterOpen_5 : decode mH_afterOpen.2.1 5 = .ok (.ifCond .eq 24, 3) := by decide +kernel
theorem dH_afterOpen_8 : decode mH_afterOpen.2.1 8 = .ok (.aload_n 0, 1) := by decide +kernel
theorem dH_afterOpen_9 : decode mH_afterOpen.2.1 9 = .ok (.getfield 73, 3) := by decide +kernel
theorem dH_afterOpen_12 : decode mH_afterOpen.2.1 12 = .ok (.aload_n 0, 1) := by decide +kernel
theorem dH_afterOpen_13 : decode mH_afterOpen.2.1 13 = .ok (.getfield 87, 3) := by decide +kernel
theorem dH_afterOpen_16 : decode mH_afterOpen.2.1 16 = .ok (.iconst 1, 1) := by decide +kernel
theorem dH_afterOpen_17 : decode mH_afterOpen.2.1 17 = .ok (.iadd, 1) := by decide +kernel
theorem dH_afterOpen_18 : decode mH_afterOpen.2.1 18 = .ok (.aload_n 0, 1) := by decide +kernel
theorem dH_afterOpen_19 : decode mH_afterOpen.2.1 19 = .ok (.getfield 28, 3) := by decide +kernel
theorem dH_afterOpen_22 : decode mH_afterOpen.2.1 22 = .ok (.iload_n 1, 1) := by decide +kernel
theorem dH_afterOpen_23 : decode mH_afterOpen.2.1 23 = .ok (.iaload, 1) := by decide +kernel
theorem dH_afterOpen_24 : decode mH_afterOpen.2.1 24 = .ok (.imul, 1) := by decide +kernel
theorem dH_afterOpen_25 : decode mH_afterOpen.2.1 25 = .ok (.iadd, 1) := by decide +kernel
theorem dH_afterOpen_26 : decode mH_afterOpen.2.1 26 = .ok (.goto 7, 3) := by decide +kernel
theorem dH_afterOpen_29 : decode mH_afterOpen.2.1 29 = .ok (.aload_n 0, 1) := by decide +kernel
theorem dH_afterOpen_30 : decode mH_afterOpen.2.1 30 = .ok (.getfield 73, 3) := by decide +kernel
theorem dH_afterOpen_33 : decode mH_afterOpen.2.1 33 = .ok (.ireturn, 1) := by decide +kernel
theorem dH_afterShut_0 : decode mH_afterShut.2.1 0 = .ok (.aload_n 0, 1) := by decide +kernel
theorem dH_afterShut_1 : decode mH_afterShut.2.1 1 = .ok (.iload_n 1, 1) := by decide +kernel
theorem dH_afterShut_2 : decode mH_afterShut.2.1 2 = .ok (.invokevirtual 88, 3) := by decide +kernel
theorem dH_afterShut_5 : decode mH_afterShut.2.1 5 = .ok (.ifCond .eq 16, 3) := by decide +kernel
theorem dH_afterShut_8 : decode mH_afterShut.2.1 8 = .ok (.aload_n 0, 1) := by decide +kernel
theorem dH_afterShut_9 : decode mH_afterShut.2.1 9 = .ok (.getfield 73, 3) := by decide +kernel
theorem dH_afterShut_12 : decode mH_afterShut.2.1 12 = .ok (.aload_n 0, 1) := by decide +kernel
theorem dH_afterShut_13 : decode mH_afterShut.2.1 13 = .ok (.iload_n 1, 1) := by decide +kernel
theorem dH_afterShut_14 : decode mH_afterShut.2.1 14 = .ok (.invokevirtual 139, 3) := by decide +kernel
theorem dH_afterShut_17 : decode mH_afterShut.2.1 17 = .ok (.iadd, 1) := by decide +kernel
theorem dH_afterShut_18 : decode mH_afterShut.2.1 18 = .ok (.goto 7, 3) := by decide +kernel
theorem dH_afterShut_21 : decode mH_afterShut.2.1 21 = .ok (.aload_n 0, 1) := by decide +kernel
theorem dH_afterShut_22 : decode mH_afterShut.2.1 22 = .ok (.getfield 73, 3) := by decide +kernel
theorem dH_afterShut_25 : decode mH_afterShut.2.1 25 = .ok (.ireturn, 1) := by decide +kernel
theorem dH_afterGo_0 : decode mH_afterGo.2.1 0 = .ok (.aload_n 0, 1) := by decide +kernel
theorem dH_afterGo_1 : decode mH_afterGo.2.1 1 = .ok (.iload_n 1, 1) := by decide +kernel
theorem dH_afterGo_2 : decode mH_afterGo.2.1 2 = .ok (.invokevirtual 92, 3) := by decide +kernel
theorem dH_afterGo_5 : decode mH_afterGo.2.1 5 = .ok (.ifCond .eq 11, 3) := by decide +kernel
theorem dH_afterGo_8 : decode mH_afterGo.2.1 8 = .ok (.aload_n 0, 1) := by decide +kernel
theorem dH_afterGo_9 : decode mH_afterGo.2.1 9 = .ok (.iload_n 2, 1) := by decide +kernel
theorem dH_afterGo_10 : decode mH_afterGo.2.1 10 = .ok (.invokevirtual 88, 3) := by decide +kernel
theorem dH_afterGo_13 : decode mH_afterGo.2.1 13 = .ok (.ifCond .ne 8, 3) := by decide +kernel
theorem dH_afterGo_16 : decode mH_afterGo.2.1 16 = .ok (.aload_n 0, 1) := by decide +kernel
theorem dH_afterGo_17 : decode mH_afterGo.2.1 17 = .ok (.getfield 73, 3) := by decide +kernel
theorem dH_afterGo_20 : decode mH_afterGo.2.1 20 = .ok (.ireturn, 1) := by decide +kernel
theorem dH_afterGo_21 : decode mH_afterGo.2.1 21 = .ok (.aload_n 0, 1) := by decide +kernel
theorem dH_afterGo_22 : decode mH_afterGo.2.1 22 = .ok (.getfield 25, 3) := by decide +kernel
theorem dH_afterGo_25 : decode mH_afterGo.2.1 25 = .ok (.iload_n 1, 1) := by decide +kernel
theorem dH_afterGo_26 : decode mH_afterGo.2.1 26 = .ok (.iaload, 1) := by decide +kernel
theorem dH_afterGo_27 : decode mH_afterGo.2.1 27 = .ok (.ifCond .ne 12, 3) := by decide +kernel
theorem dH_afterGo_30 : decode mH_afterGo.2.1 30 = .ok (.aload_n 0, 1) := by decide +kernel
theorem dH_afterGo_31 : decode mH_afterGo.2.1 31 = .ok (.getfield 22, 3) := by decide +kernel
theorem dH_afterGo_34 : decode mH_afterGo.2.1 34 = .ok (.iload_n 2, 1) := by decide +kernel
theorem dH_afterGo_35 : decode mH_afterGo.2.1 35 = .ok (.iaload, 1) := by decide +kernel
theorem dH_afterGo_36 : decode mH_afterGo.2.1 36 = .ok (.goto 10, 3) := by decide +kernel
theorem dH_afterGo_39 : decode mH_afterGo.2.1 39 = .ok (.aload_n 0, 1) := by decide +kernel
theorem dH_afterGo_40 : decode mH_afterGo.2.1 40 = .ok (.getfield 25, 3) := by decide +kernel
theorem dH_afterGo_43 : decode mH_afterGo.2.1 43 = .ok (.iload_n 1, 1) := by decide +kernel
theorem dH_afterGo_44 : decode mH_afterGo.2.1 44 = .ok (.iaload, 1) := by decide +kernel
theorem dH_afterGo_45 : decode mH_afterGo.2.1 45 = .ok (.ineg, 1) := by decide +kernel
theorem dH_afterGo_46 : decode mH_afterGo.2.1 46 = .ok (.aload_n 0, 1) := by decide +kernel
theorem dH_afterGo_47 : decode mH_afterGo.2.1 47 = .ok (.getfield 31, 3) := by decide +kernel
theorem dH_afterGo_50 : decode mH_afterGo.2.1 50 = .ok (.iload_n 1, 1) := by decide +kernel
theorem dH_afterGo_51 : decode mH_afterGo.2.1 51 = .ok (.iaload, 1) := by decide +kernel
theorem dH_afterGo_52 : decode mH_afterGo.2.1 52 = .ok (.imul, 1) := by decide +kernel
theorem dH_afterGo_53 : decode mH_afterGo.2.1 53 = .ok (.istore_n 3, 1) := by decide +kernel
theorem dH_afterGo_54 : decode mH_afterGo.2.1 54 = .ok (.aload_n 0, 1) := by decide +kernel
theorem dH_afterGo_55 : decode mH_afterGo.2.1 55 = .ok (.getfield 73, 3) := by decide +kernel
theorem dH_afterGo_58 : decode mH_afterGo.2.1 58 = .ok (.iload_n 3, 1) := by decide +kernel
theorem dH_afterGo_59 : decode mH_afterGo.2.1 59 = .ok (.iadd, 1) := by decide +kernel
theorem dH_afterGo_60 : decode mH_afterGo.2.1 60 = .ok (.aload_n 0, 1) := by decide +kernel
theorem dH_afterGo_61 : decode mH_afterGo.2.1 61 = .ok (.getfield 18, 3) := by decide +kernel
theorem dH_afterGo_64 : decode mH_afterGo.2.1 64 = .ok (.iload_n 2, 1) := by decide +kernel
theorem dH_afterGo_65 : decode mH_afterGo.2.1 65 = .ok (.iaload, 1) := by decide +kernel
theorem dH_afterGo_66 : decode mH_afterGo.2.1 66 = .ok (.iconst 1, 1) := by decide +kernel
theorem dH_afterGo_67 : decode mH_afterGo.2.1 67 = .ok (.if_icmp .ne 11, 3) := by decide +kernel
theorem dH_afterGo_70 : decode mH_afterGo.2.1 70 = .ok (.aload_n 0, 1) := by decide +kernel
theorem dH_afterGo_71 : decode mH_afterGo.2.1 71 = .ok (.iload_n 2, 1) := by decide +kernel
theorem dH_afterGo_72 : decode mH_afterGo.2.1 72 = .ok (.invokevirtual 139, 3) := by decide +kernel
theorem dH_afterGo_75 : decode mH_afterGo.2.1 75 = .ok (.goto 4, 3) := by decide +kernel
theorem dH_afterGo_78 : decode mH_afterGo.2.1 78 = .ok (.iconst 0, 1) := by decide +kernel
theorem dH_afterGo_79 : decode mH_afterGo.2.1 79 = .ok (.iadd, 1) := by decide +kernel
theorem dH_afterGo_80 : decode mH_afterGo.2.1 80 = .ok (.ireturn, 1) := by decide +kernel
theorem dH_shutting_0 : decode mH_shutting.2.1 0 = .ok (.iload_n 1, 1) := by decide +kernel
theorem dH_shutting_1 : decode mH_shutting.2.1 1 = .ok (.aload_n 0, 1) := by decide +kernel
theorem dH_shutting_2 : decode mH_shutting.2.1 2 = .ok (.getfield 87, 3) := by decide +kernel
theorem dH_shutting_5 : decode mH_shutting.2.1 5 = .ok (.isub, 1) := by decide +kernel
theorem dH_shutting_6 : decode mH_shutting.2.1 6 = .ok (.aload_n 0, 1) := by decide +kernel
theorem dH_shutting_7 : decode mH_shutting.2.1 7 = .ok (.getfield 61, 3) := by decide +kernel
theorem dH_shutting_10 : decode mH_shutting.2.1 10 = .ok (.imul, 1) := by decide +kernel
theorem dH_shutting_11 : decode mH_shutting.2.1 11 = .ok (.aload_n 0, 1) := by decide +kernel
theorem dH_shutting_12 : decode mH_shutting.2.1 12 = .ok (.getfield 22, 3) := by decide +kernel
theorem dH_shutting_15 : decode mH_shutting.2.1 15 = .ok (.iload_n 1, 1) := by decide +kernel
theorem dH_shutting_16 : decode mH_shutting.2.1 16 = .ok (.iaload, 1) := by decide +kernel
theorem dH_shutting_17 : decode mH_shutting.2.1 17 = .ok (.aload_n 0, 1) := by decide +kernel
theorem dH_shutting_18 : decode mH_shutting.2.1 18 = .ok (.getfield 28, 3) := by decide +kernel
theorem dH_shutting_21 : decode mH_shutting.2.1 21 = .ok (.iload_n 1, 1) := by decide +kernel
theorem dH_shutting_22 : decode mH_shutting.2.1 22 = .ok (.iaload, 1) := by decide +kernel
theorem dH_shutting_23 : decode mH_shutting.2.1 23 = .ok (.imul, 1) := by decide +kernel
theorem dH_shutting_24 : decode mH_shutting.2.1 24 = .ok (.isub, 1) := by decide +kernel
theorem dH_shutting_25 : decode mH_shutting.2.1 25 = .ok (.ireturn, 1) := by decide +kernel
/-- the shape of a Hall at a -/
def hS (σ : Shp) (a : Nat) : Prop := sO σ a 2 ∧ (sP σ a 8 = a + 1 ∧ sP σ a 14 = a + 2 ∧ sP σ a 15 = a + 3 ∧ sP σ a 16 = a + 4 ∧ sP σ a 17 = a + 5) ∧ sA σ (a + 1) 11 4 ∧ sA σ (a + 2) 11 4 ∧ sA σ (a + 3) 11 2 ∧ sA σ (a + 4) 11 4 ∧ sA σ (a + 5) 11 2
/-- a Hall's numbers: the lane -/
def HW (V : Nat → Nat → Int) (a : Nat) (c : Cfg) : Prop := V a 0 = dN c ∧ V a 1 = pN c ∧ V a 2 = (dN c * (2 + pN c) : Nat) ∧ V a 3 = Bs c ∧ V a 4 = wB c (pN c) ∧ V a 5 = spc c ∧ V a 6 = nlC c ∧ V a 9 = lkC c ∧ V a 10 = kyC c ∧ (0 < dN c → V a 11 = wB c (pN c + dN c)) ∧ (∀ d, d < dN c → V (a + 1) d = kdC c d ∧ V (a + 4) d = wB c (pN c + d)) ∧ ∀ p, p < pN c → V (a + 5) p = wB c p
/-- .. and the arrangement -/
def HA (V : Nat → Nat → Int) (a : Nat) (c : Cfg) (n : Nat) : Prop := V a 13 = n ∧ V a 12 = inP c n 0 ∧ V a 7 = lst c n ∧ (∀ d, d < dN c → V (a + 2) d = ld c n d) ∧ ∀ p, p < pN c → V (a + 3) p = pl c n p
def HH (V : Nat → Nat → Int) (a : Nat) (c : Cfg) (n : Nat) : Prop := okC c ∧ HW V a c ∧ HA V a c n
/-- all steps by number -/
def mayN (c : Cfg) (n th s : Nat) : Bool := if s / dN c = 0 then mO c n (inP c n 0 &&& th) (s % dN c) else if s / dN c = 1 then mS c n th (s % dN c) else th.testBit (s / dN c - 2) && mG c n (s / dN c - 2) (s % dN c)
def aftN (c : Cfg) (n s : Nat) : Nat := if s / dN c = 0 then aO c n (s % dN c) else if s / dN c = 1 then aS c n (s % dN c) else aG c n (s / dN c - 2) (s % dN c)
def stN (c : Cfg) : Nat := dN c * (2 + pN c)
def allP (c : Cfg) : Nat := 2 ^ pN c - 1
def cntB (f : Nat → Bool) : Nat → Nat
  | 0 => 0
  | n + 1 => cntB f n + if f n then 1 else 0
theorem mO_iff {c : Cfg} {n h d : Nat} : mO c n h d = true ↔ ld c n d = 0 ∧ (nlC c).testBit d = false ∧ h ≠ 0 ∧ (kdC c d = 2 → h = 3) ∧ ((lkC c).testBit d = true → h &&& kyC c ≠ 0) := by
  unfold mO
  simp only [Bool.and_eq_true, Bool.or_eq_true, beq_iff_eq, bne_iff_ne, ne_eq, Bool.not_eq_true', Bool.not_eq_true]
  constructor
  · rintro ⟨⟨⟨⟨h1, h2⟩, h3⟩, h4⟩, h5⟩
    exact ⟨h1, h2, h3, fun q => by rcases h4 with h4 | h4; exact absurd q h4; exact h4, fun q => by rcases h5 with h5 | h5; rw [q] at h5; cases h5; exact h5⟩
  · rintro ⟨h1, h2, h3, h4, h5⟩
    refine ⟨⟨⟨⟨h1, h2⟩, h3⟩, ?_⟩, ?_⟩
    · by_cases q : kdC c d = 2
      · exact Or.inr (h4 q)
      · exact Or.inl q
    · cases q : (lkC c).testBit d
      · exact Or.inl rfl
      · exact Or.inr (h5 q)
theorem mS_iff {c : Cfg} {n th d : Nat} : mS c n th d = true ↔ ld c n d ≠ 0 ∧ kdC c d ≠ 3 ∧ (inP c n 0 ||| inP c n (ld c n d)) &&& th ≠ 0 := by
  unfold mS
  simp only [Bool.and_eq_true, bne_iff_ne, ne_eq]
  exact ⟨fun h => ⟨h.1.1, h.1.2, h.2⟩, fun h => ⟨⟨h.1, h.2.1⟩, h.2.2⟩⟩
theorem mG_iff {c : Cfg} {n p d : Nat} : mG c n p d = true ↔ ld c n d ≠ 0 ∧ (pl c n p = 0 ∨ pl c n p = ld c n d) := by
  unfold mG
  simp only [Bool.and_eq_true, Bool.or_eq_true, beq_iff_eq, bne_iff_ne, ne_eq]
theorem bs1 {f : Nat → Bool} {i : Nat} {x y : Int} (hx : x = i) (hy : y = bsum f i) (hi : i < 30) (h : f i = true) : zor y (zshl 1 x) = (bsum f (i + 1) : Nat) := by
  subst hx
  subst hy
  have h1 := bsum_lt f (i + 1)
  have h2 : 2 ^ (i + 1) ≤ 2 ^ 30 := Nat.pow_le_pow_right (by decide) (by omega)
  have e := bsum_or f i
  rw [h, if_pos rfl] at e
  rw [shl1 (by omega) (by omega), Int.toNat_natCast, zor_n (by rw [e]; omega), e]
theorem bs0 {f : Nat → Bool} {i : Nat} {x y : Int} (hx : x = i) (hy : y = bsum f i) (hi : i < 30) (h : f i = false) : zor y 0 = (bsum f (i + 1) : Nat) := by
  subst hy
  have h1 := bsum_lt f (i + 1)
  have h2 : 2 ^ (i + 1) ≤ 2 ^ 30 := Nat.pow_le_pow_right (by decide) (by omega)
  have e := bsum_or f i
  rw [h, if_neg (by decide)] at e
  have := zor_n (a := bsum f i) (b := 0) (by rw [e]; omega)
  rw [e] at this
  exact this
section Hall1
variable {G : GE} {V : Nat → Nat → Int} {σ : Shp} {a : Nat} {K : Option AV → Mem → Prop} {c : Cfg} {n : Nat}
theorem hS.o (h : hS σ a) : sO σ a 2 := h.1
theorem hS.p8 (h : hS σ a) : sP σ a 8 = a + 1 := h.2.1.1
theorem hS.p14 (h : hS σ a) : sP σ a 14 = a + 2 := h.2.1.2.1
theorem hS.p15 (h : hS σ a) : sP σ a 15 = a + 3 := h.2.1.2.2.1
theorem hS.p16 (h : hS σ a) : sP σ a 16 = a + 4 := h.2.1.2.2.2.1
theorem hS.p17 (h : hS σ a) : sP σ a 17 = a + 5 := h.2.1.2.2.2.2
theorem hS.a1 (h : hS σ a) : sA σ (a + 1) 11 4 := h.2.2.1
theorem hS.a2 (h : hS σ a) : sA σ (a + 2) 11 4 := h.2.2.2.1
theorem hS.a3 (h : hS σ a) : sA σ (a + 3) 11 2 := h.2.2.2.2.1
theorem hS.a4 (h : hS σ a) : sA σ (a + 4) 11 4 := h.2.2.2.2.2.1
theorem hS.a5 (h : hS σ a) : sA σ (a + 5) 11 2 := h.2.2.2.2.2.2
theorem wH_isDoor {d : Int} (hH : hS σ a) (h1 : 0 ≤ d ∧ d < V a 0 → K (some (vI 1)) (V, σ)) (h0 : ¬ (0 ≤ d ∧ d < V a 0) → K (some (vI 0)) (V, σ)) : Wp G 0 mH_isDoor [vR a, vI d] (V, σ) 0 0 K := by
  refine wp_intro mH_isDoor_i.1 [some (vR a), some (vI d)] rfl rfl (Nat.le_of_ble_eq_true rfl) ?_
  intro X hG F C
  have hm := C.rm
  refine aw_iload_1 (q := 1) F dH_isDoor_0 rfl ?_
  refine aw_if_lt (q := 4) (t := 16) F dH_isDoor_1 rfl (by decide) (fun c1 => ?_) (fun c1 => ?_)
  · refine aw_iconst (q := 17) F dH_isDoor_16 rfl (by decide) ?_
    refine aw_zret F C dH_isDoor_17 rfl (by decide) (Nat.le_refl _) (Nat.le_refl _) ?_
    exact h0 (by omega)
  · refine aw_iload_1 (q := 5) F dH_isDoor_4 rfl ?_
    refine aw_aload_0 (q := 6) F dH_isDoor_5 rfl ?_
    refine av_geti (q := 9) F fH_45 dH_isDoor_6 rfl rfl (by first | exact hH.o | exact hH.a1 | exact hH.a2 | exact hH.a3 | exact hH.a4 | exact hH.a5 | exact hH) ?_
    refine aw_icmp_ge (q := 12) (t := 16) F dH_isDoor_9 rfl (by decide) (fun c9 => ?_) (fun c9 => ?_)
    · refine aw_iconst (q := 17) F dH_isDoor_16 rfl (by decide) ?_
      refine aw_zret F C dH_isDoor_17 rfl (by decide) (Nat.le_refl _) (Nat.le_refl _) ?_
      exact h0 (by omega)
    · refine aw_iconst (q := 13) F dH_isDoor_12 rfl (by decide) ?_
      refine aw_goto (t := 17) F dH_isDoor_13 (by decide) ?_
      refine aw_zret F C dH_isDoor_17 rfl (by decide) (Nat.le_refl _) (Nat.le_refl _) ?_
      exact h1 (by omega)
theorem wH_isPerson {d : Int} (hH : hS σ a) (h1 : 0 ≤ d ∧ d < V a 1 → K (some (vI 1)) (V, σ)) (h0 : ¬ (0 ≤ d ∧ d < V a 1) → K (some (vI 0)) (V, σ)) : Wp G 0 mH_isPerson [vR a, vI d] (V, σ) 0 0 K := by
  refine wp_intro mH_isPerson_i.1 [some (vR a), some (vI d)] rfl rfl (Nat.le_of_ble_eq_true rfl) ?_
  intro X hG F C
  have hm := C.rm
  refine aw_iload_1 (q := 1) F dH_isPerson_0 rfl ?_
  refine aw_if_lt (q := 4) (t := 16) F dH_isPerson_1 rfl (by decide) (fun c1 => ?_) (fun c1 => ?_)
  · refine aw_iconst (q := 17) F dH_isPerson_16 rfl (by decide) ?_
    refine aw_zret F C dH_isPerson_17 rfl (by decide) (Nat.le_refl _) (Nat.le_refl _) ?_
    exact h0 (by omega)
  · refine aw_iload_1 (q := 5) F dH_isPerson_4 rfl ?_
    refine aw_aload_0 (q := 6) F dH_isPerson_5 rfl ?_
    refine av_geti (q := 9) F fH_49 dH_isPerson_6 rfl rfl (by first | exact hH.o | exact hH.a1 | exact hH.a2 | exact hH.a3 | exact hH.a4 | exact hH.a5 | exact hH) ?_
    refine aw_icmp_ge (q := 12) (t := 16) F dH_isPerson_9 rfl (by decide) (fun c9 => ?_) (fun c9 => ?_)
    · refine aw_iconst (q := 17) F dH_isPerson_16 rfl (by decide) ?_
      refine aw_zret F C dH_isPerson_17 rfl (by decide) (Nat.le_refl _) (Nat.le_refl _) ?_
      exact h0 (by omega)
    · refine aw_iconst (q := 13) F dH_isPerson_12 rfl (by decide) ?_
      refine aw_goto (t := 17) F dH_isPerson_13 (by decide) ?_
      refine aw_zret F C dH_isPerson_17 rfl (by decide) (Nat.le_refl _) (Nat.le_refl _) ?_
      exact h1 (by omega)
theorem wH_isStep {d : Int} (hH : hS σ a) (h1 : 0 ≤ d ∧ d < V a 2 → K (some (vI 1)) (V, σ)) (h0 : ¬ (0 ≤ d ∧ d < V a 2) → K (some (vI 0)) (V, σ)) : Wp G 0 mH_isStep [vR a, vI d] (V, σ) 0 0 K := by
  refine wp_intro mH_isStep_i.1 [some (vR a), some (vI d)] rfl rfl (Nat.le_of_ble_eq_true rfl) ?_
  intro X hG F C
  have hm := C.rm
  refine aw_iload_1 (q := 1) F dH_isStep_0 rfl ?_
  refine aw_if_lt (q := 4) (t := 16) F dH_isStep_1 rfl (by decide) (fun c1 => ?_) (fun c1 => ?_)
  · refine aw_iconst (q := 17) F dH_isStep_16 rfl (by decide) ?_
    refine aw_zret F C dH_isStep_17 rfl (by decide) (Nat.le_refl _) (Nat.le_refl _) ?_
    exact h0 (by omega)
  · refine aw_iload_1 (q := 5) F dH_isStep_4 rfl ?_
    refine aw_aload_0 (q := 6) F dH_isStep_5 rfl ?_
    refine av_geti (q := 9) F fH_58 dH_isStep_6 rfl rfl (by first | exact hH.o | exact hH.a1 | exact hH.a2 | exact hH.a3 | exact hH.a4 | exact hH.a5 | exact hH) ?_
    refine aw_icmp_ge (q := 12) (t := 16) F dH_isStep_9 rfl (by decide) (fun c9 => ?_) (fun c9 => ?_)
    · refine aw_iconst (q := 17) F dH_isStep_16 rfl (by decide) ?_
      refine aw_zret F C dH_isStep_17 rfl (by decide) (Nat.le_refl _) (Nat.le_refl _) ?_
      exact h0 (by omega)
    · refine aw_iconst (q := 13) F dH_isStep_12 rfl (by decide) ?_
      refine aw_goto (t := 17) F dH_isStep_13 (by decide) ?_
      refine aw_zret F C dH_isStep_17 rfl (by decide) (Nat.le_refl _) (Nat.le_refl _) ?_
      exact h1 (by omega)
theorem wH_isPlace {d : Int} (hH : hS σ a) (h1 : 0 ≤ d ∧ d ≤ V a 0 ∧ 0 < V a 0 → K (some (vI 1)) (V, σ)) (h0 : ¬ (0 ≤ d ∧ d ≤ V a 0 ∧ 0 < V a 0) → K (some (vI 0)) (V, σ)) : Wp G 0 mH_isPlace [vR a, vI d] (V, σ) 0 0 K := by
  refine wp_intro mH_isPlace_i.1 [some (vR a), some (vI d)] rfl rfl (Nat.le_of_ble_eq_true rfl) ?_
  intro X hG F C
  have hm := C.rm
  refine aw_iload_1 (q := 1) F dH_isPlace_0 rfl ?_
  refine aw_if_lt (q := 4) (t := 23) F dH_isPlace_1 rfl (by decide) (fun c1 => ?_) (fun c1 => ?_)
  · refine aw_iconst (q := 24) F dH_isPlace_23 rfl (by decide) ?_
    refine aw_zret F C dH_isPlace_24 rfl (by decide) (Nat.le_refl _) (Nat.le_refl _) ?_
    exact h0 (by omega)
  · refine aw_iload_1 (q := 5) F dH_isPlace_4 rfl ?_
    refine aw_aload_0 (q := 6) F dH_isPlace_5 rfl ?_
    refine av_geti (q := 9) F fH_45 dH_isPlace_6 rfl rfl (by first | exact hH.o | exact hH.a1 | exact hH.a2 | exact hH.a3 | exact hH.a4 | exact hH.a5 | exact hH) ?_
    refine aw_icmp_gt (q := 12) (t := 23) F dH_isPlace_9 rfl (by decide) (fun c9 => ?_) (fun c9 => ?_)
    · refine aw_iconst (q := 24) F dH_isPlace_23 rfl (by decide) ?_
      refine aw_zret F C dH_isPlace_24 rfl (by decide) (Nat.le_refl _) (Nat.le_refl _) ?_
      exact h0 (by omega)
    · refine aw_aload_0 (q := 13) F dH_isPlace_12 rfl ?_
      refine av_geti (q := 16) F fH_45 dH_isPlace_13 rfl rfl (by first | exact hH.o | exact hH.a1 | exact hH.a2 | exact hH.a3 | exact hH.a4 | exact hH.a5 | exact hH) ?_
      refine aw_if_le (q := 19) (t := 23) F dH_isPlace_16 rfl (by decide) (fun c16 => ?_) (fun c16 => ?_)
      · refine aw_iconst (q := 24) F dH_isPlace_23 rfl (by decide) ?_
        refine aw_zret F C dH_isPlace_24 rfl (by decide) (Nat.le_refl _) (Nat.le_refl _) ?_
        exact h0 (by omega)
      · refine aw_iconst (q := 20) F dH_isPlace_19 rfl (by decide) ?_
        refine aw_goto (t := 24) F dH_isPlace_20 (by decide) ?_
        refine aw_zret F C dH_isPlace_24 rfl (by decide) (Nat.le_refl _) (Nat.le_refl _) ?_
        exact h1 (by omega)
theorem wH_isOpen {d : Int} (hH : hS σ a) (h : HH V a c n) (h1 : 0 ≤ d → d < dN c → ld c n d.toNat ≠ 0 → K (some (vI 1)) (V, σ)) (h0 : (0 ≤ d → d < dN c → ld c n d.toNat = 0) → K (some (vI 0)) (V, σ)) : Wp G 1 mH_isOpen [vR a, vI d] (V, σ) 0 0 K := by
  have hH := hH
  obtain ⟨hc, hW, hA⟩ := h
  have hD4 := hc.1
  have hP2 := hc.2.1
  have v0 : V a 0 = dN c := hW.1
  have v1 : V a 1 = pN c := hW.2.1
  have hl : 0 ≤ d → d < dN c → V (a + 2) d.toNat = ld c n d.toNat := fun x y => hA.2.2.2.1 _ (by omega)
  refine wp_intro mH_isOpen_i.1 [some (vR a), some (vI d)] rfl rfl (Nat.le_of_ble_eq_true rfl) ?_
  intro X hG F C
  have hm := C.rm
  refine aw_aload_0 (q := 1) F dH_isOpen_0 rfl ?_
  refine aw_iload_1 (q := 2) F dH_isOpen_1 rfl ?_
  refine av_callV1 (q := 5) (ci := 2) F hm mH_isDoor_i mH_isDoor_n lH_88 dH_isOpen_2 rfl rfl rfl (by first | exact hH.o | exact hH.a1 | exact hH.a2 | exact hH.a3 | exact hH.a4 | exact hH.a5 | exact hH) (by decide) (Nat.le_refl _) (Nat.le_refl _) (Nat.le_of_ble_eq_true rfl) (wH_isDoor (by first | exact hH.o | exact hH.a1 | exact hH.a2 | exact hH.a3 | exact hH.a4 | exact hH.a5 | exact hH) (fun c2 => ?_) (fun c2 => ?_))
  · refine aw_if_eq (q := 8) (t := 21) F dH_isOpen_5 rfl (by decide) (fun c5 => absurd c5 (by decide)) (fun c5 => ?_)
    refine aw_aload_0 (q := 9) F dH_isOpen_8 rfl ?_
    refine av_getaE (q := 12) F fH_22 dH_isOpen_9 rfl rfl (by first | exact hH.o | exact hH.a1 | exact hH.a2 | exact hH.a3 | exact hH.a4 | exact hH.a5 | exact hH) hH.p14 ?_
    refine aw_iload_1 (q := 13) F dH_isOpen_12 rfl ?_
    refine av_iaload (q := 14) F dH_isOpen_13 rfl (by first | exact hH.o | exact hH.a1 | exact hH.a2 | exact hH.a3 | exact hH.a4 | exact hH.a5 | exact hH) (by omega) (by omega) ?_
    refine aw_if_eq (q := 17) (t := 21) F dH_isOpen_14 rfl (by decide) (fun c14 => ?_) (fun c14 => ?_)
    · refine aw_iconst (q := 22) F dH_isOpen_21 rfl (by decide) ?_
      refine aw_zret F C dH_isOpen_22 rfl (by decide) (Nat.le_refl _) (Nat.le_refl _) ?_
      refine h0 (fun x y => ?_); have := hl x y; omega
    · refine aw_iconst (q := 18) F dH_isOpen_17 rfl (by decide) ?_
      refine aw_goto (t := 22) F dH_isOpen_18 (by decide) ?_
      refine aw_zret F C dH_isOpen_22 rfl (by decide) (Nat.le_refl _) (Nat.le_refl _) ?_
      have := hl (by omega) (by omega); exact h1 (by omega) (by omega) (by omega)
  · refine aw_if_eq (q := 8) (t := 21) F dH_isOpen_5 rfl (by decide) (fun c5 => ?_) (fun c5 => absurd c5 (by decide))
    refine aw_iconst (q := 22) F dH_isOpen_21 rfl (by decide) ?_
    refine aw_zret F C dH_isOpen_22 rfl (by decide) (Nat.le_refl _) (Nat.le_refl _) ?_
    refine h0 (fun x y => ?_); have := hl x y; omega
theorem wH_isNailed {d : Int} (hH : hS σ a) (h : HH V a c n) (h1 : 0 ≤ d → d < dN c → (nlC c).testBit d.toNat = true → K (some (vI 1)) (V, σ)) (h0 : (0 ≤ d → d < dN c → (nlC c).testBit d.toNat = false) → K (some (vI 0)) (V, σ)) : Wp G 1 mH_isNailed [vR a, vI d] (V, σ) 0 0 K := by
  have hH := hH
  obtain ⟨hc, hW, hA⟩ := h
  have hD4 := hc.1
  have hP2 := hc.2.1
  have v0 : V a 0 = dN c := hW.1
  have v1 : V a 1 = pN c := hW.2.1
  have hnl := hc.2.2.2.2.2
  have hb : 0 ≤ d → d < dN c → zand (zshr (V a 6) d) 1 = if (nlC c).testBit d.toNat then 1 else 0 := fun x y => by rw [hW.2.2.2.2.2.2.1]; exact bit_z (by omega) x (by omega)
  refine wp_intro mH_isNailed_i.1 [some (vR a), some (vI d)] rfl rfl (Nat.le_of_ble_eq_true rfl) ?_
  intro X hG F C
  have hm := C.rm
  refine aw_aload_0 (q := 1) F dH_isNailed_0 rfl ?_
  refine aw_iload_1 (q := 2) F dH_isNailed_1 rfl ?_
  refine av_callV1 (q := 5) (ci := 2) F hm mH_isDoor_i mH_isDoor_n lH_88 dH_isNailed_2 rfl rfl rfl (by first | exact hH.o | exact hH.a1 | exact hH.a2 | exact hH.a3 | exact hH.a4 | exact hH.a5 | exact hH) (by decide) (Nat.le_refl _) (Nat.le_refl _) (Nat.le_of_ble_eq_true rfl) (wH_isDoor (by first | exact hH.o | exact hH.a1 | exact hH.a2 | exact hH.a3 | exact hH.a4 | exact hH.a5 | exact hH) (fun c2 => ?_) (fun c2 => ?_))
  · refine aw_if_eq (q := 8) (t := 23) F dH_isNailed_5 rfl (by decide) (fun c5 => absurd c5 (by decide)) (fun c5 => ?_)
    refine aw_aload_0 (q := 9) F dH_isNailed_8 rfl ?_
    refine av_geti (q := 12) F fH_76 dH_isNailed_9 rfl rfl (by first | exact hH.o | exact hH.a1 | exact hH.a2 | exact hH.a3 | exact hH.a4 | exact hH.a5 | exact hH) ?_
    refine aw_iload_1 (q := 13) F dH_isNailed_12 rfl ?_
    refine aw_ishr (q := 14) F dH_isNailed_13 rfl ?_
    refine aw_iconst (q := 15) F dH_isNailed_14 rfl (by decide) ?_
    refine aw_iand (q := 16) F dH_isNailed_15 rfl ?_
    refine aw_if_eq (q := 19) (t := 23) F dH_isNailed_16 rfl (by decide) (fun c16 => ?_) (fun c16 => ?_)
    · refine aw_iconst (q := 24) F dH_isNailed_23 rfl (by decide) ?_
      refine aw_zret F C dH_isNailed_24 rfl (by decide) (Nat.le_refl _) (Nat.le_refl _) ?_
      refine h0 (fun x y => ?_); have := hb x y; split at this <;> first | omega | simp_all
    · refine aw_iconst (q := 20) F dH_isNailed_19 rfl (by decide) ?_
      refine aw_goto (t := 24) F dH_isNailed_20 (by decide) ?_
      refine aw_zret F C dH_isNailed_24 rfl (by decide) (Nat.le_refl _) (Nat.le_refl _) ?_
      have := hb (by omega) (by omega); exact h1 (by omega) (by omega) (by split at this <;> first | omega | simp_all)
  · refine aw_if_eq (q := 8) (t := 23) F dH_isNailed_5 rfl (by decide) (fun c5 => ?_) (fun c5 => absurd c5 (by decide))
    refine aw_iconst (q := 24) F dH_isNailed_23 rfl (by decide) ?_
    refine aw_zret F C dH_isNailed_24 rfl (by decide) (Nat.le_refl _) (Nat.le_refl _) ?_
    refine h0 (fun x y => ?_); have := hb x y; split at this <;> first | omega | simp_all
theorem wH_kindOf {d : Int} (hH : hS σ a) (h : HH V a c n) (h1 : 0 ≤ d → d < dN c → K (some (vI (kdC c d.toNat))) (V, σ)) (h0 : ¬ (0 ≤ d ∧ d < dN c) → K (some (vI (-1))) (V, σ)) : Wp G 1 mH_kindOf [vR a, vI d] (V, σ) 0 0 K := by
  have hH := hH
  obtain ⟨hc, hW, hA⟩ := h
  have hD4 := hc.1
  have hP2 := hc.2.1
  have v0 : V a 0 = dN c := hW.1
  have v1 : V a 1 = pN c := hW.2.1
  refine wp_intro mH_kindOf_i.1 [some (vR a), some (vI d)] rfl rfl (Nat.le_of_ble_eq_true rfl) ?_
  intro X hG F C
  have hm := C.rm
  refine aw_aload_0 (q := 1) F dH_kindOf_0 rfl ?_
  refine aw_iload_1 (q := 2) F dH_kindOf_1 rfl ?_
  refine av_callV1 (q := 5) (ci := 2) F hm mH_isDoor_i mH_isDoor_n lH_88 dH_kindOf_2 rfl rfl rfl (by first | exact hH.o | exact hH.a1 | exact hH.a2 | exact hH.a3 | exact hH.a4 | exact hH.a5 | exact hH) (by decide) (Nat.le_refl _) (Nat.le_refl _) (Nat.le_of_ble_eq_true rfl) (wH_isDoor (by first | exact hH.o | exact hH.a1 | exact hH.a2 | exact hH.a3 | exact hH.a4 | exact hH.a5 | exact hH) (fun c2 => ?_) (fun c2 => ?_))
  · refine aw_if_eq (q := 8) (t := 17) F dH_kindOf_5 rfl (by decide) (fun c5 => absurd c5 (by decide)) (fun c5 => ?_)
    refine aw_aload_0 (q := 9) F dH_kindOf_8 rfl ?_
    refine av_getaE (q := 12) F fH_18 dH_kindOf_9 rfl rfl (by first | exact hH.o | exact hH.a1 | exact hH.a2 | exact hH.a3 | exact hH.a4 | exact hH.a5 | exact hH) hH.p8 ?_
    refine aw_iload_1 (q := 13) F dH_kindOf_12 rfl ?_
    refine av_iaload (q := 14) F dH_kindOf_13 rfl (by first | exact hH.o | exact hH.a1 | exact hH.a2 | exact hH.a3 | exact hH.a4 | exact hH.a5 | exact hH) (by omega) (by omega) ?_
    refine aw_goto (t := 18) F dH_kindOf_14 (by decide) ?_
    refine aw_iret F C dH_kindOf_18 rfl (Nat.le_refl _) (Nat.le_refl _) ?_
    exact kI (h1 (by omega) (by omega)) (hW.2.2.2.2.2.2.2.2.2.2.1 _ (by omega)).1.symm
  · refine aw_if_eq (q := 8) (t := 17) F dH_kindOf_5 rfl (by decide) (fun c5 => ?_) (fun c5 => absurd c5 (by decide))
    refine aw_iconst (q := 18) F dH_kindOf_17 rfl (by decide) ?_
    refine aw_iret F C dH_kindOf_18 rfl (Nat.le_refl _) (Nat.le_refl _) ?_
    exact h0 (by omega)
theorem wH_leadOf {d : Int} (hH : hS σ a) (h : HH V a c n) (h1 : 0 ≤ d → d < dN c → K (some (vI (ld c n d.toNat))) (V, σ)) (h0 : ¬ (0 ≤ d ∧ d < dN c) → K (some (vI (-1))) (V, σ)) : Wp G 1 mH_leadOf [vR a, vI d] (V, σ) 0 0 K := by
  have hH := hH
  obtain ⟨hc, hW, hA⟩ := h
  have hD4 := hc.1
  have hP2 := hc.2.1
  have v0 : V a 0 = dN c := hW.1
  have v1 : V a 1 = pN c := hW.2.1
  refine wp_intro mH_leadOf_i.1 [some (vR a), some (vI d)] rfl rfl (Nat.le_of_ble_eq_true rfl) ?_
  intro X hG F C
  have hm := C.rm
  refine aw_aload_0 (q := 1) F dH_leadOf_0 rfl ?_
  refine aw_iload_1 (q := 2) F dH_leadOf_1 rfl ?_
  refine av_callV1 (q := 5) (ci := 2) F hm mH_isDoor_i mH_isDoor_n lH_88 dH_leadOf_2 rfl rfl rfl (by first | exact hH.o | exact hH.a1 | exact hH.a2 | exact hH.a3 | exact hH.a4 | exact hH.a5 | exact hH) (by decide) (Nat.le_refl _) (Nat.le_refl _) (Nat.le_of_ble_eq_true rfl) (wH_isDoor (by first | exact hH.o | exact hH.a1 | exact hH.a2 | exact hH.a3 | exact hH.a4 | exact hH.a5 | exact hH) (fun c2 => ?_) (fun c2 => ?_))
  · refine aw_if_eq (q := 8) (t := 17) F dH_leadOf_5 rfl (by decide) (fun c5 => absurd c5 (by decide)) (fun c5 => ?_)
    refine aw_aload_0 (q := 9) F dH_leadOf_8 rfl ?_
    refine av_getaE (q := 12) F fH_22 dH_leadOf_9 rfl rfl (by first | exact hH.o | exact hH.a1 | exact hH.a2 | exact hH.a3 | exact hH.a4 | exact hH.a5 | exact hH) hH.p14 ?_
    refine aw_iload_1 (q := 13) F dH_leadOf_12 rfl ?_
    refine av_iaload (q := 14) F dH_leadOf_13 rfl (by first | exact hH.o | exact hH.a1 | exact hH.a2 | exact hH.a3 | exact hH.a4 | exact hH.a5 | exact hH) (by omega) (by omega) ?_
    refine aw_goto (t := 18) F dH_leadOf_14 (by decide) ?_
    refine aw_iret F C dH_leadOf_18 rfl (Nat.le_refl _) (Nat.le_refl _) ?_
    exact kI (h1 (by omega) (by omega)) (hA.2.2.2.1 _ (by omega)).symm
  · refine aw_if_eq (q := 8) (t := 17) F dH_leadOf_5 rfl (by decide) (fun c5 => ?_) (fun c5 => absurd c5 (by decide))
    refine aw_iconst (q := 18) F dH_leadOf_17 rfl (by decide) ?_
    refine aw_iret F C dH_leadOf_18 rfl (Nat.le_refl _) (Nat.le_refl _) ?_
    exact h0 (by omega)
theorem wH_placeOf {d : Int} (hH : hS σ a) (h : HH V a c n) (h1 : 0 ≤ d → d < pN c → K (some (vI (pl c n d.toNat))) (V, σ)) (h0 : ¬ (0 ≤ d ∧ d < pN c) → K (some (vI (-1))) (V, σ)) : Wp G 1 mH_placeOf [vR a, vI d] (V, σ) 0 0 K := by
  have hH := hH
  obtain ⟨hc, hW, hA⟩ := h
  have hD4 := hc.1
  have hP2 := hc.2.1
  have v0 : V a 0 = dN c := hW.1
  have v1 : V a 1 = pN c := hW.2.1
  refine wp_intro mH_placeOf_i.1 [some (vR a), some (vI d)] rfl rfl (Nat.le_of_ble_eq_true rfl) ?_
  intro X hG F C
  have hm := C.rm
  refine aw_aload_0 (q := 1) F dH_placeOf_0 rfl ?_
  refine aw_iload_1 (q := 2) F dH_placeOf_1 rfl ?_
  refine av_callV1 (q := 5) (ci := 2) F hm mH_isPerson_i mH_isPerson_n lH_92 dH_placeOf_2 rfl rfl rfl (by first | exact hH.o | exact hH.a1 | exact hH.a2 | exact hH.a3 | exact hH.a4 | exact hH.a5 | exact hH) (by decide) (Nat.le_refl _) (Nat.le_refl _) (Nat.le_of_ble_eq_true rfl) (wH_isPerson (by first | exact hH.o | exact hH.a1 | exact hH.a2 | exact hH.a3 | exact hH.a4 | exact hH.a5 | exact hH) (fun c2 => ?_) (fun c2 => ?_))
  · refine aw_if_eq (q := 8) (t := 17) F dH_placeOf_5 rfl (by decide) (fun c5 => absurd c5 (by decide)) (fun c5 => ?_)
    refine aw_aload_0 (q := 9) F dH_placeOf_8 rfl ?_
    refine av_getaE (q := 12) F fH_25 dH_placeOf_9 rfl rfl (by first | exact hH.o | exact hH.a1 | exact hH.a2 | exact hH.a3 | exact hH.a4 | exact hH.a5 | exact hH) hH.p15 ?_
    refine aw_iload_1 (q := 13) F dH_placeOf_12 rfl ?_
    refine av_iaload (q := 14) F dH_placeOf_13 rfl (by first | exact hH.o | exact hH.a1 | exact hH.a2 | exact hH.a3 | exact hH.a4 | exact hH.a5 | exact hH) (by omega) (by omega) ?_
    refine aw_goto (t := 18) F dH_placeOf_14 (by decide) ?_
    refine aw_iret F C dH_placeOf_18 rfl (Nat.le_refl _) (Nat.le_refl _) ?_
    exact kI (h1 (by omega) (by omega)) (hA.2.2.2.2 _ (by omega)).symm
  · refine aw_if_eq (q := 8) (t := 17) F dH_placeOf_5 rfl (by decide) (fun c5 => ?_) (fun c5 => absurd c5 (by decide))
    refine aw_iconst (q := 18) F dH_placeOf_17 rfl (by decide) ?_
    refine aw_iret F C dH_placeOf_18 rfl (Nat.le_refl _) (Nat.le_refl _) ?_
    exact h0 (by omega)
theorem wH_everybody (hH : hS σ a) (h : HH V a c n) (hK : K (some (vI (allP c))) (V, σ)) : Wp G 0 mH_everybody [vR a] (V, σ) 0 0 K := by
  have hH := hH
  obtain ⟨hc, hW, hA⟩ := h
  have hD4 := hc.1
  have hP2 := hc.2.1
  have v0 : V a 0 = dN c := hW.1
  have v1 : V a 1 = pN c := hW.2.1
  have e : zshl 1 (V a 1) = ((2 ^ pN c : Nat) : Int) := by rw [v1, shl1 (by omega) (by omega), Int.toNat_natCast]
  have hp : 2 ^ pN c ≤ 2 ^ 2 := Nat.pow_le_pow_right (by decide) hP2
  have hp0 : 0 < 2 ^ pN c := Nat.two_pow_pos _
  refine wp_intro mH_everybody_i.1 [some (vR a)] rfl rfl (Nat.le_of_ble_eq_true rfl) ?_
  intro X hG F C
  have hm := C.rm
  refine aw_iconst (q := 1) F dH_everybody_0 rfl (by decide) ?_
  refine aw_aload_0 (q := 2) F dH_everybody_1 rfl ?_
  refine av_geti (q := 5) F fH_49 dH_everybody_2 rfl rfl (by first | exact hH.o | exact hH.a1 | exact hH.a2 | exact hH.a3 | exact hH.a4 | exact hH.a5 | exact hH) ?_
  refine aw_ishl (q := 6) F dH_everybody_5 rfl ?_
  refine aw_iconst (q := 7) F dH_everybody_6 rfl (by decide) ?_
  refine aw_isub (q := 8) F dH_everybody_7 rfl (by rw [e]; constructor <;> omega) ?_
  refine aw_iret F C dH_everybody_8 rfl (Nat.le_refl _) (Nat.le_refl _) ?_
  refine kI hK ?_; rw [e]; unfold allP; omega
theorem wH_arrangement (hH : hS σ a) (h : HH V a c n) (hK : K (some (vI n)) (V, σ)) : Wp G 0 mH_arrangement [vR a] (V, σ) 0 0 K := by
  have hH := hH
  obtain ⟨hc, hW, hA⟩ := h
  have hD4 := hc.1
  have hP2 := hc.2.1
  have v0 : V a 0 = dN c := hW.1
  have v1 : V a 1 = pN c := hW.2.1
  refine wp_intro mH_arrangement_i.1 [some (vR a)] rfl rfl (Nat.le_of_ble_eq_true rfl) ?_
  intro X hG F C
  have hm := C.rm
  refine aw_aload_0 (q := 1) F dH_arrangement_0 rfl ?_
  refine av_geti (q := 4) F fH_73 dH_arrangement_1 rfl rfl (by first | exact hH.o | exact hH.a1 | exact hH.a2 | exact hH.a3 | exact hH.a4 | exact hH.a5 | exact hH) ?_
  refine aw_iret F C dH_arrangement_4 rfl (Nat.le_refl _) (Nat.le_refl _) ?_
  exact kI hK hA.1.symm
theorem wH_placingOf {m : Nat} {x : Int} (hx : x = m) (hH : hS σ a) (h : HH V a c n) (hK : K (some (vI (m % wB c (pN c) : Nat))) (V, σ)) : Wp G 0 mH_placingOf [vR a, vI x] (V, σ) 0 0 K := by
  have hH := hH
  obtain ⟨hc, hW, hA⟩ := h
  have hD4 := hc.1
  have hP2 := hc.2.1
  have v0 : V a 0 = dN c := hW.1
  have v1 : V a 1 = pN c := hW.2.1
  have v4 : V a 4 = wB c (pN c) := hW.2.2.2.2.1
  have hw := wB_pos c (pN c)
  refine wp_intro mH_placingOf_i.1 [some (vR a), some (vI x)] rfl rfl (Nat.le_of_ble_eq_true rfl) ?_
  intro X hG F C
  have hm := C.rm
  refine aw_aload_0 (q := 1) F dH_placingOf_0 rfl ?_
  refine av_geti (q := 4) F fH_15 dH_placingOf_1 rfl rfl (by first | exact hH.o | exact hH.a1 | exact hH.a2 | exact hH.a3 | exact hH.a4 | exact hH.a5 | exact hH) ?_
  refine aw_if_le (q := 7) (t := 16) F dH_placingOf_4 rfl (by decide) (fun c4 => by omega) (fun c4 => ?_)
  refine aw_iload_1 (q := 8) F dH_placingOf_7 rfl ?_
  refine aw_aload_0 (q := 9) F dH_placingOf_8 rfl ?_
  refine av_geti (q := 12) F fH_15 dH_placingOf_9 rfl rfl (by first | exact hH.o | exact hH.a1 | exact hH.a2 | exact hH.a3 | exact hH.a4 | exact hH.a5 | exact hH) ?_
  refine aw_irem (q := 13) F dH_placingOf_12 rfl (by omega) (by omega) ?_
  refine aw_goto (t := 17) F dH_placingOf_13 (by decide) ?_
  refine aw_iret F C dH_placingOf_17 rfl (Nat.le_refl _) (Nat.le_refl _) ?_
  refine kI hK ?_; rw [hx, v4]; simp
theorem wH_peopleAt {r : Nat} {x : Int} (hx : x = r) (hH : hS σ a) (h : HH V a c n) (hK : K (some (vI (inP c n r))) (V, σ)) : Wp G 0 mH_peopleAt [vR a, vI x] (V, σ) 0 0 K := by
  have hH := hH
  obtain ⟨hc, hW, hA⟩ := h
  have hD4 := hc.1
  have hP2 := hc.2.1
  have v0 : V a 0 = dN c := hW.1
  have v1 : V a 1 = pN c := hW.2.1
  refine wp_intro mH_peopleAt_i.1 [some (vR a), some (vI x), none, none] rfl rfl (Nat.le_of_ble_eq_true rfl) ?_
  intro X hG F C
  have hm := C.rm
  have loop : ∀ (j i : Nat), pN c - i = j → i ≤ pN c → ∀ y z : Int, y = bsum (fun p => pl c n p == r) i → z = i → AW X 4 [some (vR a), some (vI x), some (vI y), some (vI z)] [] (V, σ) 0 0 := by
    intro j
    induction j using Nat.strongRecOn with
    | ind j ih =>
      intro i hj hi y z hy hz
      have hv : i < pN c → V (a + 3) z.toNat = pl c n i := fun q => by rw [show z.toNat = i by omega]; exact hA.2.2.2.2 i q
      refine aw_iload_3 (q := 5) F dH_peopleAt_4 rfl ?_
      refine aw_aload_0 (q := 6) F dH_peopleAt_5 rfl ?_
      refine av_geti (q := 9) F fH_49 dH_peopleAt_6 rfl rfl (by first | exact hH.o | exact hH.a1 | exact hH.a2 | exact hH.a3 | exact hH.a4 | exact hH.a5 | exact hH) ?_
      refine aw_icmp_ge (q := 12) (t := 38) F dH_peopleAt_9 rfl (by decide) (fun c9 => ?_) (fun c9 => ?_)
      · refine aw_iload_2 (q := 39) F dH_peopleAt_38 rfl ?_
        refine aw_iret F C dH_peopleAt_39 rfl (Nat.le_refl _) (Nat.le_refl _) ?_
        rw [show i = pN c by omega] at hy; exact kI hK hy.symm
      · refine aw_iload_2 (q := 13) F dH_peopleAt_12 rfl ?_
        refine aw_aload_0 (q := 14) F dH_peopleAt_13 rfl ?_
        refine av_getaE (q := 17) F fH_25 dH_peopleAt_14 rfl rfl (by first | exact hH.o | exact hH.a1 | exact hH.a2 | exact hH.a3 | exact hH.a4 | exact hH.a5 | exact hH) hH.p15 ?_
        refine aw_iload_3 (q := 18) F dH_peopleAt_17 rfl ?_
        refine av_iaload (q := 19) F dH_peopleAt_18 rfl (by first | exact hH.o | exact hH.a1 | exact hH.a2 | exact hH.a3 | exact hH.a4 | exact hH.a5 | exact hH) (by omega) (by omega) ?_
        refine aw_iload_1 (q := 20) F dH_peopleAt_19 rfl ?_
        refine aw_icmp_ne (q := 23) (t := 29) F dH_peopleAt_20 rfl (by decide) (fun c20 => ?_) (fun c20 => ?_)
        · refine aw_iconst (q := 30) F dH_peopleAt_29 rfl (by decide) ?_
          refine aw_ior (q := 31) F dH_peopleAt_30 rfl ?_
          refine aw_istore_2 (q := 32) F dH_peopleAt_31 rfl trivial ?_
          refine aw_iinc_3 (q := 35) F dH_peopleAt_32 rfl trivial (by constructor <;> omega) ?_
          refine aw_goto (t := 4) F dH_peopleAt_35 (by decide) ?_
          have := hv (by omega); exact ih _ (by omega) (i + 1) rfl (by omega) _ _ (by first | rw [bs1 hz hy (by omega) (by simp; omega)] | rw [bs0 hz hy (by omega) (by simp; omega)]) (by omega)
        · refine aw_iconst (q := 24) F dH_peopleAt_23 rfl (by decide) ?_
          refine aw_iload_3 (q := 25) F dH_peopleAt_24 rfl ?_
          refine aw_ishl (q := 26) F dH_peopleAt_25 rfl ?_
          refine aw_goto (t := 30) F dH_peopleAt_26 (by decide) ?_
          refine aw_ior (q := 31) F dH_peopleAt_30 rfl ?_
          refine aw_istore_2 (q := 32) F dH_peopleAt_31 rfl trivial ?_
          refine aw_iinc_3 (q := 35) F dH_peopleAt_32 rfl trivial (by constructor <;> omega) ?_
          refine aw_goto (t := 4) F dH_peopleAt_35 (by decide) ?_
          have := hv (by omega); exact ih _ (by omega) (i + 1) rfl (by omega) _ _ (by first | rw [bs1 hz hy (by omega) (by simp; omega)] | rw [bs0 hz hy (by omega) (by simp; omega)]) (by omega)
  refine aw_iconst (q := 1) F dH_peopleAt_0 rfl (by decide) ?_
  refine aw_istore_2 (q := 2) F dH_peopleAt_1 rfl trivial ?_
  refine aw_iconst (q := 3) F dH_peopleAt_2 rfl (by decide) ?_
  refine aw_istore_3 (q := 4) F dH_peopleAt_3 rfl trivial ?_
  exact loop _ 0 rfl (by omega) 0 0 rfl rfl
theorem wH_openDoors (hH : hS σ a) (h : HH V a c n) (hK : K (some (vI (bsum (fun d => ld c n d != 0) (dN c)))) (V, σ)) : Wp G 0 mH_openDoors [vR a] (V, σ) 0 0 K := by
  have hH := hH
  obtain ⟨hc, hW, hA⟩ := h
  have hD4 := hc.1
  have hP2 := hc.2.1
  have v0 : V a 0 = dN c := hW.1
  have v1 : V a 1 = pN c := hW.2.1
  refine wp_intro mH_openDoors_i.1 [some (vR a), none, none] rfl rfl (Nat.le_of_ble_eq_true rfl) ?_
  intro X hG F C
  have hm := C.rm
  have loop : ∀ (j i : Nat), dN c - i = j → i ≤ dN c → ∀ y z : Int, y = bsum (fun d => ld c n d != 0) i → z = i → AW X 4 [some (vR a), some (vI y), some (vI z)] [] (V, σ) 0 0 := by
    intro j
    induction j using Nat.strongRecOn with
    | ind j ih =>
      intro i hj hi y z hy hz
      have hv : i < dN c → V (a + 2) z.toNat = ld c n i := fun q => by rw [show z.toNat = i by omega]; exact hA.2.2.2.1 i q
      refine aw_iload_2 (q := 5) F dH_openDoors_4 rfl ?_
      refine aw_aload_0 (q := 6) F dH_openDoors_5 rfl ?_
      refine av_geti (q := 9) F fH_45 dH_openDoors_6 rfl rfl (by first | exact hH.o | exact hH.a1 | exact hH.a2 | exact hH.a3 | exact hH.a4 | exact hH.a5 | exact hH) ?_
      refine aw_icmp_ge (q := 12) (t := 37) F dH_openDoors_9 rfl (by decide) (fun c9 => ?_) (fun c9 => ?_)
      · refine aw_iload_1 (q := 38) F dH_openDoors_37 rfl ?_
        refine aw_iret F C dH_openDoors_38 rfl (Nat.le_refl _) (Nat.le_refl _) ?_
        rw [show i = dN c by omega] at hy; exact kI hK hy.symm
      · refine aw_iload_1 (q := 13) F dH_openDoors_12 rfl ?_
        refine aw_aload_0 (q := 14) F dH_openDoors_13 rfl ?_
        refine av_getaE (q := 17) F fH_22 dH_openDoors_14 rfl rfl (by first | exact hH.o | exact hH.a1 | exact hH.a2 | exact hH.a3 | exact hH.a4 | exact hH.a5 | exact hH) hH.p14 ?_
        refine aw_iload_2 (q := 18) F dH_openDoors_17 rfl ?_
        refine av_iaload (q := 19) F dH_openDoors_18 rfl (by first | exact hH.o | exact hH.a1 | exact hH.a2 | exact hH.a3 | exact hH.a4 | exact hH.a5 | exact hH) (by omega) (by omega) ?_
        refine aw_if_eq (q := 22) (t := 28) F dH_openDoors_19 rfl (by decide) (fun c19 => ?_) (fun c19 => ?_)
        · refine aw_iconst (q := 29) F dH_openDoors_28 rfl (by decide) ?_
          refine aw_ior (q := 30) F dH_openDoors_29 rfl ?_
          refine aw_istore_1 (q := 31) F dH_openDoors_30 rfl trivial ?_
          refine aw_iinc_2 (q := 34) F dH_openDoors_31 rfl trivial (by constructor <;> omega) ?_
          refine aw_goto (t := 4) F dH_openDoors_34 (by decide) ?_
          have := hv (by omega); exact ih _ (by omega) (i + 1) rfl (by omega) _ _ (by first | rw [bs1 hz hy (by omega) (by simp; omega)] | rw [bs0 hz hy (by omega) (by simp; omega)]) (by omega)
        · refine aw_iconst (q := 23) F dH_openDoors_22 rfl (by decide) ?_
          refine aw_iload_2 (q := 24) F dH_openDoors_23 rfl ?_
          refine aw_ishl (q := 25) F dH_openDoors_24 rfl ?_
          refine aw_goto (t := 29) F dH_openDoors_25 (by decide) ?_
          refine aw_ior (q := 30) F dH_openDoors_29 rfl ?_
          refine aw_istore_1 (q := 31) F dH_openDoors_30 rfl trivial ?_
          refine aw_iinc_2 (q := 34) F dH_openDoors_31 rfl trivial (by constructor <;> omega) ?_
          refine aw_goto (t := 4) F dH_openDoors_34 (by decide) ?_
          have := hv (by omega); exact ih _ (by omega) (i + 1) rfl (by omega) _ _ (by first | rw [bs1 hz hy (by omega) (by simp; omega)] | rw [bs0 hz hy (by omega) (by simp; omega)]) (by omega)
  refine aw_iconst (q := 1) F dH_openDoors_0 rfl (by decide) ?_
  refine aw_istore_1 (q := 2) F dH_openDoors_1 rfl trivial ?_
  refine aw_iconst (q := 3) F dH_openDoors_2 rfl (by decide) ?_
  refine aw_istore_2 (q := 4) F dH_openDoors_3 rfl trivial ?_
  exact loop _ 0 rfl (by omega) 0 0 rfl rfl
theorem wH_mayOpen {d t : Int} {th : Nat} (ht : t = th) (ht4 : th < 4) (hH : hS σ a) (h : HH V a c n) (h1 : 0 ≤ d → d < dN c → mO c n (inP c n 0 &&& th) d.toNat = true → K (some (vI 1)) (V, σ)) (h0 : (0 ≤ d → d < dN c → mO c n (inP c n 0 &&& th) d.toNat = false) → K (some (vI 0)) (V, σ)) : Wp G 1 mH_mayOpen [vR a, vI d, vI t] (V, σ) 0 0 K := by
  have hH := hH
  obtain ⟨hc, hW, hA⟩ := h
  have hD4 := hc.1
  have hP2 := hc.2.1
  have v0 : V a 0 = dN c := hW.1
  have v1 : V a 1 = pN c := hW.2.1
  have hl : 0 ≤ d → d < dN c → V (a + 2) d.toNat = ld c n d.toNat := fun x y => hA.2.2.2.1 _ (by omega)
  have hk : 0 ≤ d → d < dN c → V (a + 1) d.toNat = kdC c d.toNat := fun x y => (hW.2.2.2.2.2.2.2.2.2.2.1 _ (by omega)).1
  have hin : inP c n 0 < 4 := Nat.lt_of_lt_of_le (bsum_lt _ _) (Nat.pow_le_pow_right (n := 2) (by decide) hP2)
  have hnl := hc.2.2.2.2.2
  have hlk := hc.2.2.1
  have hb : 0 ≤ d → d < dN c → zand (zshr (V a 6) d) 1 = if (nlC c).testBit d.toNat then 1 else 0 := fun x y => by rw [hW.2.2.2.2.2.2.1]; exact bit_z (by omega) x (by omega)
  have hb2 : 0 ≤ d → d < dN c → zand (zshr (V a 9) d) 1 = if (lkC c).testBit d.toNat then 1 else 0 := fun x y => by rw [hW.2.2.2.2.2.2.2.1]; exact bit_z (by omega) x (by omega)
  obtain ⟨hs, hhs⟩ : ∃ hs : Nat, hs = inP c n 0 &&& th := ⟨_, rfl⟩
  have hs4 : hs < 4 := by rw [hhs]; exact Nat.lt_of_le_of_lt Nat.and_le_right ht4
  have e1 : zand (V a 12) t = hs := by rw [hA.2.1, ht, hhs]; exact zand_n (by rw [← hhs]; omega)
  have e2 : zand hs (V a 10) = (hs &&& kyC c : Nat) := by rw [hW.2.2.2.2.2.2.2.2.1]; exact zand_n (Nat.lt_of_le_of_lt Nat.and_le_left (by omega))
  have e3 : zbc hs < 2 ↔ hs ≠ 3 := by
    rw [zbc_16 hs (by omega)]
    rcases (show hs = 0 ∨ hs = 1 ∨ hs = 2 ∨ hs = 3 by omega) with q | q | q | q <;> rw [q] <;> decide
  rw [← hhs] at h1 h0
  refine wp_intro mH_mayOpen_i.1 [some (vR a), some (vI d), some (vI t), none, none] rfl rfl (Nat.le_of_ble_eq_true rfl) ?_
  intro X hG F C
  have hm := C.rm
  refine aw_aload_0 (q := 1) F dH_mayOpen_0 rfl ?_
  refine av_geti (q := 4) F fH_84 dH_mayOpen_1 rfl rfl (by first | exact hH.o | exact hH.a1 | exact hH.a2 | exact hH.a3 | exact hH.a4 | exact hH.a5 | exact hH) ?_
  refine aw_iload_2 (q := 5) F dH_mayOpen_4 rfl ?_
  refine aw_iand (q := 6) F dH_mayOpen_5 rfl ?_
  rw [e1]
  refine aw_istore_3 (q := 7) F dH_mayOpen_6 rfl trivial ?_
  refine aw_iload_1 (q := 8) F dH_mayOpen_7 rfl ?_
  refine aw_if_lt (q := 11) (t := 43) F dH_mayOpen_8 rfl (by decide) (fun c8 => ?_) (fun c8 => ?_)
  · refine aw_iconst (q := 44) F dH_mayOpen_43 rfl (by decide) ?_
    refine aw_zret F C dH_mayOpen_44 rfl (by decide) (Nat.le_refl _) (Nat.le_refl _) ?_
    refine h0 (fun x y => Bool.eq_false_iff.mpr (fun q => ?_))
    obtain ⟨q1, q2, q3, q4, q5⟩ := mO_iff.mp q
    have r1 := hl x y
    have r2 := hb x y
    rw [q2] at r2
    simp at r2
    omega
  · refine aw_iload_1 (q := 12) F dH_mayOpen_11 rfl ?_
    refine aw_aload_0 (q := 13) F dH_mayOpen_12 rfl ?_
    refine av_geti (q := 16) F fH_45 dH_mayOpen_13 rfl rfl (by first | exact hH.o | exact hH.a1 | exact hH.a2 | exact hH.a3 | exact hH.a4 | exact hH.a5 | exact hH) ?_
    refine aw_icmp_ge (q := 19) (t := 43) F dH_mayOpen_16 rfl (by decide) (fun c16 => ?_) (fun c16 => ?_)
    · refine aw_iconst (q := 44) F dH_mayOpen_43 rfl (by decide) ?_
      refine aw_zret F C dH_mayOpen_44 rfl (by decide) (Nat.le_refl _) (Nat.le_refl _) ?_
      refine h0 (fun x y => Bool.eq_false_iff.mpr (fun q => ?_))
      obtain ⟨q1, q2, q3, q4, q5⟩ := mO_iff.mp q
      have r1 := hl x y
      have r2 := hb x y
      rw [q2] at r2
      simp at r2
      omega
    · refine aw_aload_0 (q := 20) F dH_mayOpen_19 rfl ?_
      refine av_getaE (q := 23) F fH_22 dH_mayOpen_20 rfl rfl (by first | exact hH.o | exact hH.a1 | exact hH.a2 | exact hH.a3 | exact hH.a4 | exact hH.a5 | exact hH) hH.p14 ?_
      refine aw_iload_1 (q := 24) F dH_mayOpen_23 rfl ?_
      refine av_iaload (q := 25) F dH_mayOpen_24 rfl (by first | exact hH.o | exact hH.a1 | exact hH.a2 | exact hH.a3 | exact hH.a4 | exact hH.a5 | exact hH) (by omega) (by omega) ?_
      refine aw_if_ne (q := 28) (t := 43) F dH_mayOpen_25 rfl (by decide) (fun c25 => ?_) (fun c25 => ?_)
      · refine aw_iconst (q := 44) F dH_mayOpen_43 rfl (by decide) ?_
        refine aw_zret F C dH_mayOpen_44 rfl (by decide) (Nat.le_refl _) (Nat.le_refl _) ?_
        refine h0 (fun x y => Bool.eq_false_iff.mpr (fun q => ?_))
        obtain ⟨q1, q2, q3, q4, q5⟩ := mO_iff.mp q
        have r1 := hl x y
        have r2 := hb x y
        rw [q2] at r2
        simp at r2
        omega
      · refine aw_iload_3 (q := 29) F dH_mayOpen_28 rfl ?_
        refine aw_if_eq (q := 32) (t := 43) F dH_mayOpen_29 rfl (by decide) (fun c29 => ?_) (fun c29 => ?_)
        · refine aw_iconst (q := 44) F dH_mayOpen_43 rfl (by decide) ?_
          refine aw_zret F C dH_mayOpen_44 rfl (by decide) (Nat.le_refl _) (Nat.le_refl _) ?_
          refine h0 (fun x y => Bool.eq_false_iff.mpr (fun q => ?_))
          obtain ⟨q1, q2, q3, q4, q5⟩ := mO_iff.mp q
          have r1 := hl x y
          have r2 := hb x y
          rw [q2] at r2
          simp at r2
          omega
        · refine aw_aload_0 (q := 33) F dH_mayOpen_32 rfl ?_
          refine av_geti (q := 36) F fH_76 dH_mayOpen_33 rfl rfl (by first | exact hH.o | exact hH.a1 | exact hH.a2 | exact hH.a3 | exact hH.a4 | exact hH.a5 | exact hH) ?_
          refine aw_iload_1 (q := 37) F dH_mayOpen_36 rfl ?_
          refine aw_ishr (q := 38) F dH_mayOpen_37 rfl ?_
          refine aw_iconst (q := 39) F dH_mayOpen_38 rfl (by decide) ?_
          refine aw_iand (q := 40) F dH_mayOpen_39 rfl ?_
          refine aw_if_eq (q := 43) (t := 45) F dH_mayOpen_40 rfl (by decide) (fun c40 => ?_) (fun c40 => ?_)
          · refine aw_aload_0 (q := 46) F dH_mayOpen_45 rfl ?_
            refine av_getaE (q := 49) F fH_18 dH_mayOpen_46 rfl rfl (by first | exact hH.o | exact hH.a1 | exact hH.a2 | exact hH.a3 | exact hH.a4 | exact hH.a5 | exact hH) hH.p8 ?_
            refine aw_iload_1 (q := 50) F dH_mayOpen_49 rfl ?_
            refine av_iaload (q := 51) F dH_mayOpen_50 rfl (by first | exact hH.o | exact hH.a1 | exact hH.a2 | exact hH.a3 | exact hH.a4 | exact hH.a5 | exact hH) (by omega) (by omega) ?_
            refine aw_iconst (q := 52) F dH_mayOpen_51 rfl (by decide) ?_
            refine aw_icmp_ne (q := 55) (t := 63) F dH_mayOpen_52 rfl (by decide) (fun c52 => ?_) (fun c52 => ?_)
            · refine aw_iconst (q := 64) F dH_mayOpen_63 rfl (by decide) ?_
              refine aw_goto (t := 68) F dH_mayOpen_64 (by decide) ?_
              refine aw_istore_4 (q := 70) F dH_mayOpen_68 rfl trivial ?_
              refine aw_iload_4 (q := 72) F dH_mayOpen_70 rfl ?_
              refine aw_if_eq (q := 75) (t := 99) F dH_mayOpen_72 rfl (by decide) (fun c72 => absurd c72 (by decide)) (fun c72 => ?_)
              refine aw_aload_0 (q := 76) F dH_mayOpen_75 rfl ?_
              refine av_geti (q := 79) F fH_53 dH_mayOpen_76 rfl rfl (by first | exact hH.o | exact hH.a1 | exact hH.a2 | exact hH.a3 | exact hH.a4 | exact hH.a5 | exact hH) ?_
              refine aw_iload_1 (q := 80) F dH_mayOpen_79 rfl ?_
              refine aw_ishr (q := 81) F dH_mayOpen_80 rfl ?_
              refine aw_iconst (q := 82) F dH_mayOpen_81 rfl (by decide) ?_
              refine aw_iand (q := 83) F dH_mayOpen_82 rfl ?_
              refine aw_if_eq (q := 86) (t := 95) F dH_mayOpen_83 rfl (by decide) (fun c83 => ?_) (fun c83 => ?_)
              · refine aw_iconst (q := 96) F dH_mayOpen_95 rfl (by decide) ?_
                refine aw_goto (t := 100) F dH_mayOpen_96 (by decide) ?_
                refine aw_zret F C dH_mayOpen_100 rfl (by decide) (Nat.le_refl _) (Nat.le_refl _) ?_
                have x : 0 ≤ d := (by omega)
                have y : d < dN c := (by omega)
                have r1 := hl x y
                have r2 := hb x y
                have r3 := hb2 x y
                have r4 := hk x y
                refine h1 x y (mO_iff.mpr ⟨by omega, ?_, by omega, by omega, ?_⟩)
                · cases hbit : (nlC c).testBit d.toNat <;> rw [hbit] at r2 <;> simp at r2 <;> first | rfl | omega
                · intro hbit; rw [hbit] at r3; simp at r3; omega
              · refine aw_iload_3 (q := 87) F dH_mayOpen_86 rfl ?_
                refine aw_aload_0 (q := 88) F dH_mayOpen_87 rfl ?_
                refine av_geti (q := 91) F fH_57 dH_mayOpen_88 rfl rfl (by first | exact hH.o | exact hH.a1 | exact hH.a2 | exact hH.a3 | exact hH.a4 | exact hH.a5 | exact hH) ?_
                refine aw_iand (q := 92) F dH_mayOpen_91 rfl ?_
                rw [e2]
                refine aw_if_eq (q := 95) (t := 99) F dH_mayOpen_92 rfl (by decide) (fun c92 => ?_) (fun c92 => ?_)
                · refine aw_iconst (q := 100) F dH_mayOpen_99 rfl (by decide) ?_
                  refine aw_zret F C dH_mayOpen_100 rfl (by decide) (Nat.le_refl _) (Nat.le_refl _) ?_
                  refine h0 (fun x y => Bool.eq_false_iff.mpr (fun q => ?_))
                  obtain ⟨q1, q2, q3, q4, q5⟩ := mO_iff.mp q
                  have r3 := hb2 x y
                  have r4 := hk x y
                  cases hbit : (lkC c).testBit d.toNat <;> rw [hbit] at r3 q5 <;> simp at r3 q5 <;> omega
                · refine aw_iconst (q := 96) F dH_mayOpen_95 rfl (by decide) ?_
                  refine aw_goto (t := 100) F dH_mayOpen_96 (by decide) ?_
                  refine aw_zret F C dH_mayOpen_100 rfl (by decide) (Nat.le_refl _) (Nat.le_refl _) ?_
                  have x : 0 ≤ d := (by omega)
                  have y : d < dN c := (by omega)
                  have r1 := hl x y
                  have r2 := hb x y
                  have r3 := hb2 x y
                  have r4 := hk x y
                  refine h1 x y (mO_iff.mpr ⟨by omega, ?_, by omega, by omega, ?_⟩)
                  · cases hbit : (nlC c).testBit d.toNat <;> rw [hbit] at r2 <;> simp at r2 <;> first | rfl | omega
                  · intro hbit; rw [hbit] at r3; simp at r3; omega
            · refine aw_iload_3 (q := 56) F dH_mayOpen_55 rfl ?_
              refine av_callS1 (q := 59) F hm mJI_bitCount_i mJI_bitCount_n lH_121 dH_mayOpen_56 rfl (by decide) (Nat.le_refl _) (Nat.le_refl _) (Nat.le_of_ble_eq_true rfl) (wJI_bitCount (by omega) (by omega) ?_)
              refine aw_iconst (q := 60) F dH_mayOpen_59 rfl (by decide) ?_
              refine aw_icmp_lt (q := 63) (t := 67) F dH_mayOpen_60 rfl (by decide) (fun c60 => ?_) (fun c60 => ?_)
              · refine aw_iconst (q := 68) F dH_mayOpen_67 rfl (by decide) ?_
                refine aw_istore_4 (q := 70) F dH_mayOpen_68 rfl trivial ?_
                refine aw_iload_4 (q := 72) F dH_mayOpen_70 rfl ?_
                refine aw_if_eq (q := 75) (t := 99) F dH_mayOpen_72 rfl (by decide) (fun c72 => ?_) (fun c72 => absurd c72 (by decide))
                refine aw_iconst (q := 100) F dH_mayOpen_99 rfl (by decide) ?_
                refine aw_zret F C dH_mayOpen_100 rfl (by decide) (Nat.le_refl _) (Nat.le_refl _) ?_
                refine h0 (fun x y => Bool.eq_false_iff.mpr (fun q => ?_))
                obtain ⟨q1, q2, q3, q4, q5⟩ := mO_iff.mp q
                have r3 := hb2 x y
                have r4 := hk x y
                cases hbit : (lkC c).testBit d.toNat <;> rw [hbit] at r3 q5 <;> simp at r3 q5 <;> omega
              · refine aw_iconst (q := 64) F dH_mayOpen_63 rfl (by decide) ?_
                refine aw_goto (t := 68) F dH_mayOpen_64 (by decide) ?_
                refine aw_istore_4 (q := 70) F dH_mayOpen_68 rfl trivial ?_
                refine aw_iload_4 (q := 72) F dH_mayOpen_70 rfl ?_
                refine aw_if_eq (q := 75) (t := 99) F dH_mayOpen_72 rfl (by decide) (fun c72 => absurd c72 (by decide)) (fun c72 => ?_)
                refine aw_aload_0 (q := 76) F dH_mayOpen_75 rfl ?_
                refine av_geti (q := 79) F fH_53 dH_mayOpen_76 rfl rfl (by first | exact hH.o | exact hH.a1 | exact hH.a2 | exact hH.a3 | exact hH.a4 | exact hH.a5 | exact hH) ?_
                refine aw_iload_1 (q := 80) F dH_mayOpen_79 rfl ?_
                refine aw_ishr (q := 81) F dH_mayOpen_80 rfl ?_
                refine aw_iconst (q := 82) F dH_mayOpen_81 rfl (by decide) ?_
                refine aw_iand (q := 83) F dH_mayOpen_82 rfl ?_
                refine aw_if_eq (q := 86) (t := 95) F dH_mayOpen_83 rfl (by decide) (fun c83 => ?_) (fun c83 => ?_)
                · refine aw_iconst (q := 96) F dH_mayOpen_95 rfl (by decide) ?_
                  refine aw_goto (t := 100) F dH_mayOpen_96 (by decide) ?_
                  refine aw_zret F C dH_mayOpen_100 rfl (by decide) (Nat.le_refl _) (Nat.le_refl _) ?_
                  have x : 0 ≤ d := (by omega)
                  have y : d < dN c := (by omega)
                  have r1 := hl x y
                  have r2 := hb x y
                  have r3 := hb2 x y
                  have r4 := hk x y
                  refine h1 x y (mO_iff.mpr ⟨by omega, ?_, by omega, by omega, ?_⟩)
                  · cases hbit : (nlC c).testBit d.toNat <;> rw [hbit] at r2 <;> simp at r2 <;> first | rfl | omega
                  · intro hbit; rw [hbit] at r3; simp at r3; omega
                · refine aw_iload_3 (q := 87) F dH_mayOpen_86 rfl ?_
                  refine aw_aload_0 (q := 88) F dH_mayOpen_87 rfl ?_
                  refine av_geti (q := 91) F fH_57 dH_mayOpen_88 rfl rfl (by first | exact hH.o | exact hH.a1 | exact hH.a2 | exact hH.a3 | exact hH.a4 | exact hH.a5 | exact hH) ?_
                  refine aw_iand (q := 92) F dH_mayOpen_91 rfl ?_
                  rw [e2]
                  refine aw_if_eq (q := 95) (t := 99) F dH_mayOpen_92 rfl (by decide) (fun c92 => ?_) (fun c92 => ?_)
                  · refine aw_iconst (q := 100) F dH_mayOpen_99 rfl (by decide) ?_
                    refine aw_zret F C dH_mayOpen_100 rfl (by decide) (Nat.le_refl _) (Nat.le_refl _) ?_
                    refine h0 (fun x y => Bool.eq_false_iff.mpr (fun q => ?_))
                    obtain ⟨q1, q2, q3, q4, q5⟩ := mO_iff.mp q
                    have r3 := hb2 x y
                    have r4 := hk x y
                    cases hbit : (lkC c).testBit d.toNat <;> rw [hbit] at r3 q5 <;> simp at r3 q5 <;> omega
                  · refine aw_iconst (q := 96) F dH_mayOpen_95 rfl (by decide) ?_
                    refine aw_goto (t := 100) F dH_mayOpen_96 (by decide) ?_
                    refine aw_zret F C dH_mayOpen_100 rfl (by decide) (Nat.le_refl _) (Nat.le_refl _) ?_
                    have x : 0 ≤ d := (by omega)
                    have y : d < dN c := (by omega)
                    have r1 := hl x y
                    have r2 := hb x y
                    have r3 := hb2 x y
                    have r4 := hk x y
                    refine h1 x y (mO_iff.mpr ⟨by omega, ?_, by omega, by omega, ?_⟩)
                    · cases hbit : (nlC c).testBit d.toNat <;> rw [hbit] at r2 <;> simp at r2 <;> first | rfl | omega
                    · intro hbit; rw [hbit] at r3; simp at r3; omega
          · refine aw_iconst (q := 44) F dH_mayOpen_43 rfl (by decide) ?_
            refine aw_zret F C dH_mayOpen_44 rfl (by decide) (Nat.le_refl _) (Nat.le_refl _) ?_
            refine h0 (fun x y => Bool.eq_false_iff.mpr (fun q => ?_))
            obtain ⟨q1, q2, q3, q4, q5⟩ := mO_iff.mp q
            have r1 := hl x y
            have r2 := hb x y
            rw [q2] at r2
            simp at r2
            omega
theorem wH_mayShut {d t : Int} {th : Nat} (ht : t = th) (ht4 : th < 4) (hH : hS σ a) (h : HH V a c n) (h1 : 0 ≤ d → d < dN c → mS c n th d.toNat = true → K (some (vI 1)) (V, σ)) (h0 : (0 ≤ d → d < dN c → mS c n th d.toNat = false) → K (some (vI 0)) (V, σ)) : Wp G 1 mH_mayShut [vR a, vI d, vI t] (V, σ) 0 0 K := by
  have hh := h
  have hH := hH
  obtain ⟨hc, hW, hA⟩ := h
  have hD4 := hc.1
  have hP2 := hc.2.1
  have v0 : V a 0 = dN c := hW.1
  have v1 : V a 1 = pN c := hW.2.1
  have hl : 0 ≤ d → d < dN c → V (a + 2) d.toNat = ld c n d.toNat := fun x y => hA.2.2.2.1 _ (by omega)
  have hk : 0 ≤ d → d < dN c → V (a + 1) d.toNat = kdC c d.toNat := fun x y => (hW.2.2.2.2.2.2.2.2.2.2.1 _ (by omega)).1
  have hin : ∀ r, inP c n r < 4 := fun r => Nat.lt_of_lt_of_le (bsum_lt _ _) (Nat.pow_le_pow_right (n := 2) (by decide) hP2)
  have hor : ∀ r, inP c n 0 ||| inP c n r < 4 := fun r => Nat.or_lt_two_pow (n := 2) (hin 0) (hin r)
  have e1 : ∀ r, zand (zor (V a 12) (inP c n r)) t = ((inP c n 0 ||| inP c n r) &&& th : Nat) := fun r => by
    rw [hA.2.1, zor_n (by have := hor r; omega), ht, zand_n (Nat.lt_of_le_of_lt Nat.and_le_right (by omega))]
  refine wp_intro mH_mayShut_i.1 [some (vR a), some (vI d), some (vI t)] rfl rfl (Nat.le_of_ble_eq_true rfl) ?_
  intro X hG F C
  have hm := C.rm
  refine aw_iload_1 (q := 1) F dH_mayShut_0 rfl ?_
  refine aw_if_lt (q := 4) (t := 31) F dH_mayShut_1 rfl (by decide) (fun c1 => ?_) (fun c1 => ?_)
  · refine aw_iconst (q := 32) F dH_mayShut_31 rfl (by decide) ?_
    refine aw_zret F C dH_mayShut_32 rfl (by decide) (Nat.le_refl _) (Nat.le_refl _) ?_
    refine h0 (fun x y => Bool.eq_false_iff.mpr (fun q => ?_))
    obtain ⟨q1, q2, q3⟩ := mS_iff.mp q
    have r1 := hl x y
    have r4 := hk x y
    omega
  · refine aw_iload_1 (q := 5) F dH_mayShut_4 rfl ?_
    refine aw_aload_0 (q := 6) F dH_mayShut_5 rfl ?_
    refine av_geti (q := 9) F fH_45 dH_mayShut_6 rfl rfl (by first | exact hH.o | exact hH.a1 | exact hH.a2 | exact hH.a3 | exact hH.a4 | exact hH.a5 | exact hH) ?_
    refine aw_icmp_ge (q := 12) (t := 31) F dH_mayShut_9 rfl (by decide) (fun c9 => ?_) (fun c9 => ?_)
    · refine aw_iconst (q := 32) F dH_mayShut_31 rfl (by decide) ?_
      refine aw_zret F C dH_mayShut_32 rfl (by decide) (Nat.le_refl _) (Nat.le_refl _) ?_
      refine h0 (fun x y => Bool.eq_false_iff.mpr (fun q => ?_))
      obtain ⟨q1, q2, q3⟩ := mS_iff.mp q
      have r1 := hl x y
      have r4 := hk x y
      omega
    · refine aw_aload_0 (q := 13) F dH_mayShut_12 rfl ?_
      refine av_getaE (q := 16) F fH_22 dH_mayShut_13 rfl rfl (by first | exact hH.o | exact hH.a1 | exact hH.a2 | exact hH.a3 | exact hH.a4 | exact hH.a5 | exact hH) hH.p14 ?_
      refine aw_iload_1 (q := 17) F dH_mayShut_16 rfl ?_
      refine av_iaload (q := 18) F dH_mayShut_17 rfl (by first | exact hH.o | exact hH.a1 | exact hH.a2 | exact hH.a3 | exact hH.a4 | exact hH.a5 | exact hH) (by omega) (by omega) ?_
      refine aw_if_eq (q := 21) (t := 31) F dH_mayShut_18 rfl (by decide) (fun c18 => ?_) (fun c18 => ?_)
      · refine aw_iconst (q := 32) F dH_mayShut_31 rfl (by decide) ?_
        refine aw_zret F C dH_mayShut_32 rfl (by decide) (Nat.le_refl _) (Nat.le_refl _) ?_
        refine h0 (fun x y => Bool.eq_false_iff.mpr (fun q => ?_))
        obtain ⟨q1, q2, q3⟩ := mS_iff.mp q
        have r1 := hl x y
        have r4 := hk x y
        omega
      · refine aw_aload_0 (q := 22) F dH_mayShut_21 rfl ?_
        refine av_getaE (q := 25) F fH_18 dH_mayShut_22 rfl rfl (by first | exact hH.o | exact hH.a1 | exact hH.a2 | exact hH.a3 | exact hH.a4 | exact hH.a5 | exact hH) hH.p8 ?_
        refine aw_iload_1 (q := 26) F dH_mayShut_25 rfl ?_
        refine av_iaload (q := 27) F dH_mayShut_26 rfl (by first | exact hH.o | exact hH.a1 | exact hH.a2 | exact hH.a3 | exact hH.a4 | exact hH.a5 | exact hH) (by omega) (by omega) ?_
        refine aw_iconst (q := 28) F dH_mayShut_27 rfl (by decide) ?_
        refine aw_icmp_ne (q := 31) (t := 33) F dH_mayShut_28 rfl (by decide) (fun c28 => ?_) (fun c28 => ?_)
        · refine aw_aload_0 (q := 34) F dH_mayShut_33 rfl ?_
          refine av_geti (q := 37) F fH_84 dH_mayShut_34 rfl rfl (by first | exact hH.o | exact hH.a1 | exact hH.a2 | exact hH.a3 | exact hH.a4 | exact hH.a5 | exact hH) ?_
          refine aw_aload_0 (q := 38) F dH_mayShut_37 rfl ?_
          refine aw_aload_0 (q := 39) F dH_mayShut_38 rfl ?_
          refine av_getaE (q := 42) F fH_22 dH_mayShut_39 rfl rfl (by first | exact hH.o | exact hH.a1 | exact hH.a2 | exact hH.a3 | exact hH.a4 | exact hH.a5 | exact hH) hH.p14 ?_
          refine aw_iload_1 (q := 43) F dH_mayShut_42 rfl ?_
          refine av_iaload (q := 44) F dH_mayShut_43 rfl (by first | exact hH.o | exact hH.a1 | exact hH.a2 | exact hH.a3 | exact hH.a4 | exact hH.a5 | exact hH) (by omega) (by omega) ?_
          refine av_callV1 (q := 47) (ci := 2) F hm mH_peopleAt_i mH_peopleAt_n lH_127 dH_mayShut_44 rfl rfl rfl (by first | exact hH.o | exact hH.a1 | exact hH.a2 | exact hH.a3 | exact hH.a4 | exact hH.a5 | exact hH) (by decide) (Nat.le_refl _) (Nat.le_refl _) (Nat.le_of_ble_eq_true rfl) (wH_peopleAt (hl (by omega) (by omega)) hH hh ?_)
          refine aw_ior (q := 48) F dH_mayShut_47 rfl ?_
          refine aw_iload_2 (q := 49) F dH_mayShut_48 rfl ?_
          refine aw_iand (q := 50) F dH_mayShut_49 rfl ?_
          rw [e1]
          refine aw_if_eq (q := 53) (t := 57) F dH_mayShut_50 rfl (by decide) (fun c50 => ?_) (fun c50 => ?_)
          · refine aw_iconst (q := 58) F dH_mayShut_57 rfl (by decide) ?_
            refine aw_zret F C dH_mayShut_58 rfl (by decide) (Nat.le_refl _) (Nat.le_refl _) ?_
            refine h0 (fun x y => Bool.eq_false_iff.mpr (fun q => ?_))
            obtain ⟨q1, q2, q3⟩ := mS_iff.mp q
            omega
          · refine aw_iconst (q := 54) F dH_mayShut_53 rfl (by decide) ?_
            refine aw_goto (t := 58) F dH_mayShut_54 (by decide) ?_
            refine aw_zret F C dH_mayShut_58 rfl (by decide) (Nat.le_refl _) (Nat.le_refl _) ?_
            have x : 0 ≤ d := (by omega)
            have y : d < dN c := (by omega)
            have r1 := hl x y
            have r4 := hk x y
            exact h1 x y (mS_iff.mpr ⟨by omega, by omega, by omega⟩)
        · refine aw_iconst (q := 32) F dH_mayShut_31 rfl (by decide) ?_
          refine aw_zret F C dH_mayShut_32 rfl (by decide) (Nat.le_refl _) (Nat.le_refl _) ?_
          refine h0 (fun x y => Bool.eq_false_iff.mpr (fun q => ?_))
          obtain ⟨q1, q2, q3⟩ := mS_iff.mp q
          have r1 := hl x y
          have r4 := hk x y
          omega
theorem wH_mayGo {p d : Int} (hH : hS σ a) (h : HH V a c n) (h1 : 0 ≤ p → p < pN c → 0 ≤ d → d < dN c → mG c n p.toNat d.toNat = true → K (some (vI 1)) (V, σ)) (h0 : (0 ≤ p → p < pN c → 0 ≤ d → d < dN c → mG c n p.toNat d.toNat = false) → K (some (vI 0)) (V, σ)) : Wp G 0 mH_mayGo [vR a, vI p, vI d] (V, σ) 0 0 K := by
  have hH := hH
  obtain ⟨hc, hW, hA⟩ := h
  have hD4 := hc.1
  have hP2 := hc.2.1
  have v0 : V a 0 = dN c := hW.1
  have v1 : V a 1 = pN c := hW.2.1
  have hl : 0 ≤ d → d < dN c → V (a + 2) d.toNat = ld c n d.toNat := fun x y => hA.2.2.2.1 _ (by omega)
  have hp : 0 ≤ p → p < pN c → V (a + 3) p.toNat = pl c n p.toNat := fun x y => hA.2.2.2.2 _ (by omega)
  refine wp_intro mH_mayGo_i.1 [some (vR a), some (vI p), some (vI d)] rfl rfl (Nat.le_of_ble_eq_true rfl) ?_
  intro X hG F C
  have hm := C.rm
  refine aw_iload_1 (q := 1) F dH_mayGo_0 rfl ?_
  refine aw_if_lt (q := 4) (t := 33) F dH_mayGo_1 rfl (by decide) (fun c1 => ?_) (fun c1 => ?_)
  · refine aw_iconst (q := 34) F dH_mayGo_33 rfl (by decide) ?_
    refine aw_zret F C dH_mayGo_34 rfl (by decide) (Nat.le_refl _) (Nat.le_refl _) ?_
    refine h0 (fun u v x y => Bool.eq_false_iff.mpr (fun q => ?_))
    obtain ⟨q1, q2⟩ := mG_iff.mp q
    have r1 := hl x y
    have r2 := hp u v
    omega
  · refine aw_iload_1 (q := 5) F dH_mayGo_4 rfl ?_
    refine aw_aload_0 (q := 6) F dH_mayGo_5 rfl ?_
    refine av_geti (q := 9) F fH_49 dH_mayGo_6 rfl rfl (by first | exact hH.o | exact hH.a1 | exact hH.a2 | exact hH.a3 | exact hH.a4 | exact hH.a5 | exact hH) ?_
    refine aw_icmp_ge (q := 12) (t := 33) F dH_mayGo_9 rfl (by decide) (fun c9 => ?_) (fun c9 => ?_)
    · refine aw_iconst (q := 34) F dH_mayGo_33 rfl (by decide) ?_
      refine aw_zret F C dH_mayGo_34 rfl (by decide) (Nat.le_refl _) (Nat.le_refl _) ?_
      refine h0 (fun u v x y => Bool.eq_false_iff.mpr (fun q => ?_))
      obtain ⟨q1, q2⟩ := mG_iff.mp q
      have r1 := hl x y
      have r2 := hp u v
      omega
    · refine aw_iload_2 (q := 13) F dH_mayGo_12 rfl ?_
      refine aw_if_lt (q := 16) (t := 33) F dH_mayGo_13 rfl (by decide) (fun c13 => ?_) (fun c13 => ?_)
      · refine aw_iconst (q := 34) F dH_mayGo_33 rfl (by decide) ?_
        refine aw_zret F C dH_mayGo_34 rfl (by decide) (Nat.le_refl _) (Nat.le_refl _) ?_
        refine h0 (fun u v x y => Bool.eq_false_iff.mpr (fun q => ?_))
        obtain ⟨q1, q2⟩ := mG_iff.mp q
        have r1 := hl x y
        have r2 := hp u v
        omega
      · refine aw_iload_2 (q := 17) F dH_mayGo_16 rfl ?_
        refine aw_aload_0 (q := 18) F dH_mayGo_17 rfl ?_
        refine av_geti (q := 21) F fH_45 dH_mayGo_18 rfl rfl (by first | exact hH.o | exact hH.a1 | exact hH.a2 | exact hH.a3 | exact hH.a4 | exact hH.a5 | exact hH) ?_
        refine aw_icmp_ge (q := 24) (t := 33) F dH_mayGo_21 rfl (by decide) (fun c21 => ?_) (fun c21 => ?_)
        · refine aw_iconst (q := 34) F dH_mayGo_33 rfl (by decide) ?_
          refine aw_zret F C dH_mayGo_34 rfl (by decide) (Nat.le_refl _) (Nat.le_refl _) ?_
          refine h0 (fun u v x y => Bool.eq_false_iff.mpr (fun q => ?_))
          obtain ⟨q1, q2⟩ := mG_iff.mp q
          have r1 := hl x y
          have r2 := hp u v
          omega
        · refine aw_aload_0 (q := 25) F dH_mayGo_24 rfl ?_
          refine av_getaE (q := 28) F fH_22 dH_mayGo_25 rfl rfl (by first | exact hH.o | exact hH.a1 | exact hH.a2 | exact hH.a3 | exact hH.a4 | exact hH.a5 | exact hH) hH.p14 ?_
          refine aw_iload_2 (q := 29) F dH_mayGo_28 rfl ?_
          refine av_iaload (q := 30) F dH_mayGo_29 rfl (by first | exact hH.o | exact hH.a1 | exact hH.a2 | exact hH.a3 | exact hH.a4 | exact hH.a5 | exact hH) (by omega) (by omega) ?_
          refine aw_if_ne (q := 33) (t := 35) F dH_mayGo_30 rfl (by decide) (fun c30 => ?_) (fun c30 => ?_)
          · refine aw_aload_0 (q := 36) F dH_mayGo_35 rfl ?_
            refine av_getaE (q := 39) F fH_25 dH_mayGo_36 rfl rfl (by first | exact hH.o | exact hH.a1 | exact hH.a2 | exact hH.a3 | exact hH.a4 | exact hH.a5 | exact hH) hH.p15 ?_
            refine aw_iload_1 (q := 40) F dH_mayGo_39 rfl ?_
            refine av_iaload (q := 41) F dH_mayGo_40 rfl (by first | exact hH.o | exact hH.a1 | exact hH.a2 | exact hH.a3 | exact hH.a4 | exact hH.a5 | exact hH) (by omega) (by omega) ?_
            refine aw_if_eq (q := 44) (t := 59) F dH_mayGo_41 rfl (by decide) (fun c41 => ?_) (fun c41 => ?_)
            · refine aw_iconst (q := 60) F dH_mayGo_59 rfl (by decide) ?_
              refine aw_goto (t := 64) F dH_mayGo_60 (by decide) ?_
              refine aw_zret F C dH_mayGo_64 rfl (by decide) (Nat.le_refl _) (Nat.le_refl _) ?_
              have r1 := hl (by omega) (by omega)
              have r2 := hp (by omega) (by omega)
              exact h1 (by omega) (by omega) (by omega) (by omega) (mG_iff.mpr ⟨by omega, by omega⟩)
            · refine aw_aload_0 (q := 45) F dH_mayGo_44 rfl ?_
              refine av_getaE (q := 48) F fH_25 dH_mayGo_45 rfl rfl (by first | exact hH.o | exact hH.a1 | exact hH.a2 | exact hH.a3 | exact hH.a4 | exact hH.a5 | exact hH) hH.p15 ?_
              refine aw_iload_1 (q := 49) F dH_mayGo_48 rfl ?_
              refine av_iaload (q := 50) F dH_mayGo_49 rfl (by first | exact hH.o | exact hH.a1 | exact hH.a2 | exact hH.a3 | exact hH.a4 | exact hH.a5 | exact hH) (by omega) (by omega) ?_
              refine aw_aload_0 (q := 51) F dH_mayGo_50 rfl ?_
              refine av_getaE (q := 54) F fH_22 dH_mayGo_51 rfl rfl (by first | exact hH.o | exact hH.a1 | exact hH.a2 | exact hH.a3 | exact hH.a4 | exact hH.a5 | exact hH) hH.p14 ?_
              refine aw_iload_2 (q := 55) F dH_mayGo_54 rfl ?_
              refine av_iaload (q := 56) F dH_mayGo_55 rfl (by first | exact hH.o | exact hH.a1 | exact hH.a2 | exact hH.a3 | exact hH.a4 | exact hH.a5 | exact hH) (by omega) (by omega) ?_
              refine aw_icmp_ne (q := 59) (t := 63) F dH_mayGo_56 rfl (by decide) (fun c56 => ?_) (fun c56 => ?_)
              · refine aw_iconst (q := 64) F dH_mayGo_63 rfl (by decide) ?_
                refine aw_zret F C dH_mayGo_64 rfl (by decide) (Nat.le_refl _) (Nat.le_refl _) ?_
                refine h0 (fun u v x y => Bool.eq_false_iff.mpr (fun q => ?_))
                obtain ⟨q1, q2⟩ := mG_iff.mp q
                have r1 := hl x y
                have r2 := hp u v
                omega
              · refine aw_iconst (q := 60) F dH_mayGo_59 rfl (by decide) ?_
                refine aw_goto (t := 64) F dH_mayGo_60 (by decide) ?_
                refine aw_zret F C dH_mayGo_64 rfl (by decide) (Nat.le_refl _) (Nat.le_refl _) ?_
                have r1 := hl (by omega) (by omega)
                have r2 := hp (by omega) (by omega)
                exact h1 (by omega) (by omega) (by omega) (by omega) (mG_iff.mpr ⟨by omega, by omega⟩)
          · refine aw_iconst (q := 34) F dH_mayGo_33 rfl (by decide) ?_
            refine aw_zret F C dH_mayGo_34 rfl (by decide) (Nat.le_refl _) (Nat.le_refl _) ?_
            refine h0 (fun u v x y => Bool.eq_false_iff.mpr (fun q => ?_))
            obtain ⟨q1, q2⟩ := mG_iff.mp q
            have r1 := hl x y
            have r2 := hp u v
            omega
/-- what a shutting adds to the number -/
def shI (c : Cfg) (n d : Nat) : Int := ((d : Int) - lst c n) * wB c (pN c + dN c) - (ld c n d : Int) * wB c (pN c + d)
theorem shI_bd (hc : okC c) {d : Nat} (hd : d < dN c) (hn : lst c n < dN c) : okI (((d : Int) - lst c n) * wB c (pN c + dN c)) ∧ okI ((ld c n d : Int) * wB c (pN c + d)) ∧ -200000 ≤ shI c n d ∧ shI c n d ≤ 100000 := by
  have hD4 := hc.1
  have hP2 := hc.2.1
  have w1 := wB_le hc (i := pN c + dN c) (by omega)
  have w2 := wB_le hc (i := pN c + d) (by omega)
  have l1 := ld_lt c n d
  have b5 := Bs_le hc
  have m1 : (ld c n d * wB c (pN c + d) : Nat) ≤ 4 * 15625 := Nat.mul_le_mul (by omega) w2
  have m2 : (d * wB c (pN c + dN c) : Nat) ≤ 3 * 15625 := Nat.mul_le_mul (by omega) w1
  have m3 : (lst c n * wB c (pN c + dN c) : Nat) ≤ 3 * 15625 := Nat.mul_le_mul (by omega) w1
  have e1 : (d : Int) * wB c (pN c + dN c) = (d * wB c (pN c + dN c) : Nat) := by simp
  have e2 : (lst c n : Int) * wB c (pN c + dN c) = (lst c n * wB c (pN c + dN c) : Nat) := by simp
  have e3 : (ld c n d : Int) * wB c (pN c + d) = (ld c n d * wB c (pN c + d) : Nat) := by simp
  unfold shI
  rw [Int.sub_mul, e1, e2, e3]
  refine ⟨?_, ?_, ?_, ?_⟩
  · constructor <;> omega
  · constructor <;> omega
  · omega
  · omega
theorem wH_shutting {d : Int} (hd : 0 ≤ d ∧ d < dN c) (hl : lst c n < dN c) (hH : hS σ a) (h : HH V a c n) (hK : K (some (vI (shI c n d.toNat))) (V, σ)) : Wp G 0 mH_shutting [vR a, vI d] (V, σ) 0 0 K := by
  have hH := hH
  obtain ⟨hc, hW, hA⟩ := h
  have hD4 := hc.1
  have hP2 := hc.2.1
  have v0 : V a 0 = dN c := hW.1
  have v1 : V a 1 = pN c := hW.2.1
  have e7 : V a 7 = lst c n := hA.2.2.1
  have e11 : V a 11 = wB c (pN c + dN c) := hW.2.2.2.2.2.2.2.2.2.1 (by omega)
  have e2 : V (a + 2) d.toNat = ld c n d.toNat := hA.2.2.2.1 _ (by omega)
  have e4 : V (a + 4) d.toNat = wB c (pN c + d.toNat) := (hW.2.2.2.2.2.2.2.2.2.2.1 _ (by omega)).2
  obtain ⟨o1, o2, o3, o4⟩ := shI_bd (n := n) (d := d.toNat) hc (by omega) hl
  rw [Int.toNat_of_nonneg hd.1] at o1
  have e : (d - V a 7) * V a 11 - V (a + 2) d.toNat * V (a + 4) d.toNat = shI c n d.toNat := by rw [e7, e11, e2, e4]; unfold shI; rw [Int.toNat_of_nonneg hd.1]
  refine wp_intro mH_shutting_i.1 [some (vR a), some (vI d)] rfl rfl (Nat.le_of_ble_eq_true rfl) ?_
  intro X hG F C
  have hm := C.rm
  refine aw_iload_1 (q := 1) F dH_shutting_0 rfl ?_
  refine aw_aload_0 (q := 2) F dH_shutting_1 rfl ?_
  refine av_geti (q := 5) F fH_87 dH_shutting_2 rfl rfl (by first | exact hH.o | exact hH.a1 | exact hH.a2 | exact hH.a3 | exact hH.a4 | exact hH.a5 | exact hH) ?_
  refine aw_isub (q := 6) F dH_shutting_5 rfl (by constructor <;> omega) ?_
  refine aw_aload_0 (q := 7) F dH_shutting_6 rfl ?_
  refine av_geti (q := 10) F fH_61 dH_shutting_7 rfl rfl (by first | exact hH.o | exact hH.a1 | exact hH.a2 | exact hH.a3 | exact hH.a4 | exact hH.a5 | exact hH) ?_
  refine aw_imul (q := 11) F dH_shutting_10 rfl (by rw [e7, e11]; exact o1) ?_
  refine aw_aload_0 (q := 12) F dH_shutting_11 rfl ?_
  refine av_getaE (q := 15) F fH_22 dH_shutting_12 rfl rfl (by first | exact hH.o | exact hH.a1 | exact hH.a2 | exact hH.a3 | exact hH.a4 | exact hH.a5 | exact hH) hH.p14 ?_
  refine aw_iload_1 (q := 16) F dH_shutting_15 rfl ?_
  refine av_iaload (q := 17) F dH_shutting_16 rfl (by first | exact hH.o | exact hH.a1 | exact hH.a2 | exact hH.a3 | exact hH.a4 | exact hH.a5 | exact hH) (by omega) (by omega) ?_
  refine aw_aload_0 (q := 18) F dH_shutting_17 rfl ?_
  refine av_getaE (q := 21) F fH_28 dH_shutting_18 rfl rfl (by first | exact hH.o | exact hH.a1 | exact hH.a2 | exact hH.a3 | exact hH.a4 | exact hH.a5 | exact hH) hH.p16 ?_
  refine aw_iload_1 (q := 22) F dH_shutting_21 rfl ?_
  refine av_iaload (q := 23) F dH_shutting_22 rfl (by first | exact hH.o | exact hH.a1 | exact hH.a2 | exact hH.a3 | exact hH.a4 | exact hH.a5 | exact hH) (by omega) (by omega) ?_
  refine aw_imul (q := 24) F dH_shutting_23 rfl (by rw [e2, e4]; exact o2) ?_
  refine aw_isub (q := 25) F dH_shutting_24 rfl (by rw [e]; constructor <;> omega) ?_
  refine aw_iret F C dH_shutting_25 rfl (Nat.le_refl _) (Nat.le_refl _) ?_
  exact kI hK e.symm
end Hall1
