theorem dM_refused_0 : decode mM_refused.2.1 0 = .ok (.aload_n 0, 1) := by decide +kernel
theorem dM_refused_1 : decode mM_refused.2.1 1 = .ok (.iload_n 1, 1) := by decide +kernel
theorem dM_refused_2 : decode mM_refused.2.1 2 = .ok (.putfield 49, 3) := by decide +kernel
theorem dM_refused_5 : decode mM_refused.2.1 5 = .ok (.aload_n 0, 1) := by decide +kernel
theorem dM_refused_6 : decode mM_refused.2.1 6 = .ok (.iconst (-1), 1) := by decide +kernel
theorem dM_refused_7 : decode mM_refused.2.1 7 = .ok (.putfield 9, 3) := by decide +kernel
theorem dM_refused_10 : decode mM_refused.2.1 10 = .ok (.iconst (-1), 1) := by decide +kernel
theorem dM_refused_11 : decode mM_refused.2.1 11 = .ok (.ireturn, 1) := by decide +kernel
theorem dM_good_0 : decode mM_good.2.1 0 = .ok (.aload_n 0, 1) := by decide +kernel
theorem dM_good_1 : decode mM_good.2.1 1 = .ok (.iconst 0, 1) := by decide +kernel
theorem dM_good_2 : decode mM_good.2.1 2 = .ok (.putfield 49, 3) := by decide +kernel
theorem dM_good_5 : decode mM_good.2.1 5 = .ok (.aload_n 0, 1) := by decide +kernel
theorem dM_good_6 : decode mM_good.2.1 6 = .ok (.iconst (-1), 1) := by decide +kernel
theorem dM_good_7 : decode mM_good.2.1 7 = .ok (.putfield 9, 3) := by decide +kernel
theorem dM_good_10 : decode mM_good.2.1 10 = .ok (.iload_n 1, 1) := by decide +kernel
theorem dM_good_11 : decode mM_good.2.1 11 = .ok (.ireturn, 1) := by decide +kernel
theorem dM_lost_0 : decode mM_lost.2.1 0 = .ok (.aload_n 0, 1) := by decide +kernel
theorem dM_lost_1 : decode mM_lost.2.1 1 = .ok (.iload_n 1, 1) := by decide +kernel
theorem dM_lost_2 : decode mM_lost.2.1 2 = .ok (.invokevirtual 52, 3) := by decide +kernel
theorem dM_lost_5 : decode mM_lost.2.1 5 = .ok (.pop, 1) := by decide +kernel
theorem dM_lost_6 : decode mM_lost.2.1 6 = .ok (.bipush (-100), 2) := by decide +kernel
theorem dM_lost_8 : decode mM_lost.2.1 8 = .ok (.ireturn, 1) := by decide +kernel
theorem dM_denied_0 : decode mM_denied.2.1 0 = .ok (.aload_n 0, 1) := by decide +kernel
theorem dM_denied_1 : decode mM_denied.2.1 1 = .ok (.iload_n 1, 1) := by decide +kernel
theorem dM_denied_2 : decode mM_denied.2.1 2 = .ok (.invokevirtual 52, 3) := by decide +kernel
theorem dM_denied_5 : decode mM_denied.2.1 5 = .ok (.pop, 1) := by decide +kernel
theorem dM_denied_6 : decode mM_denied.2.1 6 = .ok (.iconst 0, 1) := by decide +kernel
theorem dM_denied_7 : decode mM_denied.2.1 7 = .ok (.ireturn, 1) := by decide +kernel
theorem dM_granted_0 : decode mM_granted.2.1 0 = .ok (.aload_n 0, 1) := by decide +kernel
theorem dM_granted_1 : decode mM_granted.2.1 1 = .ok (.iconst 0, 1) := by decide +kernel
theorem dM_granted_2 : decode mM_granted.2.1 2 = .ok (.invokevirtual 56, 3) := by decide +kernel
theorem dM_granted_5 : decode mM_granted.2.1 5 = .ok (.pop, 1) := by decide +kernel
theorem dM_granted_6 : decode mM_granted.2.1 6 = .ok (.iconst 1, 1) := by decide +kernel
theorem dM_granted_7 : decode mM_granted.2.1 7 = .ok (.ireturn, 1) := by decide +kernel
theorem dM_in_0 : decode mM_in.2.1 0 = .ok (.iload_n 0, 1) := by decide +kernel
theorem dM_in_1 : decode mM_in.2.1 1 = .ok (.iload_n 1, 1) := by decide +kernel
theorem dM_in_2 : decode mM_in.2.1 2 = .ok (.if_icmp .lt 12, 3) := by decide +kernel
theorem dM_in_5 : decode mM_in.2.1 5 = .ok (.iload_n 0, 1) := by decide +kernel
theorem dM_in_6 : decode mM_in.2.1 6 = .ok (.iload_n 2, 1) := by decide +kernel
theorem dM_in_7 : decode mM_in.2.1 7 = .ok (.if_icmp .gt 7, 3) := by decide +kernel
theorem dM_in_10 : decode mM_in.2.1 10 = .ok (.iconst 1, 1) := by decide +kernel
theorem dM_in_11 : decode mM_in.2.1 11 = .ok (.goto 4, 3) := by decide +kernel
theorem dM_in_14 : decode mM_in.2.1 14 = .ok (.iconst 0, 1) := by decide +kernel
theorem dM_in_15 : decode mM_in.2.1 15 = .ok (.ireturn, 1) := by decide +kernel
theorem dM_bit_0 : decode mM_bit.2.1 0 = .ok (.iload_n 0, 1) := by decide +kernel
theorem dM_bit_1 : decode mM_bit.2.1 1 = .ok (.iload_n 1, 1) := by decide +kernel
theorem dM_bit_2 : decode mM_bit.2.1 2 = .ok (.ishr, 1) := by decide +kernel
theorem dM_bit_3 : decode mM_bit.2.1 3 = .ok (.iconst 1, 1) := by decide +kernel
theorem dM_bit_4 : decode mM_bit.2.1 4 = .ok (.iand, 1) := by decide +kernel
theorem dM_bit_5 : decode mM_bit.2.1 5 = .ok (.iconst 1, 1) := by decide +kernel
theorem dM_bit_6 : decode mM_bit.2.1 6 = .ok (.if_icmp .ne 7, 3) := by decide +kernel
theorem dM_bit_9 : decode mM_bit.2.1 9 = .ok (.iconst 1, 1) := by decide +kernel
theorem dM_bit_10 : decode mM_bit.2.1 10 = .ok (.goto 4, 3) := by decide +kernel
theorem dM_bit_13 : decode mM_bit.2.1 13 = .ok (.iconst 0, 1) := by decide +kernel
theorem dM_bit_14 : decode mM_bit.2.1 14 = .ok (.ireturn, 1) := by decide +kernel
theorem dM_bits_0 : decode mM_bits.2.1 0 = .ok (.iconst 0, 1) := by decide +kernel
theorem dM_bits_1 : decode mM_bits.2.1 1 = .ok (.istore_n 1, 1) := by decide +kernel
theorem dM_bits_2 : decode mM_bits.2.1 2 = .ok (.iload_n 0, 1) := by decide +kernel
theorem dM_bits_3 : decode mM_bits.2.1 3 = .ok (.istore_n 2, 1) := by decide +kernel
theorem dM_bits_4 : decode mM_bits.2.1 4 = .ok (.iload_n 2, 1) := by decide +kernel
theorem dM_bits_5 : decode mM_bits.2.1 5 = .ok (.ifCond .eq 15, 3) := by decide +kernel
theorem dM_bits_8 : decode mM_bits.2.1 8 = .ok (.iinc 1 1, 3) := by decide +kernel
theorem dM_bits_11 : decode mM_bits.2.1 11 = .ok (.iload_n 2, 1) := by decide +kernel
theorem dM_bits_12 : decode mM_bits.2.1 12 = .ok (.iload_n 2, 1) := by decide +kernel
theorem dM_bits_13 : decode mM_bits.2.1 13 = .ok (.iconst 1, 1) := by decide +kernel
theorem dM_bits_14 : decode mM_bits.2.1 14 = .ok (.isub, 1) := by decide +kernel
theorem dM_bits_15 : decode mM_bits.2.1 15 = .ok (.iand, 1) := by decide +kernel
theorem dM_bits_16 : decode mM_bits.2.1 16 = .ok (.istore_n 2, 1) := by decide +kernel
theorem dM_bits_17 : decode mM_bits.2.1 17 = .ok (.goto (-13), 3) := by decide +kernel
theorem dM_bits_20 : decode mM_bits.2.1 20 = .ok (.iload_n 1, 1) := by decide +kernel
theorem dM_bits_21 : decode mM_bits.2.1 21 = .ok (.ireturn, 1) := by decide +kernel
theorem dM_works_0 : decode mM_works.2.1 0 = .ok (.iconst 0, 1) := by decide +kernel
theorem dM_works_1 : decode mM_works.2.1 1 = .ok (.istore_n 1, 1) := by decide +kernel
theorem dM_works_2 : decode mM_works.2.1 2 = .ok (.iload_n 1, 1) := by decide +kernel
theorem dM_works_3 : decode mM_works.2.1 3 = .ok (.bipush 12, 2) := by decide +kernel
theorem dM_works_5 : decode mM_works.2.1 5 = .ok (.if_icmp .ge 21, 3) := by decide +kernel
theorem dM_works_8 : decode mM_works.2.1 8 = .ok (.aload_n 0, 1) := by decide +kernel
theorem dM_works_9 : decode mM_works.2.1 9 = .ok (.getfield 21, 3) := by decide +kernel
theorem dM_works_12 : decode mM_works.2.1 12 = .ok (.iload_n 1, 1) := by decide +kernel
theorem dM_works_13 : decode mM_works.2.1 13 = .ok (.aload_n 0, 1) := by decide +kernel
theorem dM_works_14 : decode mM_works.2.1 14 = .ok (.getfield 17, 3) := by decide +kernel
theorem dM_works_17 : decode mM_works.2.1 17 = .ok (.iload_n 1, 1) := by decide +kernel
theorem dM_works_18 : decode mM_works.2.1 18 = .ok (.iaload, 1) := by decide +kernel
theorem dM_works_19 : decode mM_works.2.1 19 = .ok (.iastore, 1) := by decide +kernel
theorem dM_works_20 : decode mM_works.2.1 20 = .ok (.iinc 1 1, 3) := by decide +kernel
theorem dM_works_23 : decode mM_works.2.1 23 = .ok (.goto (-21), 3) := by decide +kernel
theorem dM_works_26 : decode mM_works.2.1 26 = .ok (.return_, 1) := by decide +kernel
theorem dM_inLane_0 : decode mM_inLane.2.1 0 = .ok (.iconst 0, 1) := by decide +kernel
theorem dM_inLane_1 : decode mM_inLane.2.1 1 = .ok (.istore_n 1, 1) := by decide +kernel
theorem dM_inLane_2 : decode mM_inLane.2.1 2 = .ok (.iconst 0, 1) := by decide +kernel
theorem dM_inLane_3 : decode mM_inLane.2.1 3 = .ok (.istore_n 2, 1) := by decide +kernel
theorem dM_inLane_4 : decode mM_inLane.2.1 4 = .ok (.iload_n 2, 1) := by decide +kernel
theorem dM_inLane_5 : decode mM_inLane.2.1 5 = .ok (.aload_n 0, 1) := by decide +kernel
theorem dM_inLane_6 : decode mM_inLane.2.1 6 = .ok (.getfield 281, 3) := by decide +kernel
theorem dM_inLane_9 : decode mM_inLane.2.1 9 = .ok (.getfield 253, 3) := by decide +kernel
theorem dM_inLane_12 : decode mM_inLane.2.1 12 = .ok (.if_icmp .ge 28, 3) := by decide +kernel
theorem dM_inLane_15 : decode mM_inLane.2.1 15 = .ok (.iload_n 1, 1) := by decide +kernel
theorem dM_inLane_16 : decode mM_inLane.2.1 16 = .ok (.aload_n 0, 1) := by decide +kernel
theorem dM_inLane_17 : decode mM_inLane.2.1 17 = .ok (.getfield 21, 3) := by decide +kernel
theorem dM_inLane_20 : decode mM_inLane.2.1 20 = .ok (.iload_n 2, 1) := by decide +kernel
theorem dM_inLane_21 : decode mM_inLane.2.1 21 = .ok (.iaload, 1) := by decide +kernel
theorem dM_inLane_22 : decode mM_inLane.2.1 22 = .ok (.ifCond .ne 9, 3) := by decide +kernel
theorem dM_inLane_25 : decode mM_inLane.2.1 25 = .ok (.iconst 1, 1) := by decide +kernel
theorem dM_inLane_26 : decode mM_inLane.2.1 26 = .ok (.iload_n 2, 1) := by decide +kernel
theorem dM_inLane_27 : decode mM_inLane.2.1 27 = .ok (.ishl, 1) := by decide +kernel
theorem dM_inLane_28 : decode mM_inLane.2.1 28 = .ok (.goto 4, 3) := by decide +kernel
theorem dM_inLane_31 : decode mM_inLane.2.1 31 = .ok (.iconst 0, 1) := by decide +kernel
theorem dM_inLane_32 : decode mM_inLane.2.1 32 = .ok (.ior, 1) := by decide +kernel
theorem dM_inLane_33 : decode mM_inLane.2.1 33 = .ok (.istore_n 1, 1) := by decide +kernel
theorem dM_inLane_34 : decode mM_inLane.2.1 34 = .ok (.iinc 2 1, 3) := by decide +kernel
theorem dM_inLane_37 : decode mM_inLane.2.1 37 = .ok (.goto (-33), 3) := by decide +kernel
theorem dM_inLane_40 : decode mM_inLane.2.1 40 = .ok (.iload_n 1, 1) := by decide +kernel
theorem dM_inLane_41 : decode mM_inLane.2.1 41 = .ok (.ireturn, 1) := by decide +kernel
theorem dM_inPlace_0 : decode mM_inPlace.2.1 0 = .ok (.iconst 0, 1) := by decide +kernel
theorem dM_inPlace_1 : decode mM_inPlace.2.1 1 = .ok (.istore_n 2, 1) := by decide +kernel
theorem dM_inPlace_2 : decode mM_inPlace.2.1 2 = .ok (.iconst 0, 1) := by decide +kernel
theorem dM_inPlace_3 : decode mM_inPlace.2.1 3 = .ok (.istore_n 3, 1) := by decide +kernel
theorem dM_inPlace_4 : decode mM_inPlace.2.1 4 = .ok (.iload_n 3, 1) := by decide +kernel
theorem dM_inPlace_5 : decode mM_inPlace.2.1 5 = .ok (.aload_n 0, 1) := by decide +kernel
theorem dM_inPlace_6 : decode mM_inPlace.2.1 6 = .ok (.getfield 281, 3) := by decide +kernel
theorem dM_inPlace_9 : decode mM_inPlace.2.1 9 = .ok (.getfield 253, 3) := by decide +kernel
theorem dM_inPlace_12 : decode mM_inPlace.2.1 12 = .ok (.if_icmp .ge 29, 3) := by decide +kernel
theorem dM_inPlace_15 : decode mM_inPlace.2.1 15 = .ok (.iload_n 2, 1) := by decide +kernel
theorem dM_inPlace_16 : decode mM_inPlace.2.1 16 = .ok (.aload_n 0, 1) := by decide +kernel
theorem dM_inPlace_17 : decode mM_inPlace.2.1 17 = .ok (.getfield 21, 3) := by decide +kernel
theorem dM_inPlace_20 : decode mM_inPlace.2.1 20 = .ok (.iload_n 3, 1) := by decide +kernel
theorem dM_inPlace_21 : decode mM_inPlace.2.1 21 = .ok (.iaload, 1) := by decide +kernel
theorem dM_inPlace_22 : decode mM_inPlace.2.1 22 = .ok (.iload_n 1, 1) := by decide +kernel
theorem dM_inPlace_23 : decode mM_inPlace.2.1 23 = .ok (.if_icmp .ne 9, 3) := by decide +kernel
theorem dM_inPlace_26 : decode mM_inPlace.2.1 26 = .ok (.iconst 1, 1) := by decide +kernel
theorem dM_inPlace_27 : decode mM_inPlace.2.1 27 = .ok (.iload_n 3, 1) := by decide +kernel
theorem dM_inPlace_28 : decode mM_inPlace.2.1 28 = .ok (.ishl, 1) := by decide +kernel
theorem dM_inPlace_29 : decode mM_inPlace.2.1 29 = .ok (.goto 4, 3) := by decide +kernel
theorem dM_inPlace_32 : decode mM_inPlace.2.1 32 = .ok (.iconst 0, 1) := by decide +kernel
theorem dM_inPlace_33 : decode mM_inPlace.2.1 33 = .ok (.ior, 1) := by decide +kernel
theorem dM_inPlace_34 : decode mM_inPlace.2.1 34 = .ok (.istore_n 2, 1) := by decide +kernel
theorem dM_inPlace_35 : decode mM_inPlace.2.1 35 = .ok (.iinc 3 1, 3) := by decide +kernel
theorem dM_inPlace_38 : decode mM_inPlace.2.1 38 = .ok (.goto (-34), 3) := by decide +kernel
theorem dM_inPlace_41 : decode mM_inPlace.2.1 41 = .ok (.iload_n 2, 1) := by decide +kernel
theorem dM_inPlace_42 : decode mM_inPlace.2.1 42 = .ok (.ireturn, 1) := by decide +kernel
theorem dM_canOpen_0 : decode mM_canOpen.2.1 0 = .ok (.aload_n 0, 1) := by decide +kernel
theorem dM_canOpen_1 : decode mM_canOpen.2.1 1 = .ok (.getfield 21, 3) := by decide +kernel
theorem dM_canOpen_4 : decode mM_canOpen.2.1 4 = .ok (.iconst 2, 1) := by decide +kernel
theorem dM_canOpen_5 : decode mM_canOpen.2.1 5 = .ok (.iload_n 1, 1) := by decide +kernel
theorem dM_canOpen_6 : decode mM_canOpen.2.1 6 = .ok (.iadd, 1) := by decide +kernel
theorem dM_canOpen_7 : decode mM_canOpen.2.1 7 = .ok (.iaload, 1) := by decide +kernel
theorem dM_canOpen_8 : decode mM_canOpen.2.1 8 = .ok (.ifCond .gt 17, 3) := by decide +kernel
theorem dM_canOpen_11 : decode mM_canOpen.2.1 11 = .ok (.aload_n 0, 1) := by decide +kernel
theorem dM_canOpen_12 : decode mM_canOpen.2.1 12 = .ok (.getfield 21, 3) := by decide +kernel
theorem dM_canOpen_15 : decode mM_canOpen.2.1 15 = .ok (.bipush 11, 2) := by decide +kernel
theorem dM_canOpen_17 : decode mM_canOpen.2.1 17 = .ok (.iaload, 1) := by decide +kernel
theorem dM_canOpen_18 : decode mM_canOpen.2.1 18 = .ok (.iload_n 1, 1) := by decide +kernel
theorem dM_canOpen_19 : decode mM_canOpen.2.1 19 = .ok (.invokestatic 241, 3) := by decide +kernel
theorem dM_canOpen_22 : decode mM_canOpen.2.1 22 = .ok (.ifCond .eq 5, 3) := by decide +kernel
theorem dM_canOpen_25 : decode mM_canOpen.2.1 25 = .ok (.iconst 0, 1) := by decide +kernel
theorem dM_canOpen_26 : decode mM_canOpen.2.1 26 = .ok (.ireturn, 1) := by decide +kernel
theorem dM_canOpen_27 : decode mM_canOpen.2.1 27 = .ok (.aload_n 0, 1) := by decide +kernel
theorem dM_canOpen_28 : decode mM_canOpen.2.1 28 = .ok (.getfield 281, 3) := by decide +kernel
theorem dM_canOpen_31 : decode mM_canOpen.2.1 31 = .ok (.getfield 239, 3) := by decide +kernel
theorem dM_canOpen_34 : decode mM_canOpen.2.1 34 = .ok (.iload_n 1, 1) := by decide +kernel
theorem dM_canOpen_35 : decode mM_canOpen.2.1 35 = .ok (.invokestatic 241, 3) := by decide +kernel
theorem dM_canOpen_38 : decode mM_canOpen.2.1 38 = .ok (.ifCond .eq 17, 3) := by decide +kernel
theorem dM_canOpen_41 : decode mM_canOpen.2.1 41 = .ok (.iload_n 2, 1) := by decide +kernel
theorem dM_canOpen_42 : decode mM_canOpen.2.1 42 = .ok (.aload_n 0, 1) := by decide +kernel
theorem dM_canOpen_43 : decode mM_canOpen.2.1 43 = .ok (.getfield 281, 3) := by decide +kernel
theorem dM_canOpen_46 : decode mM_canOpen.2.1 46 = .ok (.getfield 265, 3) := by decide +kernel
theorem dM_canOpen_49 : decode mM_canOpen.2.1 49 = .ok (.iand, 1) := by decide +kernel
theorem dM_canOpen_50 : decode mM_canOpen.2.1 50 = .ok (.ifCond .ne 5, 3) := by decide +kernel
theorem dM_canOpen_53 : decode mM_canOpen.2.1 53 = .ok (.iconst 0, 1) := by decide +kernel
theorem dM_canOpen_54 : decode mM_canOpen.2.1 54 = .ok (.ireturn, 1) := by decide +kernel
theorem dM_canOpen_55 : decode mM_canOpen.2.1 55 = .ok (.iload_n 2, 1) := by decide +kernel
theorem dM_canOpen_56 : decode mM_canOpen.2.1 56 = .ok (.invokestatic 296, 3) := by decide +kernel
theorem dM_canOpen_59 : decode mM_canOpen.2.1 59 = .ok (.aload_n 0, 1) := by decide +kernel
theorem dM_canOpen_60 : decode mM_canOpen.2.1 60 = .ok (.getfield 21, 3) := by decide +kernel
theorem dM_canOpen_63 : decode mM_canOpen.2.1 63 = .ok (.bipush 7, 2) := by decide +kernel
theorem dM_canOpen_65 : decode mM_canOpen.2.1 65 = .ok (.iload_n 1, 1) := by decide +kernel
theorem dM_canOpen_66 : decode mM_canOpen.2.1 66 = .ok (.iadd, 1) := by decide +kernel
theorem dM_canOpen_67 : decode mM_canOpen.2.1 67 = .ok (.iaload, 1) := by decide +kernel
theorem dM_canOpen_68 : decode mM_canOpen.2.1 68 = .ok (.iconst 2, 1) := by decide +kernel
theorem dM_canOpen_69 : decode mM_canOpen.2.1 69 = .ok (.if_icmp .ne 7, 3) := by decide +kernel
theorem dM_canOpen_72 : decode mM_canOpen.2.1 72 = .ok (.iconst 2, 1) := by decide +kernel
theorem dM_canOpen_73 : decode mM_canOpen.2.1 73 = .ok (.goto 4, 3) := by decide +kernel
theorem dM_canOpen_76 : decode mM_canOpen.2.1 76 = .ok (.iconst 1, 1) := by decide +kernel
theorem dM_canOpen_77 : decode mM_canOpen.2.1 77 = .ok (.if_icmp .lt 7, 3) := by decide +kernel
theorem dM_canOpen_80 : decode mM_canOpen.2.1 80 = .ok (.iconst 1, 1) := by decide +kernel
theorem dM_canOpen_81 : decode mM_canOpen.2.1 81 = .ok (.goto 4, 3) := by decide +kernel
theorem dM_canOpen_84 : decode mM_canOpen.2.1 84 = .ok (.iconst 0, 1) := by decide +kernel
theorem dM_canOpen_85 : decode mM_canOpen.2.1 85 = .ok (.ireturn, 1) := by decide +kernel
theorem dM_canShut_0 : decode mM_canShut.2.1 0 = .ok (.aload_n 0, 1) := by decide +kernel
theorem dM_canShut_1 : decode mM_canShut.2.1 1 = .ok (.getfield 21, 3) := by decide +kernel
theorem dM_canShut_4 : decode mM_canShut.2.1 4 = .ok (.iconst 2, 1) := by decide +kernel
theorem dM_canShut_5 : decode mM_canShut.2.1 5 = .ok (.iload_n 1, 1) := by decide +kernel
theorem dM_canShut_6 : decode mM_canShut.2.1 6 = .ok (.iadd, 1) := by decide +kernel
theorem dM_canShut_7 : decode mM_canShut.2.1 7 = .ok (.iaload, 1) := by decide +kernel
theorem dM_canShut_8 : decode mM_canShut.2.1 8 = .ok (.ifCond .le 42, 3) := by decide +kernel
theorem dM_canShut_11 : decode mM_canShut.2.1 11 = .ok (.aload_n 0, 1) := by decide +kernel
theorem dM_canShut_12 : decode mM_canShut.2.1 12 = .ok (.getfield 21, 3) := by decide +kernel
theorem dM_canShut_15 : decode mM_canShut.2.1 15 = .ok (.bipush 7, 2) := by decide +kernel
theorem dM_canShut_17 : decode mM_canShut.2.1 17 = .ok (.iload_n 1, 1) := by decide +kernel
theorem dM_canShut_18 : decode mM_canShut.2.1 18 = .ok (.iadd, 1) := by decide +kernel
theorem dM_canShut_19 : decode mM_canShut.2.1 19 = .ok (.iaload, 1) := by decide +kernel
theorem dM_canShut_20 : decode mM_canShut.2.1 20 = .ok (.iconst 3, 1) := by decide +kernel
theorem dM_canShut_21 : decode mM_canShut.2.1 21 = .ok (.if_icmp .eq 29, 3) := by decide +kernel
theorem dM_canShut_24 : decode mM_canShut.2.1 24 = .ok (.iload_n 2, 1) := by decide +kernel
theorem dM_canShut_25 : decode mM_canShut.2.1 25 = .ok (.aload_n 0, 1) := by decide +kernel
theorem dM_canShut_26 : decode mM_canShut.2.1 26 = .ok (.invokevirtual 299, 3) := by decide +kernel
theorem dM_canShut_29 : decode mM_canShut.2.1 29 = .ok (.aload_n 0, 1) := by decide +kernel
theorem dM_canShut_30 : decode mM_canShut.2.1 30 = .ok (.aload_n 0, 1) := by decide +kernel
theorem dM_canShut_31 : decode mM_canShut.2.1 31 = .ok (.getfield 21, 3) := by decide +kernel
theorem dM_canShut_34 : decode mM_canShut.2.1 34 = .ok (.iconst 2, 1) := by decide +kernel
theorem dM_canShut_35 : decode mM_canShut.2.1 35 = .ok (.iload_n 1, 1) := by decide +kernel
theorem dM_canShut_36 : decode mM_canShut.2.1 36 = .ok (.iadd, 1) := by decide +kernel
theorem dM_canShut_37 : decode mM_canShut.2.1 37 = .ok (.iaload, 1) := by decide +kernel
theorem dM_canShut_38 : decode mM_canShut.2.1 38 = .ok (.invokevirtual 302, 3) := by decide +kernel
theorem dM_canShut_41 : decode mM_canShut.2.1 41 = .ok (.ior, 1) := by decide +kernel
theorem dM_canShut_42 : decode mM_canShut.2.1 42 = .ok (.iand, 1) := by decide +kernel
theorem dM_canShut_43 : decode mM_canShut.2.1 43 = .ok (.ifCond .eq 7, 3) := by decide +kernel
theorem dM_canShut_46 : decode mM_canShut.2.1 46 = .ok (.iconst 1, 1) := by decide +kernel
theorem dM_canShut_47 : decode mM_canShut.2.1 47 = .ok (.goto 4, 3) := by decide +kernel
theorem dM_canShut_50 : decode mM_canShut.2.1 50 = .ok (.iconst 0, 1) := by decide +kernel
theorem dM_canShut_51 : decode mM_canShut.2.1 51 = .ok (.ireturn, 1) := by decide +kernel
theorem dM_canGo_0 : decode mM_canGo.2.1 0 = .ok (.aload_n 0, 1) := by decide +kernel
theorem dM_canGo_1 : decode mM_canGo.2.1 1 = .ok (.getfield 21, 3) := by decide +kernel
theorem dM_canGo_4 : decode mM_canGo.2.1 4 = .ok (.iconst 2, 1) := by decide +kernel
theorem dM_canGo_5 : decode mM_canGo.2.1 5 = .ok (.iload_n 2, 1) := by decide +kernel
theorem dM_canGo_6 : decode mM_canGo.2.1 6 = .ok (.iadd, 1) := by decide +kernel
theorem dM_canGo_7 : decode mM_canGo.2.1 7 = .ok (.iaload, 1) := by decide +kernel
theorem dM_canGo_8 : decode mM_canGo.2.1 8 = .ok (.ifCond .le 33, 3) := by decide +kernel
theorem dM_canGo_11 : decode mM_canGo.2.1 11 = .ok (.aload_n 0, 1) := by decide +kernel
theorem dM_canGo_12 : decode mM_canGo.2.1 12 = .ok (.getfield 21, 3) := by decide +kernel
theorem dM_canGo_15 : decode mM_canGo.2.1 15 = .ok (.iload_n 1, 1) := by decide +kernel
theorem dM_canGo_16 : decode mM_canGo.2.1 16 = .ok (.iaload, 1) := by decide +kernel
theorem dM_canGo_17 : decode mM_canGo.2.1 17 = .ok (.ifCond .eq 20, 3) := by decide +kernel
theorem dM_canGo_20 : decode mM_canGo.2.1 20 = .ok (.aload_n 0, 1) := by decide +kernel
theorem dM_canGo_21 : decode mM_canGo.2.1 21 = .ok (.getfield 21, 3) := by decide +kernel
theorem dM_canGo_24 : decode mM_canGo.2.1 24 = .ok (.iload_n 1, 1) := by decide +kernel
theorem dM_canGo_25 : decode mM_canGo.2.1 25 = .ok (.iaload, 1) := by decide +kernel
theorem dM_canGo_26 : decode mM_canGo.2.1 26 = .ok (.aload_n 0, 1) := by decide +kernel
theorem dM_canGo_27 : decode mM_canGo.2.1 27 = .ok (.getfield 21, 3) := by decide +kernel
theorem dM_canGo_30 : decode mM_canGo.2.1 30 = .ok (.iconst 2, 1) := by decide +kernel
theorem dM_canGo_31 : decode mM_canGo.2.1 31 = .ok (.iload_n 2, 1) := by decide +kernel
theorem dM_canGo_32 : decode mM_canGo.2.1 32 = .ok (.iadd, 1) := by decide +kernel
theorem dM_canGo_33 : decode mM_canGo.2.1 33 = .ok (.iaload, 1) := by decide +kernel
theorem dM_canGo_34 : decode mM_canGo.2.1 34 = .ok (.if_icmp .ne 7, 3) := by decide +kernel
theorem dM_canGo_37 : decode mM_canGo.2.1 37 = .ok (.iconst 1, 1) := by decide +kernel
theorem dM_canGo_38 : decode mM_canGo.2.1 38 = .ok (.goto 4, 3) := by decide +kernel
theorem dM_canGo_41 : decode mM_canGo.2.1 41 = .ok (.iconst 0, 1) := by decide +kernel
theorem dM_canGo_42 : decode mM_canGo.2.1 42 = .ok (.ireturn, 1) := by decide +kernel
theorem dM_all_0 : decode mM_all.2.1 0 = .ok (.iconst 1, 1) := by decide +kernel
theorem dM_all_1 : decode mM_all.2.1 1 = .ok (.aload_n 0, 1) := by decide +kernel
theorem dM_all_2 : decode mM_all.2.1 2 = .ok (.getfield 281, 3) := by decide +kernel
theorem dM_all_5 : decode mM_all.2.1 5 = .ok (.getfield 253, 3) := by decide +kernel
theorem dM_all_8 : decode mM_all.2.1 8 = .ok (.ishl, 1) := by decide +kernel
theorem dM_all_9 : decode mM_all.2.1 9 = .ok (.iconst 1, 1) := by decide +kernel
theorem dM_all_10 : decode mM_all.2.1 10 = .ok (.isub, 1) := by decide +kernel
theorem dM_all_11 : decode mM_all.2.1 11 = .ok (.ireturn, 1) := by decide +kernel
theorem dM_canStep_0 : decode mM_canStep.2.1 0 = .ok (.iload_n 1, 1) := by decide +kernel
theorem dM_canStep_1 : decode mM_canStep.2.1 1 = .ok (.aload_n 0, 1) := by decide +kernel
theorem dM_canStep_2 : decode mM_canStep.2.1 2 = .ok (.getfield 281, 3) := by decide +kernel
theorem dM_canStep_5 : decode mM_canStep.2.1 5 = .ok (.getfield 183, 3) := by decide +kernel
theorem dM_canStep_8 : decode mM_canStep.2.1 8 = .ok (.irem, 1) := by decide +kernel
theorem dM_canStep_9 : decode mM_canStep.2.1 9 = .ok (.istore_n 2, 1) := by decide +kernel
theorem dM_canStep_10 : decode mM_canStep.2.1 10 = .ok (.iload_n 1, 1) := by decide +kernel
theorem dM_canStep_11 : decode mM_canStep.2.1 11 = .ok (.aload_n 0, 1) := by decide +kernel
theorem dM_canStep_12 : decode mM_canStep.2.1 12 = .ok (.getfield 281, 3) := by decide +kernel
theorem dM_canStep_15 : decode mM_canStep.2.1 15 = .ok (.getfield 183, 3) := by decide +kernel
theorem dM_canStep_18 : decode mM_canStep.2.1 18 = .ok (.idiv, 1) := by decide +kernel
theorem dM_canStep_19 : decode mM_canStep.2.1 19 = .ok (.istore_n 3, 1) := by decide +kernel
theorem dM_canStep_20 : decode mM_canStep.2.1 20 = .ok (.iload_n 3, 1) := by decide +kernel
theorem dM_canStep_21 : decode mM_canStep.2.1 21 = .ok (.ifCond .ne 15, 3) := by decide +kernel
theorem dM_canStep_24 : decode mM_canStep.2.1 24 = .ok (.aload_n 0, 1) := by decide +kernel
theorem dM_canStep_25 : decode mM_canStep.2.1 25 = .ok (.iload_n 2, 1) := by decide +kernel
theorem dM_canStep_26 : decode mM_canStep.2.1 26 = .ok (.aload_n 0, 1) := by decide +kernel
theorem dM_canStep_27 : decode mM_canStep.2.1 27 = .ok (.invokevirtual 299, 3) := by decide +kernel
theorem dM_canStep_30 : decode mM_canStep.2.1 30 = .ok (.invokevirtual 305, 3) := by decide +kernel
theorem dM_canStep_33 : decode mM_canStep.2.1 33 = .ok (.goto 28, 3) := by decide +kernel
theorem dM_canStep_36 : decode mM_canStep.2.1 36 = .ok (.iload_n 3, 1) := by decide +kernel
theorem dM_canStep_37 : decode mM_canStep.2.1 37 = .ok (.iconst 1, 1) := by decide +kernel
theorem dM_canStep_38 : decode mM_canStep.2.1 38 = .ok (.if_icmp .ne 15, 3) := by decide +kernel
theorem dM_canStep_41 : decode mM_canStep.2.1 41 = .ok (.aload_n 0, 1) := by decide +kernel
theorem dM_canStep_42 : decode mM_canStep.2.1 42 = .ok (.iload_n 2, 1) := by decide +kernel
theorem dM_canStep_43 : decode mM_canStep.2.1 43 = .ok (.aload_n 0, 1) := by decide +kernel
theorem dM_canStep_44 : decode mM_canStep.2.1 44 = .ok (.invokevirtual 308, 3) := by decide +kernel
theorem dM_canStep_47 : decode mM_canStep.2.1 47 = .ok (.invokevirtual 311, 3) := by decide +kernel
theorem dM_canStep_50 : decode mM_canStep.2.1 50 = .ok (.goto 11, 3) := by decide +kernel
theorem dM_canStep_53 : decode mM_canStep.2.1 53 = .ok (.aload_n 0, 1) := by decide +kernel
theorem dM_canStep_54 : decode mM_canStep.2.1 54 = .ok (.iload_n 3, 1) := by decide +kernel
theorem dM_canStep_55 : decode mM_canStep.2.1 55 = .ok (.iconst 2, 1) := by decide +kernel
theorem dM_canStep_56 : decode mM_canStep.2.1 56 = .ok (.isub, 1) := by decide +kernel
theorem dM_canStep_57 : decode mM_canStep.2.1 57 = .ok (.iload_n 2, 1) := by decide +kernel
theorem dM_canStep_58 : decode mM_canStep.2.1 58 = .ok (.invokevirtual 314, 3) := by decide +kernel
theorem dM_canStep_61 : decode mM_canStep.2.1 61 = .ok (.ireturn, 1) := by decide +kernel
theorem dM_stepsMany_0 : decode mM_stepsMany.2.1 0 = .ok (.iconst 2, 1) := by decide +kernel
theorem dM_stepsMany_1 : decode mM_stepsMany.2.1 1 = .ok (.aload_n 0, 1) := by decide +kernel
theorem dM_stepsMany_2 : decode mM_stepsMany.2.1 2 = .ok (.getfield 281, 3) := by decide +kernel
theorem dM_stepsMany_5 : decode mM_stepsMany.2.1 5 = .ok (.getfield 253, 3) := by decide +kernel
theorem dM_stepsMany_8 : decode mM_stepsMany.2.1 8 = .ok (.iadd, 1) := by decide +kernel
theorem dM_stepsMany_9 : decode mM_stepsMany.2.1 9 = .ok (.aload_n 0, 1) := by decide +kernel
theorem dM_stepsMany_10 : decode mM_stepsMany.2.1 10 = .ok (.getfield 281, 3) := by decide +kernel
theorem dM_stepsMany_13 : decode mM_stepsMany.2.1 13 = .ok (.getfield 183, 3) := by decide +kernel
theorem dM_stepsMany_16 : decode mM_stepsMany.2.1 16 = .ok (.imul, 1) := by decide +kernel
theorem dM_stepsMany_17 : decode mM_stepsMany.2.1 17 = .ok (.ireturn, 1) := by decide +kernel
theorem dM_isDoor_0 : decode mM_isDoor.2.1 0 = .ok (.aload_n 0, 1) := by decide +kernel
theorem dM_isDoor_1 : decode mM_isDoor.2.1 1 = .ok (.getfield 281, 3) := by decide +kernel
theorem dM_isDoor_4 : decode mM_isDoor.2.1 4 = .ok (.ifnull 22, 3) := by decide +kernel
theorem dM_isDoor_7 : decode mM_isDoor.2.1 7 = .ok (.iload_n 1, 1) := by decide +kernel
theorem dM_isDoor_8 : decode mM_isDoor.2.1 8 = .ok (.ifCond .lt 18, 3) := by decide +kernel
theorem dM_isDoor_11 : decode mM_isDoor.2.1 11 = .ok (.iload_n 1, 1) := by decide +kernel
theorem dM_isDoor_12 : decode mM_isDoor.2.1 12 = .ok (.aload_n 0, 1) := by decide +kernel
theorem dM_isDoor_13 : decode mM_isDoor.2.1 13 = .ok (.getfield 281, 3) := by decide +kernel
theorem dM_isDoor_16 : decode mM_isDoor.2.1 16 = .ok (.getfield 183, 3) := by decide +kernel
theorem dM_isDoor_19 : decode mM_isDoor.2.1 19 = .ok (.if_icmp .ge 7, 3) := by decide +kernel
theorem dM_isDoor_22 : decode mM_isDoor.2.1 22 = .ok (.iconst 1, 1) := by decide +kernel
theorem dM_isDoor_23 : decode mM_isDoor.2.1 23 = .ok (.goto 4, 3) := by decide +kernel
theorem dM_isDoor_26 : decode mM_isDoor.2.1 26 = .ok (.iconst 0, 1) := by decide +kernel
theorem dM_isDoor_27 : decode mM_isDoor.2.1 27 = .ok (.ireturn, 1) := by decide +kernel
theorem dM_isPerson_0 : decode mM_isPerson.2.1 0 = .ok (.aload_n 0, 1) := by decide +kernel
theorem dM_isPerson_1 : decode mM_isPerson.2.1 1 = .ok (.getfield 281, 3) := by decide +kernel
theorem dM_isPerson_4 : decode mM_isPerson.2.1 4 = .ok (.ifnull 22, 3) := by decide +kernel
theorem dM_isPerson_7 : decode mM_isPerson.2.1 7 = .ok (.iload_n 1, 1) := by decide +kernel
theorem dM_isPerson_8 : decode mM_isPerson.2.1 8 = .ok (.ifCond .lt 18, 3) := by decide +kernel
theorem dM_isPerson_11 : decode mM_isPerson.2.1 11 = .ok (.iload_n 1, 1) := by decide +kernel
theorem dM_isPerson_12 : decode mM_isPerson.2.1 12 = .ok (.aload_n 0, 1) := by decide +kernel
theorem dM_isPerson_13 : decode mM_isPerson.2.1 13 = .ok (.getfield 281, 3) := by decide +kernel
theorem dM_isPerson_16 : decode mM_isPerson.2.1 16 = .ok (.getfield 253, 3) := by decide +kernel
theorem dM_isPerson_19 : decode mM_isPerson.2.1 19 = .ok (.if_icmp .ge 7, 3) := by decide +kernel
theorem dM_isPerson_22 : decode mM_isPerson.2.1 22 = .ok (.iconst 1, 1) := by decide +kernel
theorem dM_isPerson_23 : decode mM_isPerson.2.1 23 = .ok (.goto 4, 3) := by decide +kernel
theorem dM_isPerson_26 : decode mM_isPerson.2.1 26 = .ok (.iconst 0, 1) := by decide +kernel
theorem dM_isPerson_27 : decode mM_isPerson.2.1 27 = .ok (.ireturn, 1) := by decide +kernel
theorem dM_thrown_0 : decode mM_thrown.2.1 0 = .ok (.aload_n 0, 1) := by decide +kernel
theorem dM_thrown_1 : decode mM_thrown.2.1 1 = .ok (.getfield 46, 3) := by decide +kernel
theorem dM_thrown_4 : decode mM_thrown.2.1 4 = .ok (.ireturn, 1) := by decide +kernel
theorem dM_fault_0 : decode mM_fault.2.1 0 = .ok (.aload_n 0, 1) := by decide +kernel
theorem dM_fault_1 : decode mM_fault.2.1 1 = .ok (.iconst 0, 1) := by decide +kernel
theorem dM_fault_2 : decode mM_fault.2.1 2 = .ok (.putfield 46, 3) := by decide +kernel
theorem dM_fault_5 : decode mM_fault.2.1 5 = .ok (.aload_n 0, 1) := by decide +kernel
theorem dM_fault_6 : decode mM_fault.2.1 6 = .ok (.getfield 104, 3) := by decide +kernel
theorem dM_fault_9 : decode mM_fault.2.1 9 = .ok (.ireturn, 1) := by decide +kernel
theorem dM_where_0 : decode mM_where.2.1 0 = .ok (.aload_n 0, 1) := by decide +kernel
theorem dM_where_1 : decode mM_where.2.1 1 = .ok (.iconst 0, 1) := by decide +kernel
theorem dM_where_2 : decode mM_where.2.1 2 = .ok (.putfield 46, 3) := by decide +kernel
theorem dM_where_5 : decode mM_where.2.1 5 = .ok (.aload_n 0, 1) := by decide +kernel
theorem dM_where_6 : decode mM_where.2.1 6 = .ok (.getfield 9, 3) := by decide +kernel
theorem dM_where_9 : decode mM_where.2.1 9 = .ok (.ireturn, 1) := by decide +kernel
theorem dM_trouble_0 : decode mM_trouble.2.1 0 = .ok (.aload_n 0, 1) := by decide +kernel
theorem dM_trouble_1 : decode mM_trouble.2.1 1 = .ok (.iconst 0, 1) := by decide +kernel
theorem dM_trouble_2 : decode mM_trouble.2.1 2 = .ok (.putfield 46, 3) := by decide +kernel
theorem dM_trouble_5 : decode mM_trouble.2.1 5 = .ok (.aload_n 0, 1) := by decide +kernel
theorem dM_trouble_6 : decode mM_trouble.2.1 6 = .ok (.getfield 49, 3) := by decide +kernel
theorem dM_trouble_9 : decode mM_trouble.2.1 9 = .ok (.ireturn, 1) := by decide +kernel
-- the reference: its object lies at 53
def moS (σ : Shp) (l : Nat) : Prop := sO σ 53 9 ∧ sP σ 53 3 = l ∧ (sP σ 53 5 = 54 ∧ sP σ 53 15 = 55 ∧ sP σ 53 16 = 56 ∧ sP σ 53 17 = 57 ∧ sP σ 53 18 = 58 ∧ sP σ 53 21 = 59 ∧ sP σ 53 22 = 60 ∧ sP σ 53 23 = 61 ∧ sP σ 53 24 = 62 ∧ sP σ 53 28 = 63) ∧ sA σ 54 10 800 ∧ sA σ 55 11 12 ∧ sA σ 56 11 12 ∧ sA σ 57 11 192 ∧ sA σ 58 11 36 ∧ sA σ 59 11 62500 ∧ sA σ 60 11 62500 ∧ sA σ 61 11 62500 ∧ sA σ 62 11 62500 ∧ sA σ 63 11 4
section MoS
variable {σ : Shp} {l : Nat}
theorem moS.o (h : moS σ l) : sO σ 53 9 := h.1
theorem moS.p3 (h : moS σ l) : sP σ 53 3 = l := h.2.1
theorem moS.p5 (h : moS σ l) : sP σ 53 5 = 54 := h.2.2.1.1
theorem moS.p15 (h : moS σ l) : sP σ 53 15 = 55 := h.2.2.1.2.1
theorem moS.p16 (h : moS σ l) : sP σ 53 16 = 56 := h.2.2.1.2.2.1
theorem moS.p17 (h : moS σ l) : sP σ 53 17 = 57 := h.2.2.1.2.2.2.1
theorem moS.p18 (h : moS σ l) : sP σ 53 18 = 58 := h.2.2.1.2.2.2.2.1
theorem moS.p21 (h : moS σ l) : sP σ 53 21 = 59 := h.2.2.1.2.2.2.2.2.1
theorem moS.p22 (h : moS σ l) : sP σ 53 22 = 60 := h.2.2.1.2.2.2.2.2.2.1
theorem moS.p23 (h : moS σ l) : sP σ 53 23 = 61 := h.2.2.1.2.2.2.2.2.2.2.1
theorem moS.p24 (h : moS σ l) : sP σ 53 24 = 62 := h.2.2.1.2.2.2.2.2.2.2.2.1
theorem moS.p28 (h : moS σ l) : sP σ 53 28 = 63 := h.2.2.1.2.2.2.2.2.2.2.2.2
theorem moS.a54 (h : moS σ l) : sA σ 54 10 800 := h.2.2.2.1
theorem moS.a55 (h : moS σ l) : sA σ 55 11 12 := h.2.2.2.2.1
theorem moS.a56 (h : moS σ l) : sA σ 56 11 12 := h.2.2.2.2.2.1
theorem moS.a57 (h : moS σ l) : sA σ 57 11 192 := h.2.2.2.2.2.2.1
theorem moS.a58 (h : moS σ l) : sA σ 58 11 36 := h.2.2.2.2.2.2.2.1
theorem moS.a59 (h : moS σ l) : sA σ 59 11 62500 := h.2.2.2.2.2.2.2.2.1
theorem moS.a60 (h : moS σ l) : sA σ 60 11 62500 := h.2.2.2.2.2.2.2.2.2.1
theorem moS.a61 (h : moS σ l) : sA σ 61 11 62500 := h.2.2.2.2.2.2.2.2.2.2.1
theorem moS.a62 (h : moS σ l) : sA σ 62 11 62500 := h.2.2.2.2.2.2.2.2.2.2.2.1
theorem moS.a63 (h : moS σ l) : sA σ 63 11 4 := h.2.2.2.2.2.2.2.2.2.2.2.2
end MoS
/-- a lane of the reference's -/
def laS (σ : Shp) (l : Nat) : Prop := sO σ l 8 ∧ (sP σ l 9 = l + 1 ∧ sP σ l 10 = l + 2 ∧ sP σ l 11 = l + 3 ∧ sP σ l 12 = l + 4 ∧ sP σ l 13 = l + 5 ∧ sP σ l 15 = l + 6 ∧ sP σ l 16 = l + 7 ∧ sP σ l 17 = l + 8) ∧ sA σ (l + 1) 11 4 ∧ sA σ (l + 2) 11 4 ∧ sA σ (l + 3) 11 2 ∧ sA σ (l + 4) 11 6 ∧ sA σ (l + 5) 11 3 ∧ sA σ (l + 6) 12 6 ∧ sA σ (l + 7) 11 6 ∧ sA σ (l + 8) 11 6
section LaS
variable {σ : Shp} {l : Nat}
theorem laS.o (h : laS σ l) : sO σ l 8 := h.1
theorem laS.p9 (h : laS σ l) : sP σ l 9 = l + 1 := h.2.1.1
theorem laS.p10 (h : laS σ l) : sP σ l 10 = l + 2 := h.2.1.2.1
theorem laS.p11 (h : laS σ l) : sP σ l 11 = l + 3 := h.2.1.2.2.1
theorem laS.p12 (h : laS σ l) : sP σ l 12 = l + 4 := h.2.1.2.2.2.1
theorem laS.p13 (h : laS σ l) : sP σ l 13 = l + 5 := h.2.1.2.2.2.2.1
theorem laS.p15 (h : laS σ l) : sP σ l 15 = l + 6 := h.2.1.2.2.2.2.2.1
theorem laS.p16 (h : laS σ l) : sP σ l 16 = l + 7 := h.2.1.2.2.2.2.2.2.1
theorem laS.p17 (h : laS σ l) : sP σ l 17 = l + 8 := h.2.1.2.2.2.2.2.2.2
theorem laS.a1 (h : laS σ l) : sA σ (l + 1) 11 4 := h.2.2.1
theorem laS.a2 (h : laS σ l) : sA σ (l + 2) 11 4 := h.2.2.2.1
theorem laS.a3 (h : laS σ l) : sA σ (l + 3) 11 2 := h.2.2.2.2.1
theorem laS.a4 (h : laS σ l) : sA σ (l + 4) 11 6 := h.2.2.2.2.2.1
theorem laS.a5 (h : laS σ l) : sA σ (l + 5) 11 3 := h.2.2.2.2.2.2.1
theorem laS.a6 (h : laS σ l) : sA σ (l + 6) 12 6 := h.2.2.2.2.2.2.2.1
theorem laS.a7 (h : laS σ l) : sA σ (l + 7) 11 6 := h.2.2.2.2.2.2.2.2.1
theorem laS.a8 (h : laS σ l) : sA σ (l + 8) 11 6 := h.2.2.2.2.2.2.2.2.2
end LaS
/-- twelve numbers lay an arrangement out: who is where, where doors lead, which was last, kinds, nails -/
def AR (f : Nat → Int) (c : Cfg) (n : Nat) : Prop := (∀ p, p < 2 → f p = if p < pN c then (pl c n p : Int) else 0) ∧ (∀ d, d < 4 → f (2 + d) = if d < dN c then (ld c n d : Int) else 0) ∧ f 6 = lst c n ∧ (∀ d, d < 4 → f (7 + d) = kdC c d) ∧ f 11 = nlC c
/-- what the lane's numbers are -/
def LV (V : Nat → Nat → Int) (l : Nat) (T : TL) : Prop := (V l 0 = tDr T ∧ V l 1 = tDn T ∧ V l 2 = tPn T ∧ V l 3 = tLk T ∧ V l 4 = cntB (fun d => tLd T d != 0) 4 ∧ V l 5 = tKy T ∧ V l 6 = cntB (fun p => tAt T p != 0) 2 ∧ ((V l 7 = -1 ∧ tLa T = 0) ∨ V l 7 = tLa T)) ∧ (∀ d, d < 4 → V (l + 1) d = tKd T d ∧ V (l + 2) d = tLd T d) ∧ (∀ p, p < 2 → V (l + 3) p = tAt T p) ∧ (∀ s p, s < 3 → p < 2 → V (l + 4) (2 * s + p) = plS s T p) ∧ ∀ s, s < 3 → V (l + 5) s = cntB (fun p => plS s T p != -2) 2
section Mod1
variable {G : GE} {V : Nat → Nat → Int} {σ : Shp} {K : Option AV → Mem → Prop} {l : Nat} {T : TL} {c : Cfg} {n : Nat}
theorem wM_refused {x : Int} (hM : moS σ l) (hK : K (some (vI (-1))) (up2 (up2 V 53 1 x) 53 2 (-1), σ)) : Wp G 0 mM_refused [vR 53, vI x] (V, σ) 0 0 K := by
  refine wp_intro mM_refused_i.1 [some (vR 53), some (vI x)] rfl rfl (Nat.le_of_ble_eq_true rfl) ?_
  intro X hG F C
  have hm := C.rm
  refine aw_aload_0 (q := 1) F dM_refused_0 rfl ?_
  refine aw_iload_1 (q := 2) F dM_refused_1 rfl ?_
  refine av_puti (q := 5) F fM_49 dM_refused_2 rfl rfl (wr_9_1 _) (by first | exact hM.o | exact hl.o | exact hM.a55 | exact hM.a56) ?_
  refine aw_aload_0 (q := 6) F dM_refused_5 rfl ?_
  refine aw_iconst (q := 7) F dM_refused_6 rfl (by decide) ?_
  refine av_puti (q := 10) F fM_9 dM_refused_7 rfl rfl (wr_9_2 _) (by first | exact hM.o | exact hl.o | exact hM.a55 | exact hM.a56) ?_
  refine aw_iconst (q := 11) F dM_refused_10 rfl (by decide) ?_
  refine aw_iret F C dM_refused_11 rfl (Nat.le_refl _) (Nat.le_refl _) ?_
  exact hK
theorem wM_good {x : Int} (hM : moS σ l) (hK : K (some (vI x)) (up2 (up2 V 53 1 0) 53 2 (-1), σ)) : Wp G 0 mM_good [vR 53, vI x] (V, σ) 0 0 K := by
  refine wp_intro mM_good_i.1 [some (vR 53), some (vI x)] rfl rfl (Nat.le_of_ble_eq_true rfl) ?_
  intro X hG F C
  have hm := C.rm
  refine aw_aload_0 (q := 1) F dM_good_0 rfl ?_
  refine aw_iconst (q := 2) F dM_good_1 rfl (by decide) ?_
  refine av_puti (q := 5) F fM_49 dM_good_2 rfl rfl (wr_9_1 _) (by first | exact hM.o | exact hl.o | exact hM.a55 | exact hM.a56) ?_
  refine aw_aload_0 (q := 6) F dM_good_5 rfl ?_
  refine aw_iconst (q := 7) F dM_good_6 rfl (by decide) ?_
  refine av_puti (q := 10) F fM_9 dM_good_7 rfl rfl (wr_9_2 _) (by first | exact hM.o | exact hl.o | exact hM.a55 | exact hM.a56) ?_
  refine aw_iload_1 (q := 11) F dM_good_10 rfl ?_
  refine aw_iret F C dM_good_11 rfl (Nat.le_refl _) (Nat.le_refl _) ?_
  exact hK
theorem wM_lost {x : Int} (hM : moS σ l) (hK : K (some (vI (-100))) (up2 (up2 V 53 1 x) 53 2 (-1), σ)) : Wp G 1 mM_lost [vR 53, vI x] (V, σ) 0 0 K := by
  refine wp_intro mM_lost_i.1 [some (vR 53), some (vI x)] rfl rfl (Nat.le_of_ble_eq_true rfl) ?_
  intro X hG F C
  have hm := C.rm
  refine aw_aload_0 (q := 1) F dM_lost_0 rfl ?_
  refine aw_iload_1 (q := 2) F dM_lost_1 rfl ?_
  refine av_callV1 (q := 5) (ci := 9) F hm mM_refused_i mM_refused_n lM_52 dM_lost_2 rfl rfl rfl (by first | exact hM.o | exact hl.o | exact hM.a55 | exact hM.a56) (by decide) (Nat.le_refl _) (Nat.le_refl _) (Nat.le_of_ble_eq_true rfl) (wM_refused hM ?_)
  refine aw_pop (q := 6) F dM_lost_5 rfl trivial ?_
  refine aw_bipush (q := 8) F dM_lost_6 rfl (by decide) ?_
  refine aw_iret F C dM_lost_8 rfl (Nat.le_refl _) (Nat.le_refl _) ?_
  exact hK
theorem wM_denied {x : Int} (hM : moS σ l) (hK : K (some (vI 0)) (up2 (up2 V 53 1 x) 53 2 (-1), σ)) : Wp G 1 mM_denied [vR 53, vI x] (V, σ) 0 0 K := by
  refine wp_intro mM_denied_i.1 [some (vR 53), some (vI x)] rfl rfl (Nat.le_of_ble_eq_true rfl) ?_
  intro X hG F C
  have hm := C.rm
  refine aw_aload_0 (q := 1) F dM_denied_0 rfl ?_
  refine aw_iload_1 (q := 2) F dM_denied_1 rfl ?_
  refine av_callV1 (q := 5) (ci := 9) F hm mM_refused_i mM_refused_n lM_52 dM_denied_2 rfl rfl rfl (by first | exact hM.o | exact hl.o | exact hM.a55 | exact hM.a56) (by decide) (Nat.le_refl _) (Nat.le_refl _) (Nat.le_of_ble_eq_true rfl) (wM_refused hM ?_)
  refine aw_pop (q := 6) F dM_denied_5 rfl trivial ?_
  refine aw_iconst (q := 7) F dM_denied_6 rfl (by decide) ?_
  refine aw_zret F C dM_denied_7 rfl (by decide) (Nat.le_refl _) (Nat.le_refl _) ?_
  exact hK
theorem wM_granted (hM : moS σ l) (hK : K (some (vI 1)) (up2 (up2 V 53 1 0) 53 2 (-1), σ)) : Wp G 1 mM_granted [vR 53] (V, σ) 0 0 K := by
  refine wp_intro mM_granted_i.1 [some (vR 53)] rfl rfl (Nat.le_of_ble_eq_true rfl) ?_
  intro X hG F C
  have hm := C.rm
  refine aw_aload_0 (q := 1) F dM_granted_0 rfl ?_
  refine aw_iconst (q := 2) F dM_granted_1 rfl (by decide) ?_
  refine av_callV1 (q := 5) (ci := 9) F hm mM_good_i mM_good_n lM_56 dM_granted_2 rfl rfl rfl (by first | exact hM.o | exact hl.o | exact hM.a55 | exact hM.a56) (by decide) (Nat.le_refl _) (Nat.le_refl _) (Nat.le_of_ble_eq_true rfl) (wM_good hM ?_)
  refine aw_pop (q := 6) F dM_granted_5 rfl trivial ?_
  refine aw_iconst (q := 7) F dM_granted_6 rfl (by decide) ?_
  refine aw_zret F C dM_granted_7 rfl (by decide) (Nat.le_refl _) (Nat.le_refl _) ?_
  exact hK
theorem wM_in {x a b : Int} (h1 : a ≤ x ∧ x ≤ b → K (some (vI 1)) (V, σ)) (h0 : ¬ (a ≤ x ∧ x ≤ b) → K (some (vI 0)) (V, σ)) : Wp G 0 mM_in [vI x, vI a, vI b] (V, σ) 0 0 K := by
  refine wp_intro mM_in_i.1 [some (vI x), some (vI a), some (vI b)] rfl rfl (Nat.le_of_ble_eq_true rfl) ?_
  intro X hG F C
  have hm := C.rm
  refine aw_iload_0 (q := 1) F dM_in_0 rfl ?_
  refine aw_iload_1 (q := 2) F dM_in_1 rfl ?_
  refine aw_icmp_lt (q := 5) (t := 14) F dM_in_2 rfl (by decide) (fun c2 => ?_) (fun c2 => ?_)
  · refine aw_iconst (q := 15) F dM_in_14 rfl (by decide) ?_
    refine aw_zret F C dM_in_15 rfl (by decide) (Nat.le_refl _) (Nat.le_refl _) ?_
    exact h0 (by omega)
  · refine aw_iload_0 (q := 6) F dM_in_5 rfl ?_
    refine aw_iload_2 (q := 7) F dM_in_6 rfl ?_
    refine aw_icmp_gt (q := 10) (t := 14) F dM_in_7 rfl (by decide) (fun c7 => ?_) (fun c7 => ?_)
    · refine aw_iconst (q := 15) F dM_in_14 rfl (by decide) ?_
      refine aw_zret F C dM_in_15 rfl (by decide) (Nat.le_refl _) (Nat.le_refl _) ?_
      exact h0 (by omega)
    · refine aw_iconst (q := 11) F dM_in_10 rfl (by decide) ?_
      refine aw_goto (t := 15) F dM_in_11 (by decide) ?_
      refine aw_zret F C dM_in_15 rfl (by decide) (Nat.le_refl _) (Nat.le_refl _) ?_
      exact h1 (by omega)
theorem wM_bit {x k : Int} {m d : Nat} (hx : x = m) (hm2 : m < 2147483648) (hk : k = d) (hd : d < 32) (h1 : m.testBit d = true → K (some (vI 1)) (V, σ)) (h0 : m.testBit d = false → K (some (vI 0)) (V, σ)) : Wp G 0 mM_bit [vI x, vI k] (V, σ) 0 0 K := by
  have e : zand (zshr x k) 1 = if m.testBit d then 1 else 0 := by rw [hx, hk, bit_n hm2 hd, bit_tb]; split <;> rfl
  refine wp_intro mM_bit_i.1 [some (vI x), some (vI k)] rfl rfl (Nat.le_of_ble_eq_true rfl) ?_
  intro X hG F C
  have hm := C.rm
  refine aw_iload_0 (q := 1) F dM_bit_0 rfl ?_
  refine aw_iload_1 (q := 2) F dM_bit_1 rfl ?_
  refine aw_ishr (q := 3) F dM_bit_2 rfl ?_
  refine aw_iconst (q := 4) F dM_bit_3 rfl (by decide) ?_
  refine aw_iand (q := 5) F dM_bit_4 rfl ?_
  rw [e]
  refine aw_iconst (q := 6) F dM_bit_5 rfl (by decide) ?_
  refine aw_icmp_ne (q := 9) (t := 13) F dM_bit_6 rfl (by decide) (fun c6 => ?_) (fun c6 => ?_)
  · refine aw_iconst (q := 14) F dM_bit_13 rfl (by decide) ?_
    refine aw_zret F C dM_bit_14 rfl (by decide) (Nat.le_refl _) (Nat.le_refl _) ?_
    exact h0 (by cases q : m.testBit d; rfl; rw [q] at c6; exact absurd rfl c6)
  · refine aw_iconst (q := 10) F dM_bit_9 rfl (by decide) ?_
    refine aw_goto (t := 14) F dM_bit_10 (by decide) ?_
    refine aw_zret F C dM_bit_14 rfl (by decide) (Nat.le_refl _) (Nat.le_refl _) ?_
    exact h1 (by cases q : m.testBit d; rw [q] at c6; exact absurd c6 (by decide); rfl)
theorem wM_works (hM : moS σ l) (hK : ∀ V', (∀ b, b ≠ 56 → V' b = V b) → (∀ k, k < 12 → V' 56 k = V 55 k) → K none (V', σ)) : Wp G 0 mM_works [vR 53] (V, σ) 0 0 K := by
  refine wp_intro mM_works_i.1 [some (vR 53), none] rfl rfl (Nat.le_of_ble_eq_true rfl) ?_
  intro X hG F C
  have hm := C.rm
  have loop : ∀ (j i : Nat), 12 - i = j → i ≤ 12 → ∀ (V1 : Nat → Nat → Int) (w : Int), (∀ b, b ≠ 56 → V1 b = V b) → (∀ k, k < i → V1 56 k = V 55 k) → w = i → AW X 2 [some (vR 53), some (vI w)] [] (V1, σ) 0 0 := by
    intro j
    induction j using Nat.strongRecOn with
    | ind j ih =>
      intro i hj hi V1 w f1 f2 hw
      refine aw_iload_1 (q := 3) F dM_works_2 rfl ?_
      refine aw_bipush (q := 5) F dM_works_3 rfl (by decide) ?_
      refine aw_icmp_ge (q := 8) (t := 26) F dM_works_5 rfl (by decide) (fun c5 => ?_) (fun c5 => ?_)
      · refine aw_vret F C dM_works_26 rfl (Nat.le_refl _) (Nat.le_refl _) ?_
        exact hK V1 f1 (fun k hk => f2 k (by omega))
      · refine aw_aload_0 (q := 9) F dM_works_8 rfl ?_
        refine av_getaE (q := 12) F fM_21 dM_works_9 rfl rfl (by first | exact hM.o | exact hl.o | exact hM.a55 | exact hM.a56) hM.p16 ?_
        refine aw_iload_1 (q := 13) F dM_works_12 rfl ?_
        refine aw_aload_0 (q := 14) F dM_works_13 rfl ?_
        refine av_getaE (q := 17) F fM_17 dM_works_14 rfl rfl (by first | exact hM.o | exact hl.o | exact hM.a55 | exact hM.a56) hM.p15 ?_
        refine aw_iload_1 (q := 18) F dM_works_17 rfl ?_
        refine av_iaload (q := 19) F dM_works_18 rfl (by first | exact hM.o | exact hl.o | exact hM.a55 | exact hM.a56) (by omega) (by omega) ?_
        rw [f1 55 (by decide), show w.toNat = i by omega]
        refine av_iastore (q := 20) F dM_works_19 rfl (by first | exact hM.o | exact hl.o | exact hM.a55 | exact hM.a56) (by omega) (by omega) ?_
        refine aw_iinc_1 (q := 23) F dM_works_20 rfl trivial (by constructor <;> omega) ?_
        refine aw_goto (t := 2) F dM_works_23 (by decide) ?_
        refine ih _ (by omega) (i + 1) rfl (by omega) _ _ (fun b hb => by rw [up2_nea _ _ hb]; exact f1 b hb) (fun k hk => ?_) (by omega)
        rw [show w.toNat = i by omega]
        by_cases q : k = i
        · rw [q, up2_same]
        · rw [up2_nek _ _ q]; exact f2 k (by omega)
  refine aw_iconst (q := 1) F dM_works_0 rfl (by decide) ?_
  refine aw_istore_1 (q := 2) F dM_works_1 rfl trivial ?_
  exact loop _ 0 rfl (by omega) V _ (fun _ _ => rfl) (fun k hk => absurd hk (by omega)) rfl
end Mod1
