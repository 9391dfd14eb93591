theorem dM_openNow_0 : decode mM_openNow.2.1 0 = .ok (.iconst 0, 1) := by decide +kernel
theorem dM_openNow_1 : decode mM_openNow.2.1 1 = .ok (.istore_n 1, 1) := by decide +kernel
theorem dM_openNow_2 : decode mM_openNow.2.1 2 = .ok (.iconst 0, 1) := by decide +kernel
theorem dM_openNow_3 : decode mM_openNow.2.1 3 = .ok (.istore_n 2, 1) := by decide +kernel
theorem dM_openNow_4 : decode mM_openNow.2.1 4 = .ok (.iload_n 2, 1) := by decide +kernel
theorem dM_openNow_5 : decode mM_openNow.2.1 5 = .ok (.aload_n 0, 1) := by decide +kernel
theorem dM_openNow_6 : decode mM_openNow.2.1 6 = .ok (.getfield 281, 3) := by decide +kernel
theorem dM_openNow_9 : decode mM_openNow.2.1 9 = .ok (.getfield 183, 3) := by decide +kernel
theorem dM_openNow_12 : decode mM_openNow.2.1 12 = .ok (.if_icmp .ge 28, 3) := by decide +kernel
theorem dM_openNow_15 : decode mM_openNow.2.1 15 = .ok (.iload_n 1, 1) := by decide +kernel
theorem dM_openNow_16 : decode mM_openNow.2.1 16 = .ok (.aload_n 0, 1) := by decide +kernel
theorem dM_openNow_17 : decode mM_openNow.2.1 17 = .ok (.getfield 21, 3) := by decide +kernel
theorem dM_openNow_20 : decode mM_openNow.2.1 20 = .ok (.iconst 2, 1) := by decide +kernel
theorem dM_openNow_21 : decode mM_openNow.2.1 21 = .ok (.iload_n 2, 1) := by decide +kernel
theorem dM_openNow_22 : decode mM_openNow.2.1 22 = .ok (.iadd, 1) := by decide +kernel
theorem dM_openNow_23 : decode mM_openNow.2.1 23 = .ok (.iaload, 1) := by decide +kernel
theorem dM_openNow_24 : decode mM_openNow.2.1 24 = .ok (.ifCond .le 7, 3) := by decide +kernel
theorem dM_openNow_27 : decode mM_openNow.2.1 27 = .ok (.iconst 1, 1) := by decide +kernel
theorem dM_openNow_28 : decode mM_openNow.2.1 28 = .ok (.goto 4, 3) := by decide +kernel
theorem dM_openNow_31 : decode mM_openNow.2.1 31 = .ok (.iconst 0, 1) := by decide +kernel
theorem dM_openNow_32 : decode mM_openNow.2.1 32 = .ok (.iadd, 1) := by decide +kernel
theorem dM_openNow_33 : decode mM_openNow.2.1 33 = .ok (.istore_n 1, 1) := by decide +kernel
theorem dM_openNow_34 : decode mM_openNow.2.1 34 = .ok (.iinc 2 1, 3) := by decide +kernel
theorem dM_openNow_37 : decode mM_openNow.2.1 37 = .ok (.goto (-33), 3) := by decide +kernel
theorem dM_openNow_40 : decode mM_openNow.2.1 40 = .ok (.iload_n 1, 1) := by decide +kernel
theorem dM_openNow_41 : decode mM_openNow.2.1 41 = .ok (.ireturn, 1) := by decide +kernel
theorem dM_blows_0 : decode mM_blows.2.1 0 = .ok (.iload_n 1, 1) := by decide +kernel
theorem dM_blows_1 : decode mM_blows.2.1 1 = .ok (.istore_n 2, 1) := by decide +kernel
theorem dM_blows_2 : decode mM_blows.2.1 2 = .ok (.iconst 0, 1) := by decide +kernel
theorem dM_blows_3 : decode mM_blows.2.1 3 = .ok (.istore_n 3, 1) := by decide +kernel
theorem dM_blows_4 : decode mM_blows.2.1 4 = .ok (.iload_n 3, 1) := by decide +kernel
theorem dM_blows_5 : decode mM_blows.2.1 5 = .ok (.aload_n 0, 1) := by decide +kernel
theorem dM_blows_6 : decode mM_blows.2.1 6 = .ok (.getfield 281, 3) := by decide +kernel
theorem dM_blows_9 : decode mM_blows.2.1 9 = .ok (.getfield 183, 3) := by decide +kernel
theorem dM_blows_12 : decode mM_blows.2.1 12 = .ok (.if_icmp .ge 36, 3) := by decide +kernel
theorem dM_blows_15 : decode mM_blows.2.1 15 = .ok (.aload_n 0, 1) := by decide +kernel
theorem dM_blows_16 : decode mM_blows.2.1 16 = .ok (.getfield 21, 3) := by decide +kernel
theorem dM_blows_19 : decode mM_blows.2.1 19 = .ok (.iconst 2, 1) := by decide +kernel
theorem dM_blows_20 : decode mM_blows.2.1 20 = .ok (.iload_n 3, 1) := by decide +kernel
theorem dM_blows_21 : decode mM_blows.2.1 21 = .ok (.iadd, 1) := by decide +kernel
theorem dM_blows_22 : decode mM_blows.2.1 22 = .ok (.iaload, 1) := by decide +kernel
theorem dM_blows_23 : decode mM_blows.2.1 23 = .ok (.ifCond .ne 6, 3) := by decide +kernel
theorem dM_blows_26 : decode mM_blows.2.1 26 = .ok (.goto 16, 3) := by decide +kernel
theorem dM_blows_29 : decode mM_blows.2.1 29 = .ok (.iload_n 2, 1) := by decide +kernel
theorem dM_blows_30 : decode mM_blows.2.1 30 = .ok (.ifCond .ne 9, 3) := by decide +kernel
theorem dM_blows_33 : decode mM_blows.2.1 33 = .ok (.aload_n 0, 1) := by decide +kernel
theorem dM_blows_34 : decode mM_blows.2.1 34 = .ok (.iload_n 3, 1) := by decide +kernel
theorem dM_blows_35 : decode mM_blows.2.1 35 = .ok (.invokevirtual 317, 3) := by decide +kernel
theorem dM_blows_38 : decode mM_blows.2.1 38 = .ok (.return_, 1) := by decide +kernel
theorem dM_blows_39 : decode mM_blows.2.1 39 = .ok (.iinc 2 (-1), 3) := by decide +kernel
theorem dM_blows_42 : decode mM_blows.2.1 42 = .ok (.iinc 3 1, 3) := by decide +kernel
theorem dM_blows_45 : decode mM_blows.2.1 45 = .ok (.goto (-41), 3) := by decide +kernel
theorem dM_blows_48 : decode mM_blows.2.1 48 = .ok (.return_, 1) := by decide +kernel
theorem dM_drawOn_0 : decode mM_drawOn.2.1 0 = .ok (.ldc2_w 479, 3) := by decide +kernel
theorem dM_drawOn_3 : decode mM_drawOn.2.1 3 = .ok (.iload_n 1, 1) := by decide +kernel
theorem dM_drawOn_4 : decode mM_drawOn.2.1 4 = .ok (.i2l, 1) := by decide +kernel
theorem dM_drawOn_5 : decode mM_drawOn.2.1 5 = .ok (.lmul, 1) := by decide +kernel
theorem dM_drawOn_6 : decode mM_drawOn.2.1 6 = .ok (.ldc2_w 481, 3) := by decide +kernel
theorem dM_drawOn_9 : decode mM_drawOn.2.1 9 = .ok (.ladd, 1) := by decide +kernel
theorem dM_drawOn_10 : decode mM_drawOn.2.1 10 = .ok (.ldc2_w 483, 3) := by decide +kernel
theorem dM_drawOn_13 : decode mM_drawOn.2.1 13 = .ok (.lrem, 1) := by decide +kernel
theorem dM_drawOn_14 : decode mM_drawOn.2.1 14 = .ok (.l2i, 1) := by decide +kernel
theorem dM_drawOn_15 : decode mM_drawOn.2.1 15 = .ok (.ireturn, 1) := by decide +kernel
theorem dM_draftsAll_0 : decode mM_draftsAll.2.1 0 = .ok (.aload_n 0, 1) := by decide +kernel
theorem dM_draftsAll_1 : decode mM_draftsAll.2.1 1 = .ok (.invokevirtual 348, 3) := by decide +kernel
theorem dM_draftsAll_4 : decode mM_draftsAll.2.1 4 = .ok (.iload_n 1, 1) := by decide +kernel
theorem dM_draftsAll_5 : decode mM_draftsAll.2.1 5 = .ok (.istore_n 3, 1) := by decide +kernel
theorem dM_draftsAll_6 : decode mM_draftsAll.2.1 6 = .ok (.aload_n 0, 1) := by decide +kernel
theorem dM_draftsAll_7 : decode mM_draftsAll.2.1 7 = .ok (.invokevirtual 444, 3) := by decide +kernel
theorem dM_draftsAll_10 : decode mM_draftsAll.2.1 10 = .ok (.ifCond .ne 7, 3) := by decide +kernel
theorem dM_draftsAll_13 : decode mM_draftsAll.2.1 13 = .ok (.iconst 0, 1) := by decide +kernel
theorem dM_draftsAll_14 : decode mM_draftsAll.2.1 14 = .ok (.goto 5, 3) := by decide +kernel
theorem dM_draftsAll_17 : decode mM_draftsAll.2.1 17 = .ok (.bipush (-2), 2) := by decide +kernel
theorem dM_draftsAll_19 : decode mM_draftsAll.2.1 19 = .ok (.istore 4, 2) := by decide +kernel
theorem dM_draftsAll_21 : decode mM_draftsAll.2.1 21 = .ok (.iconst 1, 1) := by decide +kernel
theorem dM_draftsAll_22 : decode mM_draftsAll.2.1 22 = .ok (.istore 5, 2) := by decide +kernel
theorem dM_draftsAll_24 : decode mM_draftsAll.2.1 24 = .ok (.iload 5, 2) := by decide +kernel
theorem dM_draftsAll_26 : decode mM_draftsAll.2.1 26 = .ok (.iload_n 2, 1) := by decide +kernel
theorem dM_draftsAll_27 : decode mM_draftsAll.2.1 27 = .ok (.if_icmp .gt 70, 3) := by decide +kernel
theorem dM_draftsAll_30 : decode mM_draftsAll.2.1 30 = .ok (.aload_n 0, 1) := by decide +kernel
theorem dM_draftsAll_31 : decode mM_draftsAll.2.1 31 = .ok (.iload_n 3, 1) := by decide +kernel
theorem dM_draftsAll_32 : decode mM_draftsAll.2.1 32 = .ok (.invokevirtual 485, 3) := by decide +kernel
theorem dM_draftsAll_35 : decode mM_draftsAll.2.1 35 = .ok (.istore_n 3, 1) := by decide +kernel
theorem dM_draftsAll_36 : decode mM_draftsAll.2.1 36 = .ok (.iload_n 3, 1) := by decide +kernel
theorem dM_draftsAll_37 : decode mM_draftsAll.2.1 37 = .ok (.bipush 100, 2) := by decide +kernel
theorem dM_draftsAll_39 : decode mM_draftsAll.2.1 39 = .ok (.irem, 1) := by decide +kernel
theorem dM_draftsAll_40 : decode mM_draftsAll.2.1 40 = .ok (.aload_n 0, 1) := by decide +kernel
theorem dM_draftsAll_41 : decode mM_draftsAll.2.1 41 = .ok (.getfield 281, 3) := by decide +kernel
theorem dM_draftsAll_44 : decode mM_draftsAll.2.1 44 = .ok (.getfield 151, 3) := by decide +kernel
theorem dM_draftsAll_47 : decode mM_draftsAll.2.1 47 = .ok (.if_icmp .ge 26, 3) := by decide +kernel
theorem dM_draftsAll_50 : decode mM_draftsAll.2.1 50 = .ok (.aload_n 0, 1) := by decide +kernel
theorem dM_draftsAll_51 : decode mM_draftsAll.2.1 51 = .ok (.invokevirtual 444, 3) := by decide +kernel
theorem dM_draftsAll_54 : decode mM_draftsAll.2.1 54 = .ok (.ifCond .le 19, 3) := by decide +kernel
theorem dM_draftsAll_57 : decode mM_draftsAll.2.1 57 = .ok (.aload_n 0, 1) := by decide +kernel
theorem dM_draftsAll_58 : decode mM_draftsAll.2.1 58 = .ok (.iload_n 3, 1) := by decide +kernel
theorem dM_draftsAll_59 : decode mM_draftsAll.2.1 59 = .ok (.invokevirtual 485, 3) := by decide +kernel
theorem dM_draftsAll_62 : decode mM_draftsAll.2.1 62 = .ok (.istore_n 3, 1) := by decide +kernel
theorem dM_draftsAll_63 : decode mM_draftsAll.2.1 63 = .ok (.aload_n 0, 1) := by decide +kernel
theorem dM_draftsAll_64 : decode mM_draftsAll.2.1 64 = .ok (.iload_n 3, 1) := by decide +kernel
theorem dM_draftsAll_65 : decode mM_draftsAll.2.1 65 = .ok (.aload_n 0, 1) := by decide +kernel
theorem dM_draftsAll_66 : decode mM_draftsAll.2.1 66 = .ok (.invokevirtual 444, 3) := by decide +kernel
theorem dM_draftsAll_69 : decode mM_draftsAll.2.1 69 = .ok (.irem, 1) := by decide +kernel
theorem dM_draftsAll_70 : decode mM_draftsAll.2.1 70 = .ok (.invokevirtual 449, 3) := by decide +kernel
theorem dM_draftsAll_73 : decode mM_draftsAll.2.1 73 = .ok (.iload 4, 2) := by decide +kernel
theorem dM_draftsAll_75 : decode mM_draftsAll.2.1 75 = .ok (.bipush (-2), 2) := by decide +kernel
theorem dM_draftsAll_77 : decode mM_draftsAll.2.1 77 = .ok (.if_icmp .ne 14, 3) := by decide +kernel
theorem dM_draftsAll_80 : decode mM_draftsAll.2.1 80 = .ok (.aload_n 0, 1) := by decide +kernel
theorem dM_draftsAll_81 : decode mM_draftsAll.2.1 81 = .ok (.invokevirtual 444, 3) := by decide +kernel
theorem dM_draftsAll_84 : decode mM_draftsAll.2.1 84 = .ok (.ifCond .ne 7, 3) := by decide +kernel
theorem dM_draftsAll_87 : decode mM_draftsAll.2.1 87 = .ok (.iload 5, 2) := by decide +kernel
theorem dM_draftsAll_89 : decode mM_draftsAll.2.1 89 = .ok (.istore 4, 2) := by decide +kernel
theorem dM_draftsAll_91 : decode mM_draftsAll.2.1 91 = .ok (.iinc 5 1, 3) := by decide +kernel
theorem dM_draftsAll_94 : decode mM_draftsAll.2.1 94 = .ok (.goto (-70), 3) := by decide +kernel
theorem dM_draftsAll_97 : decode mM_draftsAll.2.1 97 = .ok (.iload 4, 2) := by decide +kernel
theorem dM_draftsAll_99 : decode mM_draftsAll.2.1 99 = .ok (.ireturn, 1) := by decide +kernel
theorem dM_refusesSeed_0 : decode mM_refusesSeed.2.1 0 = .ok (.aload_n 0, 1) := by decide +kernel
theorem dM_refusesSeed_1 : decode mM_refusesSeed.2.1 1 = .ok (.getfield 281, 3) := by decide +kernel
theorem dM_refusesSeed_4 : decode mM_refusesSeed.2.1 4 = .ok (.ifnonnull 7, 3) := by decide +kernel
theorem dM_refusesSeed_7 : decode mM_refusesSeed.2.1 7 = .ok (.iconst 1, 1) := by decide +kernel
theorem dM_refusesSeed_8 : decode mM_refusesSeed.2.1 8 = .ok (.goto 29, 3) := by decide +kernel
theorem dM_refusesSeed_11 : decode mM_refusesSeed.2.1 11 = .ok (.iload_n 1, 1) := by decide +kernel
theorem dM_refusesSeed_12 : decode mM_refusesSeed.2.1 12 = .ok (.iconst 0, 1) := by decide +kernel
theorem dM_refusesSeed_13 : decode mM_refusesSeed.2.1 13 = .ok (.ldc_w 488, 3) := by decide +kernel
theorem dM_refusesSeed_16 : decode mM_refusesSeed.2.1 16 = .ok (.invokestatic 357, 3) := by decide +kernel
theorem dM_refusesSeed_19 : decode mM_refusesSeed.2.1 19 = .ok (.ifCond .eq 17, 3) := by decide +kernel
theorem dM_refusesSeed_22 : decode mM_refusesSeed.2.1 22 = .ok (.iload_n 2, 1) := by decide +kernel
theorem dM_refusesSeed_23 : decode mM_refusesSeed.2.1 23 = .ok (.iconst 0, 1) := by decide +kernel
theorem dM_refusesSeed_24 : decode mM_refusesSeed.2.1 24 = .ok (.bipush 60, 2) := by decide +kernel
theorem dM_refusesSeed_26 : decode mM_refusesSeed.2.1 26 = .ok (.invokestatic 357, 3) := by decide +kernel
theorem dM_refusesSeed_29 : decode mM_refusesSeed.2.1 29 = .ok (.ifCond .eq 7, 3) := by decide +kernel
theorem dM_refusesSeed_32 : decode mM_refusesSeed.2.1 32 = .ok (.iconst 0, 1) := by decide +kernel
theorem dM_refusesSeed_33 : decode mM_refusesSeed.2.1 33 = .ok (.goto 4, 3) := by decide +kernel
theorem dM_refusesSeed_36 : decode mM_refusesSeed.2.1 36 = .ok (.iconst 2, 1) := by decide +kernel
theorem dM_refusesSeed_37 : decode mM_refusesSeed.2.1 37 = .ok (.ireturn, 1) := by decide +kernel
theorem dM_drafts_0 : decode mM_drafts.2.1 0 = .ok (.aload_n 0, 1) := by decide +kernel
theorem dM_drafts_1 : decode mM_drafts.2.1 1 = .ok (.iconst 0, 1) := by decide +kernel
theorem dM_drafts_2 : decode mM_drafts.2.1 2 = .ok (.putfield 46, 3) := by decide +kernel
theorem dM_drafts_5 : decode mM_drafts.2.1 5 = .ok (.aload_n 0, 1) := by decide +kernel
theorem dM_drafts_6 : decode mM_drafts.2.1 6 = .ok (.iload_n 1, 1) := by decide +kernel
theorem dM_drafts_7 : decode mM_drafts.2.1 7 = .ok (.iload_n 2, 1) := by decide +kernel
theorem dM_drafts_8 : decode mM_drafts.2.1 8 = .ok (.invokevirtual 489, 3) := by decide +kernel
theorem dM_drafts_11 : decode mM_drafts.2.1 11 = .ok (.istore_n 3, 1) := by decide +kernel
theorem dM_drafts_12 : decode mM_drafts.2.1 12 = .ok (.iload_n 3, 1) := by decide +kernel
theorem dM_drafts_13 : decode mM_drafts.2.1 13 = .ok (.ifCond .le 9, 3) := by decide +kernel
theorem dM_drafts_16 : decode mM_drafts.2.1 16 = .ok (.aload_n 0, 1) := by decide +kernel
theorem dM_drafts_17 : decode mM_drafts.2.1 17 = .ok (.iload_n 3, 1) := by decide +kernel
theorem dM_drafts_18 : decode mM_drafts.2.1 18 = .ok (.invokevirtual 52, 3) := by decide +kernel
theorem dM_drafts_21 : decode mM_drafts.2.1 21 = .ok (.ireturn, 1) := by decide +kernel
theorem dM_drafts_22 : decode mM_drafts.2.1 22 = .ok (.aload_n 0, 1) := by decide +kernel
theorem dM_drafts_23 : decode mM_drafts.2.1 23 = .ok (.iload_n 1, 1) := by decide +kernel
theorem dM_drafts_24 : decode mM_drafts.2.1 24 = .ok (.iload_n 2, 1) := by decide +kernel
theorem dM_drafts_25 : decode mM_drafts.2.1 25 = .ok (.invokevirtual 493, 3) := by decide +kernel
theorem dM_drafts_28 : decode mM_drafts.2.1 28 = .ok (.pop, 1) := by decide +kernel
theorem dM_drafts_29 : decode mM_drafts.2.1 29 = .ok (.aload_n 0, 1) := by decide +kernel
theorem dM_drafts_30 : decode mM_drafts.2.1 30 = .ok (.aload_n 0, 1) := by decide +kernel
theorem dM_drafts_31 : decode mM_drafts.2.1 31 = .ok (.getfield 21, 3) := by decide +kernel
theorem dM_drafts_34 : decode mM_drafts.2.1 34 = .ok (.bipush 6, 2) := by decide +kernel
theorem dM_drafts_36 : decode mM_drafts.2.1 36 = .ok (.iaload, 1) := by decide +kernel
theorem dM_drafts_37 : decode mM_drafts.2.1 37 = .ok (.invokevirtual 56, 3) := by decide +kernel
theorem dM_drafts_40 : decode mM_drafts.2.1 40 = .ok (.ireturn, 1) := by decide +kernel
theorem dM_stillAt_0 : decode mM_stillAt.2.1 0 = .ok (.aload_n 0, 1) := by decide +kernel
theorem dM_stillAt_1 : decode mM_stillAt.2.1 1 = .ok (.iconst 0, 1) := by decide +kernel
theorem dM_stillAt_2 : decode mM_stillAt.2.1 2 = .ok (.putfield 46, 3) := by decide +kernel
theorem dM_stillAt_5 : decode mM_stillAt.2.1 5 = .ok (.aload_n 0, 1) := by decide +kernel
theorem dM_stillAt_6 : decode mM_stillAt.2.1 6 = .ok (.iload_n 1, 1) := by decide +kernel
theorem dM_stillAt_7 : decode mM_stillAt.2.1 7 = .ok (.iload_n 2, 1) := by decide +kernel
theorem dM_stillAt_8 : decode mM_stillAt.2.1 8 = .ok (.invokevirtual 489, 3) := by decide +kernel
theorem dM_stillAt_11 : decode mM_stillAt.2.1 11 = .ok (.istore_n 3, 1) := by decide +kernel
theorem dM_stillAt_12 : decode mM_stillAt.2.1 12 = .ok (.iload_n 3, 1) := by decide +kernel
theorem dM_stillAt_13 : decode mM_stillAt.2.1 13 = .ok (.ifCond .le 11, 3) := by decide +kernel
theorem dM_stillAt_16 : decode mM_stillAt.2.1 16 = .ok (.aload_n 0, 1) := by decide +kernel
theorem dM_stillAt_17 : decode mM_stillAt.2.1 17 = .ok (.iload_n 3, 1) := by decide +kernel
theorem dM_stillAt_18 : decode mM_stillAt.2.1 18 = .ok (.invokevirtual 52, 3) := by decide +kernel
theorem dM_stillAt_21 : decode mM_stillAt.2.1 21 = .ok (.goto 13, 3) := by decide +kernel
theorem dM_stillAt_24 : decode mM_stillAt.2.1 24 = .ok (.aload_n 0, 1) := by decide +kernel
theorem dM_stillAt_25 : decode mM_stillAt.2.1 25 = .ok (.aload_n 0, 1) := by decide +kernel
theorem dM_stillAt_26 : decode mM_stillAt.2.1 26 = .ok (.iload_n 1, 1) := by decide +kernel
theorem dM_stillAt_27 : decode mM_stillAt.2.1 27 = .ok (.iload_n 2, 1) := by decide +kernel
theorem dM_stillAt_28 : decode mM_stillAt.2.1 28 = .ok (.invokevirtual 493, 3) := by decide +kernel
theorem dM_stillAt_31 : decode mM_stillAt.2.1 31 = .ok (.invokevirtual 56, 3) := by decide +kernel
theorem dM_stillAt_34 : decode mM_stillAt.2.1 34 = .ok (.ireturn, 1) := by decide +kernel
-- which doors are ajar
def oB (c : Cfg) (m : Nat) : Nat := bsum (fun d => ld c m d != 0) (dN c)
theorem oB_lt {c : Cfg} (hc : okC c) (m : Nat) : oB c m < 16 := Nat.lt_of_lt_of_le (bsum_lt _ _) (Nat.pow_le_pow_right (by decide) hc.1 : 2 ^ dN c ≤ 2 ^ 4)
theorem oB_tb (c : Cfg) (m b : Nat) : (oB c m).testBit b = (decide (b < dN c) && ld c m b != 0) := bsum_tb _ _ _
theorem oB_pc {c : Cfg} (hc : okC c) (m : Nat) : pc4 (oB c m) = cntB (fun d => ld c m d != 0) (dN c) := by
  have hd : dN c ≤ 4 := hc.1
  rw [← pcN_16 _ (oB_lt hc m), pcN_cnt]
  obtain ⟨b, hb⟩ : ∃ b, 31 = dN c + b := ⟨31 - dN c, by omega⟩
  rw [hb, cntB_skip b (fun k h1 _ => by rw [oB_tb, decide_eq_false (by omega), Bool.false_and])]
  exact cntB_cg _ fun i hi => by rw [oB_tb, decide_eq_true hi, Bool.true_and]
theorem clr_tb : ∀ o : Nat, o < 16 → ∀ d : Nat, d < 4 → ∀ b : Nat, b < 4 → (clr o d).testBit b = (o.testBit b && b != d) := by decide +kernel
theorem oB_sh {c : Cfg} (hc : okC c) {m d : Nat} (hd : d < dN c) : oB c (aS c m d) = clr (oB c m) d := by
  have hd4 : dN c ≤ 4 := hc.1
  have h1 := oB_lt hc m
  have h2 := oB_lt hc (aS c m d)
  have h3 := clr_le (oB c m) d
  refine Nat.eq_of_testBit_eq fun b => ?_
  by_cases hb : b < 4
  · rw [clr_tb _ h1 d (by omega) b hb, oB_tb, oB_tb]
    by_cases q : b < dN c
    · rw [decide_eq_true q, Bool.true_and, Bool.true_and, (aS_dig hd).2 b q]
      by_cases e : b = d
      · rw [if_pos e, show (b != d) = false by rw [e]; exact bne_self_eq_false d, Bool.and_false]; rfl
      · rw [if_neg e, bne_iff_ne.mpr e, Bool.and_true]
    · rw [decide_eq_false q, Bool.false_and, Bool.false_and, Bool.false_and]
  · have h16 : 16 ≤ 2 ^ b := Nat.pow_le_pow_right (n := 2) (by decide) (show 4 ≤ b by omega)
    rw [Nat.testBit_lt_two_pow (Nat.lt_of_lt_of_le h2 h16), Nat.testBit_lt_two_pow (by omega)]
theorem pc4_0 : ∀ o : Nat, o < 16 → (pc4 o = 0 ↔ o = 0) := by decide +kernel
section Mod26
variable {G : GE} {V V' V1 V2 : Nat → Nat → Int} {σ : Shp} {K : Option AV → Mem → Prop} {l : Nat} {c : Cfg} {n : Nat} {S : PS}
theorem wM_openNow (hM : moS σ l) (hl : laS σ l) (hC : LC V l c) (hA : AR (V 56) c n) (hc : okC c) (hK : K (some (vI (pc4 (oB c n)))) (V, σ)) : Wp G 0 mM_openNow [vR 53] (V, σ) 0 0 K := by
  have h1 := hC.1
  have hd4 : dN c ≤ 4 := hc.1
  rw [oB_pc hc] at hK
  refine wp_intro mM_openNow_i.1 [some (vR 53), none, none] rfl rfl (Nat.le_of_ble_eq_true rfl) ?_
  intro X hG F C
  have hm := C.rm
  have loop : ∀ (j d : Nat), d + j = dN c → ∀ (y z : Int), y = cntB (fun d => ld c n d != 0) d → z = d → AW X 4 [some (vR 53), some (vI y), some (vI z)] [] (V, σ) 0 0 := by
    intro j
    induction j with
    | zero =>
      intro d hd y z hy hz
      refine aw_iload_2 (q := 5) F dM_openNow_4 rfl ?_
      refine aw_aload_0 (q := 6) F dM_openNow_5 rfl ?_
      refine av_getaE (q := 9) F fM_281 dM_openNow_6 rfl rfl (by first | exact hM.o | exact hl.o | exact hM.a55 | exact hM.a56) hM.p3 ?_
      refine av_geti (q := 12) F fM_183 dM_openNow_9 rfl rfl (by first | exact hM.o | exact hl.o | exact hM.a55 | exact hM.a56) ?_
      rw [h1]
      refine aw_icmp_ge (q := 15) (t := 40) F dM_openNow_12 rfl (by decide) (fun c12 => ?_) (fun c12 => by omega)
      refine aw_iload_1 (q := 41) F dM_openNow_40 rfl ?_
      refine aw_iret F C dM_openNow_41 rfl (Nat.le_refl _) (Nat.le_refl _) ?_
      refine kI hK ?_; rw [hy, show d = dN c by omega]
    | succ j ih =>
      intro d hd y z hy hz
      have hle := cntB_le (fun d => ld c n d != 0) d
      have e2 : V 56 (2 + d) = (ld c n d : Int) := ar_ld hA (by omega) (by omega)
      have k1 : ld c n d ≠ 0 → cntB (fun d => ld c n d != 0) (d + 1) = cntB (fun d => ld c n d != 0) d + 1 := fun q => cntB_1 (bne_iff_ne.mpr q)
      have k0 : ld c n d = 0 → cntB (fun d => ld c n d != 0) (d + 1) = cntB (fun d => ld c n d != 0) d := fun q => cntB_0 (by rw [q]; rfl)
      refine aw_iload_2 (q := 5) F dM_openNow_4 rfl ?_
      refine aw_aload_0 (q := 6) F dM_openNow_5 rfl ?_
      refine av_getaE (q := 9) F fM_281 dM_openNow_6 rfl rfl (by first | exact hM.o | exact hl.o | exact hM.a55 | exact hM.a56) hM.p3 ?_
      refine av_geti (q := 12) F fM_183 dM_openNow_9 rfl rfl (by first | exact hM.o | exact hl.o | exact hM.a55 | exact hM.a56) ?_
      rw [h1]
      refine aw_icmp_ge (q := 15) (t := 40) F dM_openNow_12 rfl (by decide) (fun c12 => by omega) (fun c12 => ?_)
      refine aw_iload_1 (q := 16) F dM_openNow_15 rfl ?_
      refine aw_aload_0 (q := 17) F dM_openNow_16 rfl ?_
      refine av_getaE (q := 20) F fM_21 dM_openNow_17 rfl rfl (by first | exact hM.o | exact hl.o | exact hM.a55 | exact hM.a56) hM.p16 ?_
      refine aw_iconst (q := 21) F dM_openNow_20 rfl (by decide) ?_
      refine aw_iload_2 (q := 22) F dM_openNow_21 rfl ?_
      refine aw_iadd (q := 23) F dM_openNow_22 rfl (by constructor <;> omega) ?_
      refine av_iaload (q := 24) F dM_openNow_23 rfl (by first | exact hM.o | exact hl.o | exact hM.a55 | exact hM.a56) (by omega) (by omega) ?_
      rw [show (2 + z).toNat = 2 + d by omega, e2]
      refine aw_if_le (q := 27) (t := 31) F dM_openNow_24 rfl (by decide) (fun c24 => ?_) (fun c24 => ?_)
      · refine aw_iconst (q := 32) F dM_openNow_31 rfl (by decide) ?_
        refine aw_iadd (q := 33) F dM_openNow_32 rfl (by constructor <;> omega) ?_
        refine aw_istore_1 (q := 34) F dM_openNow_33 rfl trivial ?_
        refine aw_iinc_2 (q := 37) F dM_openNow_34 rfl trivial (by constructor <;> omega) ?_
        refine aw_goto (t := 4) F dM_openNow_37 (by decide) ?_
        first | exact ih (d + 1) (by omega) _ _ (by rw [k0 (by omega)]; omega) (by omega) | exact ih (d + 1) (by omega) _ _ (by rw [k1 (by omega)]; omega) (by omega)
      · refine aw_iconst (q := 28) F dM_openNow_27 rfl (by decide) ?_
        refine aw_goto (t := 32) F dM_openNow_28 (by decide) ?_
        refine aw_iadd (q := 33) F dM_openNow_32 rfl (by constructor <;> omega) ?_
        refine aw_istore_1 (q := 34) F dM_openNow_33 rfl trivial ?_
        refine aw_iinc_2 (q := 37) F dM_openNow_34 rfl trivial (by constructor <;> omega) ?_
        refine aw_goto (t := 4) F dM_openNow_37 (by decide) ?_
        first | exact ih (d + 1) (by omega) _ _ (by rw [k0 (by omega)]; omega) (by omega) | exact ih (d + 1) (by omega) _ _ (by rw [k1 (by omega)]; omega) (by omega)
  refine aw_iconst (q := 1) F dM_openNow_0 rfl (by decide) ?_
  refine aw_istore_1 (q := 2) F dM_openNow_1 rfl trivial ?_
  refine aw_iconst (q := 3) F dM_openNow_2 rfl (by decide) ?_
  refine aw_istore_2 (q := 4) F dM_openNow_3 rfl trivial ?_
  exact loop _ 0 (Nat.zero_add _) _ _ rfl rfl
theorem wM_blows {x : Int} {t : Nat} (hx : x = t) (ht : t < pc4 (oB c n)) (hM : moS σ l) (hl : laS σ l) (h64 : 64 ≤ l) (hC : LC V l c) (hA : AR (V 56) c n) (hc : okC c) (hK : ∀ V', XF V V' → opF (oB c n) 4 t 0 < dN c → AR (V' 56) c (aS c n (opF (oB c n) 4 t 0)) → K none (V', σ)) : Wp G 1 mM_blows [vR 53, vI x] (V, σ) 0 0 K := by
  have h1 := hC.1
  have hd4 : dN c ≤ 4 := hc.1
  rw [oB_pc hc] at ht
  refine wp_intro mM_blows_i.1 [some (vR 53), some (vI x), none, none] rfl rfl (Nat.le_of_ble_eq_true rfl) ?_
  intro X hG F C
  have hm := C.rm
  have loop : ∀ (j d : Nat), d + j = dN c → ∀ (y z : Int) (u : Nat), y = u → z = d → cntB (fun d => ld c n d != 0) d + u < cntB (fun d => ld c n d != 0) (dN c) → opF (oB c n) (4 - d) u d = opF (oB c n) 4 t 0 → AW X 4 [some (vR 53), some (vI x), some (vI y), some (vI z)] [] (V, σ) 0 0 := by
    intro j
    induction j with
    | zero =>
      intro d hd y z u hy hz hcn ho
      rw [show d = dN c by omega] at hcn
      exact absurd hcn (by omega)
    | succ j ih =>
      intro d hd y z u hy hz hcn ho
      have e2 : V 56 (2 + d) = (ld c n d : Int) := ar_ld hA (by omega) (by omega)
      have k1 : ld c n d ≠ 0 → cntB (fun d => ld c n d != 0) (d + 1) = cntB (fun d => ld c n d != 0) d + 1 := fun q => cntB_1 (bne_iff_ne.mpr q)
      have k0 : ld c n d = 0 → cntB (fun d => ld c n d != 0) (d + 1) = cntB (fun d => ld c n d != 0) d := fun q => cntB_0 (by rw [q]; rfl)
      have eo : opF (oB c n) (4 - d) u d = if (oB c n).testBit d then (if u = 0 then d else opF (oB c n) (4 - (d + 1)) (u - 1) (d + 1)) else opF (oB c n) (4 - (d + 1)) u (d + 1) := by rw [show 4 - d = (4 - (d + 1)) + 1 by omega]; rfl
      have et : (oB c n).testBit d = (ld c n d != 0) := by rw [oB_tb, decide_eq_true (by omega), Bool.true_and]
      have ul : u ≤ 4 := by have := cntB_le (fun d => ld c n d != 0) (dN c); omega
      refine aw_iload_3 (q := 5) F dM_blows_4 rfl ?_
      refine aw_aload_0 (q := 6) F dM_blows_5 rfl ?_
      refine av_getaE (q := 9) F fM_281 dM_blows_6 rfl rfl (by first | exact hM.o | exact hl.o | exact hM.a55 | exact hM.a56) hM.p3 ?_
      refine av_geti (q := 12) F fM_183 dM_blows_9 rfl rfl (by first | exact hM.o | exact hl.o | exact hM.a55 | exact hM.a56) ?_
      rw [h1]
      refine aw_icmp_ge (q := 15) (t := 48) F dM_blows_12 rfl (by decide) (fun c12 => by omega) (fun c12 => ?_)
      refine aw_aload_0 (q := 16) F dM_blows_15 rfl ?_
      refine av_getaE (q := 19) F fM_21 dM_blows_16 rfl rfl (by first | exact hM.o | exact hl.o | exact hM.a55 | exact hM.a56) hM.p16 ?_
      refine aw_iconst (q := 20) F dM_blows_19 rfl (by decide) ?_
      refine aw_iload_3 (q := 21) F dM_blows_20 rfl ?_
      refine aw_iadd (q := 22) F dM_blows_21 rfl (by constructor <;> omega) ?_
      refine av_iaload (q := 23) F dM_blows_22 rfl (by first | exact hM.o | exact hl.o | exact hM.a55 | exact hM.a56) (by omega) (by omega) ?_
      rw [show (2 + z).toNat = 2 + d by omega, e2]
      refine aw_if_ne (q := 26) (t := 29) F dM_blows_23 rfl (by decide) (fun c23 => ?_) (fun c23 => ?_)
      · rw [et, if_pos (bne_iff_ne.mpr (by omega))] at eo
        refine aw_iload_2 (q := 30) F dM_blows_29 rfl ?_
        refine aw_if_ne (q := 33) (t := 39) F dM_blows_30 rfl (by decide) (fun c30 => ?_) (fun c30 => ?_)
        · refine aw_iinc_2 (q := 42) F dM_blows_39 rfl trivial (by constructor <;> omega) ?_
          refine aw_iinc_3 (q := 45) F dM_blows_42 rfl trivial (by constructor <;> omega) ?_
          refine aw_goto (t := 4) F dM_blows_45 (by decide) ?_
          first
          | (rw [if_neg (by omega)] at eo; exact ih (d + 1) (by omega) _ _ (u - 1) (by omega) (by omega) (by rw [k1 (by omega)]; omega) (by rw [← eo]; exact ho))
          | (rw [et, if_neg (fun q => (bne_iff_ne.mp q) (by omega))] at eo; exact ih (d + 1) (by omega) _ _ u (by omega) (by omega) (by rw [k0 (by omega)]; omega) (by rw [← eo]; exact ho))
        · rw [if_pos (by omega)] at eo
          refine aw_aload_0 (q := 34) F dM_blows_33 rfl ?_
          refine aw_iload_3 (q := 35) F dM_blows_34 rfl ?_
          refine av_callV1 (q := 38) (ci := 9) F hm mM_shuts_i mM_shuts_n lM_317 dM_blows_35 rfl rfl rfl (by first | exact hM.o | exact hl.o | exact hM.a55 | exact hM.a56) (by decide) (Nat.le_refl _) (Nat.le_refl _) (Nat.le_of_ble_eq_true rfl) (wM_shuts (d := d) hz (by omega) hM hA hc (fun V2 f35 g35 => ?_))
          refine aw_vret F C dM_blows_38 rfl (Nat.le_refl _) (Nat.le_refl _) ?_
          rw [← ho, eo] at hK; exact hK V2 f35 (by omega) g35
      · refine aw_goto (t := 42) F dM_blows_26 (by decide) ?_
        refine aw_iinc_3 (q := 45) F dM_blows_42 rfl trivial (by constructor <;> omega) ?_
        refine aw_goto (t := 4) F dM_blows_45 (by decide) ?_
        first
        | (rw [if_neg (by omega)] at eo; exact ih (d + 1) (by omega) _ _ (u - 1) (by omega) (by omega) (by rw [k1 (by omega)]; omega) (by rw [← eo]; exact ho))
        | (rw [et, if_neg (fun q => (bne_iff_ne.mp q) (by omega))] at eo; exact ih (d + 1) (by omega) _ _ u (by omega) (by omega) (by rw [k0 (by omega)]; omega) (by rw [← eo]; exact ho))
  refine aw_iload_1 (q := 1) F dM_blows_0 rfl ?_
  refine aw_istore_2 (q := 2) F dM_blows_1 rfl trivial ?_
  refine aw_iconst (q := 3) F dM_blows_2 rfl (by decide) ?_
  refine aw_istore_3 (q := 4) F dM_blows_3 rfl trivial ?_
  exact loop (dN c) 0 (by omega) _ _ t hx rfl (by show 0 + t < _; omega) rfl
theorem wM_drawOn {x : Int} {s : Nat} (hx : x = s) (hs : s < 65537) (hM : moS σ l) (hK : K (some (vI (nxS s))) (V, σ)) : Wp G 0 mM_drawOn [vR 53, vI x] (V, σ) 0 0 K := by
  have e : (75 * x + 74) % 65537 = ((nxS s : Nat) : Int) := by unfold nxS; omega
  have hlt := nxS_lt s
  refine wp_intro mM_drawOn_i.1 [some (vR 53), some (vI x)] rfl rfl (Nat.le_of_ble_eq_true rfl) ?_
  intro X hG F C
  have hm := C.rm
  refine aw_ldc2 (q := 3) (z := 75) F dM_drawOn_0 rfl kM_479 (by decide) ?_
  refine aw_iload_1 (q := 4) F dM_drawOn_3 rfl ?_
  refine aw_i2l (q := 5) F dM_drawOn_4 rfl ?_
  refine aw_lmul (q := 6) F dM_drawOn_5 rfl (by constructor <;> omega) ?_
  refine aw_ldc2 (q := 9) (z := 74) F dM_drawOn_6 rfl kM_481 (by decide) ?_
  refine aw_ladd (q := 10) F dM_drawOn_9 rfl (by constructor <;> omega) ?_
  refine aw_ldc2 (q := 13) (z := 65537) F dM_drawOn_10 rfl kM_483 (by decide) ?_
  refine aw_lrem (q := 14) F dM_drawOn_13 rfl (by omega) (by omega) ?_
  rw [e]
  refine aw_l2i (q := 15) F dM_drawOn_14 rfl (by constructor <;> omega) ?_
  refine aw_iret F C dM_drawOn_15 rfl (Nat.le_refl _) (Nat.le_refl _) ?_
  exact hK
theorem wM_refusesSeed {x z : Int} (h : MW V σ l S) (h0 : 0 < tDn (psT S) → (0 ≤ x ∧ x ≤ 65536) ∧ 0 ≤ z ∧ z ≤ 60 → K (some (vI 0)) (V, σ)) (h1 : ¬ 0 < tDn (psT S) → K (some (vI 1)) (V, σ)) (h2 : 0 < tDn (psT S) → ¬ ((0 ≤ x ∧ x ≤ 65536) ∧ 0 ≤ z ∧ z ≤ 60) → K (some (vI 2)) (V, σ)) : Wp G 1 mM_refusesSeed [vR 53, vI x, vI z] (V, σ) 0 0 K := by
  have hM := h.mo
  refine wp_intro mM_refusesSeed_i.1 [some (vR 53), some (vI x), some (vI z)] rfl rfl (Nat.le_of_ble_eq_true rfl) ?_
  intro X hG F C
  have hm := C.rm
  refine aw_aload_0 (q := 1) F dM_refusesSeed_0 rfl ?_
  refine av_getaE (q := 4) F fM_281 dM_refusesSeed_1 rfl rfl (by first | exact hM.o | exact hl.o | exact hM.a55 | exact hM.a56) hM.p3 ?_
  refine aw_ifnonnull (q := 7) (t := 11) F dM_refusesSeed_4 rfl (by decide) (fun c4 => ?_) (fun c4 => ?_)
  · refine aw_iload_1 (q := 12) F dM_refusesSeed_11 rfl ?_
    refine aw_iconst (q := 13) F dM_refusesSeed_12 rfl (by decide) ?_
    refine aw_ldcw (q := 16) (z := 65536) F dM_refusesSeed_13 rfl kM_488 (by decide) ?_
    refine av_callS3 (q := 19) F hm mM_in_i mM_in_n lM_357 dM_refusesSeed_16 rfl (by decide) (Nat.le_refl _) (Nat.le_refl _) (Nat.le_of_ble_eq_true rfl) (wM_in (fun c16 => ?_) (fun c16 => ?_))
    · refine aw_if_eq (q := 22) (t := 36) F dM_refusesSeed_19 rfl (by decide) (fun c19 => absurd c19 (by decide)) (fun c19 => ?_)
      refine aw_iload_2 (q := 23) F dM_refusesSeed_22 rfl ?_
      refine aw_iconst (q := 24) F dM_refusesSeed_23 rfl (by decide) ?_
      refine aw_bipush (q := 26) F dM_refusesSeed_24 rfl (by decide) ?_
      refine av_callS3 (q := 29) F hm mM_in_i mM_in_n lM_357 dM_refusesSeed_26 rfl (by decide) (Nat.le_refl _) (Nat.le_refl _) (Nat.le_of_ble_eq_true rfl) (wM_in (fun c26 => ?_) (fun c26 => ?_))
      · refine aw_if_eq (q := 32) (t := 36) F dM_refusesSeed_29 rfl (by decide) (fun c29 => absurd c29 (by decide)) (fun c29 => ?_)
        refine aw_iconst (q := 33) F dM_refusesSeed_32 rfl (by decide) ?_
        refine aw_goto (t := 37) F dM_refusesSeed_33 (by decide) ?_
        refine aw_iret F C dM_refusesSeed_37 rfl (Nat.le_refl _) (Nat.le_refl _) ?_
        exact h0 (h.pos c4) ⟨c16, c26⟩
      · refine aw_if_eq (q := 32) (t := 36) F dM_refusesSeed_29 rfl (by decide) (fun c29 => ?_) (fun c29 => absurd c29 (by decide))
        refine aw_iconst (q := 37) F dM_refusesSeed_36 rfl (by decide) ?_
        refine aw_iret F C dM_refusesSeed_37 rfl (Nat.le_refl _) (Nat.le_refl _) ?_
        exact h2 (h.pos c4) (by omega)
    · refine aw_if_eq (q := 22) (t := 36) F dM_refusesSeed_19 rfl (by decide) (fun c19 => ?_) (fun c19 => absurd c19 (by decide))
      refine aw_iconst (q := 37) F dM_refusesSeed_36 rfl (by decide) ?_
      refine aw_iret F C dM_refusesSeed_37 rfl (Nat.le_refl _) (Nat.le_refl _) ?_
      exact h2 (h.pos c4) (by omega)
  · refine aw_iconst (q := 8) F dM_refusesSeed_7 rfl (by decide) ?_
    refine aw_goto (t := 37) F dM_refusesSeed_8 (by decide) ?_
    refine aw_iret F C dM_refusesSeed_37 rfl (Nat.le_refl _) (Nat.le_refl _) ?_
    exact h1 (by rw [h.zer c4]; decide)
/-- drafts by draws, as an arrangement shows them -/
def DQ (c : Cfg) (m : Nat) (q : DW) : Prop := q.1 < 65537 ∧ oB c m = q.2.1 ∧ lst c m = q.2.2.1 ∧ (q.2.1 = 0 → q.2.2.2 ≠ -2) ∧ (q.2.1 ≠ 0 → q.2.2.2 = -2)
theorem wM_draftsAll {x z : Int} {s0 N : Nat} (hx : x = s0) (hz : z = N) (hs0 : s0 < 65537) (hN : N ≤ 60) (h : MW V σ l S) (hd : 0 < tDn (psT S)) (hK : ∀ V' m, XF V V' → AR (V' 56) (psC S) m → lst (psC S) m = (dwP S s0 N).2.2.1 → K (some (vI (dwP S s0 N).2.2.2)) (V', σ)) : Wp G 2 mM_draftsAll [vR 53, vI x, vI z] (V, σ) 0 0 K := by
  have hM := h.mo
  have hl := h.la hd
  have h64 := h.h64 hd
  have hc := h.hc
  have hdr : V l 0 = tDr (psT S) := (h.lv hd).1.1
  have hdr1 : tDr (psT S) ≤ 100 := h.1.2.2.1.1
  have ed : ∀ t, dwP S s0 (t + 1) = dw1 (tDr (psT S)) (t + 1) (dwP S s0 t) := fun t => rfl
  refine wp_intro mM_draftsAll_i.1 [some (vR 53), some (vI x), some (vI z), none, none, none] rfl rfl (Nat.le_of_ble_eq_true rfl) ?_
  intro X hG F C
  have hm := C.rm
  have loop : ∀ (j t : Nat), t + j = N → ∀ (V1 : Nat → Nat → Int) (m : Nat) (y3 y4 y5 : Int), XF V V1 → AR (V1 56) (psC S) m → DQ (psC S) m (dwP S s0 t) → y3 = (dwP S s0 t).1 → y4 = (dwP S s0 t).2.2.2 → y5 = (t + 1 : Nat) → AW X 24 [some (vR 53), some (vI x), some (vI z), some (vI y3), some (vI y4), some (vI y5)] [] (V1, σ) 0 0 := by
    intro j
    induction j with
    | zero =>
      intro t ht V1 m y3 y4 y5 hX hA hQ h3 h4 h5
      rw [show t = N by omega] at h4 hQ
      refine aw_iload_5 (q := 26) F dM_draftsAll_24 rfl ?_
      refine aw_iload_2 (q := 27) F dM_draftsAll_26 rfl ?_
      refine aw_icmp_gt (q := 30) (t := 97) F dM_draftsAll_27 rfl (by decide) (fun c27 => ?_) (fun c27 => by omega)
      refine aw_iload_4 (q := 99) F dM_draftsAll_97 rfl ?_
      refine aw_iret F C dM_draftsAll_99 rfl (Nat.le_refl _) (Nat.le_refl _) ?_
      rw [h4]; exact hK V1 m hX hA hQ.2.2.1
    | succ j ih =>
      intro t ht V1 m y3 y4 y5 hX hA hQ h3 h4 h5
      have hC1 := hX.lc h64 (h.lc hd)
      have hdr' : V1 l 0 = tDr (psT S) := by rw [hX l (by omega)]; exact hdr
      have edt := ed t
      generalize dwP S s0 t = q at hQ h3 h4 edt
      obtain ⟨q1, q2, q3, q4, q5⟩ := hQ
      have hn1 := nxS_lt q.1
      have hn2 := nxS_lt (nxS q.1)
      have ho16 := oB_lt hc m
      have hpc0 := pc4_0 (oB (psC S) m) ho16
      have hpc4 := pc4_le (oB (psC S) m)
      have hm3 : (nxS q.1 : Int) % 100 = ((nxS q.1 % 100 : Nat) : Int) := by omega
      have keep : ¬ (nxS q.1 % 100 < tDr (psT S) ∧ 0 < pc4 q.2.1) → ∀ y4' : Int, y4' = y4 → AW X 24 [some (vR 53), some (vI x), some (vI z), some (vI (nxS q.1)), some (vI y4'), some (vI (y5 + 1))] [] (V1, σ) 0 0 := fun hh y4' hy => by
        unfold dw1 at edt
        rw [if_neg hh] at edt
        exact ih (t + 1) (by omega) V1 m _ _ _ hX hA (by rw [edt]; exact ⟨hn1, q2, q3, q4, q5⟩) (by rw [edt]) (by rw [edt, hy]; exact h4) (by omega)
      have blow : (nxS q.1 % 100 < tDr (psT S) ∧ 0 < pc4 q.2.1) → ∀ (V2 : Nat → Nat → Int) (y4' : Int), XF V1 V2 → opF q.2.1 4 (nxS (nxS q.1) % pc4 q.2.1) 0 < dN (psC S) → AR (V2 56) (psC S) (aS (psC S) m (opF q.2.1 4 (nxS (nxS q.1) % pc4 q.2.1) 0)) → y4' = (if clr q.2.1 (opF q.2.1 4 (nxS (nxS q.1) % pc4 q.2.1) 0) = 0 then ((t + 1 : Nat) : Int) else -2) → AW X 24 [some (vR 53), some (vI x), some (vI z), some (vI (nxS (nxS q.1))), some (vI y4'), some (vI (y5 + 1))] [] (V2, σ) 0 0 := fun hh V2 y4' hX2 hlt hA2 hy => by
        unfold dw1 at edt
        rw [if_pos hh] at edt
        refine ih (t + 1) (by omega) V2 _ _ _ _ (hX.trans hX2) hA2 ?_ (by rw [edt]) (by rw [edt]; exact hy) (by omega)
        rw [edt]
        refine ⟨hn2, by rw [oB_sh hc hlt, q2], aS_lst, fun e => ?_, fun e => ?_⟩
        · show (if clr _ _ = 0 then ((t + 1 : Nat) : Int) else -2) ≠ -2
          rw [if_pos e]
          omega
        · show (if clr _ _ = 0 then ((t + 1 : Nat) : Int) else -2) = -2
          rw [if_neg e]
      have t73 : ∀ (V2 : Nat → Nat → Int) (m2 : Nat) (s' : Int), XF V V2 → AR (V2 56) (psC S) m2 → (∀ y4' : Int, y4' = (if y4 = -2 ∧ oB (psC S) m2 = 0 then y5 else y4) → AW X 24 [some (vR 53), some (vI x), some (vI z), some (vI s'), some (vI y4'), some (vI (y5 + 1))] [] (V2, σ) 0 0) → AW X 73 [some (vR 53), some (vI x), some (vI z), some (vI s'), some (vI y4), some (vI y5)] [] (V2, σ) 0 0 := by
        intro V2 m2 s' hX2 hA2 hn
        have hp0 := pc4_0 (oB (psC S) m2) (oB_lt hc m2)
        refine aw_iload_4 (q := 75) F dM_draftsAll_73 rfl ?_
        refine aw_bipush (q := 77) F dM_draftsAll_75 rfl (by decide) ?_
        refine aw_icmp_ne (q := 80) (t := 91) F dM_draftsAll_77 rfl (by decide) (fun c77 => ?_) (fun c77 => ?_)
        · refine aw_iinc_5 (q := 94) F dM_draftsAll_91 rfl trivial (by constructor <;> omega) ?_
          refine aw_goto (t := 24) F dM_draftsAll_94 (by decide) ?_
          first | exact hn _ (by rw [if_pos ⟨by omega, hp0.mp (by omega)⟩]) | exact hn _ (by rw [if_neg (fun e => c77 e.1)]) | exact hn _ (by rw [if_neg (fun e => c84 (by rw [hp0.mpr e.2]; rfl))])
        · refine aw_aload_0 (q := 81) F dM_draftsAll_80 rfl ?_
          refine av_callV0 (q := 84) (ci := 9) F hm mM_openNow_i mM_openNow_n lM_444 dM_draftsAll_81 rfl rfl rfl (by first | exact hM.o | exact hl.o | exact hM.a55 | exact hM.a56) (by decide) (Nat.le_refl _) (Nat.le_refl _) (Nat.le_of_ble_eq_true rfl) (wM_openNow (n := m2) hM hl (hX2.lc h64 (h.lc hd)) hA2 hc ?_)
          refine aw_if_ne (q := 87) (t := 91) F dM_draftsAll_84 rfl (by decide) (fun c84 => ?_) (fun c84 => ?_)
          · refine aw_iinc_5 (q := 94) F dM_draftsAll_91 rfl trivial (by constructor <;> omega) ?_
            refine aw_goto (t := 24) F dM_draftsAll_94 (by decide) ?_
            first | exact hn _ (by rw [if_pos ⟨by omega, hp0.mp (by omega)⟩]) | exact hn _ (by rw [if_neg (fun e => c77 e.1)]) | exact hn _ (by rw [if_neg (fun e => c84 (by rw [hp0.mpr e.2]; rfl))])
          · refine aw_iload_5 (q := 89) F dM_draftsAll_87 rfl ?_
            refine aw_istore_4 (q := 91) F dM_draftsAll_89 rfl trivial ?_
            refine aw_iinc_5 (q := 94) F dM_draftsAll_91 rfl trivial (by constructor <;> omega) ?_
            refine aw_goto (t := 24) F dM_draftsAll_94 (by decide) ?_
            first | exact hn _ (by rw [if_pos ⟨by omega, hp0.mp (by omega)⟩]) | exact hn _ (by rw [if_neg (fun e => c77 e.1)]) | exact hn _ (by rw [if_neg (fun e => c84 (by rw [hp0.mpr e.2]; rfl))])
      refine aw_iload_5 (q := 26) F dM_draftsAll_24 rfl ?_
      refine aw_iload_2 (q := 27) F dM_draftsAll_26 rfl ?_
      refine aw_icmp_gt (q := 30) (t := 97) F dM_draftsAll_27 rfl (by decide) (fun c27 => by omega) (fun c27 => ?_)
      refine aw_aload_0 (q := 31) F dM_draftsAll_30 rfl ?_
      refine aw_iload_3 (q := 32) F dM_draftsAll_31 rfl ?_
      refine av_callV1 (q := 35) (ci := 9) F hm mM_drawOn_i mM_drawOn_n lM_485 dM_draftsAll_32 rfl rfl rfl (by first | exact hM.o | exact hl.o | exact hM.a55 | exact hM.a56) (by decide) (Nat.le_refl _) (Nat.le_refl _) (Nat.le_of_ble_eq_true rfl) (wM_drawOn (s := q.1) h3 q1 hM ?_)
      refine aw_istore_3 (q := 36) F dM_draftsAll_35 rfl trivial ?_
      refine aw_iload_3 (q := 37) F dM_draftsAll_36 rfl ?_
      refine aw_bipush (q := 39) F dM_draftsAll_37 rfl (by decide) ?_
      refine aw_irem (q := 40) F dM_draftsAll_39 rfl (by omega) (by omega) ?_
      refine aw_aload_0 (q := 41) F dM_draftsAll_40 rfl ?_
      refine av_getaE (q := 44) F fM_281 dM_draftsAll_41 rfl rfl (by first | exact hM.o | exact hl.o | exact hM.a55 | exact hM.a56) hM.p3 ?_
      refine av_geti (q := 47) F fM_151 dM_draftsAll_44 rfl rfl (by first | exact hM.o | exact hl.o | exact hM.a55 | exact hM.a56) ?_
      rw [hdr', hm3]
      refine aw_icmp_ge (q := 50) (t := 73) F dM_draftsAll_47 rfl (by decide) (fun c47 => ?_) (fun c47 => ?_)
      · first
        | (refine t73 V1 m _ hX hA (fun y4' hy => keep (by omega) y4' ?_); rw [hy, if_neg (fun e => q4 (by rw [← q2]; exact e.2) (by rw [← h4]; exact e.1))])
        | (rw [q2] at o70 g70
           refine t73 V2 _ _ (hX.trans f70) g70 (fun y4' hy => blow ⟨by omega, by omega⟩ V2 y4' f70 o70 g70 ?_)
           have h5q := q5 (fun e => by rw [e] at c54; exact absurd c54 (by decide))
           rw [hy, oB_sh hc o70, q2]
           by_cases e : clr q.2.1 (opF q.2.1 4 (nxS (nxS q.1) % pc4 q.2.1) 0) = 0
           · rw [if_pos ⟨h4.trans h5q, e⟩, if_pos e]; exact h5
           · rw [if_neg (fun z => e z.2), if_neg e]; exact h4.trans h5q)
      · refine aw_aload_0 (q := 51) F dM_draftsAll_50 rfl ?_
        refine av_callV0 (q := 54) (ci := 9) F hm mM_openNow_i mM_openNow_n lM_444 dM_draftsAll_51 rfl rfl rfl (by first | exact hM.o | exact hl.o | exact hM.a55 | exact hM.a56) (by decide) (Nat.le_refl _) (Nat.le_refl _) (Nat.le_of_ble_eq_true rfl) (wM_openNow (n := m) hM hl hC1 hA hc ?_)
        rw [q2]
        refine aw_if_le (q := 57) (t := 73) F dM_draftsAll_54 rfl (by decide) (fun c54 => ?_) (fun c54 => ?_)
        · first
          | (refine t73 V1 m _ hX hA (fun y4' hy => keep (by omega) y4' ?_); rw [hy, if_neg (fun e => q4 (by rw [← q2]; exact e.2) (by rw [← h4]; exact e.1))])
          | (rw [q2] at o70 g70
             refine t73 V2 _ _ (hX.trans f70) g70 (fun y4' hy => blow ⟨by omega, by omega⟩ V2 y4' f70 o70 g70 ?_)
             have h5q := q5 (fun e => by rw [e] at c54; exact absurd c54 (by decide))
             rw [hy, oB_sh hc o70, q2]
             by_cases e : clr q.2.1 (opF q.2.1 4 (nxS (nxS q.1) % pc4 q.2.1) 0) = 0
             · rw [if_pos ⟨h4.trans h5q, e⟩, if_pos e]; exact h5
             · rw [if_neg (fun z => e z.2), if_neg e]; exact h4.trans h5q)
        · refine aw_aload_0 (q := 58) F dM_draftsAll_57 rfl ?_
          refine aw_iload_3 (q := 59) F dM_draftsAll_58 rfl ?_
          refine av_callV1 (q := 62) (ci := 9) F hm mM_drawOn_i mM_drawOn_n lM_485 dM_draftsAll_59 rfl rfl rfl (by first | exact hM.o | exact hl.o | exact hM.a55 | exact hM.a56) (by decide) (Nat.le_refl _) (Nat.le_refl _) (Nat.le_of_ble_eq_true rfl) (wM_drawOn (s := nxS q.1) rfl hn1 hM ?_)
          refine aw_istore_3 (q := 63) F dM_draftsAll_62 rfl trivial ?_
          refine aw_aload_0 (q := 64) F dM_draftsAll_63 rfl ?_
          refine aw_iload_3 (q := 65) F dM_draftsAll_64 rfl ?_
          refine aw_aload_0 (q := 66) F dM_draftsAll_65 rfl ?_
          refine av_callV0 (q := 69) (ci := 9) F hm mM_openNow_i mM_openNow_n lM_444 dM_draftsAll_66 rfl rfl rfl (by first | exact hM.o | exact hl.o | exact hM.a55 | exact hM.a56) (by decide) (Nat.le_refl _) (Nat.le_refl _) (Nat.le_of_ble_eq_true rfl) (wM_openNow (n := m) hM hl hC1 hA hc ?_)
          rw [q2]
          refine aw_irem (q := 70) F dM_draftsAll_69 rfl (by omega) (by omega) ?_
          rw [show (nxS (nxS q.1) : Int) % (pc4 q.2.1 : Int) = ((nxS (nxS q.1) % pc4 q.2.1 : Nat) : Int) from (Int.natCast_emod _ _).symm]
          refine av_callV1 (q := 73) (ci := 9) F hm mM_blows_i mM_blows_n lM_449 dM_draftsAll_70 rfl rfl rfl (by first | exact hM.o | exact hl.o | exact hM.a55 | exact hM.a56) (by decide) (Nat.le_refl _) (Nat.le_refl _) (Nat.le_of_ble_eq_true rfl) (wM_blows (n := m) (t := nxS (nxS q.1) % pc4 q.2.1) rfl (by rw [q2]; exact Nat.mod_lt _ (by omega)) hM hl h64 hC1 hA hc (fun V2 f70 o70 g70 => ?_))
          first
          | (refine t73 V1 m _ hX hA (fun y4' hy => keep (by omega) y4' ?_); rw [hy, if_neg (fun e => q4 (by rw [← q2]; exact e.2) (by rw [← h4]; exact e.1))])
          | (rw [q2] at o70 g70
             refine t73 V2 _ _ (hX.trans f70) g70 (fun y4' hy => blow ⟨by omega, by omega⟩ V2 y4' f70 o70 g70 ?_)
             have h5q := q5 (fun e => by rw [e] at c54; exact absurd c54 (by decide))
             rw [hy, oB_sh hc o70, q2]
             by_cases e : clr q.2.1 (opF q.2.1 4 (nxS (nxS q.1) % pc4 q.2.1) 0) = 0
             · rw [if_pos ⟨h4.trans h5q, e⟩, if_pos e]; exact h5
             · rw [if_neg (fun z => e z.2), if_neg e]; exact h4.trans h5q)
  refine aw_aload_0 (q := 1) F dM_draftsAll_0 rfl ?_
  refine av_callV0 (q := 4) (ci := 9) F hm mM_works_i mM_works_n lM_348 dM_draftsAll_1 rfl rfl rfl (by first | exact hM.o | exact hl.o | exact hM.a55 | exact hM.a56) (by decide) (Nat.le_refl _) (Nat.le_refl _) (Nat.le_of_ble_eq_true rfl) (wM_works hM (fun V2 f1 g1 => ?_))
  refine aw_iload_1 (q := 5) F dM_draftsAll_4 rfl ?_
  refine aw_istore_3 (q := 6) F dM_draftsAll_5 rfl trivial ?_
  refine aw_aload_0 (q := 7) F dM_draftsAll_6 rfl ?_
  refine av_callV0 (q := 10) (ci := 9) F hm mM_openNow_i mM_openNow_n lM_444 dM_draftsAll_7 rfl rfl rfl (by first | exact hM.o | exact hl.o | exact hM.a55 | exact hM.a56) (by decide) (Nat.le_refl _) (Nat.le_refl _) (Nat.le_of_ble_eq_true rfl) (wM_openNow (n := psA S) hM hl (XF.lc f1 h64 (h.lc hd)) (AR.now h hd g1) hc ?_)
  refine aw_if_ne (q := 13) (t := 17) F dM_draftsAll_10 rfl (by decide) (fun c10 => ?_) (fun c10 => ?_)
  · refine aw_bipush (q := 19) F dM_draftsAll_17 rfl (by decide) ?_
    refine aw_istore_4 (q := 21) F dM_draftsAll_19 rfl trivial ?_
    refine aw_iconst (q := 22) F dM_draftsAll_21 rfl (by decide) ?_
    refine aw_istore_5 (q := 24) F dM_draftsAll_22 rfl trivial ?_
    have hp0 := pc4_0 (oB (psC S) (psA S)) (oB_lt hc (psA S))
    have e0 : opN S = oB (psC S) (psA S) := rfl
    have ew : dwP S s0 0 = (s0, opN S, lst (psC S) (psA S), if opN S = 0 then 0 else -2) := rfl
    refine loop N 0 (by omega) V2 (psA S) _ _ _ f1 (AR.now h hd g1) ?_ (by rw [ew]; exact hx) ?_ rfl
    · rw [ew]
      refine ⟨hs0, rfl, rfl, fun e => ?_, fun e => ?_⟩
      · show (if opN S = 0 then (0 : Int) else -2) ≠ -2
        rw [if_pos e]; decide
      · show (if opN S = 0 then (0 : Int) else -2) = -2
        rw [if_neg e]
    · rw [ew]
      show _ = (if opN S = 0 then (0 : Int) else -2)
      rw [e0]
      first | rw [if_pos (hp0.mp (by omega))] | rw [if_neg (fun e => by have := hp0.mpr e; omega)]
  · refine aw_iconst (q := 14) F dM_draftsAll_13 rfl (by decide) ?_
    refine aw_goto (t := 19) F dM_draftsAll_14 (by decide) ?_
    refine aw_istore_4 (q := 21) F dM_draftsAll_19 rfl trivial ?_
    refine aw_iconst (q := 22) F dM_draftsAll_21 rfl (by decide) ?_
    refine aw_istore_5 (q := 24) F dM_draftsAll_22 rfl trivial ?_
    have hp0 := pc4_0 (oB (psC S) (psA S)) (oB_lt hc (psA S))
    have e0 : opN S = oB (psC S) (psA S) := rfl
    have ew : dwP S s0 0 = (s0, opN S, lst (psC S) (psA S), if opN S = 0 then 0 else -2) := rfl
    refine loop N 0 (by omega) V2 (psA S) _ _ _ f1 (AR.now h hd g1) ?_ (by rw [ew]; exact hx) ?_ rfl
    · rw [ew]
      refine ⟨hs0, rfl, rfl, fun e => ?_, fun e => ?_⟩
      · show (if opN S = 0 then (0 : Int) else -2) ≠ -2
        rw [if_pos e]; decide
      · show (if opN S = 0 then (0 : Int) else -2) = -2
        rw [if_neg e]
    · rw [ew]
      show _ = (if opN S = 0 then (0 : Int) else -2)
      rw [e0]
      first | rw [if_pos (hp0.mp (by omega))] | rw [if_neg (fun e => by have := hp0.mpr e; omega)]
theorem wM_drafts {x n : Int} (h : MW V σ l S) (hK : MK K V σ l (setR S (wy (0 < tDn (psT S)) ((0 ≤ x ∧ x ≤ 65536) ∧ 0 ≤ n ∧ n ≤ 60))) (some (vI (rfD (wy (0 < tDn (psT S)) ((0 ≤ x ∧ x ≤ 65536) ∧ 0 ≤ n ∧ n ≤ 60)) (dwP S x.toNat n.toNat).2.2.1 (-1))))) : Wp G 3 mM_drafts [vR 53, vI x, vI n] (V, σ) 0 0 K := by
  obtain ⟨g, r1, r2⟩ := m3 vI hK
  have hM := h.mo
  refine wp_intro mM_drafts_i.1 [some (vR 53), some (vI x), some (vI n), none] rfl rfl (Nat.le_of_ble_eq_true rfl) ?_
  intro X hG F C
  have hm := C.rm
  refine aw_aload_0 (q := 1) F dM_drafts_0 rfl ?_
  refine aw_iconst (q := 2) F dM_drafts_1 rfl (by decide) ?_
  refine av_puti (q := 5) F fM_46 dM_drafts_2 rfl rfl (wr_9_0 _) (by first | exact hM.o | exact hl.o | exact hM.a55 | exact hM.a56) ?_
  refine aw_aload_0 (q := 6) F dM_drafts_5 rfl ?_
  refine aw_iload_1 (q := 7) F dM_drafts_6 rfl ?_
  refine aw_iload_2 (q := 8) F dM_drafts_7 rfl ?_
  refine av_callV2 (q := 11) (ci := 9) F hm mM_refusesSeed_i mM_refusesSeed_n lM_489 dM_drafts_8 rfl rfl rfl (by first | exact hM.o | exact hl.o | exact hM.a55 | exact hM.a56) (by decide) (Nat.le_refl _) (Nat.le_refl _) (Nat.le_of_ble_eq_true rfl) (wM_refusesSeed h.th (fun d8 w8 => ?_) (fun d8 => ?_) (fun d8 w8 => ?_))
  · refine aw_istore_3 (q := 12) F dM_drafts_11 rfl trivial ?_
    refine aw_iload_3 (q := 13) F dM_drafts_12 rfl ?_
    refine aw_if_le (q := 16) (t := 22) F dM_drafts_13 rfl (by decide) (fun c13 => ?_) (fun c13 => absurd c13 (by decide))
    refine aw_aload_0 (q := 23) F dM_drafts_22 rfl ?_
    refine aw_iload_1 (q := 24) F dM_drafts_23 rfl ?_
    refine aw_iload_2 (q := 25) F dM_drafts_24 rfl ?_
    refine av_callV2 (q := 28) (ci := 9) F hm mM_draftsAll_i mM_draftsAll_n lM_493 dM_drafts_25 rfl rfl rfl (by first | exact hM.o | exact hl.o | exact hM.a55 | exact hM.a56) (by decide) (Nat.le_refl _) (Nat.le_refl _) (Nat.le_of_ble_eq_true rfl) (wM_draftsAll (s0 := x.toNat) (N := n.toNat) (by omega) (by omega) (by omega) (by omega) h.th d8 (fun V2 m25 f25 A u25 => ?_))
    refine aw_pop (q := 29) F dM_drafts_28 rfl trivial ?_
    refine aw_aload_0 (q := 30) F dM_drafts_29 rfl ?_
    refine aw_aload_0 (q := 31) F dM_drafts_30 rfl ?_
    refine av_getaE (q := 34) F fM_21 dM_drafts_31 rfl rfl (by first | exact hM.o | exact hl.o | exact hM.a55 | exact hM.a56) hM.p16 ?_
    refine aw_bipush (q := 36) F dM_drafts_34 rfl (by decide) ?_
    refine av_iaload (q := 37) F dM_drafts_36 rfl (by first | exact hM.o | exact hl.o | exact hM.a55 | exact hM.a56) (by omega) (by omega) ?_
    rw [show (6 : Int).toNat = 6 from rfl, A.2.2.1, u25]
    refine av_callV1 (q := 40) (ci := 9) F hm mM_good_i mM_good_n lM_56 dM_drafts_37 rfl rfl rfl (by first | exact hM.o | exact hl.o | exact hM.a55 | exact hM.a56) (by decide) (Nat.le_refl _) (Nat.le_refl _) (Nat.le_of_ble_eq_true rfl) (wM_good hM ?_)
    refine aw_iret F C dM_drafts_40 rfl (Nat.le_refl _) (Nat.le_refl _) ?_
    exact MK.fin (S := S) (g d8 w8) h (by decide) ((MF.rf _).xf f25) (h.th.q.xf f25)
  · refine aw_istore_3 (q := 12) F dM_drafts_11 rfl trivial ?_
    refine aw_iload_3 (q := 13) F dM_drafts_12 rfl ?_
    refine aw_if_le (q := 16) (t := 22) F dM_drafts_13 rfl (by decide) (fun c13 => absurd c13 (by decide)) (fun c13 => ?_)
    refine aw_aload_0 (q := 17) F dM_drafts_16 rfl ?_
    refine aw_iload_3 (q := 18) F dM_drafts_17 rfl ?_
    refine av_callV1 (q := 21) (ci := 9) F hm mM_refused_i mM_refused_n lM_52 dM_drafts_18 rfl rfl rfl (by first | exact hM.o | exact hl.o | exact hM.a55 | exact hM.a56) (by decide) (Nat.le_refl _) (Nat.le_refl _) (Nat.le_of_ble_eq_true rfl) (wM_refused hM ?_)
    refine aw_iret F C dM_drafts_21 rfl (Nat.le_refl _) (Nat.le_refl _) ?_
    first | exact MK.fin0 (r1 d8) h (by decide) | exact MK.fin0 (r2 d8 w8) h (by decide)
  · refine aw_istore_3 (q := 12) F dM_drafts_11 rfl trivial ?_
    refine aw_iload_3 (q := 13) F dM_drafts_12 rfl ?_
    refine aw_if_le (q := 16) (t := 22) F dM_drafts_13 rfl (by decide) (fun c13 => absurd c13 (by decide)) (fun c13 => ?_)
    refine aw_aload_0 (q := 17) F dM_drafts_16 rfl ?_
    refine aw_iload_3 (q := 18) F dM_drafts_17 rfl ?_
    refine av_callV1 (q := 21) (ci := 9) F hm mM_refused_i mM_refused_n lM_52 dM_drafts_18 rfl rfl rfl (by first | exact hM.o | exact hl.o | exact hM.a55 | exact hM.a56) (by decide) (Nat.le_refl _) (Nat.le_refl _) (Nat.le_of_ble_eq_true rfl) (wM_refused hM ?_)
    refine aw_iret F C dM_drafts_21 rfl (Nat.le_refl _) (Nat.le_refl _) ?_
    first | exact MK.fin0 (r1 d8) h (by decide) | exact MK.fin0 (r2 d8 w8) h (by decide)
theorem wM_stillAt {x n : Int} (h : MW V σ l S) (hK : MK K V σ l (setR S (wy (0 < tDn (psT S)) ((0 ≤ x ∧ x ≤ 65536) ∧ 0 ≤ n ∧ n ≤ 60))) (some (vI (rfD (wy (0 < tDn (psT S)) ((0 ≤ x ∧ x ≤ 65536) ∧ 0 ≤ n ∧ n ≤ 60)) (dwP S x.toNat n.toNat).2.2.2 (-1))))) : Wp G 3 mM_stillAt [vR 53, vI x, vI n] (V, σ) 0 0 K := by
  obtain ⟨g, r1, r2⟩ := m3 vI hK
  have hM := h.mo
  refine wp_intro mM_stillAt_i.1 [some (vR 53), some (vI x), some (vI n), none] rfl rfl (Nat.le_of_ble_eq_true rfl) ?_
  intro X hG F C
  have hm := C.rm
  refine aw_aload_0 (q := 1) F dM_stillAt_0 rfl ?_
  refine aw_iconst (q := 2) F dM_stillAt_1 rfl (by decide) ?_
  refine av_puti (q := 5) F fM_46 dM_stillAt_2 rfl rfl (wr_9_0 _) (by first | exact hM.o | exact hl.o | exact hM.a55 | exact hM.a56) ?_
  refine aw_aload_0 (q := 6) F dM_stillAt_5 rfl ?_
  refine aw_iload_1 (q := 7) F dM_stillAt_6 rfl ?_
  refine aw_iload_2 (q := 8) F dM_stillAt_7 rfl ?_
  refine av_callV2 (q := 11) (ci := 9) F hm mM_refusesSeed_i mM_refusesSeed_n lM_489 dM_stillAt_8 rfl rfl rfl (by first | exact hM.o | exact hl.o | exact hM.a55 | exact hM.a56) (by decide) (Nat.le_refl _) (Nat.le_refl _) (Nat.le_of_ble_eq_true rfl) (wM_refusesSeed h.th (fun d8 w8 => ?_) (fun d8 => ?_) (fun d8 w8 => ?_))
  · refine aw_istore_3 (q := 12) F dM_stillAt_11 rfl trivial ?_
    refine aw_iload_3 (q := 13) F dM_stillAt_12 rfl ?_
    refine aw_if_le (q := 16) (t := 24) F dM_stillAt_13 rfl (by decide) (fun c13 => ?_) (fun c13 => absurd c13 (by decide))
    refine aw_aload_0 (q := 25) F dM_stillAt_24 rfl ?_
    refine aw_aload_0 (q := 26) F dM_stillAt_25 rfl ?_
    refine aw_iload_1 (q := 27) F dM_stillAt_26 rfl ?_
    refine aw_iload_2 (q := 28) F dM_stillAt_27 rfl ?_
    refine av_callV2 (q := 31) (ci := 9) F hm mM_draftsAll_i mM_draftsAll_n lM_493 dM_stillAt_28 rfl rfl rfl (by first | exact hM.o | exact hl.o | exact hM.a55 | exact hM.a56) (by decide) (Nat.le_refl _) (Nat.le_refl _) (Nat.le_of_ble_eq_true rfl) (wM_draftsAll (s0 := x.toNat) (N := n.toNat) (by omega) (by omega) (by omega) (by omega) h.th d8 (fun V2 m28 f28 A u28 => ?_))
    refine av_callV1 (q := 34) (ci := 9) F hm mM_good_i mM_good_n lM_56 dM_stillAt_31 rfl rfl rfl (by first | exact hM.o | exact hl.o | exact hM.a55 | exact hM.a56) (by decide) (Nat.le_refl _) (Nat.le_refl _) (Nat.le_of_ble_eq_true rfl) (wM_good hM ?_)
    refine aw_iret F C dM_stillAt_34 rfl (Nat.le_refl _) (Nat.le_refl _) ?_
    first | exact MK.fin0 (r1 d8) h (by decide) | exact MK.fin0 (r2 d8 w8) h (by decide) | exact MK.fin (S := S) (g d8 w8) h (by decide) ((MF.rf _).xf f28) (h.th.q.xf f28)
  · refine aw_istore_3 (q := 12) F dM_stillAt_11 rfl trivial ?_
    refine aw_iload_3 (q := 13) F dM_stillAt_12 rfl ?_
    refine aw_if_le (q := 16) (t := 24) F dM_stillAt_13 rfl (by decide) (fun c13 => absurd c13 (by decide)) (fun c13 => ?_)
    refine aw_aload_0 (q := 17) F dM_stillAt_16 rfl ?_
    refine aw_iload_3 (q := 18) F dM_stillAt_17 rfl ?_
    refine av_callV1 (q := 21) (ci := 9) F hm mM_refused_i mM_refused_n lM_52 dM_stillAt_18 rfl rfl rfl (by first | exact hM.o | exact hl.o | exact hM.a55 | exact hM.a56) (by decide) (Nat.le_refl _) (Nat.le_refl _) (Nat.le_of_ble_eq_true rfl) (wM_refused hM ?_)
    refine aw_goto (t := 34) F dM_stillAt_21 (by decide) ?_
    refine aw_iret F C dM_stillAt_34 rfl (Nat.le_refl _) (Nat.le_refl _) ?_
    first | exact MK.fin0 (r1 d8) h (by decide) | exact MK.fin0 (r2 d8 w8) h (by decide) | exact MK.fin (S := S) (g d8 w8) h (by decide) ((MF.rf _).xf f28) (h.th.q.xf f28)
  · refine aw_istore_3 (q := 12) F dM_stillAt_11 rfl trivial ?_
    refine aw_iload_3 (q := 13) F dM_stillAt_12 rfl ?_
    refine aw_if_le (q := 16) (t := 24) F dM_stillAt_13 rfl (by decide) (fun c13 => absurd c13 (by decide)) (fun c13 => ?_)
    refine aw_aload_0 (q := 17) F dM_stillAt_16 rfl ?_
    refine aw_iload_3 (q := 18) F dM_stillAt_17 rfl ?_
    refine av_callV1 (q := 21) (ci := 9) F hm mM_refused_i mM_refused_n lM_52 dM_stillAt_18 rfl rfl rfl (by first | exact hM.o | exact hl.o | exact hM.a55 | exact hM.a56) (by decide) (Nat.le_refl _) (Nat.le_refl _) (Nat.le_of_ble_eq_true rfl) (wM_refused hM ?_)
    refine aw_goto (t := 34) F dM_stillAt_21 (by decide) ?_
    refine aw_iret F C dM_stillAt_34 rfl (Nat.le_refl _) (Nat.le_refl _) ?_
    first | exact MK.fin0 (r1 d8) h (by decide) | exact MK.fin0 (r2 d8 w8) h (by decide) | exact MK.fin (S := S) (g d8 w8) h (by decide) ((MF.rf _).xf f28) (h.th.q.xf f28)
end Mod26
