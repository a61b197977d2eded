theorem dX0_isClear_0 : decode cX0_isClear 0 = .ok (.iload_n 1, 1) := by decide +kernel
theorem dX0_isClear_1 : decode cX0_isClear 1 = .ok (.iconst 0, 1) := by decide +kernel
theorem dX0_isClear_2 : decode cX0_isClear 2 = .ok (.iconst 3, 1) := by decide +kernel
theorem dX0_isClear_3 : decode cX0_isClear 3 = .ok (.invokestatic 21, 3) := by decide +kernel
theorem dX0_isClear_6 : decode cX0_isClear 6 = .ok (.ifCond .eq 26, 3) := by decide +kernel
theorem dX0_isClear_9 : decode cX0_isClear 9 = .ok (.aload_n 0, 1) := by decide +kernel
theorem dX0_isClear_10 : decode cX0_isClear 10 = .ok (.getfield 15, 3) := by decide +kernel
theorem dX0_isClear_13 : decode cX0_isClear 13 = .ok (.iload_n 1, 1) := by decide +kernel
theorem dX0_isClear_14 : decode cX0_isClear 14 = .ok (.iaload, 1) := by decide +kernel
theorem dX0_isClear_15 : decode cX0_isClear 15 = .ok (.iconst 3, 1) := by decide +kernel
theorem dX0_isClear_16 : decode cX0_isClear 16 = .ok (.imul, 1) := by decide +kernel
theorem dX0_isClear_17 : decode cX0_isClear 17 = .ok (.aload_n 0, 1) := by decide +kernel
theorem dX0_isClear_18 : decode cX0_isClear 18 = .ok (.getfield 9, 3) := by decide +kernel
theorem dX0_isClear_21 : decode cX0_isClear 21 = .ok (.iload_n 1, 1) := by decide +kernel
theorem dX0_isClear_22 : decode cX0_isClear 22 = .ok (.iaload, 1) := by decide +kernel
theorem dX0_isClear_23 : decode cX0_isClear 23 = .ok (.iconst 2, 1) := by decide +kernel
theorem dX0_isClear_24 : decode cX0_isClear 24 = .ok (.imul, 1) := by decide +kernel
theorem dX0_isClear_25 : decode cX0_isClear 25 = .ok (.if_icmp .lt 7, 3) := by decide +kernel
theorem dX0_isClear_28 : decode cX0_isClear 28 = .ok (.iconst 1, 1) := by decide +kernel
theorem dX0_isClear_29 : decode cX0_isClear 29 = .ok (.goto 4, 3) := by decide +kernel
theorem dX0_isClear_32 : decode cX0_isClear 32 = .ok (.iconst 0, 1) := by decide +kernel
theorem dX0_isClear_33 : decode cX0_isClear 33 = .ok (.ireturn, 1) := by decide +kernel
theorem dX1_has_0 : decode cX1_has 0 = .ok (.iload_n 1, 1) := by decide +kernel
theorem dX1_has_1 : decode cX1_has 1 = .ok (.ifCond .lt 24, 3) := by decide +kernel
theorem dX1_has_4 : decode cX1_has 4 = .ok (.iload_n 1, 1) := by decide +kernel
theorem dX1_has_5 : decode cX1_has 5 = .ok (.bipush 48, 2) := by decide +kernel
theorem dX1_has_7 : decode cX1_has 7 = .ok (.if_icmp .ge 18, 3) := by decide +kernel
theorem dX1_has_10 : decode cX1_has 10 = .ok (.aload_n 0, 1) := by decide +kernel
theorem dX1_has_11 : decode cX1_has 11 = .ok (.getfield 9, 3) := by decide +kernel
theorem dX1_has_14 : decode cX1_has 14 = .ok (.iload_n 1, 1) := by decide +kernel
theorem dX1_has_15 : decode cX1_has 15 = .ok (.caload, 1) := by decide +kernel
theorem dX1_has_16 : decode cX1_has 16 = .ok (.bipush 46, 2) := by decide +kernel
theorem dX1_has_18 : decode cX1_has 18 = .ok (.if_icmp .eq 7, 3) := by decide +kernel
theorem dX1_has_21 : decode cX1_has 21 = .ok (.iconst 1, 1) := by decide +kernel
theorem dX1_has_22 : decode cX1_has 22 = .ok (.goto 4, 3) := by decide +kernel
theorem dX1_has_25 : decode cX1_has 25 = .ok (.iconst 0, 1) := by decide +kernel
theorem dX1_has_26 : decode cX1_has 26 = .ok (.ireturn, 1) := by decide +kernel
theorem dX1_rests_0 : decode cX1_rests 0 = .ok (.iload_n 1, 1) := by decide +kernel
theorem dX1_rests_1 : decode cX1_rests 1 = .ok (.bipush 8, 2) := by decide +kernel
theorem dX1_rests_3 : decode cX1_rests 3 = .ok (.if_icmp .lt 23, 3) := by decide +kernel
theorem dX1_rests_6 : decode cX1_rests 6 = .ok (.iload_n 1, 1) := by decide +kernel
theorem dX1_rests_7 : decode cX1_rests 7 = .ok (.bipush 48, 2) := by decide +kernel
theorem dX1_rests_9 : decode cX1_rests 9 = .ok (.if_icmp .ge 21, 3) := by decide +kernel
theorem dX1_rests_12 : decode cX1_rests 12 = .ok (.aload_n 0, 1) := by decide +kernel
theorem dX1_rests_13 : decode cX1_rests 13 = .ok (.getfield 9, 3) := by decide +kernel
theorem dX1_rests_16 : decode cX1_rests 16 = .ok (.iload_n 1, 1) := by decide +kernel
theorem dX1_rests_17 : decode cX1_rests 17 = .ok (.bipush 8, 2) := by decide +kernel
theorem dX1_rests_19 : decode cX1_rests 19 = .ok (.isub, 1) := by decide +kernel
theorem dX1_rests_20 : decode cX1_rests 20 = .ok (.caload, 1) := by decide +kernel
theorem dX1_rests_21 : decode cX1_rests 21 = .ok (.bipush 46, 2) := by decide +kernel
theorem dX1_rests_23 : decode cX1_rests 23 = .ok (.if_icmp .eq 7, 3) := by decide +kernel
theorem dX1_rests_26 : decode cX1_rests 26 = .ok (.iconst 1, 1) := by decide +kernel
theorem dX1_rests_27 : decode cX1_rests 27 = .ok (.goto 4, 3) := by decide +kernel
theorem dX1_rests_30 : decode cX1_rests 30 = .ok (.iconst 0, 1) := by decide +kernel
theorem dX1_rests_31 : decode cX1_rests 31 = .ok (.ireturn, 1) := by decide +kernel
theorem dX1_spans_0 : decode cX1_spans 0 = .ok (.iload_n 1, 1) := by decide +kernel
theorem dX1_spans_1 : decode cX1_spans 1 = .ok (.bipush 8, 2) := by decide +kernel
theorem dX1_spans_3 : decode cX1_spans 3 = .ok (.irem, 1) := by decide +kernel
theorem dX1_spans_4 : decode cX1_spans 4 = .ok (.istore_n 2, 1) := by decide +kernel
theorem dX1_spans_5 : decode cX1_spans 5 = .ok (.aload_n 0, 1) := by decide +kernel
theorem dX1_spans_6 : decode cX1_spans 6 = .ok (.iload_n 1, 1) := by decide +kernel
theorem dX1_spans_7 : decode cX1_spans 7 = .ok (.invokevirtual 62, 3) := by decide +kernel
theorem dX1_spans_10 : decode cX1_spans 10 = .ok (.ifCond .ne 57, 3) := by decide +kernel
theorem dX1_spans_13 : decode cX1_spans 13 = .ok (.iload_n 2, 1) := by decide +kernel
theorem dX1_spans_14 : decode cX1_spans 14 = .ok (.ifCond .le 53, 3) := by decide +kernel
theorem dX1_spans_17 : decode cX1_spans 17 = .ok (.iload_n 2, 1) := by decide +kernel
theorem dX1_spans_18 : decode cX1_spans 18 = .ok (.bipush 7, 2) := by decide +kernel
theorem dX1_spans_20 : decode cX1_spans 20 = .ok (.if_icmp .ge 47, 3) := by decide +kernel
theorem dX1_spans_23 : decode cX1_spans 23 = .ok (.aload_n 0, 1) := by decide +kernel
theorem dX1_spans_24 : decode cX1_spans 24 = .ok (.iload_n 1, 1) := by decide +kernel
theorem dX1_spans_25 : decode cX1_spans 25 = .ok (.iconst 1, 1) := by decide +kernel
theorem dX1_spans_26 : decode cX1_spans 26 = .ok (.isub, 1) := by decide +kernel
theorem dX1_spans_27 : decode cX1_spans 27 = .ok (.invokevirtual 66, 3) := by decide +kernel
theorem dX1_spans_30 : decode cX1_spans 30 = .ok (.ifCond .eq 37, 3) := by decide +kernel
theorem dX1_spans_33 : decode cX1_spans 33 = .ok (.aload_n 0, 1) := by decide +kernel
theorem dX1_spans_34 : decode cX1_spans 34 = .ok (.iload_n 1, 1) := by decide +kernel
theorem dX1_spans_35 : decode cX1_spans 35 = .ok (.iconst 1, 1) := by decide +kernel
theorem dX1_spans_36 : decode cX1_spans 36 = .ok (.isub, 1) := by decide +kernel
theorem dX1_spans_37 : decode cX1_spans 37 = .ok (.invokevirtual 62, 3) := by decide +kernel
theorem dX1_spans_40 : decode cX1_spans 40 = .ok (.ifCond .eq 27, 3) := by decide +kernel
theorem dX1_spans_43 : decode cX1_spans 43 = .ok (.aload_n 0, 1) := by decide +kernel
theorem dX1_spans_44 : decode cX1_spans 44 = .ok (.iload_n 1, 1) := by decide +kernel
theorem dX1_spans_45 : decode cX1_spans 45 = .ok (.iconst 1, 1) := by decide +kernel
theorem dX1_spans_46 : decode cX1_spans 46 = .ok (.iadd, 1) := by decide +kernel
theorem dX1_spans_47 : decode cX1_spans 47 = .ok (.invokevirtual 66, 3) := by decide +kernel
theorem dX1_spans_50 : decode cX1_spans 50 = .ok (.ifCond .eq 17, 3) := by decide +kernel
theorem dX1_spans_53 : decode cX1_spans 53 = .ok (.aload_n 0, 1) := by decide +kernel
theorem dX1_spans_54 : decode cX1_spans 54 = .ok (.iload_n 1, 1) := by decide +kernel
theorem dX1_spans_55 : decode cX1_spans 55 = .ok (.iconst 1, 1) := by decide +kernel
theorem dX1_spans_56 : decode cX1_spans 56 = .ok (.iadd, 1) := by decide +kernel
theorem dX1_spans_57 : decode cX1_spans 57 = .ok (.invokevirtual 62, 3) := by decide +kernel
theorem dX1_spans_60 : decode cX1_spans 60 = .ok (.ifCond .eq 7, 3) := by decide +kernel
theorem dX1_spans_63 : decode cX1_spans 63 = .ok (.iconst 1, 1) := by decide +kernel
theorem dX1_spans_64 : decode cX1_spans 64 = .ok (.goto 4, 3) := by decide +kernel
theorem dX1_spans_67 : decode cX1_spans 67 = .ok (.iconst 0, 1) := by decide +kernel
theorem dX1_spans_68 : decode cX1_spans 68 = .ok (.ireturn, 1) := by decide +kernel
theorem dX1_wouldStand_0 : decode cX1_wouldStand 0 = .ok (.aload_n 0, 1) := by decide +kernel
theorem dX1_wouldStand_1 : decode cX1_wouldStand 1 = .ok (.iload_n 1, 1) := by decide +kernel
theorem dX1_wouldStand_2 : decode cX1_wouldStand 2 = .ok (.invokevirtual 62, 3) := by decide +kernel
theorem dX1_wouldStand_5 : decode cX1_wouldStand 5 = .ok (.ifCond .ne 11, 3) := by decide +kernel
theorem dX1_wouldStand_8 : decode cX1_wouldStand 8 = .ok (.aload_n 0, 1) := by decide +kernel
theorem dX1_wouldStand_9 : decode cX1_wouldStand 9 = .ok (.iload_n 1, 1) := by decide +kernel
theorem dX1_wouldStand_10 : decode cX1_wouldStand 10 = .ok (.invokevirtual 69, 3) := by decide +kernel
theorem dX1_wouldStand_13 : decode cX1_wouldStand 13 = .ok (.ifCond .eq 7, 3) := by decide +kernel
theorem dX1_wouldStand_16 : decode cX1_wouldStand 16 = .ok (.iconst 1, 1) := by decide +kernel
theorem dX1_wouldStand_17 : decode cX1_wouldStand 17 = .ok (.goto 4, 3) := by decide +kernel
theorem dX1_wouldStand_20 : decode cX1_wouldStand 20 = .ok (.iconst 0, 1) := by decide +kernel
theorem dX1_wouldStand_21 : decode cX1_wouldStand 21 = .ok (.ireturn, 1) := by decide +kernel
theorem dX1_setCell_0 : decode cX1_setCell 0 = .ok (.iload_n 1, 1) := by decide +kernel
theorem dX1_setCell_1 : decode cX1_setCell 1 = .ok (.iconst 0, 1) := by decide +kernel
theorem dX1_setCell_2 : decode cX1_setCell 2 = .ok (.bipush 47, 2) := by decide +kernel
theorem dX1_setCell_4 : decode cX1_setCell 4 = .ok (.invokestatic 72, 3) := by decide +kernel
theorem dX1_setCell_7 : decode cX1_setCell 7 = .ok (.ifCond .ne 4, 3) := by decide +kernel
theorem dX1_setCell_10 : decode cX1_setCell 10 = .ok (.return_, 1) := by decide +kernel
theorem dX1_setCell_11 : decode cX1_setCell 11 = .ok (.aload_n 0, 1) := by decide +kernel
theorem dX1_setCell_12 : decode cX1_setCell 12 = .ok (.getfield 9, 3) := by decide +kernel
theorem dX1_setCell_15 : decode cX1_setCell 15 = .ok (.iload_n 1, 1) := by decide +kernel
theorem dX1_setCell_16 : decode cX1_setCell 16 = .ok (.iload_n 2, 1) := by decide +kernel
theorem dX1_setCell_17 : decode cX1_setCell 17 = .ok (.castore, 1) := by decide +kernel
theorem dX1_setCell_18 : decode cX1_setCell 18 = .ok (.aload_n 0, 1) := by decide +kernel
theorem dX1_setCell_19 : decode cX1_setCell 19 = .ok (.getfield 15, 3) := by decide +kernel
theorem dX1_setCell_22 : decode cX1_setCell 22 = .ok (.iload_n 1, 1) := by decide +kernel
theorem dX1_setCell_23 : decode cX1_setCell 23 = .ok (.iload_n 2, 1) := by decide +kernel
theorem dX1_setCell_24 : decode cX1_setCell 24 = .ok (.invokestatic 76, 3) := by decide +kernel
theorem dX1_setCell_27 : decode cX1_setCell 27 = .ok (.iastore, 1) := by decide +kernel
theorem dX1_setCell_28 : decode cX1_setCell 28 = .ok (.aload_n 0, 1) := by decide +kernel
theorem dX1_setCell_29 : decode cX1_setCell 29 = .ok (.getfield 19, 3) := by decide +kernel
theorem dX1_setCell_32 : decode cX1_setCell 32 = .ok (.iload_n 1, 1) := by decide +kernel
theorem dX1_setCell_33 : decode cX1_setCell 33 = .ok (.iconst 0, 1) := by decide +kernel
theorem dX1_setCell_34 : decode cX1_setCell 34 = .ok (.iastore, 1) := by decide +kernel
theorem dX1_setCell_35 : decode cX1_setCell 35 = .ok (.aload_n 0, 1) := by decide +kernel
theorem dX1_setCell_36 : decode cX1_setCell 36 = .ok (.getfield 22, 3) := by decide +kernel
theorem dX1_setCell_39 : decode cX1_setCell 39 = .ok (.iload_n 1, 1) := by decide +kernel
theorem dX1_setCell_40 : decode cX1_setCell 40 = .ok (.iconst 0, 1) := by decide +kernel
theorem dX1_setCell_41 : decode cX1_setCell 41 = .ok (.iastore, 1) := by decide +kernel
theorem dX1_setCell_42 : decode cX1_setCell 42 = .ok (.aload_n 0, 1) := by decide +kernel
theorem dX1_setCell_43 : decode cX1_setCell 43 = .ok (.getfield 25, 3) := by decide +kernel
theorem dX1_setCell_46 : decode cX1_setCell 46 = .ok (.iload_n 1, 1) := by decide +kernel
theorem dX1_setCell_47 : decode cX1_setCell 47 = .ok (.iconst 0, 1) := by decide +kernel
theorem dX1_setCell_48 : decode cX1_setCell 48 = .ok (.bastore, 1) := by decide +kernel
theorem dX1_setCell_49 : decode cX1_setCell 49 = .ok (.return_, 1) := by decide +kernel
theorem dX1_removeCell_0 : decode cX1_removeCell 0 = .ok (.aload_n 0, 1) := by decide +kernel
theorem dX1_removeCell_1 : decode cX1_removeCell 1 = .ok (.iload_n 1, 1) := by decide +kernel
theorem dX1_removeCell_2 : decode cX1_removeCell 2 = .ok (.bipush 46, 2) := by decide +kernel
theorem dX1_removeCell_4 : decode cX1_removeCell 4 = .ok (.invokevirtual 80, 3) := by decide +kernel
theorem dX1_removeCell_7 : decode cX1_removeCell 7 = .ok (.return_, 1) := by decide +kernel
theorem dX1_cellCount_0 : decode cX1_cellCount 0 = .ok (.iconst 0, 1) := by decide +kernel
theorem dX1_cellCount_1 : decode cX1_cellCount 1 = .ok (.istore_n 1, 1) := by decide +kernel
theorem dX1_cellCount_2 : decode cX1_cellCount 2 = .ok (.iconst 0, 1) := by decide +kernel
theorem dX1_cellCount_3 : decode cX1_cellCount 3 = .ok (.istore_n 2, 1) := by decide +kernel
theorem dX1_cellCount_4 : decode cX1_cellCount 4 = .ok (.iload_n 2, 1) := by decide +kernel
theorem dX1_cellCount_5 : decode cX1_cellCount 5 = .ok (.bipush 48, 2) := by decide +kernel
theorem dX1_cellCount_7 : decode cX1_cellCount 7 = .ok (.if_icmp .ge 28, 3) := by decide +kernel
theorem dX1_cellCount_10 : decode cX1_cellCount 10 = .ok (.iload_n 1, 1) := by decide +kernel
theorem dX1_cellCount_11 : decode cX1_cellCount 11 = .ok (.aload_n 0, 1) := by decide +kernel
theorem dX1_cellCount_12 : decode cX1_cellCount 12 = .ok (.getfield 9, 3) := by decide +kernel
theorem dX1_cellCount_15 : decode cX1_cellCount 15 = .ok (.iload_n 2, 1) := by decide +kernel
theorem dX1_cellCount_16 : decode cX1_cellCount 16 = .ok (.caload, 1) := by decide +kernel
theorem dX1_cellCount_17 : decode cX1_cellCount 17 = .ok (.bipush 46, 2) := by decide +kernel
theorem dX1_cellCount_19 : decode cX1_cellCount 19 = .ok (.if_icmp .eq 7, 3) := by decide +kernel
theorem dX1_cellCount_22 : decode cX1_cellCount 22 = .ok (.iconst 1, 1) := by decide +kernel
theorem dX1_cellCount_23 : decode cX1_cellCount 23 = .ok (.goto 4, 3) := by decide +kernel
theorem dX1_cellCount_26 : decode cX1_cellCount 26 = .ok (.iconst 0, 1) := by decide +kernel
theorem dX1_cellCount_27 : decode cX1_cellCount 27 = .ok (.iadd, 1) := by decide +kernel
theorem dX1_cellCount_28 : decode cX1_cellCount 28 = .ok (.istore_n 1, 1) := by decide +kernel
theorem dX1_cellCount_29 : decode cX1_cellCount 29 = .ok (.iinc 2 1, 3) := by decide +kernel
theorem dX1_cellCount_32 : decode cX1_cellCount 32 = .ok (.goto (-28), 3) := by decide +kernel
theorem dX1_cellCount_35 : decode cX1_cellCount 35 = .ok (.iload_n 1, 1) := by decide +kernel
theorem dX1_cellCount_36 : decode cX1_cellCount 36 = .ok (.ireturn, 1) := by decide +kernel
theorem dX1_creepSum_0 : decode cX1_creepSum 0 = .ok (.iconst 0, 1) := by decide +kernel
theorem dX1_creepSum_1 : decode cX1_creepSum 1 = .ok (.istore_n 1, 1) := by decide +kernel
theorem dX1_creepSum_2 : decode cX1_creepSum 2 = .ok (.iconst 0, 1) := by decide +kernel
theorem dX1_creepSum_3 : decode cX1_creepSum 3 = .ok (.istore_n 2, 1) := by decide +kernel
theorem dX1_creepSum_4 : decode cX1_creepSum 4 = .ok (.iload_n 2, 1) := by decide +kernel
theorem dX1_creepSum_5 : decode cX1_creepSum 5 = .ok (.bipush 48, 2) := by decide +kernel
theorem dX1_creepSum_7 : decode cX1_creepSum 7 = .ok (.if_icmp .ge 33, 3) := by decide +kernel
theorem dX1_creepSum_10 : decode cX1_creepSum 10 = .ok (.iload_n 1, 1) := by decide +kernel
theorem dX1_creepSum_11 : decode cX1_creepSum 11 = .ok (.aload_n 0, 1) := by decide +kernel
theorem dX1_creepSum_12 : decode cX1_creepSum 12 = .ok (.getfield 9, 3) := by decide +kernel
theorem dX1_creepSum_15 : decode cX1_creepSum 15 = .ok (.iload_n 2, 1) := by decide +kernel
theorem dX1_creepSum_16 : decode cX1_creepSum 16 = .ok (.caload, 1) := by decide +kernel
theorem dX1_creepSum_17 : decode cX1_creepSum 17 = .ok (.bipush 46, 2) := by decide +kernel
theorem dX1_creepSum_19 : decode cX1_creepSum 19 = .ok (.if_icmp .eq 12, 3) := by decide +kernel
theorem dX1_creepSum_22 : decode cX1_creepSum 22 = .ok (.aload_n 0, 1) := by decide +kernel
theorem dX1_creepSum_23 : decode cX1_creepSum 23 = .ok (.getfield 19, 3) := by decide +kernel
theorem dX1_creepSum_26 : decode cX1_creepSum 26 = .ok (.iload_n 2, 1) := by decide +kernel
theorem dX1_creepSum_27 : decode cX1_creepSum 27 = .ok (.iaload, 1) := by decide +kernel
theorem dX1_creepSum_28 : decode cX1_creepSum 28 = .ok (.goto 4, 3) := by decide +kernel
theorem dX1_creepSum_31 : decode cX1_creepSum 31 = .ok (.iconst 0, 1) := by decide +kernel
theorem dX1_creepSum_32 : decode cX1_creepSum 32 = .ok (.iadd, 1) := by decide +kernel
theorem dX1_creepSum_33 : decode cX1_creepSum 33 = .ok (.istore_n 1, 1) := by decide +kernel
theorem dX1_creepSum_34 : decode cX1_creepSum 34 = .ok (.iinc 2 1, 3) := by decide +kernel
theorem dX1_creepSum_37 : decode cX1_creepSum 37 = .ok (.goto (-33), 3) := by decide +kernel
theorem dX1_creepSum_40 : decode cX1_creepSum 40 = .ok (.iload_n 1, 1) := by decide +kernel
theorem dX1_creepSum_41 : decode cX1_creepSum 41 = .ok (.ireturn, 1) := by decide +kernel
theorem dX1_plannedCount_0 : decode cX1_plannedCount 0 = .ok (.iconst 0, 1) := by decide +kernel
theorem dX1_plannedCount_1 : decode cX1_plannedCount 1 = .ok (.istore_n 1, 1) := by decide +kernel
theorem dX1_plannedCount_2 : decode cX1_plannedCount 2 = .ok (.iconst 0, 1) := by decide +kernel
theorem dX1_plannedCount_3 : decode cX1_plannedCount 3 = .ok (.istore_n 2, 1) := by decide +kernel
theorem dX1_plannedCount_4 : decode cX1_plannedCount 4 = .ok (.iload_n 2, 1) := by decide +kernel
theorem dX1_plannedCount_5 : decode cX1_plannedCount 5 = .ok (.bipush 48, 2) := by decide +kernel
theorem dX1_plannedCount_7 : decode cX1_plannedCount 7 = .ok (.if_icmp .ge 26, 3) := by decide +kernel
theorem dX1_plannedCount_10 : decode cX1_plannedCount 10 = .ok (.iload_n 1, 1) := by decide +kernel
theorem dX1_plannedCount_11 : decode cX1_plannedCount 11 = .ok (.aload_n 0, 1) := by decide +kernel
theorem dX1_plannedCount_12 : decode cX1_plannedCount 12 = .ok (.getfield 29, 3) := by decide +kernel
theorem dX1_plannedCount_15 : decode cX1_plannedCount 15 = .ok (.iload_n 2, 1) := by decide +kernel
theorem dX1_plannedCount_16 : decode cX1_plannedCount 16 = .ok (.baload, 1) := by decide +kernel
theorem dX1_plannedCount_17 : decode cX1_plannedCount 17 = .ok (.ifCond .eq 7, 3) := by decide +kernel
theorem dX1_plannedCount_20 : decode cX1_plannedCount 20 = .ok (.iconst 1, 1) := by decide +kernel
theorem dX1_plannedCount_21 : decode cX1_plannedCount 21 = .ok (.goto 4, 3) := by decide +kernel
theorem dX1_plannedCount_24 : decode cX1_plannedCount 24 = .ok (.iconst 0, 1) := by decide +kernel
theorem dX1_plannedCount_25 : decode cX1_plannedCount 25 = .ok (.iadd, 1) := by decide +kernel
theorem dX1_plannedCount_26 : decode cX1_plannedCount 26 = .ok (.istore_n 1, 1) := by decide +kernel
theorem dX1_plannedCount_27 : decode cX1_plannedCount 27 = .ok (.iinc 2 1, 3) := by decide +kernel
theorem dX1_plannedCount_30 : decode cX1_plannedCount 30 = .ok (.goto (-26), 3) := by decide +kernel
theorem dX1_plannedCount_33 : decode cX1_plannedCount 33 = .ok (.iload_n 1, 1) := by decide +kernel
theorem dX1_plannedCount_34 : decode cX1_plannedCount 34 = .ok (.ireturn, 1) := by decide +kernel
theorem dX1_placesAsPlanned_0 : decode cX1_placesAsPlanned 0 = .ok (.iconst 0, 1) := by decide +kernel
theorem dX1_placesAsPlanned_1 : decode cX1_placesAsPlanned 1 = .ok (.istore_n 1, 1) := by decide +kernel
theorem dX1_placesAsPlanned_2 : decode cX1_placesAsPlanned 2 = .ok (.iconst 0, 1) := by decide +kernel
theorem dX1_placesAsPlanned_3 : decode cX1_placesAsPlanned 3 = .ok (.istore_n 2, 1) := by decide +kernel
theorem dX1_placesAsPlanned_4 : decode cX1_placesAsPlanned 4 = .ok (.iload_n 2, 1) := by decide +kernel
theorem dX1_placesAsPlanned_5 : decode cX1_placesAsPlanned 5 = .ok (.bipush 48, 2) := by decide +kernel
theorem dX1_placesAsPlanned_7 : decode cX1_placesAsPlanned 7 = .ok (.if_icmp .ge 42, 3) := by decide +kernel
theorem dX1_placesAsPlanned_10 : decode cX1_placesAsPlanned 10 = .ok (.iload_n 1, 1) := by decide +kernel
theorem dX1_placesAsPlanned_11 : decode cX1_placesAsPlanned 11 = .ok (.aload_n 0, 1) := by decide +kernel
theorem dX1_placesAsPlanned_12 : decode cX1_placesAsPlanned 12 = .ok (.getfield 29, 3) := by decide +kernel
theorem dX1_placesAsPlanned_15 : decode cX1_placesAsPlanned 15 = .ok (.iload_n 2, 1) := by decide +kernel
theorem dX1_placesAsPlanned_16 : decode cX1_placesAsPlanned 16 = .ok (.baload, 1) := by decide +kernel
theorem dX1_placesAsPlanned_17 : decode cX1_placesAsPlanned 17 = .ok (.aload_n 0, 1) := by decide +kernel
theorem dX1_placesAsPlanned_18 : decode cX1_placesAsPlanned 18 = .ok (.getfield 9, 3) := by decide +kernel
theorem dX1_placesAsPlanned_21 : decode cX1_placesAsPlanned 21 = .ok (.iload_n 2, 1) := by decide +kernel
theorem dX1_placesAsPlanned_22 : decode cX1_placesAsPlanned 22 = .ok (.caload, 1) := by decide +kernel
theorem dX1_placesAsPlanned_23 : decode cX1_placesAsPlanned 23 = .ok (.bipush 46, 2) := by decide +kernel
theorem dX1_placesAsPlanned_25 : decode cX1_placesAsPlanned 25 = .ok (.if_icmp .eq 7, 3) := by decide +kernel
theorem dX1_placesAsPlanned_28 : decode cX1_placesAsPlanned 28 = .ok (.iconst 1, 1) := by decide +kernel
theorem dX1_placesAsPlanned_29 : decode cX1_placesAsPlanned 29 = .ok (.goto 4, 3) := by decide +kernel
theorem dX1_placesAsPlanned_32 : decode cX1_placesAsPlanned 32 = .ok (.iconst 0, 1) := by decide +kernel
theorem dX1_placesAsPlanned_33 : decode cX1_placesAsPlanned 33 = .ok (.if_icmp .ne 7, 3) := by decide +kernel
theorem dX1_placesAsPlanned_36 : decode cX1_placesAsPlanned 36 = .ok (.iconst 1, 1) := by decide +kernel
theorem dX1_placesAsPlanned_37 : decode cX1_placesAsPlanned 37 = .ok (.goto 4, 3) := by decide +kernel
theorem dX1_placesAsPlanned_40 : decode cX1_placesAsPlanned 40 = .ok (.iconst 0, 1) := by decide +kernel
theorem dX1_placesAsPlanned_41 : decode cX1_placesAsPlanned 41 = .ok (.iadd, 1) := by decide +kernel
theorem dX1_placesAsPlanned_42 : decode cX1_placesAsPlanned 42 = .ok (.istore_n 1, 1) := by decide +kernel
theorem dX1_placesAsPlanned_43 : decode cX1_placesAsPlanned 43 = .ok (.iinc 2 1, 3) := by decide +kernel
theorem dX1_placesAsPlanned_46 : decode cX1_placesAsPlanned 46 = .ok (.goto (-42), 3) := by decide +kernel
theorem dX1_placesAsPlanned_49 : decode cX1_placesAsPlanned 49 = .ok (.iload_n 1, 1) := by decide +kernel
theorem dX1_placesAsPlanned_50 : decode cX1_placesAsPlanned 50 = .ok (.ireturn, 1) := by decide +kernel
theorem dX1_strengthOf_0 : decode cX1_strengthOf 0 = .ok (.aload_n 0, 1) := by decide +kernel
theorem dX1_strengthOf_1 : decode cX1_strengthOf 1 = .ok (.iload_n 1, 1) := by decide +kernel
theorem dX1_strengthOf_2 : decode cX1_strengthOf 2 = .ok (.invokevirtual 66, 3) := by decide +kernel
theorem dX1_strengthOf_5 : decode cX1_strengthOf 5 = .ok (.ifCond .ne 5, 3) := by decide +kernel
theorem dX1_strengthOf_8 : decode cX1_strengthOf 8 = .ok (.iconst 0, 1) := by decide +kernel
theorem dX1_strengthOf_9 : decode cX1_strengthOf 9 = .ok (.ireturn, 1) := by decide +kernel
theorem dX1_strengthOf_10 : decode cX1_strengthOf 10 = .ok (.aload_n 0, 1) := by decide +kernel
theorem dX1_strengthOf_11 : decode cX1_strengthOf 11 = .ok (.getfield 9, 3) := by decide +kernel
theorem dX1_strengthOf_14 : decode cX1_strengthOf 14 = .ok (.iload_n 1, 1) := by decide +kernel
theorem dX1_strengthOf_15 : decode cX1_strengthOf 15 = .ok (.caload, 1) := by decide +kernel
theorem dX1_strengthOf_16 : decode cX1_strengthOf 16 = .ok (.invokestatic 84, 3) := by decide +kernel
theorem dX1_strengthOf_19 : decode cX1_strengthOf 19 = .ok (.bipush 10, 2) := by decide +kernel
theorem dX1_strengthOf_21 : decode cX1_strengthOf 21 = .ok (.bipush 48, 2) := by decide +kernel
theorem dX1_strengthOf_23 : decode cX1_strengthOf 23 = .ok (.aload_n 0, 1) := by decide +kernel
theorem dX1_strengthOf_24 : decode cX1_strengthOf 24 = .ok (.getfield 22, 3) := by decide +kernel
theorem dX1_strengthOf_27 : decode cX1_strengthOf 27 = .ok (.iload_n 1, 1) := by decide +kernel
theorem dX1_strengthOf_28 : decode cX1_strengthOf 28 = .ok (.iaload, 1) := by decide +kernel
theorem dX1_strengthOf_29 : decode cX1_strengthOf 29 = .ok (.invokestatic 87, 3) := by decide +kernel
theorem dX1_strengthOf_32 : decode cX1_strengthOf 32 = .ok (.imul, 1) := by decide +kernel
theorem dX1_strengthOf_33 : decode cX1_strengthOf 33 = .ok (.iadd, 1) := by decide +kernel
theorem dX1_strengthOf_34 : decode cX1_strengthOf 34 = .ok (.istore_n 3, 1) := by decide +kernel
theorem dX1_strengthOf_35 : decode cX1_strengthOf 35 = .ok (.iload_n 3, 1) := by decide +kernel
theorem dX1_strengthOf_36 : decode cX1_strengthOf 36 = .ok (.aload_n 0, 1) := by decide +kernel
theorem dX1_strengthOf_37 : decode cX1_strengthOf 37 = .ok (.getfield 25, 3) := by decide +kernel
theorem dX1_strengthOf_40 : decode cX1_strengthOf 40 = .ok (.iload_n 1, 1) := by decide +kernel
theorem dX1_strengthOf_41 : decode cX1_strengthOf 41 = .ok (.baload, 1) := by decide +kernel
theorem dX1_strengthOf_42 : decode cX1_strengthOf 42 = .ok (.ifCond .eq 9, 3) := by decide +kernel
theorem dX1_strengthOf_45 : decode cX1_strengthOf 45 = .ok (.sipush 500, 3) := by decide +kernel
theorem dX1_strengthOf_48 : decode cX1_strengthOf 48 = .ok (.goto 4, 3) := by decide +kernel
theorem dX1_strengthOf_51 : decode cX1_strengthOf 51 = .ok (.iconst 0, 1) := by decide +kernel
theorem dX1_strengthOf_52 : decode cX1_strengthOf 52 = .ok (.isub, 1) := by decide +kernel
theorem dX1_strengthOf_53 : decode cX1_strengthOf 53 = .ok (.istore_n 3, 1) := by decide +kernel
theorem dX1_strengthOf_54 : decode cX1_strengthOf 54 = .ok (.iload_n 3, 1) := by decide +kernel
theorem dX1_strengthOf_55 : decode cX1_strengthOf 55 = .ok (.bipush 10, 2) := by decide +kernel
theorem dX1_strengthOf_57 : decode cX1_strengthOf 57 = .ok (.iconst 0, 1) := by decide +kernel
theorem dX1_strengthOf_58 : decode cX1_strengthOf 58 = .ok (.iload_n 2, 1) := by decide +kernel
theorem dX1_strengthOf_59 : decode cX1_strengthOf 59 = .ok (.bipush (-50), 2) := by decide +kernel
theorem dX1_strengthOf_61 : decode cX1_strengthOf 61 = .ok (.isub, 1) := by decide +kernel
theorem dX1_strengthOf_62 : decode cX1_strengthOf 62 = .ok (.invokestatic 93, 3) := by decide +kernel
theorem dX1_strengthOf_65 : decode cX1_strengthOf 65 = .ok (.imul, 1) := by decide +kernel
theorem dX1_strengthOf_66 : decode cX1_strengthOf 66 = .ok (.isub, 1) := by decide +kernel
theorem dX1_strengthOf_67 : decode cX1_strengthOf 67 = .ok (.istore_n 3, 1) := by decide +kernel
theorem dX1_strengthOf_68 : decode cX1_strengthOf 68 = .ok (.iconst 0, 1) := by decide +kernel
theorem dX1_strengthOf_69 : decode cX1_strengthOf 69 = .ok (.iload_n 3, 1) := by decide +kernel
theorem dX1_strengthOf_70 : decode cX1_strengthOf 70 = .ok (.invokestatic 93, 3) := by decide +kernel
theorem dX1_strengthOf_73 : decode cX1_strengthOf 73 = .ok (.ireturn, 1) := by decide +kernel
theorem dX1_weigh_0 : decode cX1_weigh 0 = .ok (.iconst 5, 1) := by decide +kernel
theorem dX1_weigh_1 : decode cX1_weigh 1 = .ok (.istore_n 3, 1) := by decide +kernel
theorem dX1_weigh_2 : decode cX1_weigh 2 = .ok (.iload_n 3, 1) := by decide +kernel
theorem dX1_weigh_3 : decode cX1_weigh 3 = .ok (.ifCond .lt 189, 3) := by decide +kernel
theorem dX1_weigh_6 : decode cX1_weigh 6 = .ok (.iconst 0, 1) := by decide +kernel
theorem dX1_weigh_7 : decode cX1_weigh 7 = .ok (.istore 4, 2) := by decide +kernel
theorem dX1_weigh_9 : decode cX1_weigh 9 = .ok (.iload 4, 2) := by decide +kernel
theorem dX1_weigh_11 : decode cX1_weigh 11 = .ok (.bipush 8, 2) := by decide +kernel
theorem dX1_weigh_13 : decode cX1_weigh 13 = .ok (.if_icmp .ge 84, 3) := by decide +kernel
theorem dX1_weigh_16 : decode cX1_weigh 16 = .ok (.iload 4, 2) := by decide +kernel
theorem dX1_weigh_18 : decode cX1_weigh 18 = .ok (.iload_n 3, 1) := by decide +kernel
theorem dX1_weigh_19 : decode cX1_weigh 19 = .ok (.invokestatic 96, 3) := by decide +kernel
theorem dX1_weigh_22 : decode cX1_weigh 22 = .ok (.istore 5, 2) := by decide +kernel
theorem dX1_weigh_24 : decode cX1_weigh 24 = .ok (.aload_n 0, 1) := by decide +kernel
theorem dX1_weigh_25 : decode cX1_weigh 25 = .ok (.getfield 32, 3) := by decide +kernel
theorem dX1_weigh_28 : decode cX1_weigh 28 = .ok (.iload 5, 2) := by decide +kernel
theorem dX1_weigh_30 : decode cX1_weigh 30 = .ok (.iconst 0, 1) := by decide +kernel
theorem dX1_weigh_31 : decode cX1_weigh 31 = .ok (.iastore, 1) := by decide +kernel
theorem dX1_weigh_32 : decode cX1_weigh 32 = .ok (.aload_n 0, 1) := by decide +kernel
theorem dX1_weigh_33 : decode cX1_weigh 33 = .ok (.iload 5, 2) := by decide +kernel
theorem dX1_weigh_35 : decode cX1_weigh 35 = .ok (.invokevirtual 66, 3) := by decide +kernel
theorem dX1_weigh_38 : decode cX1_weigh 38 = .ok (.ifCond .eq 53, 3) := by decide +kernel
theorem dX1_weigh_41 : decode cX1_weigh 41 = .ok (.iload_n 3, 1) := by decide +kernel
theorem dX1_weigh_42 : decode cX1_weigh 42 = .ok (.iconst 5, 1) := by decide +kernel
theorem dX1_weigh_43 : decode cX1_weigh 43 = .ok (.if_icmp .ge 16, 3) := by decide +kernel
theorem dX1_weigh_46 : decode cX1_weigh 46 = .ok (.aload_n 0, 1) := by decide +kernel
theorem dX1_weigh_47 : decode cX1_weigh 47 = .ok (.getfield 32, 3) := by decide +kernel
theorem dX1_weigh_50 : decode cX1_weigh 50 = .ok (.iload 5, 2) := by decide +kernel
theorem dX1_weigh_52 : decode cX1_weigh 52 = .ok (.bipush 8, 2) := by decide +kernel
theorem dX1_weigh_54 : decode cX1_weigh 54 = .ok (.iadd, 1) := by decide +kernel
theorem dX1_weigh_55 : decode cX1_weigh 55 = .ok (.iaload, 1) := by decide +kernel
theorem dX1_weigh_56 : decode cX1_weigh 56 = .ok (.goto 4, 3) := by decide +kernel
theorem dX1_weigh_59 : decode cX1_weigh 59 = .ok (.iconst 0, 1) := by decide +kernel
theorem dX1_weigh_60 : decode cX1_weigh 60 = .ok (.istore 6, 2) := by decide +kernel
theorem dX1_weigh_62 : decode cX1_weigh 62 = .ok (.aload_n 0, 1) := by decide +kernel
theorem dX1_weigh_63 : decode cX1_weigh 63 = .ok (.getfield 32, 3) := by decide +kernel
theorem dX1_weigh_66 : decode cX1_weigh 66 = .ok (.iload 5, 2) := by decide +kernel
theorem dX1_weigh_68 : decode cX1_weigh 68 = .ok (.aload_n 0, 1) := by decide +kernel
theorem dX1_weigh_69 : decode cX1_weigh 69 = .ok (.getfield 15, 3) := by decide +kernel
theorem dX1_weigh_72 : decode cX1_weigh 72 = .ok (.iload 5, 2) := by decide +kernel
theorem dX1_weigh_74 : decode cX1_weigh 74 = .ok (.iaload, 1) := by decide +kernel
theorem dX1_weigh_75 : decode cX1_weigh 75 = .ok (.iload 6, 2) := by decide +kernel
theorem dX1_weigh_77 : decode cX1_weigh 77 = .ok (.iadd, 1) := by decide +kernel
theorem dX1_weigh_78 : decode cX1_weigh 78 = .ok (.iload 5, 2) := by decide +kernel
theorem dX1_weigh_80 : decode cX1_weigh 80 = .ok (.iload_n 1, 1) := by decide +kernel
theorem dX1_weigh_81 : decode cX1_weigh 81 = .ok (.if_icmp .ne 7, 3) := by decide +kernel
theorem dX1_weigh_84 : decode cX1_weigh 84 = .ok (.iload_n 2, 1) := by decide +kernel
theorem dX1_weigh_85 : decode cX1_weigh 85 = .ok (.goto 4, 3) := by decide +kernel
theorem dX1_weigh_88 : decode cX1_weigh 88 = .ok (.iconst 0, 1) := by decide +kernel
theorem dX1_weigh_89 : decode cX1_weigh 89 = .ok (.iadd, 1) := by decide +kernel
theorem dX1_weigh_90 : decode cX1_weigh 90 = .ok (.iastore, 1) := by decide +kernel
theorem dX1_weigh_91 : decode cX1_weigh 91 = .ok (.iinc 4 1, 3) := by decide +kernel
theorem dX1_weigh_94 : decode cX1_weigh 94 = .ok (.goto (-85), 3) := by decide +kernel
theorem dX1_weigh_97 : decode cX1_weigh 97 = .ok (.iconst 1, 1) := by decide +kernel
theorem dX1_weigh_98 : decode cX1_weigh 98 = .ok (.istore 4, 2) := by decide +kernel
theorem dX1_weigh_100 : decode cX1_weigh 100 = .ok (.iload 4, 2) := by decide +kernel
theorem dX1_weigh_102 : decode cX1_weigh 102 = .ok (.bipush 7, 2) := by decide +kernel
theorem dX1_weigh_104 : decode cX1_weigh 104 = .ok (.if_icmp .ge 82, 3) := by decide +kernel
theorem dX1_weigh_107 : decode cX1_weigh 107 = .ok (.iload 4, 2) := by decide +kernel
theorem dX1_weigh_109 : decode cX1_weigh 109 = .ok (.iload_n 3, 1) := by decide +kernel
theorem dX1_weigh_110 : decode cX1_weigh 110 = .ok (.invokestatic 96, 3) := by decide +kernel
theorem dX1_weigh_113 : decode cX1_weigh 113 = .ok (.istore 5, 2) := by decide +kernel
theorem dX1_weigh_115 : decode cX1_weigh 115 = .ok (.aload_n 0, 1) := by decide +kernel
theorem dX1_weigh_116 : decode cX1_weigh 116 = .ok (.iload 5, 2) := by decide +kernel
theorem dX1_weigh_118 : decode cX1_weigh 118 = .ok (.invokevirtual 66, 3) := by decide +kernel
theorem dX1_weigh_121 : decode cX1_weigh 121 = .ok (.ifCond .eq 59, 3) := by decide +kernel
theorem dX1_weigh_124 : decode cX1_weigh 124 = .ok (.aload_n 0, 1) := by decide +kernel
theorem dX1_weigh_125 : decode cX1_weigh 125 = .ok (.iload 5, 2) := by decide +kernel
theorem dX1_weigh_127 : decode cX1_weigh 127 = .ok (.invokevirtual 69, 3) := by decide +kernel
theorem dX1_weigh_130 : decode cX1_weigh 130 = .ok (.ifCond .eq 50, 3) := by decide +kernel
theorem dX1_weigh_133 : decode cX1_weigh 133 = .ok (.aload_n 0, 1) := by decide +kernel
theorem dX1_weigh_134 : decode cX1_weigh 134 = .ok (.getfield 32, 3) := by decide +kernel
theorem dX1_weigh_137 : decode cX1_weigh 137 = .ok (.iload 5, 2) := by decide +kernel
theorem dX1_weigh_139 : decode cX1_weigh 139 = .ok (.iaload, 1) := by decide +kernel
theorem dX1_weigh_140 : decode cX1_weigh 140 = .ok (.iconst 2, 1) := by decide +kernel
theorem dX1_weigh_141 : decode cX1_weigh 141 = .ok (.idiv, 1) := by decide +kernel
theorem dX1_weigh_142 : decode cX1_weigh 142 = .ok (.istore 6, 2) := by decide +kernel
theorem dX1_weigh_144 : decode cX1_weigh 144 = .ok (.aload_n 0, 1) := by decide +kernel
theorem dX1_weigh_145 : decode cX1_weigh 145 = .ok (.getfield 32, 3) := by decide +kernel
theorem dX1_weigh_148 : decode cX1_weigh 148 = .ok (.iload 5, 2) := by decide +kernel
theorem dX1_weigh_150 : decode cX1_weigh 150 = .ok (.iconst 1, 1) := by decide +kernel
theorem dX1_weigh_151 : decode cX1_weigh 151 = .ok (.isub, 1) := by decide +kernel
theorem dX1_weigh_152 : decode cX1_weigh 152 = .ok (.dup2, 1) := by decide +kernel
theorem dX1_weigh_153 : decode cX1_weigh 153 = .ok (.iaload, 1) := by decide +kernel
theorem dX1_weigh_154 : decode cX1_weigh 154 = .ok (.iload 6, 2) := by decide +kernel
theorem dX1_weigh_156 : decode cX1_weigh 156 = .ok (.iadd, 1) := by decide +kernel
theorem dX1_weigh_157 : decode cX1_weigh 157 = .ok (.iastore, 1) := by decide +kernel
theorem dX1_weigh_158 : decode cX1_weigh 158 = .ok (.aload_n 0, 1) := by decide +kernel
theorem dX1_weigh_159 : decode cX1_weigh 159 = .ok (.getfield 32, 3) := by decide +kernel
theorem dX1_weigh_162 : decode cX1_weigh 162 = .ok (.iload 5, 2) := by decide +kernel
theorem dX1_weigh_164 : decode cX1_weigh 164 = .ok (.iconst 1, 1) := by decide +kernel
theorem dX1_weigh_165 : decode cX1_weigh 165 = .ok (.iadd, 1) := by decide +kernel
theorem dX1_weigh_166 : decode cX1_weigh 166 = .ok (.dup2, 1) := by decide +kernel
theorem dX1_weigh_167 : decode cX1_weigh 167 = .ok (.iaload, 1) := by decide +kernel
theorem dX1_weigh_168 : decode cX1_weigh 168 = .ok (.aload_n 0, 1) := by decide +kernel
theorem dX1_weigh_169 : decode cX1_weigh 169 = .ok (.getfield 32, 3) := by decide +kernel
theorem dX1_weigh_172 : decode cX1_weigh 172 = .ok (.iload 5, 2) := by decide +kernel
theorem dX1_weigh_174 : decode cX1_weigh 174 = .ok (.iaload, 1) := by decide +kernel
theorem dX1_weigh_175 : decode cX1_weigh 175 = .ok (.iload 6, 2) := by decide +kernel
theorem dX1_weigh_177 : decode cX1_weigh 177 = .ok (.isub, 1) := by decide +kernel
theorem dX1_weigh_178 : decode cX1_weigh 178 = .ok (.iadd, 1) := by decide +kernel
theorem dX1_weigh_179 : decode cX1_weigh 179 = .ok (.iastore, 1) := by decide +kernel
theorem dX1_weigh_180 : decode cX1_weigh 180 = .ok (.iinc 4 1, 3) := by decide +kernel
theorem dX1_weigh_183 : decode cX1_weigh 183 = .ok (.goto (-83), 3) := by decide +kernel
theorem dX1_weigh_186 : decode cX1_weigh 186 = .ok (.iinc 3 (-1), 3) := by decide +kernel
theorem dX1_weigh_189 : decode cX1_weigh 189 = .ok (.goto (-187), 3) := by decide +kernel
theorem dX1_weigh_192 : decode cX1_weigh 192 = .ok (.return_, 1) := by decide +kernel
theorem dX1_markFalling_0 : decode cX1_markFalling 0 = .ok (.aload_n 0, 1) := by decide +kernel
theorem dX1_markFalling_1 : decode cX1_markFalling 1 = .ok (.iconst (-1), 1) := by decide +kernel
theorem dX1_markFalling_2 : decode cX1_markFalling 2 = .ok (.iconst 0, 1) := by decide +kernel
theorem dX1_markFalling_3 : decode cX1_markFalling 3 = .ok (.invokevirtual 99, 3) := by decide +kernel
theorem dX1_markFalling_6 : decode cX1_markFalling 6 = .ok (.iconst 0, 1) := by decide +kernel
theorem dX1_markFalling_7 : decode cX1_markFalling 7 = .ok (.istore_n 2, 1) := by decide +kernel
theorem dX1_markFalling_8 : decode cX1_markFalling 8 = .ok (.iconst 0, 1) := by decide +kernel
theorem dX1_markFalling_9 : decode cX1_markFalling 9 = .ok (.istore_n 3, 1) := by decide +kernel
theorem dX1_markFalling_10 : decode cX1_markFalling 10 = .ok (.iload_n 3, 1) := by decide +kernel
theorem dX1_markFalling_11 : decode cX1_markFalling 11 = .ok (.bipush 48, 2) := by decide +kernel
theorem dX1_markFalling_13 : decode cX1_markFalling 13 = .ok (.if_icmp .ge 70, 3) := by decide +kernel
theorem dX1_markFalling_16 : decode cX1_markFalling 16 = .ok (.aload_n 0, 1) := by decide +kernel
theorem dX1_markFalling_17 : decode cX1_markFalling 17 = .ok (.getfield 35, 3) := by decide +kernel
theorem dX1_markFalling_20 : decode cX1_markFalling 20 = .ok (.iload_n 3, 1) := by decide +kernel
theorem dX1_markFalling_21 : decode cX1_markFalling 21 = .ok (.aload_n 0, 1) := by decide +kernel
theorem dX1_markFalling_22 : decode cX1_markFalling 22 = .ok (.iload_n 3, 1) := by decide +kernel
theorem dX1_markFalling_23 : decode cX1_markFalling 23 = .ok (.invokevirtual 66, 3) := by decide +kernel
theorem dX1_markFalling_26 : decode cX1_markFalling 26 = .ok (.ifCond .eq 30, 3) := by decide +kernel
theorem dX1_markFalling_29 : decode cX1_markFalling 29 = .ok (.aload_n 0, 1) := by decide +kernel
theorem dX1_markFalling_30 : decode cX1_markFalling 30 = .ok (.iload_n 3, 1) := by decide +kernel
theorem dX1_markFalling_31 : decode cX1_markFalling 31 = .ok (.invokevirtual 103, 3) := by decide +kernel
theorem dX1_markFalling_34 : decode cX1_markFalling 34 = .ok (.ifCond .eq 18, 3) := by decide +kernel
theorem dX1_markFalling_37 : decode cX1_markFalling 37 = .ok (.aload_n 0, 1) := by decide +kernel
theorem dX1_markFalling_38 : decode cX1_markFalling 38 = .ok (.getfield 32, 3) := by decide +kernel
theorem dX1_markFalling_41 : decode cX1_markFalling 41 = .ok (.iload_n 3, 1) := by decide +kernel
theorem dX1_markFalling_42 : decode cX1_markFalling 42 = .ok (.iaload, 1) := by decide +kernel
theorem dX1_markFalling_43 : decode cX1_markFalling 43 = .ok (.aload_n 0, 1) := by decide +kernel
theorem dX1_markFalling_44 : decode cX1_markFalling 44 = .ok (.iload_n 3, 1) := by decide +kernel
theorem dX1_markFalling_45 : decode cX1_markFalling 45 = .ok (.iload_n 1, 1) := by decide +kernel
theorem dX1_markFalling_46 : decode cX1_markFalling 46 = .ok (.invokevirtual 106, 3) := by decide +kernel
theorem dX1_markFalling_49 : decode cX1_markFalling 49 = .ok (.if_icmp .le 7, 3) := by decide +kernel
theorem dX1_markFalling_52 : decode cX1_markFalling 52 = .ok (.iconst 1, 1) := by decide +kernel
theorem dX1_markFalling_53 : decode cX1_markFalling 53 = .ok (.goto 4, 3) := by decide +kernel
theorem dX1_markFalling_56 : decode cX1_markFalling 56 = .ok (.iconst 0, 1) := by decide +kernel
theorem dX1_markFalling_57 : decode cX1_markFalling 57 = .ok (.bastore, 1) := by decide +kernel
theorem dX1_markFalling_58 : decode cX1_markFalling 58 = .ok (.iload_n 2, 1) := by decide +kernel
theorem dX1_markFalling_59 : decode cX1_markFalling 59 = .ok (.ifCond .ne 12, 3) := by decide +kernel
theorem dX1_markFalling_62 : decode cX1_markFalling 62 = .ok (.aload_n 0, 1) := by decide +kernel
theorem dX1_markFalling_63 : decode cX1_markFalling 63 = .ok (.getfield 35, 3) := by decide +kernel
theorem dX1_markFalling_66 : decode cX1_markFalling 66 = .ok (.iload_n 3, 1) := by decide +kernel
theorem dX1_markFalling_67 : decode cX1_markFalling 67 = .ok (.baload, 1) := by decide +kernel
theorem dX1_markFalling_68 : decode cX1_markFalling 68 = .ok (.ifCond .eq 7, 3) := by decide +kernel
theorem dX1_markFalling_71 : decode cX1_markFalling 71 = .ok (.iconst 1, 1) := by decide +kernel
theorem dX1_markFalling_72 : decode cX1_markFalling 72 = .ok (.goto 4, 3) := by decide +kernel
theorem dX1_markFalling_75 : decode cX1_markFalling 75 = .ok (.iconst 0, 1) := by decide +kernel
theorem dX1_markFalling_76 : decode cX1_markFalling 76 = .ok (.istore_n 2, 1) := by decide +kernel
theorem dX1_markFalling_77 : decode cX1_markFalling 77 = .ok (.iinc 3 1, 3) := by decide +kernel
theorem dX1_markFalling_80 : decode cX1_markFalling 80 = .ok (.goto (-70), 3) := by decide +kernel
theorem dX1_markFalling_83 : decode cX1_markFalling 83 = .ok (.iload_n 2, 1) := by decide +kernel
theorem dX1_markFalling_84 : decode cX1_markFalling 84 = .ok (.ireturn, 1) := by decide +kernel
theorem dX1_dropMarked_0 : decode cX1_dropMarked 0 = .ok (.iconst 0, 1) := by decide +kernel
theorem dX1_dropMarked_1 : decode cX1_dropMarked 1 = .ok (.istore_n 1, 1) := by decide +kernel
theorem dX1_dropMarked_2 : decode cX1_dropMarked 2 = .ok (.iconst 0, 1) := by decide +kernel
theorem dX1_dropMarked_3 : decode cX1_dropMarked 3 = .ok (.istore_n 2, 1) := by decide +kernel
theorem dX1_dropMarked_4 : decode cX1_dropMarked 4 = .ok (.iload_n 2, 1) := by decide +kernel
theorem dX1_dropMarked_5 : decode cX1_dropMarked 5 = .ok (.bipush 48, 2) := by decide +kernel
theorem dX1_dropMarked_7 : decode cX1_dropMarked 7 = .ok (.if_icmp .ge 31, 3) := by decide +kernel
theorem dX1_dropMarked_10 : decode cX1_dropMarked 10 = .ok (.aload_n 0, 1) := by decide +kernel
theorem dX1_dropMarked_11 : decode cX1_dropMarked 11 = .ok (.getfield 35, 3) := by decide +kernel
theorem dX1_dropMarked_14 : decode cX1_dropMarked 14 = .ok (.iload_n 2, 1) := by decide +kernel
theorem dX1_dropMarked_15 : decode cX1_dropMarked 15 = .ok (.baload, 1) := by decide +kernel
theorem dX1_dropMarked_16 : decode cX1_dropMarked 16 = .ok (.ifCond .eq 16, 3) := by decide +kernel
theorem dX1_dropMarked_19 : decode cX1_dropMarked 19 = .ok (.aload_n 0, 1) := by decide +kernel
theorem dX1_dropMarked_20 : decode cX1_dropMarked 20 = .ok (.iload_n 2, 1) := by decide +kernel
theorem dX1_dropMarked_21 : decode cX1_dropMarked 21 = .ok (.invokevirtual 109, 3) := by decide +kernel
theorem dX1_dropMarked_24 : decode cX1_dropMarked 24 = .ok (.aload_n 0, 1) := by decide +kernel
theorem dX1_dropMarked_25 : decode cX1_dropMarked 25 = .ok (.iload_n 2, 1) := by decide +kernel
theorem dX1_dropMarked_26 : decode cX1_dropMarked 26 = .ok (.putfield 46, 3) := by decide +kernel
theorem dX1_dropMarked_29 : decode cX1_dropMarked 29 = .ok (.iinc 1 1, 3) := by decide +kernel
theorem dX1_dropMarked_32 : decode cX1_dropMarked 32 = .ok (.iinc 2 1, 3) := by decide +kernel
theorem dX1_dropMarked_35 : decode cX1_dropMarked 35 = .ok (.goto (-31), 3) := by decide +kernel
theorem dX1_dropMarked_38 : decode cX1_dropMarked 38 = .ok (.aload_n 0, 1) := by decide +kernel
theorem dX1_dropMarked_39 : decode cX1_dropMarked 39 = .ok (.dup, 1) := by decide +kernel
theorem dX1_dropMarked_40 : decode cX1_dropMarked 40 = .ok (.getfield 42, 3) := by decide +kernel
theorem dX1_dropMarked_43 : decode cX1_dropMarked 43 = .ok (.iload_n 1, 1) := by decide +kernel
theorem dX1_dropMarked_44 : decode cX1_dropMarked 44 = .ok (.iadd, 1) := by decide +kernel
theorem dX1_dropMarked_45 : decode cX1_dropMarked 45 = .ok (.putfield 42, 3) := by decide +kernel
theorem dX1_dropMarked_48 : decode cX1_dropMarked 48 = .ok (.iload_n 1, 1) := by decide +kernel
theorem dX1_dropMarked_49 : decode cX1_dropMarked 49 = .ok (.ireturn, 1) := by decide +kernel
theorem dX1_settle_0 : decode cX1_settle 0 = .ok (.iconst 0, 1) := by decide +kernel
theorem dX1_settle_1 : decode cX1_settle 1 = .ok (.istore_n 2, 1) := by decide +kernel
theorem dX1_settle_2 : decode cX1_settle 2 = .ok (.iconst 0, 1) := by decide +kernel
theorem dX1_settle_3 : decode cX1_settle 3 = .ok (.istore_n 3, 1) := by decide +kernel
theorem dX1_settle_4 : decode cX1_settle 4 = .ok (.iload_n 3, 1) := by decide +kernel
theorem dX1_settle_5 : decode cX1_settle 5 = .ok (.bipush 48, 2) := by decide +kernel
theorem dX1_settle_7 : decode cX1_settle 7 = .ok (.if_icmp .gt 24, 3) := by decide +kernel
theorem dX1_settle_10 : decode cX1_settle 10 = .ok (.aload_n 0, 1) := by decide +kernel
theorem dX1_settle_11 : decode cX1_settle 11 = .ok (.iload_n 1, 1) := by decide +kernel
theorem dX1_settle_12 : decode cX1_settle 12 = .ok (.invokevirtual 113, 3) := by decide +kernel
theorem dX1_settle_15 : decode cX1_settle 15 = .ok (.ifCond .eq 16, 3) := by decide +kernel
theorem dX1_settle_18 : decode cX1_settle 18 = .ok (.iload_n 2, 1) := by decide +kernel
theorem dX1_settle_19 : decode cX1_settle 19 = .ok (.aload_n 0, 1) := by decide +kernel
theorem dX1_settle_20 : decode cX1_settle 20 = .ok (.invokevirtual 116, 3) := by decide +kernel
theorem dX1_settle_23 : decode cX1_settle 23 = .ok (.iadd, 1) := by decide +kernel
theorem dX1_settle_24 : decode cX1_settle 24 = .ok (.istore_n 2, 1) := by decide +kernel
theorem dX1_settle_25 : decode cX1_settle 25 = .ok (.iinc 3 1, 3) := by decide +kernel
theorem dX1_settle_28 : decode cX1_settle 28 = .ok (.goto (-24), 3) := by decide +kernel
theorem dX1_settle_31 : decode cX1_settle 31 = .ok (.iload_n 2, 1) := by decide +kernel
theorem dX1_settle_32 : decode cX1_settle 32 = .ok (.ireturn, 1) := by decide +kernel
theorem dX1_wouldFallWithout_0 : decode cX1_wouldFallWithout 0 = .ok (.aload_n 0, 1) := by decide +kernel
theorem dX1_wouldFallWithout_1 : decode cX1_wouldFallWithout 1 = .ok (.iload_n 1, 1) := by decide +kernel
theorem dX1_wouldFallWithout_2 : decode cX1_wouldFallWithout 2 = .ok (.invokevirtual 66, 3) := by decide +kernel
theorem dX1_wouldFallWithout_5 : decode cX1_wouldFallWithout 5 = .ok (.ifCond .ne 5, 3) := by decide +kernel
theorem dX1_wouldFallWithout_8 : decode cX1_wouldFallWithout 8 = .ok (.iconst 0, 1) := by decide +kernel
theorem dX1_wouldFallWithout_9 : decode cX1_wouldFallWithout 9 = .ok (.ireturn, 1) := by decide +kernel
theorem dX1_wouldFallWithout_10 : decode cX1_wouldFallWithout 10 = .ok (.aload_n 0, 1) := by decide +kernel
theorem dX1_wouldFallWithout_11 : decode cX1_wouldFallWithout 11 = .ok (.getfield 9, 3) := by decide +kernel
theorem dX1_wouldFallWithout_14 : decode cX1_wouldFallWithout 14 = .ok (.iload_n 1, 1) := by decide +kernel
theorem dX1_wouldFallWithout_15 : decode cX1_wouldFallWithout 15 = .ok (.caload, 1) := by decide +kernel
theorem dX1_wouldFallWithout_16 : decode cX1_wouldFallWithout 16 = .ok (.istore_n 3, 1) := by decide +kernel
theorem dX1_wouldFallWithout_17 : decode cX1_wouldFallWithout 17 = .ok (.aload_n 0, 1) := by decide +kernel
theorem dX1_wouldFallWithout_18 : decode cX1_wouldFallWithout 18 = .ok (.getfield 9, 3) := by decide +kernel
theorem dX1_wouldFallWithout_21 : decode cX1_wouldFallWithout 21 = .ok (.iload_n 1, 1) := by decide +kernel
theorem dX1_wouldFallWithout_22 : decode cX1_wouldFallWithout 22 = .ok (.bipush 46, 2) := by decide +kernel
theorem dX1_wouldFallWithout_24 : decode cX1_wouldFallWithout 24 = .ok (.castore, 1) := by decide +kernel
theorem dX1_wouldFallWithout_25 : decode cX1_wouldFallWithout 25 = .ok (.aload_n 0, 1) := by decide +kernel
theorem dX1_wouldFallWithout_26 : decode cX1_wouldFallWithout 26 = .ok (.iload_n 2, 1) := by decide +kernel
theorem dX1_wouldFallWithout_27 : decode cX1_wouldFallWithout 27 = .ok (.invokevirtual 113, 3) := by decide +kernel
theorem dX1_wouldFallWithout_30 : decode cX1_wouldFallWithout 30 = .ok (.istore 4, 2) := by decide +kernel
theorem dX1_wouldFallWithout_32 : decode cX1_wouldFallWithout 32 = .ok (.aload_n 0, 1) := by decide +kernel
theorem dX1_wouldFallWithout_33 : decode cX1_wouldFallWithout 33 = .ok (.getfield 9, 3) := by decide +kernel
theorem dX1_wouldFallWithout_36 : decode cX1_wouldFallWithout 36 = .ok (.iload_n 1, 1) := by decide +kernel
theorem dX1_wouldFallWithout_37 : decode cX1_wouldFallWithout 37 = .ok (.iload_n 3, 1) := by decide +kernel
theorem dX1_wouldFallWithout_38 : decode cX1_wouldFallWithout 38 = .ok (.castore, 1) := by decide +kernel
theorem dX1_wouldFallWithout_39 : decode cX1_wouldFallWithout 39 = .ok (.iload 4, 2) := by decide +kernel
theorem dX1_wouldFallWithout_41 : decode cX1_wouldFallWithout 41 = .ok (.ireturn, 1) := by decide +kernel
theorem dX1_wear_0 : decode cX1_wear 0 = .ok (.iload_n 1, 1) := by decide +kernel
theorem dX1_wear_1 : decode cX1_wear 1 = .ok (.bipush 10, 2) := by decide +kernel
theorem dX1_wear_3 : decode cX1_wear 3 = .ok (.bipush 14, 2) := by decide +kernel
theorem dX1_wear_5 : decode cX1_wear 5 = .ok (.invokestatic 72, 3) := by decide +kernel
theorem dX1_wear_8 : decode cX1_wear 8 = .ok (.ifCond .eq 19, 3) := by decide +kernel
theorem dX1_wear_11 : decode cX1_wear 11 = .ok (.iload_n 2, 1) := by decide +kernel
theorem dX1_wear_12 : decode cX1_wear 12 = .ok (.bipush (-100), 2) := by decide +kernel
theorem dX1_wear_14 : decode cX1_wear 14 = .ok (.if_icmp .le 13, 3) := by decide +kernel
theorem dX1_wear_17 : decode cX1_wear 17 = .ok (.iload_n 2, 1) := by decide +kernel
theorem dX1_wear_18 : decode cX1_wear 18 = .ok (.bipush (-100), 2) := by decide +kernel
theorem dX1_wear_20 : decode cX1_wear 20 = .ok (.isub, 1) := by decide +kernel
theorem dX1_wear_21 : decode cX1_wear 21 = .ok (.bipush 20, 2) := by decide +kernel
theorem dX1_wear_23 : decode cX1_wear 23 = .ok (.idiv, 1) := by decide +kernel
theorem dX1_wear_24 : decode cX1_wear 24 = .ok (.goto 4, 3) := by decide +kernel
theorem dX1_wear_27 : decode cX1_wear 27 = .ok (.iconst 0, 1) := by decide +kernel
theorem dX1_wear_28 : decode cX1_wear 28 = .ok (.istore 4, 2) := by decide +kernel
theorem dX1_wear_30 : decode cX1_wear 30 = .ok (.iload_n 3, 1) := by decide +kernel
theorem dX1_wear_31 : decode cX1_wear 31 = .ok (.bipush 10, 2) := by decide +kernel
theorem dX1_wear_33 : decode cX1_wear 33 = .ok (.if_icmp .lt 9, 3) := by decide +kernel
theorem dX1_wear_36 : decode cX1_wear 36 = .ok (.iload_n 3, 1) := by decide +kernel
theorem dX1_wear_37 : decode cX1_wear 37 = .ok (.iconst 5, 1) := by decide +kernel
theorem dX1_wear_38 : decode cX1_wear 38 = .ok (.idiv, 1) := by decide +kernel
theorem dX1_wear_39 : decode cX1_wear 39 = .ok (.goto 4, 3) := by decide +kernel
theorem dX1_wear_42 : decode cX1_wear 42 = .ok (.iconst 0, 1) := by decide +kernel
theorem dX1_wear_43 : decode cX1_wear 43 = .ok (.istore 5, 2) := by decide +kernel
theorem dX1_wear_45 : decode cX1_wear 45 = .ok (.iconst 0, 1) := by decide +kernel
theorem dX1_wear_46 : decode cX1_wear 46 = .ok (.istore 6, 2) := by decide +kernel
theorem dX1_wear_48 : decode cX1_wear 48 = .ok (.iload 6, 2) := by decide +kernel
theorem dX1_wear_50 : decode cX1_wear 50 = .ok (.bipush 48, 2) := by decide +kernel
theorem dX1_wear_52 : decode cX1_wear 52 = .ok (.if_icmp .ge 137, 3) := by decide +kernel
theorem dX1_wear_55 : decode cX1_wear 55 = .ok (.aload_n 0, 1) := by decide +kernel
theorem dX1_wear_56 : decode cX1_wear 56 = .ok (.getfield 35, 3) := by decide +kernel
theorem dX1_wear_59 : decode cX1_wear 59 = .ok (.iload 6, 2) := by decide +kernel
theorem dX1_wear_61 : decode cX1_wear 61 = .ok (.iconst 0, 1) := by decide +kernel
theorem dX1_wear_62 : decode cX1_wear 62 = .ok (.bastore, 1) := by decide +kernel
theorem dX1_wear_63 : decode cX1_wear 63 = .ok (.aload_n 0, 1) := by decide +kernel
theorem dX1_wear_64 : decode cX1_wear 64 = .ok (.iload 6, 2) := by decide +kernel
theorem dX1_wear_66 : decode cX1_wear 66 = .ok (.invokevirtual 66, 3) := by decide +kernel
theorem dX1_wear_69 : decode cX1_wear 69 = .ok (.ifCond .eq 114, 3) := by decide +kernel
theorem dX1_wear_72 : decode cX1_wear 72 = .ok (.iload 6, 2) := by decide +kernel
theorem dX1_wear_74 : decode cX1_wear 74 = .ok (.bipush 8, 2) := by decide +kernel
theorem dX1_wear_76 : decode cX1_wear 76 = .ok (.irem, 1) := by decide +kernel
theorem dX1_wear_77 : decode cX1_wear 77 = .ok (.bipush 7, 2) := by decide +kernel
theorem dX1_wear_79 : decode cX1_wear 79 = .ok (.if_icmp .ge 18, 3) := by decide +kernel
theorem dX1_wear_82 : decode cX1_wear 82 = .ok (.aload_n 0, 1) := by decide +kernel
theorem dX1_wear_83 : decode cX1_wear 83 = .ok (.iload 6, 2) := by decide +kernel
theorem dX1_wear_85 : decode cX1_wear 85 = .ok (.iconst 1, 1) := by decide +kernel
theorem dX1_wear_86 : decode cX1_wear 86 = .ok (.iadd, 1) := by decide +kernel
theorem dX1_wear_87 : decode cX1_wear 87 = .ok (.invokevirtual 66, 3) := by decide +kernel
theorem dX1_wear_90 : decode cX1_wear 90 = .ok (.ifCond .eq 7, 3) := by decide +kernel
theorem dX1_wear_93 : decode cX1_wear 93 = .ok (.iconst 1, 1) := by decide +kernel
theorem dX1_wear_94 : decode cX1_wear 94 = .ok (.goto 4, 3) := by decide +kernel
theorem dX1_wear_97 : decode cX1_wear 97 = .ok (.iconst 0, 1) := by decide +kernel
theorem dX1_wear_98 : decode cX1_wear 98 = .ok (.istore 7, 2) := by decide +kernel
theorem dX1_wear_100 : decode cX1_wear 100 = .ok (.iload 6, 2) := by decide +kernel
theorem dX1_wear_102 : decode cX1_wear 102 = .ok (.bipush 8, 2) := by decide +kernel
theorem dX1_wear_104 : decode cX1_wear 104 = .ok (.irem, 1) := by decide +kernel
theorem dX1_wear_105 : decode cX1_wear 105 = .ok (.ifCond .le 18, 3) := by decide +kernel
theorem dX1_wear_108 : decode cX1_wear 108 = .ok (.aload_n 0, 1) := by decide +kernel
theorem dX1_wear_109 : decode cX1_wear 109 = .ok (.iload 6, 2) := by decide +kernel
theorem dX1_wear_111 : decode cX1_wear 111 = .ok (.iconst 1, 1) := by decide +kernel
theorem dX1_wear_112 : decode cX1_wear 112 = .ok (.isub, 1) := by decide +kernel
theorem dX1_wear_113 : decode cX1_wear 113 = .ok (.invokevirtual 66, 3) := by decide +kernel
theorem dX1_wear_116 : decode cX1_wear 116 = .ok (.ifCond .eq 7, 3) := by decide +kernel
theorem dX1_wear_119 : decode cX1_wear 119 = .ok (.iconst 1, 1) := by decide +kernel
theorem dX1_wear_120 : decode cX1_wear 120 = .ok (.goto 4, 3) := by decide +kernel
theorem dX1_wear_123 : decode cX1_wear 123 = .ok (.iconst 0, 1) := by decide +kernel
theorem dX1_wear_124 : decode cX1_wear 124 = .ok (.istore 8, 2) := by decide +kernel
theorem dX1_wear_126 : decode cX1_wear 126 = .ok (.aload_n 0, 1) := by decide +kernel
theorem dX1_wear_127 : decode cX1_wear 127 = .ok (.getfield 15, 3) := by decide +kernel
theorem dX1_wear_130 : decode cX1_wear 130 = .ok (.iload 6, 2) := by decide +kernel
theorem dX1_wear_132 : decode cX1_wear 132 = .ok (.dup2, 1) := by decide +kernel
theorem dX1_wear_133 : decode cX1_wear 133 = .ok (.iaload, 1) := by decide +kernel
theorem dX1_wear_134 : decode cX1_wear 134 = .ok (.iload 7, 2) := by decide +kernel
theorem dX1_wear_136 : decode cX1_wear 136 = .ok (.ifCond .eq 7, 3) := by decide +kernel
theorem dX1_wear_139 : decode cX1_wear 139 = .ok (.iconst 0, 1) := by decide +kernel
theorem dX1_wear_140 : decode cX1_wear 140 = .ok (.goto 5, 3) := by decide +kernel
theorem dX1_wear_143 : decode cX1_wear 143 = .ok (.iload 4, 2) := by decide +kernel
theorem dX1_wear_145 : decode cX1_wear 145 = .ok (.iload 8, 2) := by decide +kernel
theorem dX1_wear_147 : decode cX1_wear 147 = .ok (.ifCond .eq 7, 3) := by decide +kernel
theorem dX1_wear_150 : decode cX1_wear 150 = .ok (.iconst 0, 1) := by decide +kernel
theorem dX1_wear_151 : decode cX1_wear 151 = .ok (.goto 5, 3) := by decide +kernel
theorem dX1_wear_154 : decode cX1_wear 154 = .ok (.iload 5, 2) := by decide +kernel
theorem dX1_wear_156 : decode cX1_wear 156 = .ok (.iadd, 1) := by decide +kernel
theorem dX1_wear_157 : decode cX1_wear 157 = .ok (.isub, 1) := by decide +kernel
theorem dX1_wear_158 : decode cX1_wear 158 = .ok (.iastore, 1) := by decide +kernel
theorem dX1_wear_159 : decode cX1_wear 159 = .ok (.aload_n 0, 1) := by decide +kernel
theorem dX1_wear_160 : decode cX1_wear 160 = .ok (.getfield 35, 3) := by decide +kernel
theorem dX1_wear_163 : decode cX1_wear 163 = .ok (.iload 6, 2) := by decide +kernel
theorem dX1_wear_165 : decode cX1_wear 165 = .ok (.aload_n 0, 1) := by decide +kernel
theorem dX1_wear_166 : decode cX1_wear 166 = .ok (.getfield 15, 3) := by decide +kernel
theorem dX1_wear_169 : decode cX1_wear 169 = .ok (.iload 6, 2) := by decide +kernel
theorem dX1_wear_171 : decode cX1_wear 171 = .ok (.iaload, 1) := by decide +kernel
theorem dX1_wear_172 : decode cX1_wear 172 = .ok (.bipush 100, 2) := by decide +kernel
theorem dX1_wear_174 : decode cX1_wear 174 = .ok (.if_icmp .gt 7, 3) := by decide +kernel
theorem dX1_wear_177 : decode cX1_wear 177 = .ok (.iconst 1, 1) := by decide +kernel
theorem dX1_wear_178 : decode cX1_wear 178 = .ok (.goto 4, 3) := by decide +kernel
theorem dX1_wear_181 : decode cX1_wear 181 = .ok (.iconst 0, 1) := by decide +kernel
theorem dX1_wear_182 : decode cX1_wear 182 = .ok (.bastore, 1) := by decide +kernel
theorem dX1_wear_183 : decode cX1_wear 183 = .ok (.iinc 6 1, 3) := by decide +kernel
theorem dX1_wear_186 : decode cX1_wear 186 = .ok (.goto (-138), 3) := by decide +kernel
theorem dX1_wear_189 : decode cX1_wear 189 = .ok (.aload_n 0, 1) := by decide +kernel
theorem dX1_wear_190 : decode cX1_wear 190 = .ok (.invokevirtual 116, 3) := by decide +kernel
theorem dX1_wear_193 : decode cX1_wear 193 = .ok (.ireturn, 1) := by decide +kernel
theorem dX1_growOld_0 : decode cX1_growOld 0 = .ok (.iconst 0, 1) := by decide +kernel
theorem dX1_growOld_1 : decode cX1_growOld 1 = .ok (.istore_n 2, 1) := by decide +kernel
theorem dX1_growOld_2 : decode cX1_growOld 2 = .ok (.iload_n 2, 1) := by decide +kernel
theorem dX1_growOld_3 : decode cX1_growOld 3 = .ok (.bipush 48, 2) := by decide +kernel
theorem dX1_growOld_5 : decode cX1_growOld 5 = .ok (.if_icmp .ge 72, 3) := by decide +kernel
theorem dX1_growOld_8 : decode cX1_growOld 8 = .ok (.aload_n 0, 1) := by decide +kernel
theorem dX1_growOld_9 : decode cX1_growOld 9 = .ok (.iload_n 2, 1) := by decide +kernel
theorem dX1_growOld_10 : decode cX1_growOld 10 = .ok (.invokevirtual 66, 3) := by decide +kernel
theorem dX1_growOld_13 : decode cX1_growOld 13 = .ok (.ifCond .eq 58, 3) := by decide +kernel
theorem dX1_growOld_16 : decode cX1_growOld 16 = .ok (.aload_n 0, 1) := by decide +kernel
theorem dX1_growOld_17 : decode cX1_growOld 17 = .ok (.getfield 32, 3) := by decide +kernel
theorem dX1_growOld_20 : decode cX1_growOld 20 = .ok (.iload_n 2, 1) := by decide +kernel
theorem dX1_growOld_21 : decode cX1_growOld 21 = .ok (.iaload, 1) := by decide +kernel
theorem dX1_growOld_22 : decode cX1_growOld 22 = .ok (.iconst 0, 1) := by decide +kernel
theorem dX1_growOld_23 : decode cX1_growOld 23 = .ok (.iload_n 1, 1) := by decide +kernel
theorem dX1_growOld_24 : decode cX1_growOld 24 = .ok (.sipush 300, 3) := by decide +kernel
theorem dX1_growOld_27 : decode cX1_growOld 27 = .ok (.iadd, 1) := by decide +kernel
theorem dX1_growOld_28 : decode cX1_growOld 28 = .ok (.invokestatic 93, 3) := by decide +kernel
theorem dX1_growOld_31 : decode cX1_growOld 31 = .ok (.imul, 1) := by decide +kernel
theorem dX1_growOld_32 : decode cX1_growOld 32 = .ok (.ldc 120, 2) := by decide +kernel
theorem dX1_growOld_34 : decode cX1_growOld 34 = .ok (.idiv, 1) := by decide +kernel
theorem dX1_growOld_35 : decode cX1_growOld 35 = .ok (.istore_n 3, 1) := by decide +kernel
theorem dX1_growOld_36 : decode cX1_growOld 36 = .ok (.aload_n 0, 1) := by decide +kernel
theorem dX1_growOld_37 : decode cX1_growOld 37 = .ok (.getfield 19, 3) := by decide +kernel
theorem dX1_growOld_40 : decode cX1_growOld 40 = .ok (.iload_n 2, 1) := by decide +kernel
theorem dX1_growOld_41 : decode cX1_growOld 41 = .ok (.dup2, 1) := by decide +kernel
theorem dX1_growOld_42 : decode cX1_growOld 42 = .ok (.iaload, 1) := by decide +kernel
theorem dX1_growOld_43 : decode cX1_growOld 43 = .ok (.aload_n 0, 1) := by decide +kernel
theorem dX1_growOld_44 : decode cX1_growOld 44 = .ok (.getfield 25, 3) := by decide +kernel
theorem dX1_growOld_47 : decode cX1_growOld 47 = .ok (.iload_n 2, 1) := by decide +kernel
theorem dX1_growOld_48 : decode cX1_growOld 48 = .ok (.baload, 1) := by decide +kernel
theorem dX1_growOld_49 : decode cX1_growOld 49 = .ok (.ifCond .eq 9, 3) := by decide +kernel
theorem dX1_growOld_52 : decode cX1_growOld 52 = .ok (.iconst 2, 1) := by decide +kernel
theorem dX1_growOld_53 : decode cX1_growOld 53 = .ok (.iload_n 3, 1) := by decide +kernel
theorem dX1_growOld_54 : decode cX1_growOld 54 = .ok (.imul, 1) := by decide +kernel
theorem dX1_growOld_55 : decode cX1_growOld 55 = .ok (.goto 4, 3) := by decide +kernel
theorem dX1_growOld_58 : decode cX1_growOld 58 = .ok (.iload_n 3, 1) := by decide +kernel
theorem dX1_growOld_59 : decode cX1_growOld 59 = .ok (.iadd, 1) := by decide +kernel
theorem dX1_growOld_60 : decode cX1_growOld 60 = .ok (.iastore, 1) := by decide +kernel
theorem dX1_growOld_61 : decode cX1_growOld 61 = .ok (.aload_n 0, 1) := by decide +kernel
theorem dX1_growOld_62 : decode cX1_growOld 62 = .ok (.getfield 22, 3) := by decide +kernel
theorem dX1_growOld_65 : decode cX1_growOld 65 = .ok (.iload_n 2, 1) := by decide +kernel
theorem dX1_growOld_66 : decode cX1_growOld 66 = .ok (.dup2, 1) := by decide +kernel
theorem dX1_growOld_67 : decode cX1_growOld 67 = .ok (.iaload, 1) := by decide +kernel
theorem dX1_growOld_68 : decode cX1_growOld 68 = .ok (.iconst 1, 1) := by decide +kernel
theorem dX1_growOld_69 : decode cX1_growOld 69 = .ok (.iadd, 1) := by decide +kernel
theorem dX1_growOld_70 : decode cX1_growOld 70 = .ok (.iastore, 1) := by decide +kernel
theorem dX1_growOld_71 : decode cX1_growOld 71 = .ok (.iinc 2 1, 3) := by decide +kernel
theorem dX1_growOld_74 : decode cX1_growOld 74 = .ok (.goto (-72), 3) := by decide +kernel
theorem dX1_growOld_77 : decode cX1_growOld 77 = .ok (.return_, 1) := by decide +kernel
theorem dX1_lightAt_0 : decode cX1_lightAt 0 = .ok (.fconst 0, 1) := by decide +kernel
theorem dX1_lightAt_1 : decode cX1_lightAt 1 = .ok (.fstore_n 3, 1) := by decide +kernel
theorem dX1_lightAt_2 : decode cX1_lightAt 2 = .ok (.iconst 0, 1) := by decide +kernel
theorem dX1_lightAt_3 : decode cX1_lightAt 3 = .ok (.istore 4, 2) := by decide +kernel
theorem dX1_lightAt_5 : decode cX1_lightAt 5 = .ok (.iload 4, 2) := by decide +kernel
theorem dX1_lightAt_7 : decode cX1_lightAt 7 = .ok (.bipush 8, 2) := by decide +kernel
theorem dX1_lightAt_9 : decode cX1_lightAt 9 = .ok (.if_icmp .ge 50, 3) := by decide +kernel
theorem dX1_lightAt_12 : decode cX1_lightAt 12 = .ok (.iload 4, 2) := by decide +kernel
theorem dX1_lightAt_14 : decode cX1_lightAt 14 = .ok (.iload_n 2, 1) := by decide +kernel
theorem dX1_lightAt_15 : decode cX1_lightAt 15 = .ok (.invokestatic 96, 3) := by decide +kernel
theorem dX1_lightAt_18 : decode cX1_lightAt 18 = .ok (.istore 5, 2) := by decide +kernel
theorem dX1_lightAt_20 : decode cX1_lightAt 20 = .ok (.aload_n 0, 1) := by decide +kernel
theorem dX1_lightAt_21 : decode cX1_lightAt 21 = .ok (.iload 5, 2) := by decide +kernel
theorem dX1_lightAt_23 : decode cX1_lightAt 23 = .ok (.invokevirtual 66, 3) := by decide +kernel
theorem dX1_lightAt_26 : decode cX1_lightAt 26 = .ok (.ifCond .eq 27, 3) := by decide +kernel
theorem dX1_lightAt_29 : decode cX1_lightAt 29 = .ok (.aload_n 0, 1) := by decide +kernel
theorem dX1_lightAt_30 : decode cX1_lightAt 30 = .ok (.getfield 25, 3) := by decide +kernel
theorem dX1_lightAt_33 : decode cX1_lightAt 33 = .ok (.iload 5, 2) := by decide +kernel
theorem dX1_lightAt_35 : decode cX1_lightAt 35 = .ok (.baload, 1) := by decide +kernel
theorem dX1_lightAt_36 : decode cX1_lightAt 36 = .ok (.ifCond .eq 17, 3) := by decide +kernel
theorem dX1_lightAt_39 : decode cX1_lightAt 39 = .ok (.fload_n 3, 1) := by decide +kernel
theorem dX1_lightAt_40 : decode cX1_lightAt 40 = .ok (.aload_n 0, 1) := by decide +kernel
theorem dX1_lightAt_41 : decode cX1_lightAt 41 = .ok (.iload 5, 2) := by decide +kernel
theorem dX1_lightAt_43 : decode cX1_lightAt 43 = .ok (.iload_n 1, 1) := by decide +kernel
theorem dX1_lightAt_44 : decode cX1_lightAt 44 = .ok (.iload_n 2, 1) := by decide +kernel
theorem dX1_lightAt_45 : decode cX1_lightAt 45 = .ok (.invokestatic 96, 3) := by decide +kernel
theorem dX1_lightAt_48 : decode cX1_lightAt 48 = .ok (.invokevirtual 121, 3) := by decide +kernel
theorem dX1_lightAt_51 : decode cX1_lightAt 51 = .ok (.fadd, 1) := by decide +kernel
theorem dX1_lightAt_52 : decode cX1_lightAt 52 = .ok (.fstore_n 3, 1) := by decide +kernel
theorem dX1_lightAt_53 : decode cX1_lightAt 53 = .ok (.iinc 4 1, 3) := by decide +kernel
theorem dX1_lightAt_56 : decode cX1_lightAt 56 = .ok (.goto (-51), 3) := by decide +kernel
theorem dX1_lightAt_59 : decode cX1_lightAt 59 = .ok (.fload_n 3, 1) := by decide +kernel
theorem dX1_lightAt_60 : decode cX1_lightAt 60 = .ok (.freturn, 1) := by decide +kernel
theorem dX1_rayFrom_0 : decode cX1_rayFrom 0 = .ok (.fconst 1, 1) := by decide +kernel
theorem dX1_rayFrom_1 : decode cX1_rayFrom 1 = .ok (.fstore_n 3, 1) := by decide +kernel
theorem dX1_rayFrom_2 : decode cX1_rayFrom 2 = .ok (.iload_n 2, 1) := by decide +kernel
theorem dX1_rayFrom_3 : decode cX1_rayFrom 3 = .ok (.iload_n 1, 1) := by decide +kernel
theorem dX1_rayFrom_4 : decode cX1_rayFrom 4 = .ok (.if_icmp .lt 7, 3) := by decide +kernel
theorem dX1_rayFrom_7 : decode cX1_rayFrom 7 = .ok (.iconst 1, 1) := by decide +kernel
theorem dX1_rayFrom_8 : decode cX1_rayFrom 8 = .ok (.goto 4, 3) := by decide +kernel
theorem dX1_rayFrom_11 : decode cX1_rayFrom 11 = .ok (.iconst (-1), 1) := by decide +kernel
theorem dX1_rayFrom_12 : decode cX1_rayFrom 12 = .ok (.istore 4, 2) := by decide +kernel
theorem dX1_rayFrom_14 : decode cX1_rayFrom 14 = .ok (.iload_n 1, 1) := by decide +kernel
theorem dX1_rayFrom_15 : decode cX1_rayFrom 15 = .ok (.istore 5, 2) := by decide +kernel
theorem dX1_rayFrom_17 : decode cX1_rayFrom 17 = .ok (.iconst 0, 1) := by decide +kernel
theorem dX1_rayFrom_18 : decode cX1_rayFrom 18 = .ok (.istore 6, 2) := by decide +kernel
theorem dX1_rayFrom_20 : decode cX1_rayFrom 20 = .ok (.iload 6, 2) := by decide +kernel
theorem dX1_rayFrom_22 : decode cX1_rayFrom 22 = .ok (.bipush 8, 2) := by decide +kernel
theorem dX1_rayFrom_24 : decode cX1_rayFrom 24 = .ok (.if_icmp .ge 47, 3) := by decide +kernel
theorem dX1_rayFrom_27 : decode cX1_rayFrom 27 = .ok (.aload_n 0, 1) := by decide +kernel
theorem dX1_rayFrom_28 : decode cX1_rayFrom 28 = .ok (.iload 5, 2) := by decide +kernel
theorem dX1_rayFrom_30 : decode cX1_rayFrom 30 = .ok (.invokevirtual 66, 3) := by decide +kernel
theorem dX1_rayFrom_33 : decode cX1_rayFrom 33 = .ok (.ifCond .eq 16, 3) := by decide +kernel
theorem dX1_rayFrom_36 : decode cX1_rayFrom 36 = .ok (.fload_n 3, 1) := by decide +kernel
theorem dX1_rayFrom_37 : decode cX1_rayFrom 37 = .ok (.aload_n 0, 1) := by decide +kernel
theorem dX1_rayFrom_38 : decode cX1_rayFrom 38 = .ok (.getfield 9, 3) := by decide +kernel
theorem dX1_rayFrom_41 : decode cX1_rayFrom 41 = .ok (.iload 5, 2) := by decide +kernel
theorem dX1_rayFrom_43 : decode cX1_rayFrom 43 = .ok (.caload, 1) := by decide +kernel
theorem dX1_rayFrom_44 : decode cX1_rayFrom 44 = .ok (.invokestatic 125, 3) := by decide +kernel
theorem dX1_rayFrom_47 : decode cX1_rayFrom 47 = .ok (.fmul, 1) := by decide +kernel
theorem dX1_rayFrom_48 : decode cX1_rayFrom 48 = .ok (.fstore_n 3, 1) := by decide +kernel
theorem dX1_rayFrom_49 : decode cX1_rayFrom 49 = .ok (.iload 5, 2) := by decide +kernel
theorem dX1_rayFrom_51 : decode cX1_rayFrom 51 = .ok (.iload_n 2, 1) := by decide +kernel
theorem dX1_rayFrom_52 : decode cX1_rayFrom 52 = .ok (.if_icmp .ne 6, 3) := by decide +kernel
theorem dX1_rayFrom_55 : decode cX1_rayFrom 55 = .ok (.goto 16, 3) := by decide +kernel
theorem dX1_rayFrom_58 : decode cX1_rayFrom 58 = .ok (.iload 5, 2) := by decide +kernel
theorem dX1_rayFrom_60 : decode cX1_rayFrom 60 = .ok (.iload 4, 2) := by decide +kernel
theorem dX1_rayFrom_62 : decode cX1_rayFrom 62 = .ok (.iadd, 1) := by decide +kernel
theorem dX1_rayFrom_63 : decode cX1_rayFrom 63 = .ok (.istore 5, 2) := by decide +kernel
theorem dX1_rayFrom_65 : decode cX1_rayFrom 65 = .ok (.iinc 6 1, 3) := by decide +kernel
theorem dX1_rayFrom_68 : decode cX1_rayFrom 68 = .ok (.goto (-48), 3) := by decide +kernel
theorem dX1_rayFrom_71 : decode cX1_rayFrom 71 = .ok (.fload_n 3, 1) := by decide +kernel
theorem dX1_rayFrom_72 : decode cX1_rayFrom 72 = .ok (.freturn, 1) := by decide +kernel
theorem dX1_isOpenWith_0 : decode cX1_isOpenWith 0 = .ok (.aload_n 0, 1) := by decide +kernel
theorem dX1_isOpenWith_1 : decode cX1_isOpenWith 1 = .ok (.iload_n 1, 1) := by decide +kernel
theorem dX1_isOpenWith_2 : decode cX1_isOpenWith 2 = .ok (.iload_n 2, 1) := by decide +kernel
theorem dX1_isOpenWith_3 : decode cX1_isOpenWith 3 = .ok (.invokevirtual 99, 3) := by decide +kernel
theorem dX1_isOpenWith_6 : decode cX1_isOpenWith 6 = .ok (.iconst 0, 1) := by decide +kernel
theorem dX1_isOpenWith_7 : decode cX1_isOpenWith 7 = .ok (.istore 4, 2) := by decide +kernel
theorem dX1_isOpenWith_9 : decode cX1_isOpenWith 9 = .ok (.iconst 0, 1) := by decide +kernel
theorem dX1_isOpenWith_10 : decode cX1_isOpenWith 10 = .ok (.istore 5, 2) := by decide +kernel
theorem dX1_isOpenWith_12 : decode cX1_isOpenWith 12 = .ok (.iload 5, 2) := by decide +kernel
theorem dX1_isOpenWith_14 : decode cX1_isOpenWith 14 = .ok (.bipush 48, 2) := by decide +kernel
theorem dX1_isOpenWith_16 : decode cX1_isOpenWith 16 = .ok (.if_icmp .ge 55, 3) := by decide +kernel
theorem dX1_isOpenWith_19 : decode cX1_isOpenWith 19 = .ok (.aload_n 0, 1) := by decide +kernel
theorem dX1_isOpenWith_20 : decode cX1_isOpenWith 20 = .ok (.iload 5, 2) := by decide +kernel
theorem dX1_isOpenWith_22 : decode cX1_isOpenWith 22 = .ok (.invokevirtual 66, 3) := by decide +kernel
theorem dX1_isOpenWith_25 : decode cX1_isOpenWith 25 = .ok (.ifCond .eq 40, 3) := by decide +kernel
theorem dX1_isOpenWith_28 : decode cX1_isOpenWith 28 = .ok (.iconst 1, 1) := by decide +kernel
theorem dX1_isOpenWith_29 : decode cX1_isOpenWith 29 = .ok (.istore 4, 2) := by decide +kernel
theorem dX1_isOpenWith_31 : decode cX1_isOpenWith 31 = .ok (.aload_n 0, 1) := by decide +kernel
theorem dX1_isOpenWith_32 : decode cX1_isOpenWith 32 = .ok (.getfield 19, 3) := by decide +kernel
theorem dX1_isOpenWith_35 : decode cX1_isOpenWith 35 = .ok (.iload 5, 2) := by decide +kernel
theorem dX1_isOpenWith_37 : decode cX1_isOpenWith 37 = .ok (.iaload, 1) := by decide +kernel
theorem dX1_isOpenWith_38 : decode cX1_isOpenWith 38 = .ok (.sipush 200, 3) := by decide +kernel
theorem dX1_isOpenWith_41 : decode cX1_isOpenWith 41 = .ok (.if_icmp .ge 22, 3) := by decide +kernel
theorem dX1_isOpenWith_44 : decode cX1_isOpenWith 44 = .ok (.aload_n 0, 1) := by decide +kernel
theorem dX1_isOpenWith_45 : decode cX1_isOpenWith 45 = .ok (.getfield 32, 3) := by decide +kernel
theorem dX1_isOpenWith_48 : decode cX1_isOpenWith 48 = .ok (.iload 5, 2) := by decide +kernel
theorem dX1_isOpenWith_50 : decode cX1_isOpenWith 50 = .ok (.iaload, 1) := by decide +kernel
theorem dX1_isOpenWith_51 : decode cX1_isOpenWith 51 = .ok (.iconst 2, 1) := by decide +kernel
theorem dX1_isOpenWith_52 : decode cX1_isOpenWith 52 = .ok (.imul, 1) := by decide +kernel
theorem dX1_isOpenWith_53 : decode cX1_isOpenWith 53 = .ok (.aload_n 0, 1) := by decide +kernel
theorem dX1_isOpenWith_54 : decode cX1_isOpenWith 54 = .ok (.iload 5, 2) := by decide +kernel
theorem dX1_isOpenWith_56 : decode cX1_isOpenWith 56 = .ok (.iload_n 3, 1) := by decide +kernel
theorem dX1_isOpenWith_57 : decode cX1_isOpenWith 57 = .ok (.invokevirtual 106, 3) := by decide +kernel
theorem dX1_isOpenWith_60 : decode cX1_isOpenWith 60 = .ok (.if_icmp .le 5, 3) := by decide +kernel
theorem dX1_isOpenWith_63 : decode cX1_isOpenWith 63 = .ok (.iconst 0, 1) := by decide +kernel
theorem dX1_isOpenWith_64 : decode cX1_isOpenWith 64 = .ok (.ireturn, 1) := by decide +kernel
theorem dX1_isOpenWith_65 : decode cX1_isOpenWith 65 = .ok (.iinc 5 1, 3) := by decide +kernel
theorem dX1_isOpenWith_68 : decode cX1_isOpenWith 68 = .ok (.goto (-56), 3) := by decide +kernel
theorem dX1_isOpenWith_71 : decode cX1_isOpenWith 71 = .ok (.iload 4, 2) := by decide +kernel
theorem dX1_isOpenWith_73 : decode cX1_isOpenWith 73 = .ok (.ireturn, 1) := by decide +kernel
theorem dX1_highestPlace_0 : decode cX1_highestPlace 0 = .ok (.iconst 5, 1) := by decide +kernel
theorem dX1_highestPlace_1 : decode cX1_highestPlace 1 = .ok (.istore_n 2, 1) := by decide +kernel
theorem dX1_highestPlace_2 : decode cX1_highestPlace 2 = .ok (.iload_n 2, 1) := by decide +kernel
theorem dX1_highestPlace_3 : decode cX1_highestPlace 3 = .ok (.ifCond .lt 27, 3) := by decide +kernel
theorem dX1_highestPlace_6 : decode cX1_highestPlace 6 = .ok (.aload_n 0, 1) := by decide +kernel
theorem dX1_highestPlace_7 : decode cX1_highestPlace 7 = .ok (.iload_n 1, 1) := by decide +kernel
theorem dX1_highestPlace_8 : decode cX1_highestPlace 8 = .ok (.iload_n 2, 1) := by decide +kernel
theorem dX1_highestPlace_9 : decode cX1_highestPlace 9 = .ok (.invokestatic 96, 3) := by decide +kernel
theorem dX1_highestPlace_12 : decode cX1_highestPlace 12 = .ok (.invokevirtual 66, 3) := by decide +kernel
theorem dX1_highestPlace_15 : decode cX1_highestPlace 15 = .ok (.ifCond .eq 9, 3) := by decide +kernel
theorem dX1_highestPlace_18 : decode cX1_highestPlace 18 = .ok (.iload_n 1, 1) := by decide +kernel
theorem dX1_highestPlace_19 : decode cX1_highestPlace 19 = .ok (.iload_n 2, 1) := by decide +kernel
theorem dX1_highestPlace_20 : decode cX1_highestPlace 20 = .ok (.invokestatic 96, 3) := by decide +kernel
theorem dX1_highestPlace_23 : decode cX1_highestPlace 23 = .ok (.ireturn, 1) := by decide +kernel
theorem dX1_highestPlace_24 : decode cX1_highestPlace 24 = .ok (.iinc 2 (-1), 3) := by decide +kernel
theorem dX1_highestPlace_27 : decode cX1_highestPlace 27 = .ok (.goto (-25), 3) := by decide +kernel
theorem dX1_highestPlace_30 : decode cX1_highestPlace 30 = .ok (.iconst (-1), 1) := by decide +kernel
theorem dX1_highestPlace_31 : decode cX1_highestPlace 31 = .ok (.ireturn, 1) := by decide +kernel
theorem dX1_peopleOn_0 : decode cX1_peopleOn 0 = .ok (.iconst 0, 1) := by decide +kernel
theorem dX1_peopleOn_1 : decode cX1_peopleOn 1 = .ok (.istore_n 3, 1) := by decide +kernel
theorem dX1_peopleOn_2 : decode cX1_peopleOn 2 = .ok (.bipush 64, 2) := by decide +kernel
theorem dX1_peopleOn_4 : decode cX1_peopleOn 4 = .ok (.istore 4, 2) := by decide +kernel
theorem dX1_peopleOn_6 : decode cX1_peopleOn 6 = .ok (.iload 4, 2) := by decide +kernel
theorem dX1_peopleOn_8 : decode cX1_peopleOn 8 = .ok (.ifCond .le 42, 3) := by decide +kernel
theorem dX1_peopleOn_11 : decode cX1_peopleOn 11 = .ok (.iload_n 3, 1) := by decide +kernel
theorem dX1_peopleOn_12 : decode cX1_peopleOn 12 = .ok (.iload 4, 2) := by decide +kernel
theorem dX1_peopleOn_14 : decode cX1_peopleOn 14 = .ok (.iadd, 1) := by decide +kernel
theorem dX1_peopleOn_15 : decode cX1_peopleOn 15 = .ok (.istore 5, 2) := by decide +kernel
theorem dX1_peopleOn_17 : decode cX1_peopleOn 17 = .ok (.iload 5, 2) := by decide +kernel
theorem dX1_peopleOn_19 : decode cX1_peopleOn 19 = .ok (.bipush 99, 2) := by decide +kernel
theorem dX1_peopleOn_21 : decode cX1_peopleOn 21 = .ok (.if_icmp .gt 20, 3) := by decide +kernel
theorem dX1_peopleOn_24 : decode cX1_peopleOn 24 = .ok (.aload_n 0, 1) := by decide +kernel
theorem dX1_peopleOn_25 : decode cX1_peopleOn 25 = .ok (.iload_n 1, 1) := by decide +kernel
theorem dX1_peopleOn_26 : decode cX1_peopleOn 26 = .ok (.bipush 70, 2) := by decide +kernel
theorem dX1_peopleOn_28 : decode cX1_peopleOn 28 = .ok (.iload 5, 2) := by decide +kernel
theorem dX1_peopleOn_30 : decode cX1_peopleOn 30 = .ok (.imul, 1) := by decide +kernel
theorem dX1_peopleOn_31 : decode cX1_peopleOn 31 = .ok (.iload_n 2, 1) := by decide +kernel
theorem dX1_peopleOn_32 : decode cX1_peopleOn 32 = .ok (.invokevirtual 129, 3) := by decide +kernel
theorem dX1_peopleOn_35 : decode cX1_peopleOn 35 = .ok (.ifCond .eq 6, 3) := by decide +kernel
theorem dX1_peopleOn_38 : decode cX1_peopleOn 38 = .ok (.iload 5, 2) := by decide +kernel
theorem dX1_peopleOn_40 : decode cX1_peopleOn 40 = .ok (.istore_n 3, 1) := by decide +kernel
theorem dX1_peopleOn_41 : decode cX1_peopleOn 41 = .ok (.iload 4, 2) := by decide +kernel
theorem dX1_peopleOn_43 : decode cX1_peopleOn 43 = .ok (.iconst 2, 1) := by decide +kernel
theorem dX1_peopleOn_44 : decode cX1_peopleOn 44 = .ok (.idiv, 1) := by decide +kernel
theorem dX1_peopleOn_45 : decode cX1_peopleOn 45 = .ok (.istore 4, 2) := by decide +kernel
theorem dX1_peopleOn_47 : decode cX1_peopleOn 47 = .ok (.goto (-41), 3) := by decide +kernel
theorem dX1_peopleOn_50 : decode cX1_peopleOn 50 = .ok (.iload_n 3, 1) := by decide +kernel
theorem dX1_peopleOn_51 : decode cX1_peopleOn 51 = .ok (.ireturn, 1) := by decide +kernel
theorem dX1_bearsItself_0 : decode cX1_bearsItself 0 = .ok (.aload_n 0, 1) := by decide +kernel
theorem dX1_bearsItself_1 : decode cX1_bearsItself 1 = .ok (.iconst (-1), 1) := by decide +kernel
theorem dX1_bearsItself_2 : decode cX1_bearsItself 2 = .ok (.iconst 0, 1) := by decide +kernel
theorem dX1_bearsItself_3 : decode cX1_bearsItself 3 = .ok (.invokevirtual 99, 3) := by decide +kernel
theorem dX1_bearsItself_6 : decode cX1_bearsItself 6 = .ok (.iconst 0, 1) := by decide +kernel
theorem dX1_bearsItself_7 : decode cX1_bearsItself 7 = .ok (.istore_n 1, 1) := by decide +kernel
theorem dX1_bearsItself_8 : decode cX1_bearsItself 8 = .ok (.iconst 0, 1) := by decide +kernel
theorem dX1_bearsItself_9 : decode cX1_bearsItself 9 = .ok (.istore_n 2, 1) := by decide +kernel
theorem dX1_bearsItself_10 : decode cX1_bearsItself 10 = .ok (.iconst 0, 1) := by decide +kernel
theorem dX1_bearsItself_11 : decode cX1_bearsItself 11 = .ok (.istore_n 3, 1) := by decide +kernel
theorem dX1_bearsItself_12 : decode cX1_bearsItself 12 = .ok (.iload_n 3, 1) := by decide +kernel
theorem dX1_bearsItself_13 : decode cX1_bearsItself 13 = .ok (.bipush 48, 2) := by decide +kernel
theorem dX1_bearsItself_15 : decode cX1_bearsItself 15 = .ok (.if_icmp .ge 55, 3) := by decide +kernel
theorem dX1_bearsItself_18 : decode cX1_bearsItself 18 = .ok (.aload_n 0, 1) := by decide +kernel
theorem dX1_bearsItself_19 : decode cX1_bearsItself 19 = .ok (.iload_n 3, 1) := by decide +kernel
theorem dX1_bearsItself_20 : decode cX1_bearsItself 20 = .ok (.invokevirtual 66, 3) := by decide +kernel
theorem dX1_bearsItself_23 : decode cX1_bearsItself 23 = .ok (.ifCond .eq 41, 3) := by decide +kernel
theorem dX1_bearsItself_26 : decode cX1_bearsItself 26 = .ok (.aload_n 0, 1) := by decide +kernel
theorem dX1_bearsItself_27 : decode cX1_bearsItself 27 = .ok (.iload_n 3, 1) := by decide +kernel
theorem dX1_bearsItself_28 : decode cX1_bearsItself 28 = .ok (.invokevirtual 103, 3) := by decide +kernel
theorem dX1_bearsItself_31 : decode cX1_bearsItself 31 = .ok (.ifCond .ne 5, 3) := by decide +kernel
theorem dX1_bearsItself_34 : decode cX1_bearsItself 34 = .ok (.iconst 0, 1) := by decide +kernel
theorem dX1_bearsItself_35 : decode cX1_bearsItself 35 = .ok (.ireturn, 1) := by decide +kernel
theorem dX1_bearsItself_36 : decode cX1_bearsItself 36 = .ok (.iload_n 1, 1) := by decide +kernel
theorem dX1_bearsItself_37 : decode cX1_bearsItself 37 = .ok (.aload_n 0, 1) := by decide +kernel
theorem dX1_bearsItself_38 : decode cX1_bearsItself 38 = .ok (.getfield 15, 3) := by decide +kernel
theorem dX1_bearsItself_41 : decode cX1_bearsItself 41 = .ok (.iload_n 3, 1) := by decide +kernel
theorem dX1_bearsItself_42 : decode cX1_bearsItself 42 = .ok (.iaload, 1) := by decide +kernel
theorem dX1_bearsItself_43 : decode cX1_bearsItself 43 = .ok (.iadd, 1) := by decide +kernel
theorem dX1_bearsItself_44 : decode cX1_bearsItself 44 = .ok (.istore_n 1, 1) := by decide +kernel
theorem dX1_bearsItself_45 : decode cX1_bearsItself 45 = .ok (.iload_n 2, 1) := by decide +kernel
theorem dX1_bearsItself_46 : decode cX1_bearsItself 46 = .ok (.iload_n 3, 1) := by decide +kernel
theorem dX1_bearsItself_47 : decode cX1_bearsItself 47 = .ok (.bipush 8, 2) := by decide +kernel
theorem dX1_bearsItself_49 : decode cX1_bearsItself 49 = .ok (.if_icmp .ge 12, 3) := by decide +kernel
theorem dX1_bearsItself_52 : decode cX1_bearsItself 52 = .ok (.aload_n 0, 1) := by decide +kernel
theorem dX1_bearsItself_53 : decode cX1_bearsItself 53 = .ok (.getfield 32, 3) := by decide +kernel
theorem dX1_bearsItself_56 : decode cX1_bearsItself 56 = .ok (.iload_n 3, 1) := by decide +kernel
theorem dX1_bearsItself_57 : decode cX1_bearsItself 57 = .ok (.iaload, 1) := by decide +kernel
theorem dX1_bearsItself_58 : decode cX1_bearsItself 58 = .ok (.goto 4, 3) := by decide +kernel
theorem dX1_bearsItself_61 : decode cX1_bearsItself 61 = .ok (.iconst 0, 1) := by decide +kernel
theorem dX1_bearsItself_62 : decode cX1_bearsItself 62 = .ok (.iadd, 1) := by decide +kernel
theorem dX1_bearsItself_63 : decode cX1_bearsItself 63 = .ok (.istore_n 2, 1) := by decide +kernel
theorem dX1_bearsItself_64 : decode cX1_bearsItself 64 = .ok (.iinc 3 1, 3) := by decide +kernel
theorem dX1_bearsItself_67 : decode cX1_bearsItself 67 = .ok (.goto (-55), 3) := by decide +kernel
theorem dX1_bearsItself_70 : decode cX1_bearsItself 70 = .ok (.iload_n 1, 1) := by decide +kernel
theorem dX1_bearsItself_71 : decode cX1_bearsItself 71 = .ok (.iload_n 2, 1) := by decide +kernel
theorem dX1_bearsItself_72 : decode cX1_bearsItself 72 = .ok (.if_icmp .ne 7, 3) := by decide +kernel
theorem dX1_bearsItself_75 : decode cX1_bearsItself 75 = .ok (.iconst 1, 1) := by decide +kernel
theorem dX1_bearsItself_76 : decode cX1_bearsItself 76 = .ok (.goto 4, 3) := by decide +kernel
theorem dX1_bearsItself_79 : decode cX1_bearsItself 79 = .ok (.iconst 0, 1) := by decide +kernel
theorem dX1_bearsItself_80 : decode cX1_bearsItself 80 = .ok (.ireturn, 1) := by decide +kernel
theorem dX1_massOfKind_0 : decode cX1_massOfKind 0 = .ok (.iload_n 0, 1) := by decide +kernel
theorem dX1_massOfKind_1 : decode cX1_massOfKind 1 = .ok (.bipush 115, 2) := by decide +kernel
theorem dX1_massOfKind_3 : decode cX1_massOfKind 3 = .ok (.if_icmp .ne 7, 3) := by decide +kernel
theorem dX1_massOfKind_6 : decode cX1_massOfKind 6 = .ok (.sipush 300, 3) := by decide +kernel
theorem dX1_massOfKind_9 : decode cX1_massOfKind 9 = .ok (.ireturn, 1) := by decide +kernel
theorem dX1_massOfKind_10 : decode cX1_massOfKind 10 = .ok (.iload_n 0, 1) := by decide +kernel
theorem dX1_massOfKind_11 : decode cX1_massOfKind 11 = .ok (.bipush 105, 2) := by decide +kernel
theorem dX1_massOfKind_13 : decode cX1_massOfKind 13 = .ok (.if_icmp .ne 7, 3) := by decide +kernel
theorem dX1_massOfKind_16 : decode cX1_massOfKind 16 = .ok (.sipush 450, 3) := by decide +kernel
theorem dX1_massOfKind_19 : decode cX1_massOfKind 19 = .ok (.ireturn, 1) := by decide +kernel
theorem dX1_massOfKind_20 : decode cX1_massOfKind 20 = .ok (.iload_n 0, 1) := by decide +kernel
theorem dX1_massOfKind_21 : decode cX1_massOfKind 21 = .ok (.bipush 99, 2) := by decide +kernel
theorem dX1_massOfKind_23 : decode cX1_massOfKind 23 = .ok (.if_icmp .ne 9, 3) := by decide +kernel
theorem dX1_massOfKind_26 : decode cX1_massOfKind 26 = .ok (.sipush 500, 3) := by decide +kernel
theorem dX1_massOfKind_29 : decode cX1_massOfKind 29 = .ok (.goto 4, 3) := by decide +kernel
theorem dX1_massOfKind_32 : decode cX1_massOfKind 32 = .ok (.iconst 0, 1) := by decide +kernel
theorem dX1_massOfKind_33 : decode cX1_massOfKind 33 = .ok (.ireturn, 1) := by decide +kernel
theorem dX1_strengthOfKind_0 : decode cX1_strengthOfKind 0 = .ok (.iload_n 0, 1) := by decide +kernel
theorem dX1_strengthOfKind_1 : decode cX1_strengthOfKind 1 = .ok (.bipush 115, 2) := by decide +kernel
theorem dX1_strengthOfKind_3 : decode cX1_strengthOfKind 3 = .ok (.if_icmp .ne 7, 3) := by decide +kernel
theorem dX1_strengthOfKind_6 : decode cX1_strengthOfKind 6 = .ok (.sipush 2500, 3) := by decide +kernel
theorem dX1_strengthOfKind_9 : decode cX1_strengthOfKind 9 = .ok (.ireturn, 1) := by decide +kernel
theorem dX1_strengthOfKind_10 : decode cX1_strengthOfKind 10 = .ok (.iload_n 0, 1) := by decide +kernel
theorem dX1_strengthOfKind_11 : decode cX1_strengthOfKind 11 = .ok (.bipush 105, 2) := by decide +kernel
theorem dX1_strengthOfKind_13 : decode cX1_strengthOfKind 13 = .ok (.if_icmp .ne 9, 3) := by decide +kernel
theorem dX1_strengthOfKind_16 : decode cX1_strengthOfKind 16 = .ok (.sipush 6000, 3) := by decide +kernel
theorem dX1_strengthOfKind_19 : decode cX1_strengthOfKind 19 = .ok (.goto 6, 3) := by decide +kernel
theorem dX1_strengthOfKind_22 : decode cX1_strengthOfKind 22 = .ok (.sipush 5000, 3) := by decide +kernel
theorem dX1_strengthOfKind_25 : decode cX1_strengthOfKind 25 = .ok (.ireturn, 1) := by decide +kernel
theorem dX1_throughKind_0 : decode cX1_throughKind 0 = .ok (.iload_n 0, 1) := by decide +kernel
theorem dX1_throughKind_1 : decode cX1_throughKind 1 = .ok (.bipush 115, 2) := by decide +kernel
theorem dX1_throughKind_3 : decode cX1_throughKind 3 = .ok (.if_icmp .ne 6, 3) := by decide +kernel
theorem dX1_throughKind_6 : decode cX1_throughKind 6 = .ok (.ldc 132, 2) := by decide +kernel
theorem dX1_throughKind_8 : decode cX1_throughKind 8 = .ok (.freturn, 1) := by decide +kernel
theorem dX1_throughKind_9 : decode cX1_throughKind 9 = .ok (.iload_n 0, 1) := by decide +kernel
theorem dX1_throughKind_10 : decode cX1_throughKind 10 = .ok (.bipush 105, 2) := by decide +kernel
theorem dX1_throughKind_12 : decode cX1_throughKind 12 = .ok (.if_icmp .ne 8, 3) := by decide +kernel
theorem dX1_throughKind_15 : decode cX1_throughKind 15 = .ok (.ldc 133, 2) := by decide +kernel
theorem dX1_throughKind_17 : decode cX1_throughKind 17 = .ok (.goto 5, 3) := by decide +kernel
theorem dX1_throughKind_20 : decode cX1_throughKind 20 = .ok (.ldc 134, 2) := by decide +kernel
theorem dX1_throughKind_22 : decode cX1_throughKind 22 = .ok (.freturn, 1) := by decide +kernel
theorem dX3_hasStuffFor_0 : decode cX3_hasStuffFor 0 = .ok (.iload_n 1, 1) := by decide +kernel
theorem dX3_hasStuffFor_1 : decode cX3_hasStuffFor 1 = .ok (.bipush 115, 2) := by decide +kernel
theorem dX3_hasStuffFor_3 : decode cX3_hasStuffFor 3 = .ok (.if_icmp .ne 17, 3) := by decide +kernel
theorem dX3_hasStuffFor_6 : decode cX3_hasStuffFor 6 = .ok (.aload_n 0, 1) := by decide +kernel
theorem dX3_hasStuffFor_7 : decode cX3_hasStuffFor 7 = .ok (.getfield 42, 3) := by decide +kernel
theorem dX3_hasStuffFor_10 : decode cX3_hasStuffFor 10 = .ok (.iconst 4, 1) := by decide +kernel
theorem dX3_hasStuffFor_11 : decode cX3_hasStuffFor 11 = .ok (.if_icmp .lt 7, 3) := by decide +kernel
theorem dX3_hasStuffFor_14 : decode cX3_hasStuffFor 14 = .ok (.iconst 1, 1) := by decide +kernel
theorem dX3_hasStuffFor_15 : decode cX3_hasStuffFor 15 = .ok (.goto 4, 3) := by decide +kernel
theorem dX3_hasStuffFor_18 : decode cX3_hasStuffFor 18 = .ok (.iconst 0, 1) := by decide +kernel
theorem dX3_hasStuffFor_19 : decode cX3_hasStuffFor 19 = .ok (.ireturn, 1) := by decide +kernel
theorem dX3_hasStuffFor_20 : decode cX3_hasStuffFor 20 = .ok (.iload_n 1, 1) := by decide +kernel
theorem dX3_hasStuffFor_21 : decode cX3_hasStuffFor 21 = .ok (.bipush 99, 2) := by decide +kernel
theorem dX3_hasStuffFor_23 : decode cX3_hasStuffFor 23 = .ok (.if_icmp .ne 18, 3) := by decide +kernel
theorem dX3_hasStuffFor_26 : decode cX3_hasStuffFor 26 = .ok (.aload_n 0, 1) := by decide +kernel
theorem dX3_hasStuffFor_27 : decode cX3_hasStuffFor 27 = .ok (.getfield 36, 3) := by decide +kernel
theorem dX3_hasStuffFor_30 : decode cX3_hasStuffFor 30 = .ok (.ifCond .le 7, 3) := by decide +kernel
theorem dX3_hasStuffFor_33 : decode cX3_hasStuffFor 33 = .ok (.iconst 1, 1) := by decide +kernel
theorem dX3_hasStuffFor_34 : decode cX3_hasStuffFor 34 = .ok (.goto 19, 3) := by decide +kernel
theorem dX3_hasStuffFor_37 : decode cX3_hasStuffFor 37 = .ok (.iconst 0, 1) := by decide +kernel
theorem dX3_hasStuffFor_38 : decode cX3_hasStuffFor 38 = .ok (.goto 15, 3) := by decide +kernel
theorem dX3_hasStuffFor_41 : decode cX3_hasStuffFor 41 = .ok (.aload_n 0, 1) := by decide +kernel
theorem dX3_hasStuffFor_42 : decode cX3_hasStuffFor 42 = .ok (.getfield 39, 3) := by decide +kernel
theorem dX3_hasStuffFor_45 : decode cX3_hasStuffFor 45 = .ok (.ifCond .le 7, 3) := by decide +kernel
theorem dX3_hasStuffFor_48 : decode cX3_hasStuffFor 48 = .ok (.iconst 1, 1) := by decide +kernel
theorem dX3_hasStuffFor_49 : decode cX3_hasStuffFor 49 = .ok (.goto 4, 3) := by decide +kernel
theorem dX3_hasStuffFor_52 : decode cX3_hasStuffFor 52 = .ok (.iconst 0, 1) := by decide +kernel
theorem dX3_hasStuffFor_53 : decode cX3_hasStuffFor 53 = .ok (.ireturn, 1) := by decide +kernel
theorem dX3_useStuffFor_0 : decode cX3_useStuffFor 0 = .ok (.iload_n 1, 1) := by decide +kernel
theorem dX3_useStuffFor_1 : decode cX3_useStuffFor 1 = .ok (.bipush 115, 2) := by decide +kernel
theorem dX3_useStuffFor_3 : decode cX3_useStuffFor 3 = .ok (.if_icmp .ne 16, 3) := by decide +kernel
theorem dX3_useStuffFor_6 : decode cX3_useStuffFor 6 = .ok (.aload_n 0, 1) := by decide +kernel
theorem dX3_useStuffFor_7 : decode cX3_useStuffFor 7 = .ok (.dup, 1) := by decide +kernel
theorem dX3_useStuffFor_8 : decode cX3_useStuffFor 8 = .ok (.getfield 42, 3) := by decide +kernel
theorem dX3_useStuffFor_11 : decode cX3_useStuffFor 11 = .ok (.iconst 4, 1) := by decide +kernel
theorem dX3_useStuffFor_12 : decode cX3_useStuffFor 12 = .ok (.isub, 1) := by decide +kernel
theorem dX3_useStuffFor_13 : decode cX3_useStuffFor 13 = .ok (.putfield 42, 3) := by decide +kernel
theorem dX3_useStuffFor_16 : decode cX3_useStuffFor 16 = .ok (.goto 32, 3) := by decide +kernel
theorem dX3_useStuffFor_19 : decode cX3_useStuffFor 19 = .ok (.iload_n 1, 1) := by decide +kernel
theorem dX3_useStuffFor_20 : decode cX3_useStuffFor 20 = .ok (.bipush 99, 2) := by decide +kernel
theorem dX3_useStuffFor_22 : decode cX3_useStuffFor 22 = .ok (.if_icmp .ne 16, 3) := by decide +kernel
theorem dX3_useStuffFor_25 : decode cX3_useStuffFor 25 = .ok (.aload_n 0, 1) := by decide +kernel
theorem dX3_useStuffFor_26 : decode cX3_useStuffFor 26 = .ok (.dup, 1) := by decide +kernel
theorem dX3_useStuffFor_27 : decode cX3_useStuffFor 27 = .ok (.getfield 36, 3) := by decide +kernel
theorem dX3_useStuffFor_30 : decode cX3_useStuffFor 30 = .ok (.iconst 1, 1) := by decide +kernel
theorem dX3_useStuffFor_31 : decode cX3_useStuffFor 31 = .ok (.isub, 1) := by decide +kernel
theorem dX3_useStuffFor_32 : decode cX3_useStuffFor 32 = .ok (.putfield 36, 3) := by decide +kernel
theorem dX3_useStuffFor_35 : decode cX3_useStuffFor 35 = .ok (.goto 13, 3) := by decide +kernel
theorem dX3_useStuffFor_38 : decode cX3_useStuffFor 38 = .ok (.aload_n 0, 1) := by decide +kernel
theorem dX3_useStuffFor_39 : decode cX3_useStuffFor 39 = .ok (.dup, 1) := by decide +kernel
theorem dX3_useStuffFor_40 : decode cX3_useStuffFor 40 = .ok (.getfield 39, 3) := by decide +kernel
theorem dX3_useStuffFor_43 : decode cX3_useStuffFor 43 = .ok (.iconst 1, 1) := by decide +kernel
theorem dX3_useStuffFor_44 : decode cX3_useStuffFor 44 = .ok (.isub, 1) := by decide +kernel
theorem dX3_useStuffFor_45 : decode cX3_useStuffFor 45 = .ok (.putfield 39, 3) := by decide +kernel
theorem dX3_useStuffFor_48 : decode cX3_useStuffFor 48 = .ok (.return_, 1) := by decide +kernel
theorem dX3_letFall_0 : decode cX3_letFall 0 = .ok (.aload_n 1, 1) := by decide +kernel
theorem dX3_letFall_1 : decode cX3_letFall 1 = .ok (.aload_n 0, 1) := by decide +kernel
theorem dX3_letFall_2 : decode cX3_letFall 2 = .ok (.getfield 10, 3) := by decide +kernel
theorem dX3_letFall_5 : decode cX3_letFall 5 = .ok (.aload_n 0, 1) := by decide +kernel
theorem dX3_letFall_6 : decode cX3_letFall 6 = .ok (.getfield 33, 3) := by decide +kernel
theorem dX3_letFall_9 : decode cX3_letFall 9 = .ok (.invokevirtual 83, 3) := by decide +kernel
theorem dX3_letFall_12 : decode cX3_letFall 12 = .ok (.invokevirtual 327, 3) := by decide +kernel
theorem dX3_letFall_15 : decode cX3_letFall 15 = .ok (.istore_n 2, 1) := by decide +kernel
theorem dX3_letFall_16 : decode cX3_letFall 16 = .ok (.aload_n 0, 1) := by decide +kernel
theorem dX3_letFall_17 : decode cX3_letFall 17 = .ok (.dup, 1) := by decide +kernel
theorem dX3_letFall_18 : decode cX3_letFall 18 = .ok (.getfield 49, 3) := by decide +kernel
theorem dX3_letFall_21 : decode cX3_letFall 21 = .ok (.sipush 200, 3) := by decide +kernel
theorem dX3_letFall_24 : decode cX3_letFall 24 = .ok (.iload_n 2, 1) := by decide +kernel
theorem dX3_letFall_25 : decode cX3_letFall 25 = .ok (.imul, 1) := by decide +kernel
theorem dX3_letFall_26 : decode cX3_letFall 26 = .ok (.isub, 1) := by decide +kernel
theorem dX3_letFall_27 : decode cX3_letFall 27 = .ok (.putfield 49, 3) := by decide +kernel
theorem dX3_letFall_30 : decode cX3_letFall 30 = .ok (.iload_n 2, 1) := by decide +kernel
theorem dX3_letFall_31 : decode cX3_letFall 31 = .ok (.ireturn, 1) := by decide +kernel
theorem dX3_bitsOfFloat_0 : decode cX3_bitsOfFloat 0 = .ok (.fload_n 0, 1) := by decide +kernel
theorem dX3_bitsOfFloat_1 : decode cX3_bitsOfFloat 1 = .ok (.fconst 0, 1) := by decide +kernel
theorem dX3_bitsOfFloat_2 : decode cX3_bitsOfFloat 2 = .ok (.fcmp .l, 1) := by decide +kernel
theorem dX3_bitsOfFloat_3 : decode cX3_bitsOfFloat 3 = .ok (.ifCond .gt 5, 3) := by decide +kernel
theorem dX3_bitsOfFloat_6 : decode cX3_bitsOfFloat 6 = .ok (.iconst 0, 1) := by decide +kernel
theorem dX3_bitsOfFloat_7 : decode cX3_bitsOfFloat 7 = .ok (.ireturn, 1) := by decide +kernel
theorem dX3_bitsOfFloat_8 : decode cX3_bitsOfFloat 8 = .ok (.fload_n 0, 1) := by decide +kernel
theorem dX3_bitsOfFloat_9 : decode cX3_bitsOfFloat 9 = .ok (.fstore_n 1, 1) := by decide +kernel
theorem dX3_bitsOfFloat_10 : decode cX3_bitsOfFloat 10 = .ok (.bipush 127, 2) := by decide +kernel
theorem dX3_bitsOfFloat_12 : decode cX3_bitsOfFloat 12 = .ok (.istore_n 2, 1) := by decide +kernel
theorem dX3_bitsOfFloat_13 : decode cX3_bitsOfFloat 13 = .ok (.iconst 0, 1) := by decide +kernel
theorem dX3_bitsOfFloat_14 : decode cX3_bitsOfFloat 14 = .ok (.istore_n 3, 1) := by decide +kernel
theorem dX3_bitsOfFloat_15 : decode cX3_bitsOfFloat 15 = .ok (.iload_n 3, 1) := by decide +kernel
theorem dX3_bitsOfFloat_16 : decode cX3_bitsOfFloat 16 = .ok (.bipush 127, 2) := by decide +kernel
theorem dX3_bitsOfFloat_18 : decode cX3_bitsOfFloat 18 = .ok (.if_icmp .ge 22, 3) := by decide +kernel
theorem dX3_bitsOfFloat_21 : decode cX3_bitsOfFloat 21 = .ok (.fload_n 1, 1) := by decide +kernel
theorem dX3_bitsOfFloat_22 : decode cX3_bitsOfFloat 22 = .ok (.fconst 2, 1) := by decide +kernel
theorem dX3_bitsOfFloat_23 : decode cX3_bitsOfFloat 23 = .ok (.fcmp .l, 1) := by decide +kernel
theorem dX3_bitsOfFloat_24 : decode cX3_bitsOfFloat 24 = .ok (.ifCond .lt 16, 3) := by decide +kernel
theorem dX3_bitsOfFloat_27 : decode cX3_bitsOfFloat 27 = .ok (.fload_n 1, 1) := by decide +kernel
theorem dX3_bitsOfFloat_28 : decode cX3_bitsOfFloat 28 = .ok (.fconst 2, 1) := by decide +kernel
theorem dX3_bitsOfFloat_29 : decode cX3_bitsOfFloat 29 = .ok (.fdiv, 1) := by decide +kernel
theorem dX3_bitsOfFloat_30 : decode cX3_bitsOfFloat 30 = .ok (.fstore_n 1, 1) := by decide +kernel
theorem dX3_bitsOfFloat_31 : decode cX3_bitsOfFloat 31 = .ok (.iinc 2 1, 3) := by decide +kernel
theorem dX3_bitsOfFloat_34 : decode cX3_bitsOfFloat 34 = .ok (.iinc 3 1, 3) := by decide +kernel
theorem dX3_bitsOfFloat_37 : decode cX3_bitsOfFloat 37 = .ok (.goto (-22), 3) := by decide +kernel
theorem dX3_bitsOfFloat_40 : decode cX3_bitsOfFloat 40 = .ok (.iconst 0, 1) := by decide +kernel
theorem dX3_bitsOfFloat_41 : decode cX3_bitsOfFloat 41 = .ok (.istore_n 3, 1) := by decide +kernel
theorem dX3_bitsOfFloat_42 : decode cX3_bitsOfFloat 42 = .ok (.iload_n 3, 1) := by decide +kernel
theorem dX3_bitsOfFloat_43 : decode cX3_bitsOfFloat 43 = .ok (.bipush 126, 2) := by decide +kernel
theorem dX3_bitsOfFloat_45 : decode cX3_bitsOfFloat 45 = .ok (.if_icmp .ge 22, 3) := by decide +kernel
theorem dX3_bitsOfFloat_48 : decode cX3_bitsOfFloat 48 = .ok (.fload_n 1, 1) := by decide +kernel
theorem dX3_bitsOfFloat_49 : decode cX3_bitsOfFloat 49 = .ok (.fconst 1, 1) := by decide +kernel
theorem dX3_bitsOfFloat_50 : decode cX3_bitsOfFloat 50 = .ok (.fcmp .g, 1) := by decide +kernel
theorem dX3_bitsOfFloat_51 : decode cX3_bitsOfFloat 51 = .ok (.ifCond .ge 16, 3) := by decide +kernel
theorem dX3_bitsOfFloat_54 : decode cX3_bitsOfFloat 54 = .ok (.fload_n 1, 1) := by decide +kernel
theorem dX3_bitsOfFloat_55 : decode cX3_bitsOfFloat 55 = .ok (.fconst 2, 1) := by decide +kernel
theorem dX3_bitsOfFloat_56 : decode cX3_bitsOfFloat 56 = .ok (.fmul, 1) := by decide +kernel
theorem dX3_bitsOfFloat_57 : decode cX3_bitsOfFloat 57 = .ok (.fstore_n 1, 1) := by decide +kernel
theorem dX3_bitsOfFloat_58 : decode cX3_bitsOfFloat 58 = .ok (.iinc 2 (-1), 3) := by decide +kernel
theorem dX3_bitsOfFloat_61 : decode cX3_bitsOfFloat 61 = .ok (.iinc 3 1, 3) := by decide +kernel
theorem dX3_bitsOfFloat_64 : decode cX3_bitsOfFloat 64 = .ok (.goto (-22), 3) := by decide +kernel
theorem dX3_bitsOfFloat_67 : decode cX3_bitsOfFloat 67 = .ok (.iload_n 2, 1) := by decide +kernel
theorem dX3_bitsOfFloat_68 : decode cX3_bitsOfFloat 68 = .ok (.bipush 23, 2) := by decide +kernel
theorem dX3_bitsOfFloat_70 : decode cX3_bitsOfFloat 70 = .ok (.ishl, 1) := by decide +kernel
theorem dX3_bitsOfFloat_71 : decode cX3_bitsOfFloat 71 = .ok (.fload_n 1, 1) := by decide +kernel
theorem dX3_bitsOfFloat_72 : decode cX3_bitsOfFloat 72 = .ok (.fconst 1, 1) := by decide +kernel
theorem dX3_bitsOfFloat_73 : decode cX3_bitsOfFloat 73 = .ok (.fsub, 1) := by decide +kernel
theorem dX3_bitsOfFloat_74 : decode cX3_bitsOfFloat 74 = .ok (.ldc_w 342, 3) := by decide +kernel
theorem dX3_bitsOfFloat_77 : decode cX3_bitsOfFloat 77 = .ok (.fmul, 1) := by decide +kernel
theorem dX3_bitsOfFloat_78 : decode cX3_bitsOfFloat 78 = .ok (.f2i, 1) := by decide +kernel
theorem dX3_bitsOfFloat_79 : decode cX3_bitsOfFloat 79 = .ok (.iadd, 1) := by decide +kernel
theorem dX3_bitsOfFloat_80 : decode cX3_bitsOfFloat 80 = .ok (.ireturn, 1) := by decide +kernel
theorem dX4_init_0 : decode cX4_init 0 = .ok (.aload_n 0, 1) := by decide +kernel
theorem dX4_init_1 : decode cX4_init 1 = .ok (.invokespecial 1, 3) := by decide +kernel
theorem dX4_init_4 : decode cX4_init 4 = .ok (.aload_n 0, 1) := by decide +kernel
theorem dX4_init_5 : decode cX4_init 5 = .ok (.iload_n 1, 1) := by decide +kernel
theorem dX4_init_6 : decode cX4_init 6 = .ok (.putfield 7, 3) := by decide +kernel
theorem dX4_init_9 : decode cX4_init 9 = .ok (.aload_n 0, 1) := by decide +kernel
theorem dX4_init_10 : decode cX4_init 10 = .ok (.iload_n 1, 1) := by decide +kernel
theorem dX4_init_11 : decode cX4_init 11 = .ok (.bipush 115, 2) := by decide +kernel
theorem dX4_init_13 : decode cX4_init 13 = .ok (.if_icmp .ne 9, 3) := by decide +kernel
theorem dX4_init_16 : decode cX4_init 16 = .ok (.sipush 300, 3) := by decide +kernel
theorem dX4_init_19 : decode cX4_init 19 = .ok (.goto 18, 3) := by decide +kernel
theorem dX4_init_22 : decode cX4_init 22 = .ok (.iload_n 1, 1) := by decide +kernel
theorem dX4_init_23 : decode cX4_init 23 = .ok (.bipush 105, 2) := by decide +kernel
theorem dX4_init_25 : decode cX4_init 25 = .ok (.if_icmp .ne 9, 3) := by decide +kernel
theorem dX4_init_28 : decode cX4_init 28 = .ok (.sipush 450, 3) := by decide +kernel
theorem dX4_init_31 : decode cX4_init 31 = .ok (.goto 6, 3) := by decide +kernel
theorem dX4_init_34 : decode cX4_init 34 = .ok (.sipush 500, 3) := by decide +kernel
theorem dX4_init_37 : decode cX4_init 37 = .ok (.putfield 13, 3) := by decide +kernel
theorem dX4_init_40 : decode cX4_init 40 = .ok (.return_, 1) := by decide +kernel
theorem dX4_lets_0 : decode cX4_lets 0 = .ok (.aload_n 0, 1) := by decide +kernel
theorem dX4_lets_1 : decode cX4_lets 1 = .ok (.getfield 7, 3) := by decide +kernel
theorem dX4_lets_4 : decode cX4_lets 4 = .ok (.bipush 115, 2) := by decide +kernel
theorem dX4_lets_6 : decode cX4_lets 6 = .ok (.if_icmp .ne 8, 3) := by decide +kernel
theorem dX4_lets_9 : decode cX4_lets 9 = .ok (.ldc 17, 2) := by decide +kernel
theorem dX4_lets_11 : decode cX4_lets 11 = .ok (.goto 19, 3) := by decide +kernel
theorem dX4_lets_14 : decode cX4_lets 14 = .ok (.aload_n 0, 1) := by decide +kernel
theorem dX4_lets_15 : decode cX4_lets 15 = .ok (.getfield 7, 3) := by decide +kernel
theorem dX4_lets_18 : decode cX4_lets 18 = .ok (.bipush 105, 2) := by decide +kernel
theorem dX4_lets_20 : decode cX4_lets 20 = .ok (.if_icmp .ne 8, 3) := by decide +kernel
theorem dX4_lets_23 : decode cX4_lets 23 = .ok (.ldc 18, 2) := by decide +kernel
theorem dX4_lets_25 : decode cX4_lets 25 = .ok (.goto 5, 3) := by decide +kernel
theorem dX4_lets_28 : decode cX4_lets 28 = .ok (.ldc 19, 2) := by decide +kernel
theorem dX4_lets_30 : decode cX4_lets 30 = .ok (.freturn, 1) := by decide +kernel
theorem dX5_has_0 : decode cX5_has 0 = .ok (.iload_n 1, 1) := by decide +kernel
theorem dX5_has_1 : decode cX5_has 1 = .ok (.i2l, 1) := by decide +kernel
theorem dX5_has_2 : decode cX5_has 2 = .ok (.lconst 0, 1) := by decide +kernel
theorem dX5_has_3 : decode cX5_has 3 = .ok (.ldc2_w 29, 3) := by decide +kernel
theorem dX5_has_6 : decode cX5_has 6 = .ok (.invokestatic 31, 3) := by decide +kernel
theorem dX5_has_9 : decode cX5_has 9 = .ok (.ifCond .eq 30, 3) := by decide +kernel
theorem dX5_has_12 : decode cX5_has 12 = .ok (.iload_n 2, 1) := by decide +kernel
theorem dX5_has_13 : decode cX5_has 13 = .ok (.i2l, 1) := by decide +kernel
theorem dX5_has_14 : decode cX5_has 14 = .ok (.lconst 0, 1) := by decide +kernel
theorem dX5_has_15 : decode cX5_has 15 = .ok (.ldc2_w 35, 3) := by decide +kernel
theorem dX5_has_18 : decode cX5_has 18 = .ok (.invokestatic 31, 3) := by decide +kernel
theorem dX5_has_21 : decode cX5_has 21 = .ok (.ifCond .eq 18, 3) := by decide +kernel
theorem dX5_has_24 : decode cX5_has 24 = .ok (.aload_n 0, 1) := by decide +kernel
theorem dX5_has_25 : decode cX5_has 25 = .ok (.getfield 17, 3) := by decide +kernel
theorem dX5_has_28 : decode cX5_has 28 = .ok (.iload_n 2, 1) := by decide +kernel
theorem dX5_has_29 : decode cX5_has 29 = .ok (.aaload, 1) := by decide +kernel
theorem dX5_has_30 : decode cX5_has 30 = .ok (.iload_n 1, 1) := by decide +kernel
theorem dX5_has_31 : decode cX5_has 31 = .ok (.aaload, 1) := by decide +kernel
theorem dX5_has_32 : decode cX5_has 32 = .ok (.ifnull 7, 3) := by decide +kernel
theorem dX5_has_35 : decode cX5_has 35 = .ok (.iconst 1, 1) := by decide +kernel
theorem dX5_has_36 : decode cX5_has 36 = .ok (.goto 4, 3) := by decide +kernel
theorem dX5_has_39 : decode cX5_has 39 = .ok (.iconst 0, 1) := by decide +kernel
theorem dX5_has_40 : decode cX5_has 40 = .ok (.ireturn, 1) := by decide +kernel
theorem dX5_isBorne_0 : decode cX5_isBorne 0 = .ok (.aload_n 0, 1) := by decide +kernel
theorem dX5_isBorne_1 : decode cX5_isBorne 1 = .ok (.iload_n 1, 1) := by decide +kernel
theorem dX5_isBorne_2 : decode cX5_isBorne 2 = .ok (.iload_n 2, 1) := by decide +kernel
theorem dX5_isBorne_3 : decode cX5_isBorne 3 = .ok (.invokevirtual 37, 3) := by decide +kernel
theorem dX5_isBorne_6 : decode cX5_isBorne 6 = .ok (.ifCond .eq 22, 3) := by decide +kernel
theorem dX5_isBorne_9 : decode cX5_isBorne 9 = .ok (.iload_n 2, 1) := by decide +kernel
theorem dX5_isBorne_10 : decode cX5_isBorne 10 = .ok (.ifCond .eq 14, 3) := by decide +kernel
theorem dX5_isBorne_13 : decode cX5_isBorne 13 = .ok (.aload_n 0, 1) := by decide +kernel
theorem dX5_isBorne_14 : decode cX5_isBorne 14 = .ok (.iload_n 1, 1) := by decide +kernel
theorem dX5_isBorne_15 : decode cX5_isBorne 15 = .ok (.iload_n 2, 1) := by decide +kernel
theorem dX5_isBorne_16 : decode cX5_isBorne 16 = .ok (.iconst 1, 1) := by decide +kernel
theorem dX5_isBorne_17 : decode cX5_isBorne 17 = .ok (.isub, 1) := by decide +kernel
theorem dX5_isBorne_18 : decode cX5_isBorne 18 = .ok (.invokevirtual 37, 3) := by decide +kernel
theorem dX5_isBorne_21 : decode cX5_isBorne 21 = .ok (.ifCond .eq 7, 3) := by decide +kernel
theorem dX5_isBorne_24 : decode cX5_isBorne 24 = .ok (.iconst 1, 1) := by decide +kernel
theorem dX5_isBorne_25 : decode cX5_isBorne 25 = .ok (.goto 4, 3) := by decide +kernel
theorem dX5_isBorne_28 : decode cX5_isBorne 28 = .ok (.iconst 0, 1) := by decide +kernel
theorem dX5_isBorne_29 : decode cX5_isBorne 29 = .ok (.ireturn, 1) := by decide +kernel
theorem dX5_isArch_0 : decode cX5_isArch 0 = .ok (.iload_n 2, 1) := by decide +kernel
theorem dX5_isArch_1 : decode cX5_isArch 1 = .ok (.ifCond .le 40, 3) := by decide +kernel
theorem dX5_isArch_4 : decode cX5_isArch 4 = .ok (.aload_n 0, 1) := by decide +kernel
theorem dX5_isArch_5 : decode cX5_isArch 5 = .ok (.iload_n 1, 1) := by decide +kernel
theorem dX5_isArch_6 : decode cX5_isArch 6 = .ok (.iload_n 2, 1) := by decide +kernel
theorem dX5_isArch_7 : decode cX5_isArch 7 = .ok (.iconst 1, 1) := by decide +kernel
theorem dX5_isArch_8 : decode cX5_isArch 8 = .ok (.isub, 1) := by decide +kernel
theorem dX5_isArch_9 : decode cX5_isArch 9 = .ok (.invokevirtual 37, 3) := by decide +kernel
theorem dX5_isArch_12 : decode cX5_isArch 12 = .ok (.ifCond .ne 29, 3) := by decide +kernel
theorem dX5_isArch_15 : decode cX5_isArch 15 = .ok (.aload_n 0, 1) := by decide +kernel
theorem dX5_isArch_16 : decode cX5_isArch 16 = .ok (.iload_n 1, 1) := by decide +kernel
theorem dX5_isArch_17 : decode cX5_isArch 17 = .ok (.iconst 1, 1) := by decide +kernel
theorem dX5_isArch_18 : decode cX5_isArch 18 = .ok (.isub, 1) := by decide +kernel
theorem dX5_isArch_19 : decode cX5_isArch 19 = .ok (.iload_n 2, 1) := by decide +kernel
theorem dX5_isArch_20 : decode cX5_isArch 20 = .ok (.invokevirtual 41, 3) := by decide +kernel
theorem dX5_isArch_23 : decode cX5_isArch 23 = .ok (.ifCond .eq 18, 3) := by decide +kernel
theorem dX5_isArch_26 : decode cX5_isArch 26 = .ok (.aload_n 0, 1) := by decide +kernel
theorem dX5_isArch_27 : decode cX5_isArch 27 = .ok (.iload_n 1, 1) := by decide +kernel
theorem dX5_isArch_28 : decode cX5_isArch 28 = .ok (.iconst 1, 1) := by decide +kernel
theorem dX5_isArch_29 : decode cX5_isArch 29 = .ok (.iadd, 1) := by decide +kernel
theorem dX5_isArch_30 : decode cX5_isArch 30 = .ok (.iload_n 2, 1) := by decide +kernel
theorem dX5_isArch_31 : decode cX5_isArch 31 = .ok (.invokevirtual 41, 3) := by decide +kernel
theorem dX5_isArch_34 : decode cX5_isArch 34 = .ok (.ifCond .eq 7, 3) := by decide +kernel
theorem dX5_isArch_37 : decode cX5_isArch 37 = .ok (.iconst 1, 1) := by decide +kernel
theorem dX5_isArch_38 : decode cX5_isArch 38 = .ok (.goto 4, 3) := by decide +kernel
theorem dX5_isArch_41 : decode cX5_isArch 41 = .ok (.iconst 0, 1) := by decide +kernel
theorem dX5_isArch_42 : decode cX5_isArch 42 = .ok (.ireturn, 1) := by decide +kernel
theorem dX5_stands_0 : decode cX5_stands 0 = .ok (.iload_n 2, 1) := by decide +kernel
theorem dX5_stands_1 : decode cX5_stands 1 = .ok (.ifCond .eq 23, 3) := by decide +kernel
theorem dX5_stands_4 : decode cX5_stands 4 = .ok (.aload_n 0, 1) := by decide +kernel
theorem dX5_stands_5 : decode cX5_stands 5 = .ok (.iload_n 1, 1) := by decide +kernel
theorem dX5_stands_6 : decode cX5_stands 6 = .ok (.iload_n 2, 1) := by decide +kernel
theorem dX5_stands_7 : decode cX5_stands 7 = .ok (.iconst 1, 1) := by decide +kernel
theorem dX5_stands_8 : decode cX5_stands 8 = .ok (.isub, 1) := by decide +kernel
theorem dX5_stands_9 : decode cX5_stands 9 = .ok (.invokevirtual 37, 3) := by decide +kernel
theorem dX5_stands_12 : decode cX5_stands 12 = .ok (.ifCond .ne 12, 3) := by decide +kernel
theorem dX5_stands_15 : decode cX5_stands 15 = .ok (.aload_n 0, 1) := by decide +kernel
theorem dX5_stands_16 : decode cX5_stands 16 = .ok (.iload_n 1, 1) := by decide +kernel
theorem dX5_stands_17 : decode cX5_stands 17 = .ok (.iload_n 2, 1) := by decide +kernel
theorem dX5_stands_18 : decode cX5_stands 18 = .ok (.invokevirtual 44, 3) := by decide +kernel
theorem dX5_stands_21 : decode cX5_stands 21 = .ok (.ifCond .eq 7, 3) := by decide +kernel
theorem dX5_stands_24 : decode cX5_stands 24 = .ok (.iconst 1, 1) := by decide +kernel
theorem dX5_stands_25 : decode cX5_stands 25 = .ok (.goto 4, 3) := by decide +kernel
theorem dX5_stands_28 : decode cX5_stands 28 = .ok (.iconst 0, 1) := by decide +kernel
theorem dX5_stands_29 : decode cX5_stands 29 = .ok (.ireturn, 1) := by decide +kernel
theorem dX5_loads_0 : decode cX5_loads 0 = .ok (.bipush 6, 2) := by decide +kernel
theorem dX5_loads_2 : decode cX5_loads 2 = .ok (.bipush 8, 2) := by decide +kernel
theorem dX5_loads_4 : decode cX5_loads 4 = .ok (.multianewarray 47 2, 4) := by decide +kernel
theorem dX5_loads_8 : decode cX5_loads 8 = .ok (.astore_n 3, 1) := by decide +kernel
theorem dX5_loads_9 : decode cX5_loads 9 = .ok (.iconst 5, 1) := by decide +kernel
theorem dX5_loads_10 : decode cX5_loads 10 = .ok (.istore 4, 2) := by decide +kernel
theorem dX5_loads_12 : decode cX5_loads 12 = .ok (.iload 4, 2) := by decide +kernel
theorem dX5_loads_14 : decode cX5_loads 14 = .ok (.ifCond .lt 218, 3) := by decide +kernel
theorem dX5_loads_17 : decode cX5_loads 17 = .ok (.iconst 0, 1) := by decide +kernel
theorem dX5_loads_18 : decode cX5_loads 18 = .ok (.istore 5, 2) := by decide +kernel
theorem dX5_loads_20 : decode cX5_loads 20 = .ok (.iload 5, 2) := by decide +kernel
theorem dX5_loads_22 : decode cX5_loads 22 = .ok (.bipush 8, 2) := by decide +kernel
theorem dX5_loads_24 : decode cX5_loads 24 = .ok (.if_icmp .ge 111, 3) := by decide +kernel
theorem dX5_loads_27 : decode cX5_loads 27 = .ok (.aload_n 0, 1) := by decide +kernel
theorem dX5_loads_28 : decode cX5_loads 28 = .ok (.iload 5, 2) := by decide +kernel
theorem dX5_loads_30 : decode cX5_loads 30 = .ok (.iload 4, 2) := by decide +kernel
theorem dX5_loads_32 : decode cX5_loads 32 = .ok (.invokevirtual 37, 3) := by decide +kernel
theorem dX5_loads_35 : decode cX5_loads 35 = .ok (.ifCond .ne 6, 3) := by decide +kernel
theorem dX5_loads_38 : decode cX5_loads 38 = .ok (.goto 91, 3) := by decide +kernel
theorem dX5_loads_41 : decode cX5_loads 41 = .ok (.iload 5, 2) := by decide +kernel
theorem dX5_loads_43 : decode cX5_loads 43 = .ok (.iload_n 1, 1) := by decide +kernel
