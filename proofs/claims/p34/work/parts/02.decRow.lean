theorem dX0_init_0 : decode cX0_init 0 = .ok (.aload_n 0, 1) := by decide +kernel
theorem dX0_init_1 : decode cX0_init 1 = .ok (.invokespecial 1, 3) := by decide +kernel
theorem dX0_init_4 : decode cX0_init 4 = .ok (.return_, 1) := by decide +kernel
theorem dX0_describeStore_0 : decode cX0_describeStore 0 = .ok (.aload_n 0, 1) := by decide +kernel
theorem dX0_describeStore_1 : decode cX0_describeStore 1 = .ok (.iload_n 1, 1) := by decide +kernel
theorem dX0_describeStore_2 : decode cX0_describeStore 2 = .ok (.putfield 7, 3) := by decide +kernel
theorem dX0_describeStore_5 : decode cX0_describeStore 5 = .ok (.aload_n 0, 1) := by decide +kernel
theorem dX0_describeStore_6 : decode cX0_describeStore 6 = .ok (.iload_n 2, 1) := by decide +kernel
theorem dX0_describeStore_7 : decode cX0_describeStore 7 = .ok (.putfield 13, 3) := by decide +kernel
theorem dX0_describeStore_10 : decode cX0_describeStore 10 = .ok (.aload_n 0, 1) := by decide +kernel
theorem dX0_describeStore_11 : decode cX0_describeStore 11 = .ok (.iload_n 3, 1) := by decide +kernel
theorem dX0_describeStore_12 : decode cX0_describeStore 12 = .ok (.putfield 16, 3) := by decide +kernel
theorem dX0_describeStore_15 : decode cX0_describeStore 15 = .ok (.return_, 1) := by decide +kernel
theorem dX0_changed_0 : decode cX0_changed 0 = .ok (.aload_n 0, 1) := by decide +kernel
theorem dX0_changed_1 : decode cX0_changed 1 = .ok (.getfield 7, 3) := by decide +kernel
theorem dX0_changed_4 : decode cX0_changed 4 = .ok (.iload_n 1, 1) := by decide +kernel
theorem dX0_changed_5 : decode cX0_changed 5 = .ok (.if_icmp .ne 18, 3) := by decide +kernel
theorem dX0_changed_8 : decode cX0_changed 8 = .ok (.aload_n 0, 1) := by decide +kernel
theorem dX0_changed_9 : decode cX0_changed 9 = .ok (.getfield 13, 3) := by decide +kernel
theorem dX0_changed_12 : decode cX0_changed 12 = .ok (.aload_n 0, 1) := by decide +kernel
theorem dX0_changed_13 : decode cX0_changed 13 = .ok (.getfield 16, 3) := by decide +kernel
theorem dX0_changed_16 : decode cX0_changed 16 = .ok (.if_icmp .eq 7, 3) := by decide +kernel
theorem dX0_changed_19 : decode cX0_changed 19 = .ok (.iconst 1, 1) := by decide +kernel
theorem dX0_changed_20 : decode cX0_changed 20 = .ok (.goto 4, 3) := by decide +kernel
theorem dX0_changed_23 : decode cX0_changed 23 = .ok (.iconst 0, 1) := by decide +kernel
theorem dX0_changed_24 : decode cX0_changed 24 = .ok (.ireturn, 1) := by decide +kernel
theorem dX0_tellOf_0 : decode cX0_tellOf 0 = .ok (.iload_n 1, 1) := by decide +kernel
theorem dX0_tellOf_1 : decode cX0_tellOf 1 = .ok (.tableswitch 42 0 2 #[27, 32, 37], 27) := by decide +kernel
theorem dX0_tellOf_28 : decode cX0_tellOf 28 = .ok (.aload_n 0, 1) := by decide +kernel
theorem dX0_tellOf_29 : decode cX0_tellOf 29 = .ok (.getfield 19, 3) := by decide +kernel
theorem dX0_tellOf_32 : decode cX0_tellOf 32 = .ok (.ireturn, 1) := by decide +kernel
theorem dX0_tellOf_33 : decode cX0_tellOf 33 = .ok (.aload_n 0, 1) := by decide +kernel
theorem dX0_tellOf_34 : decode cX0_tellOf 34 = .ok (.getfield 22, 3) := by decide +kernel
theorem dX0_tellOf_37 : decode cX0_tellOf 37 = .ok (.ireturn, 1) := by decide +kernel
theorem dX0_tellOf_38 : decode cX0_tellOf 38 = .ok (.aload_n 0, 1) := by decide +kernel
theorem dX0_tellOf_39 : decode cX0_tellOf 39 = .ok (.getfield 25, 3) := by decide +kernel
theorem dX0_tellOf_42 : decode cX0_tellOf 42 = .ok (.ireturn, 1) := by decide +kernel
theorem dX0_tellOf_43 : decode cX0_tellOf 43 = .ok (.aload_n 0, 1) := by decide +kernel
theorem dX0_tellOf_44 : decode cX0_tellOf 44 = .ok (.getfield 28, 3) := by decide +kernel
theorem dX0_tellOf_47 : decode cX0_tellOf 47 = .ok (.ireturn, 1) := by decide +kernel
theorem dX1_init_0 : decode cX1_init 0 = .ok (.aload_n 0, 1) := by decide +kernel
theorem dX1_init_1 : decode cX1_init 1 = .ok (.invokespecial 3, 3) := by decide +kernel
theorem dX1_init_4 : decode cX1_init 4 = .ok (.aload_n 0, 1) := by decide +kernel
theorem dX1_init_5 : decode cX1_init 5 = .ok (.sipush 200, 3) := by decide +kernel
theorem dX1_init_8 : decode cX1_init 8 = .ok (.anewarray 9, 3) := by decide +kernel
theorem dX1_init_11 : decode cX1_init 11 = .ok (.putfield 11, 3) := by decide +kernel
theorem dX1_init_14 : decode cX1_init 14 = .ok (.iconst 0, 1) := by decide +kernel
theorem dX1_init_15 : decode cX1_init 15 = .ok (.istore_n 1, 1) := by decide +kernel
theorem dX1_init_16 : decode cX1_init 16 = .ok (.iload_n 1, 1) := by decide +kernel
theorem dX1_init_17 : decode cX1_init 17 = .ok (.aload_n 0, 1) := by decide +kernel
theorem dX1_init_18 : decode cX1_init 18 = .ok (.getfield 11, 3) := by decide +kernel
theorem dX1_init_21 : decode cX1_init 21 = .ok (.arraylength, 1) := by decide +kernel
theorem dX1_init_22 : decode cX1_init 22 = .ok (.if_icmp .ge 22, 3) := by decide +kernel
theorem dX1_init_25 : decode cX1_init 25 = .ok (.aload_n 0, 1) := by decide +kernel
theorem dX1_init_26 : decode cX1_init 26 = .ok (.getfield 11, 3) := by decide +kernel
theorem dX1_init_29 : decode cX1_init 29 = .ok (.iload_n 1, 1) := by decide +kernel
theorem dX1_init_30 : decode cX1_init 30 = .ok (.new 9, 3) := by decide +kernel
theorem dX1_init_33 : decode cX1_init 33 = .ok (.dup, 1) := by decide +kernel
theorem dX1_init_34 : decode cX1_init 34 = .ok (.invokespecial 17, 3) := by decide +kernel
theorem dX1_init_37 : decode cX1_init 37 = .ok (.aastore, 1) := by decide +kernel
theorem dX1_init_38 : decode cX1_init 38 = .ok (.iinc 1 1, 3) := by decide +kernel
theorem dX1_init_41 : decode cX1_init 41 = .ok (.goto (-25), 3) := by decide +kernel
theorem dX1_init_44 : decode cX1_init 44 = .ok (.return_, 1) := by decide +kernel
theorem dX1_size_0 : decode cX1_size 0 = .ok (.aload_n 0, 1) := by decide +kernel
theorem dX1_size_1 : decode cX1_size 1 = .ok (.getfield 18, 3) := by decide +kernel
theorem dX1_size_4 : decode cX1_size 4 = .ok (.ireturn, 1) := by decide +kernel
theorem dX1_clear_0 : decode cX1_clear 0 = .ok (.aload_n 0, 1) := by decide +kernel
theorem dX1_clear_1 : decode cX1_clear 1 = .ok (.iconst 0, 1) := by decide +kernel
theorem dX1_clear_2 : decode cX1_clear 2 = .ok (.putfield 22, 3) := by decide +kernel
theorem dX1_clear_5 : decode cX1_clear 5 = .ok (.aload_n 0, 1) := by decide +kernel
theorem dX1_clear_6 : decode cX1_clear 6 = .ok (.iconst 0, 1) := by decide +kernel
theorem dX1_clear_7 : decode cX1_clear 7 = .ok (.putfield 18, 3) := by decide +kernel
theorem dX1_clear_10 : decode cX1_clear 10 = .ok (.return_, 1) := by decide +kernel
theorem dX1_newest_0 : decode cX1_newest 0 = .ok (.aload_n 0, 1) := by decide +kernel
theorem dX1_newest_1 : decode cX1_newest 1 = .ok (.getfield 18, 3) := by decide +kernel
theorem dX1_newest_4 : decode cX1_newest 4 = .ok (.sipush 200, 3) := by decide +kernel
theorem dX1_newest_7 : decode cX1_newest 7 = .ok (.if_icmp .ge 16, 3) := by decide +kernel
theorem dX1_newest_10 : decode cX1_newest 10 = .ok (.aload_n 0, 1) := by decide +kernel
theorem dX1_newest_11 : decode cX1_newest 11 = .ok (.dup, 1) := by decide +kernel
theorem dX1_newest_12 : decode cX1_newest 12 = .ok (.getfield 18, 3) := by decide +kernel
theorem dX1_newest_15 : decode cX1_newest 15 = .ok (.iconst 1, 1) := by decide +kernel
theorem dX1_newest_16 : decode cX1_newest 16 = .ok (.iadd, 1) := by decide +kernel
theorem dX1_newest_17 : decode cX1_newest 17 = .ok (.putfield 18, 3) := by decide +kernel
theorem dX1_newest_20 : decode cX1_newest 20 = .ok (.goto 17, 3) := by decide +kernel
theorem dX1_newest_23 : decode cX1_newest 23 = .ok (.aload_n 0, 1) := by decide +kernel
theorem dX1_newest_24 : decode cX1_newest 24 = .ok (.aload_n 0, 1) := by decide +kernel
theorem dX1_newest_25 : decode cX1_newest 25 = .ok (.getfield 22, 3) := by decide +kernel
theorem dX1_newest_28 : decode cX1_newest 28 = .ok (.iconst 1, 1) := by decide +kernel
theorem dX1_newest_29 : decode cX1_newest 29 = .ok (.iadd, 1) := by decide +kernel
theorem dX1_newest_30 : decode cX1_newest 30 = .ok (.sipush 200, 3) := by decide +kernel
theorem dX1_newest_33 : decode cX1_newest 33 = .ok (.irem, 1) := by decide +kernel
theorem dX1_newest_34 : decode cX1_newest 34 = .ok (.putfield 22, 3) := by decide +kernel
theorem dX1_newest_37 : decode cX1_newest 37 = .ok (.aload_n 0, 1) := by decide +kernel
theorem dX1_newest_38 : decode cX1_newest 38 = .ok (.getfield 11, 3) := by decide +kernel
theorem dX1_newest_41 : decode cX1_newest 41 = .ok (.aload_n 0, 1) := by decide +kernel
theorem dX1_newest_42 : decode cX1_newest 42 = .ok (.getfield 22, 3) := by decide +kernel
theorem dX1_newest_45 : decode cX1_newest 45 = .ok (.aload_n 0, 1) := by decide +kernel
theorem dX1_newest_46 : decode cX1_newest 46 = .ok (.getfield 18, 3) := by decide +kernel
theorem dX1_newest_49 : decode cX1_newest 49 = .ok (.iadd, 1) := by decide +kernel
theorem dX1_newest_50 : decode cX1_newest 50 = .ok (.iconst 1, 1) := by decide +kernel
theorem dX1_newest_51 : decode cX1_newest 51 = .ok (.isub, 1) := by decide +kernel
theorem dX1_newest_52 : decode cX1_newest 52 = .ok (.sipush 200, 3) := by decide +kernel
theorem dX1_newest_55 : decode cX1_newest 55 = .ok (.irem, 1) := by decide +kernel
theorem dX1_newest_56 : decode cX1_newest 56 = .ok (.aaload, 1) := by decide +kernel
theorem dX1_newest_57 : decode cX1_newest 57 = .ok (.areturn, 1) := by decide +kernel
theorem dX1_dropLatest_0 : decode cX1_dropLatest 0 = .ok (.aload_n 0, 1) := by decide +kernel
theorem dX1_dropLatest_1 : decode cX1_dropLatest 1 = .ok (.getfield 18, 3) := by decide +kernel
theorem dX1_dropLatest_4 : decode cX1_dropLatest 4 = .ok (.ifCond .le 13, 3) := by decide +kernel
theorem dX1_dropLatest_7 : decode cX1_dropLatest 7 = .ok (.aload_n 0, 1) := by decide +kernel
theorem dX1_dropLatest_8 : decode cX1_dropLatest 8 = .ok (.dup, 1) := by decide +kernel
theorem dX1_dropLatest_9 : decode cX1_dropLatest 9 = .ok (.getfield 18, 3) := by decide +kernel
theorem dX1_dropLatest_12 : decode cX1_dropLatest 12 = .ok (.iconst 1, 1) := by decide +kernel
theorem dX1_dropLatest_13 : decode cX1_dropLatest 13 = .ok (.isub, 1) := by decide +kernel
theorem dX1_dropLatest_14 : decode cX1_dropLatest 14 = .ok (.putfield 18, 3) := by decide +kernel
theorem dX1_dropLatest_17 : decode cX1_dropLatest 17 = .ok (.return_, 1) := by decide +kernel
theorem dX1_ago_0 : decode cX1_ago 0 = .ok (.iload_n 1, 1) := by decide +kernel
theorem dX1_ago_1 : decode cX1_ago 1 = .ok (.iconst 1, 1) := by decide +kernel
theorem dX1_ago_2 : decode cX1_ago 2 = .ok (.if_icmp .lt 34, 3) := by decide +kernel
theorem dX1_ago_5 : decode cX1_ago 5 = .ok (.iload_n 1, 1) := by decide +kernel
theorem dX1_ago_6 : decode cX1_ago 6 = .ok (.aload_n 0, 1) := by decide +kernel
theorem dX1_ago_7 : decode cX1_ago 7 = .ok (.getfield 18, 3) := by decide +kernel
theorem dX1_ago_10 : decode cX1_ago 10 = .ok (.if_icmp .gt 26, 3) := by decide +kernel
theorem dX1_ago_13 : decode cX1_ago 13 = .ok (.aload_n 0, 1) := by decide +kernel
theorem dX1_ago_14 : decode cX1_ago 14 = .ok (.getfield 11, 3) := by decide +kernel
theorem dX1_ago_17 : decode cX1_ago 17 = .ok (.aload_n 0, 1) := by decide +kernel
theorem dX1_ago_18 : decode cX1_ago 18 = .ok (.getfield 22, 3) := by decide +kernel
theorem dX1_ago_21 : decode cX1_ago 21 = .ok (.aload_n 0, 1) := by decide +kernel
theorem dX1_ago_22 : decode cX1_ago 22 = .ok (.getfield 18, 3) := by decide +kernel
theorem dX1_ago_25 : decode cX1_ago 25 = .ok (.iadd, 1) := by decide +kernel
theorem dX1_ago_26 : decode cX1_ago 26 = .ok (.iload_n 1, 1) := by decide +kernel
theorem dX1_ago_27 : decode cX1_ago 27 = .ok (.isub, 1) := by decide +kernel
theorem dX1_ago_28 : decode cX1_ago 28 = .ok (.sipush 200, 3) := by decide +kernel
theorem dX1_ago_31 : decode cX1_ago 31 = .ok (.irem, 1) := by decide +kernel
theorem dX1_ago_32 : decode cX1_ago 32 = .ok (.aaload, 1) := by decide +kernel
theorem dX1_ago_33 : decode cX1_ago 33 = .ok (.goto 4, 3) := by decide +kernel
theorem dX1_ago_36 : decode cX1_ago 36 = .ok (.aconst_null, 1) := by decide +kernel
theorem dX1_ago_37 : decode cX1_ago 37 = .ok (.areturn, 1) := by decide +kernel
theorem dX1_stepAt_0 : decode cX1_stepAt 0 = .ok (.aload_n 0, 1) := by decide +kernel
theorem dX1_stepAt_1 : decode cX1_stepAt 1 = .ok (.aload_n 0, 1) := by decide +kernel
theorem dX1_stepAt_2 : decode cX1_stepAt 2 = .ok (.getfield 18, 3) := by decide +kernel
theorem dX1_stepAt_5 : decode cX1_stepAt 5 = .ok (.iload_n 1, 1) := by decide +kernel
theorem dX1_stepAt_6 : decode cX1_stepAt 6 = .ok (.isub, 1) := by decide +kernel
theorem dX1_stepAt_7 : decode cX1_stepAt 7 = .ok (.invokevirtual 25, 3) := by decide +kernel
theorem dX1_stepAt_10 : decode cX1_stepAt 10 = .ok (.astore_n 2, 1) := by decide +kernel
theorem dX1_stepAt_11 : decode cX1_stepAt 11 = .ok (.aload_n 2, 1) := by decide +kernel
theorem dX1_stepAt_12 : decode cX1_stepAt 12 = .ok (.ifnonnull 7, 3) := by decide +kernel
theorem dX1_stepAt_15 : decode cX1_stepAt 15 = .ok (.iconst (-1), 1) := by decide +kernel
theorem dX1_stepAt_16 : decode cX1_stepAt 16 = .ok (.goto 7, 3) := by decide +kernel
theorem dX1_stepAt_19 : decode cX1_stepAt 19 = .ok (.aload_n 2, 1) := by decide +kernel
theorem dX1_stepAt_20 : decode cX1_stepAt 20 = .ok (.getfield 29, 3) := by decide +kernel
theorem dX1_stepAt_23 : decode cX1_stepAt 23 = .ok (.ireturn, 1) := by decide +kernel
theorem dX1_cellAgo_0 : decode cX1_cellAgo 0 = .ok (.iload_n 3, 1) := by decide +kernel
theorem dX1_cellAgo_1 : decode cX1_cellAgo 1 = .ok (.istore 4, 2) := by decide +kernel
theorem dX1_cellAgo_3 : decode cX1_cellAgo 3 = .ok (.iconst 1, 1) := by decide +kernel
theorem dX1_cellAgo_4 : decode cX1_cellAgo 4 = .ok (.istore 5, 2) := by decide +kernel
theorem dX1_cellAgo_6 : decode cX1_cellAgo 6 = .ok (.iload 5, 2) := by decide +kernel
theorem dX1_cellAgo_8 : decode cX1_cellAgo 8 = .ok (.iload_n 2, 1) := by decide +kernel
theorem dX1_cellAgo_9 : decode cX1_cellAgo 9 = .ok (.if_icmp .gt 38, 3) := by decide +kernel
theorem dX1_cellAgo_12 : decode cX1_cellAgo 12 = .ok (.aload_n 0, 1) := by decide +kernel
theorem dX1_cellAgo_13 : decode cX1_cellAgo 13 = .ok (.iload 5, 2) := by decide +kernel
theorem dX1_cellAgo_15 : decode cX1_cellAgo 15 = .ok (.invokevirtual 25, 3) := by decide +kernel
theorem dX1_cellAgo_18 : decode cX1_cellAgo 18 = .ok (.astore 6, 2) := by decide +kernel
theorem dX1_cellAgo_20 : decode cX1_cellAgo 20 = .ok (.aload 6, 2) := by decide +kernel
theorem dX1_cellAgo_22 : decode cX1_cellAgo 22 = .ok (.ifnull 19, 3) := by decide +kernel
theorem dX1_cellAgo_25 : decode cX1_cellAgo 25 = .ok (.aload 6, 2) := by decide +kernel
theorem dX1_cellAgo_27 : decode cX1_cellAgo 27 = .ok (.getfield 32, 3) := by decide +kernel
theorem dX1_cellAgo_30 : decode cX1_cellAgo 30 = .ok (.iload_n 1, 1) := by decide +kernel
theorem dX1_cellAgo_31 : decode cX1_cellAgo 31 = .ok (.if_icmp .ne 10, 3) := by decide +kernel
theorem dX1_cellAgo_34 : decode cX1_cellAgo 34 = .ok (.aload 6, 2) := by decide +kernel
theorem dX1_cellAgo_36 : decode cX1_cellAgo 36 = .ok (.getfield 35, 3) := by decide +kernel
theorem dX1_cellAgo_39 : decode cX1_cellAgo 39 = .ok (.istore 4, 2) := by decide +kernel
theorem dX1_cellAgo_41 : decode cX1_cellAgo 41 = .ok (.iinc 5 1, 3) := by decide +kernel
theorem dX1_cellAgo_44 : decode cX1_cellAgo 44 = .ok (.goto (-38), 3) := by decide +kernel
theorem dX1_cellAgo_47 : decode cX1_cellAgo 47 = .ok (.iload 4, 2) := by decide +kernel
theorem dX1_cellAgo_49 : decode cX1_cellAgo 49 = .ok (.ireturn, 1) := by decide +kernel
theorem dX1_storedAgo_0 : decode cX1_storedAgo 0 = .ok (.iconst 1, 1) := by decide +kernel
theorem dX1_storedAgo_1 : decode cX1_storedAgo 1 = .ok (.istore_n 2, 1) := by decide +kernel
theorem dX1_storedAgo_2 : decode cX1_storedAgo 2 = .ok (.iload_n 2, 1) := by decide +kernel
theorem dX1_storedAgo_3 : decode cX1_storedAgo 3 = .ok (.aload_n 0, 1) := by decide +kernel
theorem dX1_storedAgo_4 : decode cX1_storedAgo 4 = .ok (.getfield 18, 3) := by decide +kernel
theorem dX1_storedAgo_7 : decode cX1_storedAgo 7 = .ok (.if_icmp .gt 29, 3) := by decide +kernel
theorem dX1_storedAgo_10 : decode cX1_storedAgo 10 = .ok (.aload_n 0, 1) := by decide +kernel
theorem dX1_storedAgo_11 : decode cX1_storedAgo 11 = .ok (.iload_n 2, 1) := by decide +kernel
theorem dX1_storedAgo_12 : decode cX1_storedAgo 12 = .ok (.invokevirtual 25, 3) := by decide +kernel
theorem dX1_storedAgo_15 : decode cX1_storedAgo 15 = .ok (.astore_n 3, 1) := by decide +kernel
theorem dX1_storedAgo_16 : decode cX1_storedAgo 16 = .ok (.aload_n 3, 1) := by decide +kernel
theorem dX1_storedAgo_17 : decode cX1_storedAgo 17 = .ok (.ifnull 13, 3) := by decide +kernel
theorem dX1_storedAgo_20 : decode cX1_storedAgo 20 = .ok (.aload_n 3, 1) := by decide +kernel
theorem dX1_storedAgo_21 : decode cX1_storedAgo 21 = .ok (.getfield 32, 3) := by decide +kernel
theorem dX1_storedAgo_24 : decode cX1_storedAgo 24 = .ok (.iload_n 1, 1) := by decide +kernel
theorem dX1_storedAgo_25 : decode cX1_storedAgo 25 = .ok (.if_icmp .ne 5, 3) := by decide +kernel
theorem dX1_storedAgo_28 : decode cX1_storedAgo 28 = .ok (.iload_n 2, 1) := by decide +kernel
theorem dX1_storedAgo_29 : decode cX1_storedAgo 29 = .ok (.ireturn, 1) := by decide +kernel
theorem dX1_storedAgo_30 : decode cX1_storedAgo 30 = .ok (.iinc 2 1, 3) := by decide +kernel
theorem dX1_storedAgo_33 : decode cX1_storedAgo 33 = .ok (.goto (-31), 3) := by decide +kernel
theorem dX1_storedAgo_36 : decode cX1_storedAgo 36 = .ok (.iconst 0, 1) := by decide +kernel
theorem dX1_storedAgo_37 : decode cX1_storedAgo 37 = .ok (.ireturn, 1) := by decide +kernel
theorem dX1_writeSteps_0 : decode cX1_writeSteps 0 = .ok (.aload_n 1, 1) := by decide +kernel
theorem dX1_writeSteps_1 : decode cX1_writeSteps 1 = .ok (.iconst 0, 1) := by decide +kernel
theorem dX1_writeSteps_2 : decode cX1_writeSteps 2 = .ok (.invokevirtual 38, 3) := by decide +kernel
theorem dX1_writeSteps_5 : decode cX1_writeSteps 5 = .ok (.iconst 0, 1) := by decide +kernel
theorem dX1_writeSteps_6 : decode cX1_writeSteps 6 = .ok (.istore_n 2, 1) := by decide +kernel
theorem dX1_writeSteps_7 : decode cX1_writeSteps 7 = .ok (.iload_n 2, 1) := by decide +kernel
theorem dX1_writeSteps_8 : decode cX1_writeSteps 8 = .ok (.aload_n 0, 1) := by decide +kernel
theorem dX1_writeSteps_9 : decode cX1_writeSteps 9 = .ok (.getfield 18, 3) := by decide +kernel
theorem dX1_writeSteps_12 : decode cX1_writeSteps 12 = .ok (.if_icmp .ge 18, 3) := by decide +kernel
theorem dX1_writeSteps_15 : decode cX1_writeSteps 15 = .ok (.aload_n 1, 1) := by decide +kernel
theorem dX1_writeSteps_16 : decode cX1_writeSteps 16 = .ok (.aload_n 0, 1) := by decide +kernel
theorem dX1_writeSteps_17 : decode cX1_writeSteps 17 = .ok (.iload_n 2, 1) := by decide +kernel
theorem dX1_writeSteps_18 : decode cX1_writeSteps 18 = .ok (.invokevirtual 44, 3) := by decide +kernel
theorem dX1_writeSteps_21 : decode cX1_writeSteps 21 = .ok (.invokevirtual 48, 3) := by decide +kernel
theorem dX1_writeSteps_24 : decode cX1_writeSteps 24 = .ok (.iinc 2 1, 3) := by decide +kernel
theorem dX1_writeSteps_27 : decode cX1_writeSteps 27 = .ok (.goto (-20), 3) := by decide +kernel
theorem dX1_writeSteps_30 : decode cX1_writeSteps 30 = .ok (.return_, 1) := by decide +kernel
theorem dX1_firstOther_0 : decode cX1_firstOther 0 = .ok (.aload_n 0, 1) := by decide +kernel
theorem dX1_firstOther_1 : decode cX1_firstOther 1 = .ok (.getfield 18, 3) := by decide +kernel
theorem dX1_firstOther_4 : decode cX1_firstOther 4 = .ok (.aload_n 1, 1) := by decide +kernel
theorem dX1_firstOther_5 : decode cX1_firstOther 5 = .ok (.invokevirtual 51, 3) := by decide +kernel
theorem dX1_firstOther_8 : decode cX1_firstOther 8 = .ok (.invokestatic 55, 3) := by decide +kernel
theorem dX1_firstOther_11 : decode cX1_firstOther 11 = .ok (.istore_n 2, 1) := by decide +kernel
theorem dX1_firstOther_12 : decode cX1_firstOther 12 = .ok (.iconst 0, 1) := by decide +kernel
theorem dX1_firstOther_13 : decode cX1_firstOther 13 = .ok (.istore_n 3, 1) := by decide +kernel
theorem dX1_firstOther_14 : decode cX1_firstOther 14 = .ok (.iload_n 3, 1) := by decide +kernel
theorem dX1_firstOther_15 : decode cX1_firstOther 15 = .ok (.iload_n 2, 1) := by decide +kernel
theorem dX1_firstOther_16 : decode cX1_firstOther 16 = .ok (.if_icmp .ge 24, 3) := by decide +kernel
theorem dX1_firstOther_19 : decode cX1_firstOther 19 = .ok (.aload_n 0, 1) := by decide +kernel
theorem dX1_firstOther_20 : decode cX1_firstOther 20 = .ok (.iload_n 3, 1) := by decide +kernel
theorem dX1_firstOther_21 : decode cX1_firstOther 21 = .ok (.invokevirtual 44, 3) := by decide +kernel
theorem dX1_firstOther_24 : decode cX1_firstOther 24 = .ok (.aload_n 1, 1) := by decide +kernel
theorem dX1_firstOther_25 : decode cX1_firstOther 25 = .ok (.iload_n 3, 1) := by decide +kernel
theorem dX1_firstOther_26 : decode cX1_firstOther 26 = .ok (.invokevirtual 61, 3) := by decide +kernel
theorem dX1_firstOther_29 : decode cX1_firstOther 29 = .ok (.if_icmp .eq 5, 3) := by decide +kernel
theorem dX1_firstOther_32 : decode cX1_firstOther 32 = .ok (.iload_n 3, 1) := by decide +kernel
theorem dX1_firstOther_33 : decode cX1_firstOther 33 = .ok (.ireturn, 1) := by decide +kernel
theorem dX1_firstOther_34 : decode cX1_firstOther 34 = .ok (.iinc 3 1, 3) := by decide +kernel
theorem dX1_firstOther_37 : decode cX1_firstOther 37 = .ok (.goto (-23), 3) := by decide +kernel
theorem dX1_firstOther_40 : decode cX1_firstOther 40 = .ok (.iconst (-1), 1) := by decide +kernel
theorem dX1_firstOther_41 : decode cX1_firstOther 41 = .ok (.ireturn, 1) := by decide +kernel
theorem dX2_init_0 : decode cX2_init 0 = .ok (.aload_n 0, 1) := by decide +kernel
theorem dX2_init_1 : decode cX2_init 1 = .ok (.invokespecial 3, 3) := by decide +kernel
theorem dX2_init_4 : decode cX2_init 4 = .ok (.return_, 1) := by decide +kernel
theorem dX2_place_0 : decode cX2_place 0 = .ok (.aload_n 0, 1) := by decide +kernel
theorem dX2_place_1 : decode cX2_place 1 = .ok (.iload_n 1, 1) := by decide +kernel
theorem dX2_place_2 : decode cX2_place 2 = .ok (.putfield 9, 3) := by decide +kernel
theorem dX2_place_5 : decode cX2_place 5 = .ok (.aload_n 0, 1) := by decide +kernel
theorem dX2_place_6 : decode cX2_place 6 = .ok (.iload_n 2, 1) := by decide +kernel
theorem dX2_place_7 : decode cX2_place 7 = .ok (.putfield 15, 3) := by decide +kernel
theorem dX2_place_10 : decode cX2_place 10 = .ok (.aload_n 0, 1) := by decide +kernel
theorem dX2_place_11 : decode cX2_place 11 = .ok (.iconst 1, 1) := by decide +kernel
theorem dX2_place_12 : decode cX2_place 12 = .ok (.putfield 18, 3) := by decide +kernel
theorem dX2_place_15 : decode cX2_place 15 = .ok (.return_, 1) := by decide +kernel
theorem dX2_isHit_0 : decode cX2_isHit 0 = .ok (.aload_n 0, 1) := by decide +kernel
theorem dX2_isHit_1 : decode cX2_isHit 1 = .ok (.getfield 18, 3) := by decide +kernel
theorem dX2_isHit_4 : decode cX2_isHit 4 = .ok (.ifCond .eq 43, 3) := by decide +kernel
theorem dX2_isHit_7 : decode cX2_isHit 7 = .ok (.aload_n 0, 1) := by decide +kernel
theorem dX2_isHit_8 : decode cX2_isHit 8 = .ok (.getfield 9, 3) := by decide +kernel
theorem dX2_isHit_11 : decode cX2_isHit 11 = .ok (.aload_n 1, 1) := by decide +kernel
theorem dX2_isHit_12 : decode cX2_isHit 12 = .ok (.getfield 22, 3) := by decide +kernel
theorem dX2_isHit_15 : decode cX2_isHit 15 = .ok (.if_icmp .ne 32, 3) := by decide +kernel
theorem dX2_isHit_18 : decode cX2_isHit 18 = .ok (.aload_n 1, 1) := by decide +kernel
theorem dX2_isHit_19 : decode cX2_isHit 19 = .ok (.getfield 27, 3) := by decide +kernel
theorem dX2_isHit_22 : decode cX2_isHit 22 = .ok (.ifCond .ne 25, 3) := by decide +kernel
theorem dX2_isHit_25 : decode cX2_isHit 25 = .ok (.aload_n 0, 1) := by decide +kernel
theorem dX2_isHit_26 : decode cX2_isHit 26 = .ok (.aload_n 1, 1) := by decide +kernel
theorem dX2_isHit_27 : decode cX2_isHit 27 = .ok (.getfield 30, 3) := by decide +kernel
theorem dX2_isHit_30 : decode cX2_isHit 30 = .ok (.aload_n 0, 1) := by decide +kernel
theorem dX2_isHit_31 : decode cX2_isHit 31 = .ok (.getfield 34, 3) := by decide +kernel
theorem dX2_isHit_34 : decode cX2_isHit 34 = .ok (.invokevirtual 37, 3) := by decide +kernel
theorem dX2_isHit_37 : decode cX2_isHit 37 = .ok (.invokevirtual 43, 3) := by decide +kernel
theorem dX2_isHit_40 : decode cX2_isHit 40 = .ok (.ifCond .eq 7, 3) := by decide +kernel
theorem dX2_isHit_43 : decode cX2_isHit 43 = .ok (.iconst 1, 1) := by decide +kernel
theorem dX2_isHit_44 : decode cX2_isHit 44 = .ok (.goto 4, 3) := by decide +kernel
theorem dX2_isHit_47 : decode cX2_isHit 47 = .ok (.iconst 0, 1) := by decide +kernel
theorem dX2_isHit_48 : decode cX2_isHit 48 = .ok (.ireturn, 1) := by decide +kernel
theorem dX2_holds_0 : decode cX2_holds 0 = .ok (.aload_n 0, 1) := by decide +kernel
theorem dX2_holds_1 : decode cX2_holds 1 = .ok (.getfield 47, 3) := by decide +kernel
theorem dX2_holds_4 : decode cX2_holds 4 = .ok (.tableswitch 70 1 3 #[28, 42, 56], 28) := by decide +kernel
theorem dX2_holds_32 : decode cX2_holds 32 = .ok (.iload_n 1, 1) := by decide +kernel
theorem dX2_holds_33 : decode cX2_holds 33 = .ok (.aload_n 0, 1) := by decide +kernel
theorem dX2_holds_34 : decode cX2_holds 34 = .ok (.getfield 50, 3) := by decide +kernel
theorem dX2_holds_37 : decode cX2_holds 37 = .ok (.if_icmp .ge 7, 3) := by decide +kernel
theorem dX2_holds_40 : decode cX2_holds 40 = .ok (.iconst 1, 1) := by decide +kernel
theorem dX2_holds_41 : decode cX2_holds 41 = .ok (.goto 4, 3) := by decide +kernel
theorem dX2_holds_44 : decode cX2_holds 44 = .ok (.iconst 0, 1) := by decide +kernel
theorem dX2_holds_45 : decode cX2_holds 45 = .ok (.ireturn, 1) := by decide +kernel
theorem dX2_holds_46 : decode cX2_holds 46 = .ok (.iload_n 1, 1) := by decide +kernel
theorem dX2_holds_47 : decode cX2_holds 47 = .ok (.aload_n 0, 1) := by decide +kernel
theorem dX2_holds_48 : decode cX2_holds 48 = .ok (.getfield 50, 3) := by decide +kernel
theorem dX2_holds_51 : decode cX2_holds 51 = .ok (.if_icmp .ne 7, 3) := by decide +kernel
theorem dX2_holds_54 : decode cX2_holds 54 = .ok (.iconst 1, 1) := by decide +kernel
theorem dX2_holds_55 : decode cX2_holds 55 = .ok (.goto 4, 3) := by decide +kernel
theorem dX2_holds_58 : decode cX2_holds 58 = .ok (.iconst 0, 1) := by decide +kernel
theorem dX2_holds_59 : decode cX2_holds 59 = .ok (.ireturn, 1) := by decide +kernel
theorem dX2_holds_60 : decode cX2_holds 60 = .ok (.iload_n 1, 1) := by decide +kernel
theorem dX2_holds_61 : decode cX2_holds 61 = .ok (.aload_n 0, 1) := by decide +kernel
theorem dX2_holds_62 : decode cX2_holds 62 = .ok (.getfield 50, 3) := by decide +kernel
theorem dX2_holds_65 : decode cX2_holds 65 = .ok (.if_icmp .le 7, 3) := by decide +kernel
theorem dX2_holds_68 : decode cX2_holds 68 = .ok (.iconst 1, 1) := by decide +kernel
theorem dX2_holds_69 : decode cX2_holds 69 = .ok (.goto 4, 3) := by decide +kernel
theorem dX2_holds_72 : decode cX2_holds 72 = .ok (.iconst 0, 1) := by decide +kernel
theorem dX2_holds_73 : decode cX2_holds 73 = .ok (.ireturn, 1) := by decide +kernel
theorem dX2_holds_74 : decode cX2_holds 74 = .ok (.iconst 1, 1) := by decide +kernel
theorem dX2_holds_75 : decode cX2_holds 75 = .ok (.ireturn, 1) := by decide +kernel
theorem dX2_letsPass_0 : decode cX2_letsPass 0 = .ok (.aload_n 0, 1) := by decide +kernel
theorem dX2_letsPass_1 : decode cX2_letsPass 1 = .ok (.getfield 15, 3) := by decide +kernel
theorem dX2_letsPass_4 : decode cX2_letsPass 4 = .ok (.ifCond .ne 5, 3) := by decide +kernel
theorem dX2_letsPass_7 : decode cX2_letsPass 7 = .ok (.iconst 0, 1) := by decide +kernel
theorem dX2_letsPass_8 : decode cX2_letsPass 8 = .ok (.ireturn, 1) := by decide +kernel
theorem dX2_letsPass_9 : decode cX2_letsPass 9 = .ok (.aload_n 0, 1) := by decide +kernel
theorem dX2_letsPass_10 : decode cX2_letsPass 10 = .ok (.dup, 1) := by decide +kernel
theorem dX2_letsPass_11 : decode cX2_letsPass 11 = .ok (.getfield 15, 3) := by decide +kernel
theorem dX2_letsPass_14 : decode cX2_letsPass 14 = .ok (.iconst 1, 1) := by decide +kernel
theorem dX2_letsPass_15 : decode cX2_letsPass 15 = .ok (.isub, 1) := by decide +kernel
theorem dX2_letsPass_16 : decode cX2_letsPass 16 = .ok (.putfield 15, 3) := by decide +kernel
theorem dX2_letsPass_19 : decode cX2_letsPass 19 = .ok (.iconst 1, 1) := by decide +kernel
theorem dX2_letsPass_20 : decode cX2_letsPass 20 = .ok (.ireturn, 1) := by decide +kernel
theorem dX3_init_0 : decode cX3_init 0 = .ok (.aload_n 0, 1) := by decide +kernel
theorem dX3_init_1 : decode cX3_init 1 = .ok (.invokespecial 3, 3) := by decide +kernel
theorem dX3_init_4 : decode cX3_init 4 = .ok (.aload_n 0, 1) := by decide +kernel
theorem dX3_init_5 : decode cX3_init 5 = .ok (.new 9, 3) := by decide +kernel
theorem dX3_init_8 : decode cX3_init 8 = .ok (.dup, 1) := by decide +kernel
theorem dX3_init_9 : decode cX3_init 9 = .ok (.bipush 80, 2) := by decide +kernel
theorem dX3_init_11 : decode cX3_init 11 = .ok (.invokespecial 11, 3) := by decide +kernel
theorem dX3_init_14 : decode cX3_init 14 = .ok (.putfield 14, 3) := by decide +kernel
theorem dX3_init_17 : decode cX3_init 17 = .ok (.aload_n 0, 1) := by decide +kernel
theorem dX3_init_18 : decode cX3_init 18 = .ok (.new 9, 3) := by decide +kernel
theorem dX3_init_21 : decode cX3_init 21 = .ok (.dup, 1) := by decide +kernel
theorem dX3_init_22 : decode cX3_init 22 = .ok (.bipush 80, 2) := by decide +kernel
theorem dX3_init_24 : decode cX3_init 24 = .ok (.invokespecial 11, 3) := by decide +kernel
theorem dX3_init_27 : decode cX3_init 27 = .ok (.putfield 20, 3) := by decide +kernel
theorem dX3_init_30 : decode cX3_init 30 = .ok (.aload_n 0, 1) := by decide +kernel
theorem dX3_init_31 : decode cX3_init 31 = .ok (.new 9, 3) := by decide +kernel
theorem dX3_init_34 : decode cX3_init 34 = .ok (.dup, 1) := by decide +kernel
theorem dX3_init_35 : decode cX3_init 35 = .ok (.bipush 80, 2) := by decide +kernel
theorem dX3_init_37 : decode cX3_init 37 = .ok (.invokespecial 11, 3) := by decide +kernel
theorem dX3_init_40 : decode cX3_init 40 = .ok (.putfield 23, 3) := by decide +kernel
theorem dX3_init_43 : decode cX3_init 43 = .ok (.return_, 1) := by decide +kernel
theorem dX3_allows_0 : decode cX3_allows 0 = .ok (.iload_n 0, 1) := by decide +kernel
theorem dX3_allows_1 : decode cX3_allows 1 = .ok (.bipush 12, 2) := by decide +kernel
theorem dX3_allows_3 : decode cX3_allows 3 = .ok (.if_icmp .eq 9, 3) := by decide +kernel
theorem dX3_allows_6 : decode cX3_allows 6 = .ok (.iload_n 0, 1) := by decide +kernel
theorem dX3_allows_7 : decode cX3_allows 7 = .ok (.bipush 13, 2) := by decide +kernel
theorem dX3_allows_9 : decode cX3_allows 9 = .ok (.if_icmp .ne 8, 3) := by decide +kernel
theorem dX3_allows_12 : decode cX3_allows 12 = .ok (.iload_n 1, 1) := by decide +kernel
theorem dX3_allows_13 : decode cX3_allows 13 = .ok (.invokestatic 26, 3) := by decide +kernel
theorem dX3_allows_16 : decode cX3_allows 16 = .ok (.ireturn, 1) := by decide +kernel
theorem dX3_allows_17 : decode cX3_allows 17 = .ok (.iload_n 0, 1) := by decide +kernel
theorem dX3_allows_18 : decode cX3_allows 18 = .ok (.bipush 16, 2) := by decide +kernel
theorem dX3_allows_20 : decode cX3_allows 20 = .ok (.if_icmp .eq 15, 3) := by decide +kernel
theorem dX3_allows_23 : decode cX3_allows 23 = .ok (.iload_n 0, 1) := by decide +kernel
theorem dX3_allows_24 : decode cX3_allows 24 = .ok (.bipush 17, 2) := by decide +kernel
theorem dX3_allows_26 : decode cX3_allows 26 = .ok (.if_icmp .eq 9, 3) := by decide +kernel
theorem dX3_allows_29 : decode cX3_allows 29 = .ok (.iload_n 0, 1) := by decide +kernel
theorem dX3_allows_30 : decode cX3_allows 30 = .ok (.bipush 18, 2) := by decide +kernel
theorem dX3_allows_32 : decode cX3_allows 32 = .ok (.if_icmp .ne 19, 3) := by decide +kernel
theorem dX3_allows_35 : decode cX3_allows 35 = .ok (.iload_n 1, 1) := by decide +kernel
theorem dX3_allows_36 : decode cX3_allows 36 = .ok (.ifCond .lt 13, 3) := by decide +kernel
theorem dX3_allows_39 : decode cX3_allows 39 = .ok (.iload_n 1, 1) := by decide +kernel
theorem dX3_allows_40 : decode cX3_allows 40 = .ok (.bipush 80, 2) := by decide +kernel
theorem dX3_allows_42 : decode cX3_allows 42 = .ok (.if_icmp .gt 7, 3) := by decide +kernel
theorem dX3_allows_45 : decode cX3_allows 45 = .ok (.iconst 1, 1) := by decide +kernel
theorem dX3_allows_46 : decode cX3_allows 46 = .ok (.goto 4, 3) := by decide +kernel
theorem dX3_allows_49 : decode cX3_allows 49 = .ok (.iconst 0, 1) := by decide +kernel
theorem dX3_allows_50 : decode cX3_allows 50 = .ok (.ireturn, 1) := by decide +kernel
theorem dX3_allows_51 : decode cX3_allows 51 = .ok (.iload_n 0, 1) := by decide +kernel
theorem dX3_allows_52 : decode cX3_allows 52 = .ok (.ifCond .lt 13, 3) := by decide +kernel
theorem dX3_allows_55 : decode cX3_allows 55 = .ok (.iload_n 0, 1) := by decide +kernel
theorem dX3_allows_56 : decode cX3_allows 56 = .ok (.bipush 22, 2) := by decide +kernel
theorem dX3_allows_58 : decode cX3_allows 58 = .ok (.if_icmp .gt 7, 3) := by decide +kernel
theorem dX3_allows_61 : decode cX3_allows 61 = .ok (.iconst 1, 1) := by decide +kernel
theorem dX3_allows_62 : decode cX3_allows 62 = .ok (.goto 4, 3) := by decide +kernel
theorem dX3_allows_65 : decode cX3_allows 65 = .ok (.iconst 0, 1) := by decide +kernel
theorem dX3_allows_66 : decode cX3_allows 66 = .ok (.ireturn, 1) := by decide +kernel
theorem dX3_size_0 : decode cX3_size 0 = .ok (.aload_n 0, 1) := by decide +kernel
theorem dX3_size_1 : decode cX3_size 1 = .ok (.getfield 14, 3) := by decide +kernel
theorem dX3_size_4 : decode cX3_size 4 = .ok (.invokevirtual 30, 3) := by decide +kernel
theorem dX3_size_7 : decode cX3_size 7 = .ok (.ireturn, 1) := by decide +kernel
theorem dX3_isFull_0 : decode cX3_isFull 0 = .ok (.aload_n 0, 1) := by decide +kernel
theorem dX3_isFull_1 : decode cX3_isFull 1 = .ok (.getfield 14, 3) := by decide +kernel
theorem dX3_isFull_4 : decode cX3_isFull 4 = .ok (.invokevirtual 34, 3) := by decide +kernel
theorem dX3_isFull_7 : decode cX3_isFull 7 = .ok (.ireturn, 1) := by decide +kernel
theorem dX3_has_0 : decode cX3_has 0 = .ok (.aload_n 0, 1) := by decide +kernel
theorem dX3_has_1 : decode cX3_has 1 = .ok (.getfield 14, 3) := by decide +kernel
theorem dX3_has_4 : decode cX3_has 4 = .ok (.iload_n 1, 1) := by decide +kernel
theorem dX3_has_5 : decode cX3_has 5 = .ok (.invokevirtual 38, 3) := by decide +kernel
theorem dX3_has_8 : decode cX3_has 8 = .ok (.ireturn, 1) := by decide +kernel
theorem dX3_codeAt_0 : decode cX3_codeAt 0 = .ok (.aload_n 0, 1) := by decide +kernel
theorem dX3_codeAt_1 : decode cX3_codeAt 1 = .ok (.getfield 14, 3) := by decide +kernel
theorem dX3_codeAt_4 : decode cX3_codeAt 4 = .ok (.iload_n 1, 1) := by decide +kernel
theorem dX3_codeAt_5 : decode cX3_codeAt 5 = .ok (.invokevirtual 41, 3) := by decide +kernel
theorem dX3_codeAt_8 : decode cX3_codeAt 8 = .ok (.ireturn, 1) := by decide +kernel
theorem dX3_numberAt_0 : decode cX3_numberAt 0 = .ok (.aload_n 0, 1) := by decide +kernel
theorem dX3_numberAt_1 : decode cX3_numberAt 1 = .ok (.getfield 20, 3) := by decide +kernel
theorem dX3_numberAt_4 : decode cX3_numberAt 4 = .ok (.iload_n 1, 1) := by decide +kernel
theorem dX3_numberAt_5 : decode cX3_numberAt 5 = .ok (.invokevirtual 41, 3) := by decide +kernel
theorem dX3_numberAt_8 : decode cX3_numberAt 8 = .ok (.ireturn, 1) := by decide +kernel
theorem dX3_timesAt_0 : decode cX3_timesAt 0 = .ok (.aload_n 0, 1) := by decide +kernel
theorem dX3_timesAt_1 : decode cX3_timesAt 1 = .ok (.getfield 23, 3) := by decide +kernel
theorem dX3_timesAt_4 : decode cX3_timesAt 4 = .ok (.iload_n 1, 1) := by decide +kernel
theorem dX3_timesAt_5 : decode cX3_timesAt 5 = .ok (.invokevirtual 41, 3) := by decide +kernel
theorem dX3_timesAt_8 : decode cX3_timesAt 8 = .ok (.ireturn, 1) := by decide +kernel
theorem dX3_add_0 : decode cX3_add 0 = .ok (.aload_n 0, 1) := by decide +kernel
theorem dX3_add_1 : decode cX3_add 1 = .ok (.getfield 14, 3) := by decide +kernel
theorem dX3_add_4 : decode cX3_add 4 = .ok (.iload_n 1, 1) := by decide +kernel
theorem dX3_add_5 : decode cX3_add 5 = .ok (.invokevirtual 45, 3) := by decide +kernel
theorem dX3_add_8 : decode cX3_add 8 = .ok (.aload_n 0, 1) := by decide +kernel
theorem dX3_add_9 : decode cX3_add 9 = .ok (.getfield 20, 3) := by decide +kernel
theorem dX3_add_12 : decode cX3_add 12 = .ok (.iload_n 2, 1) := by decide +kernel
theorem dX3_add_13 : decode cX3_add 13 = .ok (.invokevirtual 45, 3) := by decide +kernel
theorem dX3_add_16 : decode cX3_add 16 = .ok (.aload_n 0, 1) := by decide +kernel
theorem dX3_add_17 : decode cX3_add 17 = .ok (.getfield 23, 3) := by decide +kernel
theorem dX3_add_20 : decode cX3_add 20 = .ok (.iconst 0, 1) := by decide +kernel
theorem dX3_add_21 : decode cX3_add 21 = .ok (.invokevirtual 45, 3) := by decide +kernel
theorem dX3_add_24 : decode cX3_add 24 = .ok (.return_, 1) := by decide +kernel
theorem dX3_countTime_0 : decode cX3_countTime 0 = .ok (.aload_n 0, 1) := by decide +kernel
theorem dX3_countTime_1 : decode cX3_countTime 1 = .ok (.getfield 23, 3) := by decide +kernel
theorem dX3_countTime_4 : decode cX3_countTime 4 = .ok (.iload_n 1, 1) := by decide +kernel
theorem dX3_countTime_5 : decode cX3_countTime 5 = .ok (.aload_n 0, 1) := by decide +kernel
theorem dX3_countTime_6 : decode cX3_countTime 6 = .ok (.getfield 23, 3) := by decide +kernel
theorem dX3_countTime_9 : decode cX3_countTime 9 = .ok (.iload_n 1, 1) := by decide +kernel
theorem dX3_countTime_10 : decode cX3_countTime 10 = .ok (.invokevirtual 41, 3) := by decide +kernel
theorem dX3_countTime_13 : decode cX3_countTime 13 = .ok (.iconst 1, 1) := by decide +kernel
theorem dX3_countTime_14 : decode cX3_countTime 14 = .ok (.iadd, 1) := by decide +kernel
theorem dX3_countTime_15 : decode cX3_countTime 15 = .ok (.invokevirtual 48, 3) := by decide +kernel
theorem dX3_countTime_18 : decode cX3_countTime 18 = .ok (.return_, 1) := by decide +kernel
theorem dX3_forgetTimes_0 : decode cX3_forgetTimes 0 = .ok (.iconst 0, 1) := by decide +kernel
theorem dX3_forgetTimes_1 : decode cX3_forgetTimes 1 = .ok (.istore_n 1, 1) := by decide +kernel
theorem dX3_forgetTimes_2 : decode cX3_forgetTimes 2 = .ok (.iload_n 1, 1) := by decide +kernel
theorem dX3_forgetTimes_3 : decode cX3_forgetTimes 3 = .ok (.aload_n 0, 1) := by decide +kernel
theorem dX3_forgetTimes_4 : decode cX3_forgetTimes 4 = .ok (.getfield 23, 3) := by decide +kernel
theorem dX3_forgetTimes_7 : decode cX3_forgetTimes 7 = .ok (.invokevirtual 30, 3) := by decide +kernel
theorem dX3_forgetTimes_10 : decode cX3_forgetTimes 10 = .ok (.if_icmp .ge 18, 3) := by decide +kernel
theorem dX3_forgetTimes_13 : decode cX3_forgetTimes 13 = .ok (.aload_n 0, 1) := by decide +kernel
theorem dX3_forgetTimes_14 : decode cX3_forgetTimes 14 = .ok (.getfield 23, 3) := by decide +kernel
theorem dX3_forgetTimes_17 : decode cX3_forgetTimes 17 = .ok (.iload_n 1, 1) := by decide +kernel
theorem dX3_forgetTimes_18 : decode cX3_forgetTimes 18 = .ok (.iconst 0, 1) := by decide +kernel
theorem dX3_forgetTimes_19 : decode cX3_forgetTimes 19 = .ok (.invokevirtual 48, 3) := by decide +kernel
theorem dX3_forgetTimes_22 : decode cX3_forgetTimes 22 = .ok (.iinc 1 1, 3) := by decide +kernel
theorem dX3_forgetTimes_25 : decode cX3_forgetTimes 25 = .ok (.goto (-23), 3) := by decide +kernel
theorem dX3_forgetTimes_28 : decode cX3_forgetTimes 28 = .ok (.return_, 1) := by decide +kernel
theorem dX4_init_0 : decode cX4_init 0 = .ok (.aload_n 0, 1) := by decide +kernel
theorem dX4_init_1 : decode cX4_init 1 = .ok (.invokespecial 1, 3) := by decide +kernel
theorem dX4_init_4 : decode cX4_init 4 = .ok (.aload_n 0, 1) := by decide +kernel
theorem dX4_init_5 : decode cX4_init 5 = .ok (.iload_n 1, 1) := by decide +kernel
theorem dX4_init_6 : decode cX4_init 6 = .ok (.iconst 0, 1) := by decide +kernel
theorem dX4_init_7 : decode cX4_init 7 = .ok (.invokestatic 7, 3) := by decide +kernel
theorem dX4_init_10 : decode cX4_init 10 = .ok (.newarray .int, 2) := by decide +kernel
theorem dX4_init_12 : decode cX4_init 12 = .ok (.putfield 13, 3) := by decide +kernel
theorem dX4_init_15 : decode cX4_init 15 = .ok (.return_, 1) := by decide +kernel
theorem dX4_size_0 : decode cX4_size 0 = .ok (.aload_n 0, 1) := by decide +kernel
theorem dX4_size_1 : decode cX4_size 1 = .ok (.getfield 19, 3) := by decide +kernel
theorem dX4_size_4 : decode cX4_size 4 = .ok (.ireturn, 1) := by decide +kernel
theorem dX4_isFull_0 : decode cX4_isFull 0 = .ok (.aload_n 0, 1) := by decide +kernel
theorem dX4_isFull_1 : decode cX4_isFull 1 = .ok (.getfield 19, 3) := by decide +kernel
theorem dX4_isFull_4 : decode cX4_isFull 4 = .ok (.aload_n 0, 1) := by decide +kernel
theorem dX4_isFull_5 : decode cX4_isFull 5 = .ok (.getfield 13, 3) := by decide +kernel
theorem dX4_isFull_8 : decode cX4_isFull 8 = .ok (.arraylength, 1) := by decide +kernel
theorem dX4_isFull_9 : decode cX4_isFull 9 = .ok (.if_icmp .lt 7, 3) := by decide +kernel
theorem dX4_isFull_12 : decode cX4_isFull 12 = .ok (.iconst 1, 1) := by decide +kernel
theorem dX4_isFull_13 : decode cX4_isFull 13 = .ok (.goto 4, 3) := by decide +kernel
theorem dX4_isFull_16 : decode cX4_isFull 16 = .ok (.iconst 0, 1) := by decide +kernel
theorem dX4_isFull_17 : decode cX4_isFull 17 = .ok (.ireturn, 1) := by decide +kernel
theorem dX4_has_0 : decode cX4_has 0 = .ok (.iload_n 1, 1) := by decide +kernel
theorem dX4_has_1 : decode cX4_has 1 = .ok (.ifCond .lt 15, 3) := by decide +kernel
theorem dX4_has_4 : decode cX4_has 4 = .ok (.iload_n 1, 1) := by decide +kernel
theorem dX4_has_5 : decode cX4_has 5 = .ok (.aload_n 0, 1) := by decide +kernel
theorem dX4_has_6 : decode cX4_has 6 = .ok (.getfield 19, 3) := by decide +kernel
theorem dX4_has_9 : decode cX4_has 9 = .ok (.if_icmp .ge 7, 3) := by decide +kernel
theorem dX4_has_12 : decode cX4_has 12 = .ok (.iconst 1, 1) := by decide +kernel
theorem dX4_has_13 : decode cX4_has 13 = .ok (.goto 4, 3) := by decide +kernel
theorem dX4_has_16 : decode cX4_has 16 = .ok (.iconst 0, 1) := by decide +kernel
theorem dX4_has_17 : decode cX4_has 17 = .ok (.ireturn, 1) := by decide +kernel
theorem dX4_get_0 : decode cX4_get 0 = .ok (.iload_n 1, 1) := by decide +kernel
theorem dX4_get_1 : decode cX4_get 1 = .ok (.ifCond .lt 20, 3) := by decide +kernel
theorem dX4_get_4 : decode cX4_get 4 = .ok (.iload_n 1, 1) := by decide +kernel
theorem dX4_get_5 : decode cX4_get 5 = .ok (.aload_n 0, 1) := by decide +kernel
theorem dX4_get_6 : decode cX4_get 6 = .ok (.getfield 19, 3) := by decide +kernel
theorem dX4_get_9 : decode cX4_get 9 = .ok (.if_icmp .ge 12, 3) := by decide +kernel
theorem dX4_get_12 : decode cX4_get 12 = .ok (.aload_n 0, 1) := by decide +kernel
theorem dX4_get_13 : decode cX4_get 13 = .ok (.getfield 13, 3) := by decide +kernel
theorem dX4_get_16 : decode cX4_get 16 = .ok (.iload_n 1, 1) := by decide +kernel
theorem dX4_get_17 : decode cX4_get 17 = .ok (.iaload, 1) := by decide +kernel
theorem dX4_get_18 : decode cX4_get 18 = .ok (.goto 4, 3) := by decide +kernel
theorem dX4_get_21 : decode cX4_get 21 = .ok (.iconst 0, 1) := by decide +kernel
theorem dX4_get_22 : decode cX4_get 22 = .ok (.ireturn, 1) := by decide +kernel
theorem dX4_fromTop_0 : decode cX4_fromTop 0 = .ok (.aload_n 0, 1) := by decide +kernel
theorem dX4_fromTop_1 : decode cX4_fromTop 1 = .ok (.aload_n 0, 1) := by decide +kernel
theorem dX4_fromTop_2 : decode cX4_fromTop 2 = .ok (.getfield 19, 3) := by decide +kernel
theorem dX4_fromTop_5 : decode cX4_fromTop 5 = .ok (.iconst 1, 1) := by decide +kernel
theorem dX4_fromTop_6 : decode cX4_fromTop 6 = .ok (.isub, 1) := by decide +kernel
theorem dX4_fromTop_7 : decode cX4_fromTop 7 = .ok (.iload_n 1, 1) := by decide +kernel
theorem dX4_fromTop_8 : decode cX4_fromTop 8 = .ok (.isub, 1) := by decide +kernel
theorem dX4_fromTop_9 : decode cX4_fromTop 9 = .ok (.invokevirtual 23, 3) := by decide +kernel
theorem dX4_fromTop_12 : decode cX4_fromTop 12 = .ok (.ireturn, 1) := by decide +kernel
theorem dX4_put_0 : decode cX4_put 0 = .ok (.iload_n 1, 1) := by decide +kernel
theorem dX4_put_1 : decode cX4_put 1 = .ok (.ifCond .lt 18, 3) := by decide +kernel
theorem dX4_put_4 : decode cX4_put 4 = .ok (.iload_n 1, 1) := by decide +kernel
theorem dX4_put_5 : decode cX4_put 5 = .ok (.aload_n 0, 1) := by decide +kernel
theorem dX4_put_6 : decode cX4_put 6 = .ok (.getfield 19, 3) := by decide +kernel
theorem dX4_put_9 : decode cX4_put 9 = .ok (.if_icmp .ge 10, 3) := by decide +kernel
theorem dX4_put_12 : decode cX4_put 12 = .ok (.aload_n 0, 1) := by decide +kernel
theorem dX4_put_13 : decode cX4_put 13 = .ok (.getfield 13, 3) := by decide +kernel
theorem dX4_put_16 : decode cX4_put 16 = .ok (.iload_n 1, 1) := by decide +kernel
theorem dX4_put_17 : decode cX4_put 17 = .ok (.iload_n 2, 1) := by decide +kernel
theorem dX4_put_18 : decode cX4_put 18 = .ok (.iastore, 1) := by decide +kernel
theorem dX4_put_19 : decode cX4_put 19 = .ok (.return_, 1) := by decide +kernel
theorem dX4_putFromTop_0 : decode cX4_putFromTop 0 = .ok (.aload_n 0, 1) := by decide +kernel
theorem dX4_putFromTop_1 : decode cX4_putFromTop 1 = .ok (.aload_n 0, 1) := by decide +kernel
theorem dX4_putFromTop_2 : decode cX4_putFromTop 2 = .ok (.getfield 19, 3) := by decide +kernel
theorem dX4_putFromTop_5 : decode cX4_putFromTop 5 = .ok (.iconst 1, 1) := by decide +kernel
theorem dX4_putFromTop_6 : decode cX4_putFromTop 6 = .ok (.isub, 1) := by decide +kernel
theorem dX4_putFromTop_7 : decode cX4_putFromTop 7 = .ok (.iload_n 1, 1) := by decide +kernel
theorem dX4_putFromTop_8 : decode cX4_putFromTop 8 = .ok (.isub, 1) := by decide +kernel
theorem dX4_putFromTop_9 : decode cX4_putFromTop 9 = .ok (.iload_n 2, 1) := by decide +kernel
theorem dX4_putFromTop_10 : decode cX4_putFromTop 10 = .ok (.invokevirtual 27, 3) := by decide +kernel
theorem dX4_putFromTop_13 : decode cX4_putFromTop 13 = .ok (.return_, 1) := by decide +kernel
theorem dX4_push_0 : decode cX4_push 0 = .ok (.aload_n 0, 1) := by decide +kernel
theorem dX4_push_1 : decode cX4_push 1 = .ok (.getfield 19, 3) := by decide +kernel
theorem dX4_push_4 : decode cX4_push 4 = .ok (.aload_n 0, 1) := by decide +kernel
theorem dX4_push_5 : decode cX4_push 5 = .ok (.getfield 13, 3) := by decide +kernel
theorem dX4_push_8 : decode cX4_push 8 = .ok (.arraylength, 1) := by decide +kernel
theorem dX4_push_9 : decode cX4_push 9 = .ok (.if_icmp .ge 23, 3) := by decide +kernel
theorem dX4_push_12 : decode cX4_push 12 = .ok (.aload_n 0, 1) := by decide +kernel
theorem dX4_push_13 : decode cX4_push 13 = .ok (.getfield 13, 3) := by decide +kernel
theorem dX4_push_16 : decode cX4_push 16 = .ok (.aload_n 0, 1) := by decide +kernel
theorem dX4_push_17 : decode cX4_push 17 = .ok (.getfield 19, 3) := by decide +kernel
theorem dX4_push_20 : decode cX4_push 20 = .ok (.iload_n 1, 1) := by decide +kernel
theorem dX4_push_21 : decode cX4_push 21 = .ok (.iastore, 1) := by decide +kernel
theorem dX4_push_22 : decode cX4_push 22 = .ok (.aload_n 0, 1) := by decide +kernel
theorem dX4_push_23 : decode cX4_push 23 = .ok (.dup, 1) := by decide +kernel
theorem dX4_push_24 : decode cX4_push 24 = .ok (.getfield 19, 3) := by decide +kernel
theorem dX4_push_27 : decode cX4_push 27 = .ok (.iconst 1, 1) := by decide +kernel
theorem dX4_push_28 : decode cX4_push 28 = .ok (.iadd, 1) := by decide +kernel
theorem dX4_push_29 : decode cX4_push 29 = .ok (.putfield 19, 3) := by decide +kernel
theorem dX4_push_32 : decode cX4_push 32 = .ok (.return_, 1) := by decide +kernel
theorem dX4_pop_0 : decode cX4_pop 0 = .ok (.aload_n 0, 1) := by decide +kernel
theorem dX4_pop_1 : decode cX4_pop 1 = .ok (.getfield 19, 3) := by decide +kernel
theorem dX4_pop_4 : decode cX4_pop 4 = .ok (.ifCond .gt 5, 3) := by decide +kernel
theorem dX4_pop_7 : decode cX4_pop 7 = .ok (.iconst 0, 1) := by decide +kernel
theorem dX4_pop_8 : decode cX4_pop 8 = .ok (.ireturn, 1) := by decide +kernel
theorem dX4_pop_9 : decode cX4_pop 9 = .ok (.aload_n 0, 1) := by decide +kernel
theorem dX4_pop_10 : decode cX4_pop 10 = .ok (.dup, 1) := by decide +kernel
theorem dX4_pop_11 : decode cX4_pop 11 = .ok (.getfield 19, 3) := by decide +kernel
theorem dX4_pop_14 : decode cX4_pop 14 = .ok (.iconst 1, 1) := by decide +kernel
theorem dX4_pop_15 : decode cX4_pop 15 = .ok (.isub, 1) := by decide +kernel
theorem dX4_pop_16 : decode cX4_pop 16 = .ok (.putfield 19, 3) := by decide +kernel
theorem dX4_pop_19 : decode cX4_pop 19 = .ok (.aload_n 0, 1) := by decide +kernel
theorem dX4_pop_20 : decode cX4_pop 20 = .ok (.getfield 13, 3) := by decide +kernel
theorem dX4_pop_23 : decode cX4_pop 23 = .ok (.aload_n 0, 1) := by decide +kernel
theorem dX4_pop_24 : decode cX4_pop 24 = .ok (.getfield 19, 3) := by decide +kernel
theorem dX4_pop_27 : decode cX4_pop 27 = .ok (.iaload, 1) := by decide +kernel
theorem dX4_pop_28 : decode cX4_pop 28 = .ok (.ireturn, 1) := by decide +kernel
theorem dX4_resize_0 : decode cX4_resize 0 = .ok (.aload_n 0, 1) := by decide +kernel
theorem dX4_resize_1 : decode cX4_resize 1 = .ok (.iconst 0, 1) := by decide +kernel
theorem dX4_resize_2 : decode cX4_resize 2 = .ok (.iload_n 1, 1) := by decide +kernel
theorem dX4_resize_3 : decode cX4_resize 3 = .ok (.aload_n 0, 1) := by decide +kernel
theorem dX4_resize_4 : decode cX4_resize 4 = .ok (.getfield 13, 3) := by decide +kernel
theorem dX4_resize_7 : decode cX4_resize 7 = .ok (.arraylength, 1) := by decide +kernel
theorem dX4_resize_8 : decode cX4_resize 8 = .ok (.invokestatic 31, 3) := by decide +kernel
theorem dX4_resize_11 : decode cX4_resize 11 = .ok (.invokestatic 7, 3) := by decide +kernel
theorem dX4_resize_14 : decode cX4_resize 14 = .ok (.putfield 19, 3) := by decide +kernel
theorem dX4_resize_17 : decode cX4_resize 17 = .ok (.return_, 1) := by decide +kernel
theorem dX4_fillWithZeros_0 : decode cX4_fillWithZeros 0 = .ok (.aload_n 0, 1) := by decide +kernel
theorem dX4_fillWithZeros_1 : decode cX4_fillWithZeros 1 = .ok (.aload_n 0, 1) := by decide +kernel
theorem dX4_fillWithZeros_2 : decode cX4_fillWithZeros 2 = .ok (.getfield 13, 3) := by decide +kernel
theorem dX4_fillWithZeros_5 : decode cX4_fillWithZeros 5 = .ok (.arraylength, 1) := by decide +kernel
theorem dX4_fillWithZeros_6 : decode cX4_fillWithZeros 6 = .ok (.putfield 19, 3) := by decide +kernel
theorem dX4_fillWithZeros_9 : decode cX4_fillWithZeros 9 = .ok (.iconst 0, 1) := by decide +kernel
theorem dX4_fillWithZeros_10 : decode cX4_fillWithZeros 10 = .ok (.istore_n 1, 1) := by decide +kernel
theorem dX4_fillWithZeros_11 : decode cX4_fillWithZeros 11 = .ok (.iload_n 1, 1) := by decide +kernel
theorem dX4_fillWithZeros_12 : decode cX4_fillWithZeros 12 = .ok (.aload_n 0, 1) := by decide +kernel
theorem dX4_fillWithZeros_13 : decode cX4_fillWithZeros 13 = .ok (.getfield 13, 3) := by decide +kernel
theorem dX4_fillWithZeros_16 : decode cX4_fillWithZeros 16 = .ok (.arraylength, 1) := by decide +kernel
theorem dX4_fillWithZeros_17 : decode cX4_fillWithZeros 17 = .ok (.if_icmp .ge 16, 3) := by decide +kernel
theorem dX4_fillWithZeros_20 : decode cX4_fillWithZeros 20 = .ok (.aload_n 0, 1) := by decide +kernel
theorem dX4_fillWithZeros_21 : decode cX4_fillWithZeros 21 = .ok (.getfield 13, 3) := by decide +kernel
theorem dX4_fillWithZeros_24 : decode cX4_fillWithZeros 24 = .ok (.iload_n 1, 1) := by decide +kernel
theorem dX4_fillWithZeros_25 : decode cX4_fillWithZeros 25 = .ok (.iconst 0, 1) := by decide +kernel
theorem dX4_fillWithZeros_26 : decode cX4_fillWithZeros 26 = .ok (.iastore, 1) := by decide +kernel
theorem dX4_fillWithZeros_27 : decode cX4_fillWithZeros 27 = .ok (.iinc 1 1, 3) := by decide +kernel
theorem dX4_fillWithZeros_30 : decode cX4_fillWithZeros 30 = .ok (.goto (-19), 3) := by decide +kernel
theorem dX4_fillWithZeros_33 : decode cX4_fillWithZeros 33 = .ok (.return_, 1) := by decide +kernel
theorem dX4_copyFrom_0 : decode cX4_copyFrom 0 = .ok (.aload_n 0, 1) := by decide +kernel
theorem dX4_copyFrom_1 : decode cX4_copyFrom 1 = .ok (.aload_n 1, 1) := by decide +kernel
theorem dX4_copyFrom_2 : decode cX4_copyFrom 2 = .ok (.getfield 19, 3) := by decide +kernel
theorem dX4_copyFrom_5 : decode cX4_copyFrom 5 = .ok (.invokevirtual 34, 3) := by decide +kernel
theorem dX4_copyFrom_8 : decode cX4_copyFrom 8 = .ok (.aload_n 1, 1) := by decide +kernel
theorem dX4_copyFrom_9 : decode cX4_copyFrom 9 = .ok (.getfield 13, 3) := by decide +kernel
theorem dX4_copyFrom_12 : decode cX4_copyFrom 12 = .ok (.iconst 0, 1) := by decide +kernel
theorem dX4_copyFrom_13 : decode cX4_copyFrom 13 = .ok (.aload_n 0, 1) := by decide +kernel
theorem dX4_copyFrom_14 : decode cX4_copyFrom 14 = .ok (.getfield 13, 3) := by decide +kernel
theorem dX4_copyFrom_17 : decode cX4_copyFrom 17 = .ok (.iconst 0, 1) := by decide +kernel
theorem dX4_copyFrom_18 : decode cX4_copyFrom 18 = .ok (.aload_n 0, 1) := by decide +kernel
theorem dX4_copyFrom_19 : decode cX4_copyFrom 19 = .ok (.getfield 19, 3) := by decide +kernel
theorem dX4_copyFrom_22 : decode cX4_copyFrom 22 = .ok (.invokestatic 38, 3) := by decide +kernel
theorem dX4_copyFrom_25 : decode cX4_copyFrom 25 = .ok (.return_, 1) := by decide +kernel
theorem dX4_mixedInto_0 : decode cX4_mixedInto 0 = .ok (.lload_n 1, 1) := by decide +kernel
theorem dX4_mixedInto_1 : decode cX4_mixedInto 1 = .ok (.lstore_n 3, 1) := by decide +kernel
theorem dX4_mixedInto_2 : decode cX4_mixedInto 2 = .ok (.iconst 0, 1) := by decide +kernel
theorem dX4_mixedInto_3 : decode cX4_mixedInto 3 = .ok (.istore 5, 2) := by decide +kernel
theorem dX4_mixedInto_5 : decode cX4_mixedInto 5 = .ok (.iload 5, 2) := by decide +kernel
theorem dX4_mixedInto_7 : decode cX4_mixedInto 7 = .ok (.aload_n 0, 1) := by decide +kernel
theorem dX4_mixedInto_8 : decode cX4_mixedInto 8 = .ok (.getfield 19, 3) := by decide +kernel
theorem dX4_mixedInto_11 : decode cX4_mixedInto 11 = .ok (.if_icmp .ge 21, 3) := by decide +kernel
theorem dX4_mixedInto_14 : decode cX4_mixedInto 14 = .ok (.lload_n 3, 1) := by decide +kernel
theorem dX4_mixedInto_15 : decode cX4_mixedInto 15 = .ok (.aload_n 0, 1) := by decide +kernel
theorem dX4_mixedInto_16 : decode cX4_mixedInto 16 = .ok (.getfield 13, 3) := by decide +kernel
theorem dX4_mixedInto_19 : decode cX4_mixedInto 19 = .ok (.iload 5, 2) := by decide +kernel
theorem dX4_mixedInto_21 : decode cX4_mixedInto 21 = .ok (.iaload, 1) := by decide +kernel
theorem dX4_mixedInto_22 : decode cX4_mixedInto 22 = .ok (.invokestatic 44, 3) := by decide +kernel
theorem dX4_mixedInto_25 : decode cX4_mixedInto 25 = .ok (.lstore_n 3, 1) := by decide +kernel
theorem dX4_mixedInto_26 : decode cX4_mixedInto 26 = .ok (.iinc 5 1, 3) := by decide +kernel
theorem dX4_mixedInto_29 : decode cX4_mixedInto 29 = .ok (.goto (-24), 3) := by decide +kernel
theorem dX4_mixedInto_32 : decode cX4_mixedInto 32 = .ok (.lload_n 3, 1) := by decide +kernel
theorem dX4_mixedInto_33 : decode cX4_mixedInto 33 = .ok (.lreturn, 1) := by decide +kernel
theorem dX4_mixedFromTopInto_0 : decode cX4_mixedFromTopInto 0 = .ok (.lload_n 1, 1) := by decide +kernel
theorem dX4_mixedFromTopInto_1 : decode cX4_mixedFromTopInto 1 = .ok (.lstore_n 3, 1) := by decide +kernel
theorem dX4_mixedFromTopInto_2 : decode cX4_mixedFromTopInto 2 = .ok (.iconst 0, 1) := by decide +kernel
theorem dX4_mixedFromTopInto_3 : decode cX4_mixedFromTopInto 3 = .ok (.istore 5, 2) := by decide +kernel
theorem dX4_mixedFromTopInto_5 : decode cX4_mixedFromTopInto 5 = .ok (.iload 5, 2) := by decide +kernel
theorem dX4_mixedFromTopInto_7 : decode cX4_mixedFromTopInto 7 = .ok (.aload_n 0, 1) := by decide +kernel
theorem dX4_mixedFromTopInto_8 : decode cX4_mixedFromTopInto 8 = .ok (.getfield 19, 3) := by decide +kernel
theorem dX4_mixedFromTopInto_11 : decode cX4_mixedFromTopInto 11 = .ok (.if_icmp .ge 20, 3) := by decide +kernel
theorem dX4_mixedFromTopInto_14 : decode cX4_mixedFromTopInto 14 = .ok (.lload_n 3, 1) := by decide +kernel
theorem dX4_mixedFromTopInto_15 : decode cX4_mixedFromTopInto 15 = .ok (.aload_n 0, 1) := by decide +kernel
theorem dX4_mixedFromTopInto_16 : decode cX4_mixedFromTopInto 16 = .ok (.iload 5, 2) := by decide +kernel
theorem dX4_mixedFromTopInto_18 : decode cX4_mixedFromTopInto 18 = .ok (.invokevirtual 50, 3) := by decide +kernel
theorem dX4_mixedFromTopInto_21 : decode cX4_mixedFromTopInto 21 = .ok (.invokestatic 44, 3) := by decide +kernel
theorem dX4_mixedFromTopInto_24 : decode cX4_mixedFromTopInto 24 = .ok (.lstore_n 3, 1) := by decide +kernel
theorem dX4_mixedFromTopInto_25 : decode cX4_mixedFromTopInto 25 = .ok (.iinc 5 1, 3) := by decide +kernel
theorem dX4_mixedFromTopInto_28 : decode cX4_mixedFromTopInto 28 = .ok (.goto (-23), 3) := by decide +kernel
theorem dX4_mixedFromTopInto_31 : decode cX4_mixedFromTopInto 31 = .ok (.lload_n 3, 1) := by decide +kernel
theorem dX4_mixedFromTopInto_32 : decode cX4_mixedFromTopInto 32 = .ok (.lreturn, 1) := by decide +kernel
theorem dX6_init_0 : decode cX6_init 0 = .ok (.aload_n 0, 1) := by decide +kernel
theorem dX6_init_1 : decode cX6_init 1 = .ok (.invokespecial 3, 3) := by decide +kernel
theorem dX6_init_4 : decode cX6_init 4 = .ok (.aload_n 0, 1) := by decide +kernel
theorem dX6_init_5 : decode cX6_init 5 = .ok (.new 9, 3) := by decide +kernel
theorem dX6_init_8 : decode cX6_init 8 = .ok (.dup, 1) := by decide +kernel
theorem dX6_init_9 : decode cX6_init 9 = .ok (.sipush 200, 3) := by decide +kernel
theorem dX6_init_12 : decode cX6_init 12 = .ok (.invokespecial 11, 3) := by decide +kernel
theorem dX6_init_15 : decode cX6_init 15 = .ok (.putfield 14, 3) := by decide +kernel
theorem dX6_init_18 : decode cX6_init 18 = .ok (.aload_n 0, 1) := by decide +kernel
theorem dX6_init_19 : decode cX6_init 19 = .ok (.new 9, 3) := by decide +kernel
theorem dX6_init_22 : decode cX6_init 22 = .ok (.dup, 1) := by decide +kernel
theorem dX6_init_23 : decode cX6_init 23 = .ok (.bipush 20, 2) := by decide +kernel
theorem dX6_init_25 : decode cX6_init 25 = .ok (.invokespecial 11, 3) := by decide +kernel
theorem dX6_init_28 : decode cX6_init 28 = .ok (.putfield 20, 3) := by decide +kernel
theorem dX6_init_31 : decode cX6_init 31 = .ok (.return_, 1) := by decide +kernel
theorem dX7_init_0 : decode cX7_init 0 = .ok (.aload_n 0, 1) := by decide +kernel
theorem dX7_init_1 : decode cX7_init 1 = .ok (.invokespecial 3, 3) := by decide +kernel
theorem dX7_init_4 : decode cX7_init 4 = .ok (.return_, 1) := by decide +kernel
theorem dX7_isMetBy_0 : decode cX7_isMetBy 0 = .ok (.aload_n 0, 1) := by decide +kernel
theorem dX7_isMetBy_1 : decode cX7_isMetBy 1 = .ok (.getfield 15, 3) := by decide +kernel
theorem dX7_isMetBy_4 : decode cX7_isMetBy 4 = .ok (.lookupswitch 54 #[(0, 28), (1, 37)], 28) := by decide +kernel
theorem dX7_isMetBy_32 : decode cX7_isMetBy 32 = .ok (.aload_n 1, 1) := by decide +kernel
theorem dX7_isMetBy_33 : decode cX7_isMetBy 33 = .ok (.aload_n 0, 1) := by decide +kernel
theorem dX7_isMetBy_34 : decode cX7_isMetBy 34 = .ok (.getfield 9, 3) := by decide +kernel
theorem dX7_isMetBy_37 : decode cX7_isMetBy 37 = .ok (.invokevirtual 21, 3) := by decide +kernel
theorem dX7_isMetBy_40 : decode cX7_isMetBy 40 = .ok (.ireturn, 1) := by decide +kernel
theorem dX7_isMetBy_41 : decode cX7_isMetBy 41 = .ok (.aload_n 1, 1) := by decide +kernel
theorem dX7_isMetBy_42 : decode cX7_isMetBy 42 = .ok (.getfield 27, 3) := by decide +kernel
theorem dX7_isMetBy_45 : decode cX7_isMetBy 45 = .ok (.aload_n 0, 1) := by decide +kernel
theorem dX7_isMetBy_46 : decode cX7_isMetBy 46 = .ok (.getfield 9, 3) := by decide +kernel
theorem dX7_isMetBy_49 : decode cX7_isMetBy 49 = .ok (.if_icmp .ne 7, 3) := by decide +kernel
theorem dX7_isMetBy_52 : decode cX7_isMetBy 52 = .ok (.iconst 1, 1) := by decide +kernel
theorem dX7_isMetBy_53 : decode cX7_isMetBy 53 = .ok (.goto 4, 3) := by decide +kernel
theorem dX7_isMetBy_56 : decode cX7_isMetBy 56 = .ok (.iconst 0, 1) := by decide +kernel
theorem dX7_isMetBy_57 : decode cX7_isMetBy 57 = .ok (.ireturn, 1) := by decide +kernel
theorem dX7_isMetBy_58 : decode cX7_isMetBy 58 = .ok (.aload_n 1, 1) := by decide +kernel
theorem dX7_isMetBy_59 : decode cX7_isMetBy 59 = .ok (.aload_n 0, 1) := by decide +kernel
theorem dX7_isMetBy_60 : decode cX7_isMetBy 60 = .ok (.getfield 9, 3) := by decide +kernel
theorem dX7_isMetBy_63 : decode cX7_isMetBy 63 = .ok (.invokevirtual 21, 3) := by decide +kernel
theorem dX7_isMetBy_66 : decode cX7_isMetBy 66 = .ok (.ifCond .eq 18, 3) := by decide +kernel
theorem dX7_isMetBy_69 : decode cX7_isMetBy 69 = .ok (.aload_n 1, 1) := by decide +kernel
theorem dX7_isMetBy_70 : decode cX7_isMetBy 70 = .ok (.getfield 28, 3) := by decide +kernel
theorem dX7_isMetBy_73 : decode cX7_isMetBy 73 = .ok (.aload_n 0, 1) := by decide +kernel
theorem dX7_isMetBy_74 : decode cX7_isMetBy 74 = .ok (.getfield 18, 3) := by decide +kernel
theorem dX7_isMetBy_77 : decode cX7_isMetBy 77 = .ok (.if_icmp .ne 7, 3) := by decide +kernel
theorem dX7_isMetBy_80 : decode cX7_isMetBy 80 = .ok (.iconst 1, 1) := by decide +kernel
theorem dX7_isMetBy_81 : decode cX7_isMetBy 81 = .ok (.goto 4, 3) := by decide +kernel
theorem dX7_isMetBy_84 : decode cX7_isMetBy 84 = .ok (.iconst 0, 1) := by decide +kernel
theorem dX7_isMetBy_85 : decode cX7_isMetBy 85 = .ok (.ireturn, 1) := by decide +kernel
