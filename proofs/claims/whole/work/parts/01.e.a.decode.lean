theorem dX0_init_0 : decode cX0_init 0 = .ok (.aload_n 0, 1) := by decide +kernel
theorem dX0_init_1 : decode cX0_init 1 = .ok (.invokespecial 1, 3) := by decide +kernel
theorem dX0_init_4 : decode cX0_init 4 = .ok (.aload_n 0, 1) := by decide +kernel
theorem dX0_init_5 : decode cX0_init 5 = .ok (.new 7, 3) := by decide +kernel
theorem dX0_init_8 : decode cX0_init 8 = .ok (.dup, 1) := by decide +kernel
theorem dX0_init_9 : decode cX0_init 9 = .ok (.invokespecial 9, 3) := by decide +kernel
theorem dX0_init_12 : decode cX0_init 12 = .ok (.putfield 10, 3) := by decide +kernel
theorem dX0_init_15 : decode cX0_init 15 = .ok (.aload_n 0, 1) := by decide +kernel
theorem dX0_init_16 : decode cX0_init 16 = .ok (.new 7, 3) := by decide +kernel
theorem dX0_init_19 : decode cX0_init 19 = .ok (.dup, 1) := by decide +kernel
theorem dX0_init_20 : decode cX0_init 20 = .ok (.invokespecial 9, 3) := by decide +kernel
theorem dX0_init_23 : decode cX0_init 23 = .ok (.putfield 16, 3) := by decide +kernel
theorem dX0_init_26 : decode cX0_init 26 = .ok (.aload_n 0, 1) := by decide +kernel
theorem dX0_init_27 : decode cX0_init 27 = .ok (.iconst (-1), 1) := by decide +kernel
theorem dX0_init_28 : decode cX0_init 28 = .ok (.putfield 19, 3) := by decide +kernel
theorem dX0_init_31 : decode cX0_init 31 = .ok (.return_, 1) := by decide +kernel
theorem dX0_sitDown_0 : decode cX0_sitDown 0 = .ok (.aload_n 0, 1) := by decide +kernel
theorem dX0_sitDown_1 : decode cX0_sitDown 1 = .ok (.getfield 10, 3) := by decide +kernel
theorem dX0_sitDown_4 : decode cX0_sitDown 4 = .ok (.iload_n 1, 1) := by decide +kernel
theorem dX0_sitDown_5 : decode cX0_sitDown 5 = .ok (.iload_n 3, 1) := by decide +kernel
theorem dX0_sitDown_6 : decode cX0_sitDown 6 = .ok (.invokevirtual 23, 3) := by decide +kernel
theorem dX0_sitDown_9 : decode cX0_sitDown 9 = .ok (.aload_n 0, 1) := by decide +kernel
theorem dX0_sitDown_10 : decode cX0_sitDown 10 = .ok (.getfield 16, 3) := by decide +kernel
theorem dX0_sitDown_13 : decode cX0_sitDown 13 = .ok (.iload_n 2, 1) := by decide +kernel
theorem dX0_sitDown_14 : decode cX0_sitDown 14 = .ok (.iload_n 3, 1) := by decide +kernel
theorem dX0_sitDown_15 : decode cX0_sitDown 15 = .ok (.invokevirtual 23, 3) := by decide +kernel
theorem dX0_sitDown_18 : decode cX0_sitDown 18 = .ok (.return_, 1) := by decide +kernel
theorem dX0_start_0 : decode cX0_start 0 = .ok (.aload_n 0, 1) := by decide +kernel
theorem dX0_start_1 : decode cX0_start 1 = .ok (.iload_n 1, 1) := by decide +kernel
theorem dX0_start_2 : decode cX0_start 2 = .ok (.putfield 27, 3) := by decide +kernel
theorem dX0_start_5 : decode cX0_start 5 = .ok (.aload_n 0, 1) := by decide +kernel
theorem dX0_start_6 : decode cX0_start 6 = .ok (.iload_n 2, 1) := by decide +kernel
theorem dX0_start_7 : decode cX0_start 7 = .ok (.putfield 30, 3) := by decide +kernel
theorem dX0_start_10 : decode cX0_start 10 = .ok (.aload_n 0, 1) := by decide +kernel
theorem dX0_start_11 : decode cX0_start 11 = .ok (.iload_n 3, 1) := by decide +kernel
theorem dX0_start_12 : decode cX0_start 12 = .ok (.putfield 33, 3) := by decide +kernel
theorem dX0_start_15 : decode cX0_start 15 = .ok (.aload_n 0, 1) := by decide +kernel
theorem dX0_start_16 : decode cX0_start 16 = .ok (.iload 4, 2) := by decide +kernel
theorem dX0_start_18 : decode cX0_start 18 = .ok (.putfield 36, 3) := by decide +kernel
theorem dX0_start_21 : decode cX0_start 21 = .ok (.aload_n 0, 1) := by decide +kernel
theorem dX0_start_22 : decode cX0_start 22 = .ok (.iconst 0, 1) := by decide +kernel
theorem dX0_start_23 : decode cX0_start 23 = .ok (.putfield 39, 3) := by decide +kernel
theorem dX0_start_26 : decode cX0_start 26 = .ok (.aload_n 0, 1) := by decide +kernel
theorem dX0_start_27 : decode cX0_start 27 = .ok (.iconst 0, 1) := by decide +kernel
theorem dX0_start_28 : decode cX0_start 28 = .ok (.putfield 42, 3) := by decide +kernel
theorem dX0_start_31 : decode cX0_start 31 = .ok (.aload_n 0, 1) := by decide +kernel
theorem dX0_start_32 : decode cX0_start 32 = .ok (.iconst 0, 1) := by decide +kernel
theorem dX0_start_33 : decode cX0_start 33 = .ok (.putfield 45, 3) := by decide +kernel
theorem dX0_start_36 : decode cX0_start 36 = .ok (.aload_n 0, 1) := by decide +kernel
theorem dX0_start_37 : decode cX0_start 37 = .ok (.iconst 0, 1) := by decide +kernel
theorem dX0_start_38 : decode cX0_start 38 = .ok (.putfield 19, 3) := by decide +kernel
theorem dX0_start_41 : decode cX0_start 41 = .ok (.return_, 1) := by decide +kernel
theorem dX0_copy_0 : decode cX0_copy 0 = .ok (.aload_n 0, 1) := by decide +kernel
theorem dX0_copy_1 : decode cX0_copy 1 = .ok (.getfield 10, 3) := by decide +kernel
theorem dX0_copy_4 : decode cX0_copy 4 = .ok (.aload_n 1, 1) := by decide +kernel
theorem dX0_copy_5 : decode cX0_copy 5 = .ok (.getfield 10, 3) := by decide +kernel
theorem dX0_copy_8 : decode cX0_copy 8 = .ok (.invokevirtual 48, 3) := by decide +kernel
theorem dX0_copy_11 : decode cX0_copy 11 = .ok (.aload_n 0, 1) := by decide +kernel
theorem dX0_copy_12 : decode cX0_copy 12 = .ok (.getfield 16, 3) := by decide +kernel
theorem dX0_copy_15 : decode cX0_copy 15 = .ok (.aload_n 1, 1) := by decide +kernel
theorem dX0_copy_16 : decode cX0_copy 16 = .ok (.getfield 16, 3) := by decide +kernel
theorem dX0_copy_19 : decode cX0_copy 19 = .ok (.invokevirtual 48, 3) := by decide +kernel
theorem dX0_copy_22 : decode cX0_copy 22 = .ok (.aload_n 0, 1) := by decide +kernel
theorem dX0_copy_23 : decode cX0_copy 23 = .ok (.aload_n 1, 1) := by decide +kernel
theorem dX0_copy_24 : decode cX0_copy 24 = .ok (.getfield 27, 3) := by decide +kernel
theorem dX0_copy_27 : decode cX0_copy 27 = .ok (.putfield 27, 3) := by decide +kernel
theorem dX0_copy_30 : decode cX0_copy 30 = .ok (.aload_n 0, 1) := by decide +kernel
theorem dX0_copy_31 : decode cX0_copy 31 = .ok (.aload_n 1, 1) := by decide +kernel
theorem dX0_copy_32 : decode cX0_copy 32 = .ok (.getfield 30, 3) := by decide +kernel
theorem dX0_copy_35 : decode cX0_copy 35 = .ok (.putfield 30, 3) := by decide +kernel
theorem dX0_copy_38 : decode cX0_copy 38 = .ok (.aload_n 0, 1) := by decide +kernel
theorem dX0_copy_39 : decode cX0_copy 39 = .ok (.aload_n 1, 1) := by decide +kernel
theorem dX0_copy_40 : decode cX0_copy 40 = .ok (.getfield 33, 3) := by decide +kernel
theorem dX0_copy_43 : decode cX0_copy 43 = .ok (.putfield 33, 3) := by decide +kernel
theorem dX0_copy_46 : decode cX0_copy 46 = .ok (.aload_n 0, 1) := by decide +kernel
theorem dX0_copy_47 : decode cX0_copy 47 = .ok (.aload_n 1, 1) := by decide +kernel
theorem dX0_copy_48 : decode cX0_copy 48 = .ok (.getfield 36, 3) := by decide +kernel
theorem dX0_copy_51 : decode cX0_copy 51 = .ok (.putfield 36, 3) := by decide +kernel
theorem dX0_copy_54 : decode cX0_copy 54 = .ok (.aload_n 0, 1) := by decide +kernel
theorem dX0_copy_55 : decode cX0_copy 55 = .ok (.aload_n 1, 1) := by decide +kernel
theorem dX0_copy_56 : decode cX0_copy 56 = .ok (.getfield 39, 3) := by decide +kernel
theorem dX0_copy_59 : decode cX0_copy 59 = .ok (.putfield 39, 3) := by decide +kernel
theorem dX0_copy_62 : decode cX0_copy 62 = .ok (.aload_n 0, 1) := by decide +kernel
theorem dX0_copy_63 : decode cX0_copy 63 = .ok (.aload_n 1, 1) := by decide +kernel
theorem dX0_copy_64 : decode cX0_copy 64 = .ok (.getfield 42, 3) := by decide +kernel
theorem dX0_copy_67 : decode cX0_copy 67 = .ok (.putfield 42, 3) := by decide +kernel
theorem dX0_copy_70 : decode cX0_copy 70 = .ok (.aload_n 0, 1) := by decide +kernel
theorem dX0_copy_71 : decode cX0_copy 71 = .ok (.aload_n 1, 1) := by decide +kernel
theorem dX0_copy_72 : decode cX0_copy 72 = .ok (.getfield 45, 3) := by decide +kernel
theorem dX0_copy_75 : decode cX0_copy 75 = .ok (.putfield 45, 3) := by decide +kernel
theorem dX0_copy_78 : decode cX0_copy 78 = .ok (.aload_n 0, 1) := by decide +kernel
theorem dX0_copy_79 : decode cX0_copy 79 = .ok (.aload_n 1, 1) := by decide +kernel
theorem dX0_copy_80 : decode cX0_copy 80 = .ok (.getfield 19, 3) := by decide +kernel
theorem dX0_copy_83 : decode cX0_copy 83 = .ok (.putfield 19, 3) := by decide +kernel
theorem dX0_copy_86 : decode cX0_copy 86 = .ok (.return_, 1) := by decide +kernel
theorem dX0_runs_0 : decode cX0_runs 0 = .ok (.aload_n 0, 1) := by decide +kernel
theorem dX0_runs_1 : decode cX0_runs 1 = .ok (.getfield 19, 3) := by decide +kernel
theorem dX0_runs_4 : decode cX0_runs 4 = .ok (.ifCond .ne 7, 3) := by decide +kernel
theorem dX0_runs_7 : decode cX0_runs 7 = .ok (.iconst 1, 1) := by decide +kernel
theorem dX0_runs_8 : decode cX0_runs 8 = .ok (.goto 4, 3) := by decide +kernel
theorem dX0_runs_11 : decode cX0_runs 11 = .ok (.iconst 0, 1) := by decide +kernel
theorem dX0_runs_12 : decode cX0_runs 12 = .ok (.ireturn, 1) := by decide +kernel
theorem dX0_isPlayedBy_0 : decode cX0_isPlayedBy 0 = .ok (.aload_n 0, 1) := by decide +kernel
theorem dX0_isPlayedBy_1 : decode cX0_isPlayedBy 1 = .ok (.getfield 10, 3) := by decide +kernel
theorem dX0_isPlayedBy_4 : decode cX0_isPlayedBy 4 = .ok (.getfield 52, 3) := by decide +kernel
theorem dX0_isPlayedBy_7 : decode cX0_isPlayedBy 7 = .ok (.iload_n 1, 1) := by decide +kernel
theorem dX0_isPlayedBy_8 : decode cX0_isPlayedBy 8 = .ok (.if_icmp .eq 14, 3) := by decide +kernel
theorem dX0_isPlayedBy_11 : decode cX0_isPlayedBy 11 = .ok (.aload_n 0, 1) := by decide +kernel
theorem dX0_isPlayedBy_12 : decode cX0_isPlayedBy 12 = .ok (.getfield 16, 3) := by decide +kernel
theorem dX0_isPlayedBy_15 : decode cX0_isPlayedBy 15 = .ok (.getfield 52, 3) := by decide +kernel
theorem dX0_isPlayedBy_18 : decode cX0_isPlayedBy 18 = .ok (.iload_n 1, 1) := by decide +kernel
theorem dX0_isPlayedBy_19 : decode cX0_isPlayedBy 19 = .ok (.if_icmp .ne 7, 3) := by decide +kernel
theorem dX0_isPlayedBy_22 : decode cX0_isPlayedBy 22 = .ok (.iconst 1, 1) := by decide +kernel
theorem dX0_isPlayedBy_23 : decode cX0_isPlayedBy 23 = .ok (.goto 4, 3) := by decide +kernel
theorem dX0_isPlayedBy_26 : decode cX0_isPlayedBy 26 = .ok (.iconst 0, 1) := by decide +kernel
theorem dX0_isPlayedBy_27 : decode cX0_isPlayedBy 27 = .ok (.ireturn, 1) := by decide +kernel
theorem dX0_sideAt_0 : decode cX0_sideAt 0 = .ok (.iload_n 1, 1) := by decide +kernel
theorem dX0_sideAt_1 : decode cX0_sideAt 1 = .ok (.ifCond .ne 10, 3) := by decide +kernel
theorem dX0_sideAt_4 : decode cX0_sideAt 4 = .ok (.aload_n 0, 1) := by decide +kernel
theorem dX0_sideAt_5 : decode cX0_sideAt 5 = .ok (.getfield 10, 3) := by decide +kernel
theorem dX0_sideAt_8 : decode cX0_sideAt 8 = .ok (.goto 7, 3) := by decide +kernel
theorem dX0_sideAt_11 : decode cX0_sideAt 11 = .ok (.aload_n 0, 1) := by decide +kernel
theorem dX0_sideAt_12 : decode cX0_sideAt 12 = .ok (.getfield 16, 3) := by decide +kernel
theorem dX0_sideAt_15 : decode cX0_sideAt 15 = .ok (.areturn, 1) := by decide +kernel
theorem dX0_mover_0 : decode cX0_mover 0 = .ok (.aload_n 0, 1) := by decide +kernel
theorem dX0_mover_1 : decode cX0_mover 1 = .ok (.aload_n 0, 1) := by decide +kernel
theorem dX0_mover_2 : decode cX0_mover 2 = .ok (.getfield 39, 3) := by decide +kernel
theorem dX0_mover_5 : decode cX0_mover 5 = .ok (.invokevirtual 55, 3) := by decide +kernel
theorem dX0_mover_8 : decode cX0_mover 8 = .ok (.areturn, 1) := by decide +kernel
theorem dX0_move_0 : decode cX0_move 0 = .ok (.aload_n 0, 1) := by decide +kernel
theorem dX0_move_1 : decode cX0_move 1 = .ok (.invokevirtual 59, 3) := by decide +kernel
theorem dX0_move_4 : decode cX0_move 4 = .ok (.dup, 1) := by decide +kernel
theorem dX0_move_5 : decode cX0_move 5 = .ok (.getfield 63, 3) := by decide +kernel
theorem dX0_move_8 : decode cX0_move 8 = .ok (.aload_n 0, 1) := by decide +kernel
theorem dX0_move_9 : decode cX0_move 9 = .ok (.getfield 30, 3) := by decide +kernel
theorem dX0_move_12 : decode cX0_move 12 = .ok (.iadd, 1) := by decide +kernel
theorem dX0_move_13 : decode cX0_move 13 = .ok (.putfield 63, 3) := by decide +kernel
theorem dX0_move_16 : decode cX0_move 16 = .ok (.aload_n 0, 1) := by decide +kernel
theorem dX0_move_17 : decode cX0_move 17 = .ok (.iconst 1, 1) := by decide +kernel
theorem dX0_move_18 : decode cX0_move 18 = .ok (.aload_n 0, 1) := by decide +kernel
theorem dX0_move_19 : decode cX0_move 19 = .ok (.getfield 39, 3) := by decide +kernel
theorem dX0_move_22 : decode cX0_move 22 = .ok (.isub, 1) := by decide +kernel
theorem dX0_move_23 : decode cX0_move 23 = .ok (.putfield 39, 3) := by decide +kernel
theorem dX0_move_26 : decode cX0_move 26 = .ok (.aload_n 0, 1) := by decide +kernel
theorem dX0_move_27 : decode cX0_move 27 = .ok (.iconst 0, 1) := by decide +kernel
theorem dX0_move_28 : decode cX0_move 28 = .ok (.putfield 45, 3) := by decide +kernel
theorem dX0_move_31 : decode cX0_move 31 = .ok (.aload_n 0, 1) := by decide +kernel
theorem dX0_move_32 : decode cX0_move 32 = .ok (.dup, 1) := by decide +kernel
theorem dX0_move_33 : decode cX0_move 33 = .ok (.getfield 42, 3) := by decide +kernel
theorem dX0_move_36 : decode cX0_move 36 = .ok (.iconst 1, 1) := by decide +kernel
theorem dX0_move_37 : decode cX0_move 37 = .ok (.iadd, 1) := by decide +kernel
theorem dX0_move_38 : decode cX0_move 38 = .ok (.putfield 42, 3) := by decide +kernel
theorem dX0_move_41 : decode cX0_move 41 = .ok (.return_, 1) := by decide +kernel
theorem dX0_tick_0 : decode cX0_tick 0 = .ok (.aload_n 0, 1) := by decide +kernel
theorem dX0_tick_1 : decode cX0_tick 1 = .ok (.dup, 1) := by decide +kernel
theorem dX0_tick_2 : decode cX0_tick 2 = .ok (.getfield 45, 3) := by decide +kernel
theorem dX0_tick_5 : decode cX0_tick 5 = .ok (.iconst 1, 1) := by decide +kernel
theorem dX0_tick_6 : decode cX0_tick 6 = .ok (.iadd, 1) := by decide +kernel
theorem dX0_tick_7 : decode cX0_tick 7 = .ok (.putfield 45, 3) := by decide +kernel
theorem dX0_tick_10 : decode cX0_tick 10 = .ok (.aload_n 0, 1) := by decide +kernel
theorem dX0_tick_11 : decode cX0_tick 11 = .ok (.getfield 45, 3) := by decide +kernel
theorem dX0_tick_14 : decode cX0_tick 14 = .ok (.aload_n 0, 1) := by decide +kernel
theorem dX0_tick_15 : decode cX0_tick 15 = .ok (.getfield 33, 3) := by decide +kernel
theorem dX0_tick_18 : decode cX0_tick 18 = .ok (.if_icmp .le 16, 3) := by decide +kernel
theorem dX0_tick_21 : decode cX0_tick 21 = .ok (.aload_n 0, 1) := by decide +kernel
theorem dX0_tick_22 : decode cX0_tick 22 = .ok (.invokevirtual 59, 3) := by decide +kernel
theorem dX0_tick_25 : decode cX0_tick 25 = .ok (.dup, 1) := by decide +kernel
theorem dX0_tick_26 : decode cX0_tick 26 = .ok (.getfield 63, 3) := by decide +kernel
theorem dX0_tick_29 : decode cX0_tick 29 = .ok (.iconst 1, 1) := by decide +kernel
theorem dX0_tick_30 : decode cX0_tick 30 = .ok (.isub, 1) := by decide +kernel
theorem dX0_tick_31 : decode cX0_tick 31 = .ok (.putfield 63, 3) := by decide +kernel
theorem dX0_tick_34 : decode cX0_tick 34 = .ok (.aload_n 0, 1) := by decide +kernel
theorem dX0_tick_35 : decode cX0_tick 35 = .ok (.invokevirtual 59, 3) := by decide +kernel
theorem dX0_tick_38 : decode cX0_tick 38 = .ok (.getfield 63, 3) := by decide +kernel
theorem dX0_tick_41 : decode cX0_tick 41 = .ok (.ifCond .ne 7, 3) := by decide +kernel
theorem dX0_tick_44 : decode cX0_tick 44 = .ok (.iconst 1, 1) := by decide +kernel
theorem dX0_tick_45 : decode cX0_tick 45 = .ok (.goto 4, 3) := by decide +kernel
theorem dX0_tick_48 : decode cX0_tick 48 = .ok (.iconst 0, 1) := by decide +kernel
theorem dX0_tick_49 : decode cX0_tick 49 = .ok (.ireturn, 1) := by decide +kernel
theorem dX0_missingFor_0 : decode cX0_missingFor 0 = .ok (.iconst 0, 1) := by decide +kernel
theorem dX0_missingFor_1 : decode cX0_missingFor 1 = .ok (.aload_n 0, 1) := by decide +kernel
theorem dX0_missingFor_2 : decode cX0_missingFor 2 = .ok (.getfield 33, 3) := by decide +kernel
theorem dX0_missingFor_5 : decode cX0_missingFor 5 = .ok (.aload_n 0, 1) := by decide +kernel
theorem dX0_missingFor_6 : decode cX0_missingFor 6 = .ok (.getfield 45, 3) := by decide +kernel
theorem dX0_missingFor_9 : decode cX0_missingFor 9 = .ok (.isub, 1) := by decide +kernel
theorem dX0_missingFor_10 : decode cX0_missingFor 10 = .ok (.invokestatic 66, 3) := by decide +kernel
theorem dX0_missingFor_13 : decode cX0_missingFor 13 = .ok (.istore_n 2, 1) := by decide +kernel
theorem dX0_missingFor_14 : decode cX0_missingFor 14 = .ok (.iconst 0, 1) := by decide +kernel
theorem dX0_missingFor_15 : decode cX0_missingFor 15 = .ok (.iload_n 1, 1) := by decide +kernel
theorem dX0_missingFor_16 : decode cX0_missingFor 16 = .ok (.iload_n 2, 1) := by decide +kernel
theorem dX0_missingFor_17 : decode cX0_missingFor 17 = .ok (.isub, 1) := by decide +kernel
theorem dX0_missingFor_18 : decode cX0_missingFor 18 = .ok (.invokestatic 66, 3) := by decide +kernel
theorem dX0_missingFor_21 : decode cX0_missingFor 21 = .ok (.istore_n 3, 1) := by decide +kernel
theorem dX0_missingFor_22 : decode cX0_missingFor 22 = .ok (.iconst 0, 1) := by decide +kernel
theorem dX0_missingFor_23 : decode cX0_missingFor 23 = .ok (.iload_n 3, 1) := by decide +kernel
theorem dX0_missingFor_24 : decode cX0_missingFor 24 = .ok (.iconst 1, 1) := by decide +kernel
theorem dX0_missingFor_25 : decode cX0_missingFor 25 = .ok (.iadd, 1) := by decide +kernel
theorem dX0_missingFor_26 : decode cX0_missingFor 26 = .ok (.aload_n 0, 1) := by decide +kernel
theorem dX0_missingFor_27 : decode cX0_missingFor 27 = .ok (.invokevirtual 59, 3) := by decide +kernel
theorem dX0_missingFor_30 : decode cX0_missingFor 30 = .ok (.getfield 63, 3) := by decide +kernel
theorem dX0_missingFor_33 : decode cX0_missingFor 33 = .ok (.isub, 1) := by decide +kernel
theorem dX0_missingFor_34 : decode cX0_missingFor 34 = .ok (.invokestatic 66, 3) := by decide +kernel
theorem dX0_missingFor_37 : decode cX0_missingFor 37 = .ok (.ireturn, 1) := by decide +kernel
theorem dX1_init_0 : decode cX1_init 0 = .ok (.aload_n 0, 1) := by decide +kernel
theorem dX1_init_1 : decode cX1_init 1 = .ok (.invokespecial 3, 3) := by decide +kernel
theorem dX1_init_4 : decode cX1_init 4 = .ok (.aload_n 0, 1) := by decide +kernel
theorem dX1_init_5 : decode cX1_init 5 = .ok (.iconst (-1), 1) := by decide +kernel
theorem dX1_init_6 : decode cX1_init 6 = .ok (.putfield 11, 3) := by decide +kernel
theorem dX1_init_9 : decode cX1_init 9 = .ok (.return_, 1) := by decide +kernel
theorem dX1_open_0 : decode cX1_open 0 = .ok (.aload_n 0, 1) := by decide +kernel
theorem dX1_open_1 : decode cX1_open 1 = .ok (.iload_n 1, 1) := by decide +kernel
theorem dX1_open_2 : decode cX1_open 2 = .ok (.putfield 15, 3) := by decide +kernel
theorem dX1_open_5 : decode cX1_open 5 = .ok (.aload_n 0, 1) := by decide +kernel
theorem dX1_open_6 : decode cX1_open 6 = .ok (.iload_n 2, 1) := by decide +kernel
theorem dX1_open_7 : decode cX1_open 7 = .ok (.putfield 18, 3) := by decide +kernel
theorem dX1_open_10 : decode cX1_open 10 = .ok (.aload_n 0, 1) := by decide +kernel
theorem dX1_open_11 : decode cX1_open 11 = .ok (.iload_n 3, 1) := by decide +kernel
theorem dX1_open_12 : decode cX1_open 12 = .ok (.putfield 21, 3) := by decide +kernel
theorem dX1_open_15 : decode cX1_open 15 = .ok (.aload_n 0, 1) := by decide +kernel
theorem dX1_open_16 : decode cX1_open 16 = .ok (.iload 4, 2) := by decide +kernel
theorem dX1_open_18 : decode cX1_open 18 = .ok (.putfield 24, 3) := by decide +kernel
theorem dX1_open_21 : decode cX1_open 21 = .ok (.aload_n 0, 1) := by decide +kernel
theorem dX1_open_22 : decode cX1_open 22 = .ok (.iconst 0, 1) := by decide +kernel
theorem dX1_open_23 : decode cX1_open 23 = .ok (.putfield 11, 3) := by decide +kernel
theorem dX1_open_26 : decode cX1_open 26 = .ok (.return_, 1) := by decide +kernel
theorem dX1_copy_0 : decode cX1_copy 0 = .ok (.aload_n 0, 1) := by decide +kernel
theorem dX1_copy_1 : decode cX1_copy 1 = .ok (.aload_n 1, 1) := by decide +kernel
theorem dX1_copy_2 : decode cX1_copy 2 = .ok (.getfield 15, 3) := by decide +kernel
theorem dX1_copy_5 : decode cX1_copy 5 = .ok (.putfield 15, 3) := by decide +kernel
theorem dX1_copy_8 : decode cX1_copy 8 = .ok (.aload_n 0, 1) := by decide +kernel
theorem dX1_copy_9 : decode cX1_copy 9 = .ok (.aload_n 1, 1) := by decide +kernel
theorem dX1_copy_10 : decode cX1_copy 10 = .ok (.getfield 18, 3) := by decide +kernel
theorem dX1_copy_13 : decode cX1_copy 13 = .ok (.putfield 18, 3) := by decide +kernel
theorem dX1_copy_16 : decode cX1_copy 16 = .ok (.aload_n 0, 1) := by decide +kernel
theorem dX1_copy_17 : decode cX1_copy 17 = .ok (.aload_n 1, 1) := by decide +kernel
theorem dX1_copy_18 : decode cX1_copy 18 = .ok (.getfield 21, 3) := by decide +kernel
theorem dX1_copy_21 : decode cX1_copy 21 = .ok (.putfield 21, 3) := by decide +kernel
theorem dX1_copy_24 : decode cX1_copy 24 = .ok (.aload_n 0, 1) := by decide +kernel
theorem dX1_copy_25 : decode cX1_copy 25 = .ok (.aload_n 1, 1) := by decide +kernel
theorem dX1_copy_26 : decode cX1_copy 26 = .ok (.getfield 24, 3) := by decide +kernel
theorem dX1_copy_29 : decode cX1_copy 29 = .ok (.putfield 24, 3) := by decide +kernel
theorem dX1_copy_32 : decode cX1_copy 32 = .ok (.aload_n 0, 1) := by decide +kernel
theorem dX1_copy_33 : decode cX1_copy 33 = .ok (.aload_n 1, 1) := by decide +kernel
theorem dX1_copy_34 : decode cX1_copy 34 = .ok (.getfield 11, 3) := by decide +kernel
theorem dX1_copy_37 : decode cX1_copy 37 = .ok (.putfield 11, 3) := by decide +kernel
theorem dX1_copy_40 : decode cX1_copy 40 = .ok (.return_, 1) := by decide +kernel
theorem dX1_addInterest_0 : decode cX1_addInterest 0 = .ok (.aload_n 0, 1) := by decide +kernel
theorem dX1_addInterest_1 : decode cX1_addInterest 1 = .ok (.ldc 27, 2) := by decide +kernel
theorem dX1_addInterest_3 : decode cX1_addInterest 3 = .ok (.aload_n 0, 1) := by decide +kernel
theorem dX1_addInterest_4 : decode cX1_addInterest 4 = .ok (.getfield 18, 3) := by decide +kernel
theorem dX1_addInterest_7 : decode cX1_addInterest 7 = .ok (.aload_n 0, 1) := by decide +kernel
theorem dX1_addInterest_8 : decode cX1_addInterest 8 = .ok (.getfield 18, 3) := by decide +kernel
theorem dX1_addInterest_11 : decode cX1_addInterest 11 = .ok (.aload_n 0, 1) := by decide +kernel
theorem dX1_addInterest_12 : decode cX1_addInterest 12 = .ok (.getfield 21, 3) := by decide +kernel
theorem dX1_addInterest_15 : decode cX1_addInterest 15 = .ok (.imul, 1) := by decide +kernel
theorem dX1_addInterest_16 : decode cX1_addInterest 16 = .ok (.sipush 1000, 3) := by decide +kernel
theorem dX1_addInterest_19 : decode cX1_addInterest 19 = .ok (.idiv, 1) := by decide +kernel
theorem dX1_addInterest_20 : decode cX1_addInterest 20 = .ok (.iadd, 1) := by decide +kernel
theorem dX1_addInterest_21 : decode cX1_addInterest 21 = .ok (.iconst 1, 1) := by decide +kernel
theorem dX1_addInterest_22 : decode cX1_addInterest 22 = .ok (.iadd, 1) := by decide +kernel
theorem dX1_addInterest_23 : decode cX1_addInterest 23 = .ok (.invokestatic 28, 3) := by decide +kernel
theorem dX1_addInterest_26 : decode cX1_addInterest 26 = .ok (.putfield 18, 3) := by decide +kernel
theorem dX1_addInterest_29 : decode cX1_addInterest 29 = .ok (.return_, 1) := by decide +kernel
theorem dX2_init_0 : decode cX2_init 0 = .ok (.aload_n 0, 1) := by decide +kernel
theorem dX2_init_1 : decode cX2_init 1 = .ok (.invokespecial 1, 3) := by decide +kernel
theorem dX2_init_4 : decode cX2_init 4 = .ok (.return_, 1) := by decide +kernel
theorem dX2_copy_0 : decode cX2_copy 0 = .ok (.aload_n 0, 1) := by decide +kernel
theorem dX2_copy_1 : decode cX2_copy 1 = .ok (.aload_n 1, 1) := by decide +kernel
theorem dX2_copy_2 : decode cX2_copy 2 = .ok (.getfield 7, 3) := by decide +kernel
theorem dX2_copy_5 : decode cX2_copy 5 = .ok (.putfield 7, 3) := by decide +kernel
theorem dX2_copy_8 : decode cX2_copy 8 = .ok (.aload_n 0, 1) := by decide +kernel
theorem dX2_copy_9 : decode cX2_copy 9 = .ok (.aload_n 1, 1) := by decide +kernel
theorem dX2_copy_10 : decode cX2_copy 10 = .ok (.getfield 13, 3) := by decide +kernel
theorem dX2_copy_13 : decode cX2_copy 13 = .ok (.putfield 13, 3) := by decide +kernel
theorem dX2_copy_16 : decode cX2_copy 16 = .ok (.aload_n 0, 1) := by decide +kernel
theorem dX2_copy_17 : decode cX2_copy 17 = .ok (.aload_n 1, 1) := by decide +kernel
theorem dX2_copy_18 : decode cX2_copy 18 = .ok (.getfield 16, 3) := by decide +kernel
theorem dX2_copy_21 : decode cX2_copy 21 = .ok (.putfield 16, 3) := by decide +kernel
theorem dX2_copy_24 : decode cX2_copy 24 = .ok (.aload_n 0, 1) := by decide +kernel
theorem dX2_copy_25 : decode cX2_copy 25 = .ok (.aload_n 1, 1) := by decide +kernel
theorem dX2_copy_26 : decode cX2_copy 26 = .ok (.getfield 19, 3) := by decide +kernel
theorem dX2_copy_29 : decode cX2_copy 29 = .ok (.putfield 19, 3) := by decide +kernel
theorem dX2_copy_32 : decode cX2_copy 32 = .ok (.aload_n 0, 1) := by decide +kernel
theorem dX2_copy_33 : decode cX2_copy 33 = .ok (.aload_n 1, 1) := by decide +kernel
theorem dX2_copy_34 : decode cX2_copy 34 = .ok (.getfield 22, 3) := by decide +kernel
theorem dX2_copy_37 : decode cX2_copy 37 = .ok (.putfield 22, 3) := by decide +kernel
theorem dX2_copy_40 : decode cX2_copy 40 = .ok (.return_, 1) := by decide +kernel
theorem dX2_leads_0 : decode cX2_leads 0 = .ok (.aload_n 0, 1) := by decide +kernel
theorem dX2_leads_1 : decode cX2_leads 1 = .ok (.getfield 16, 3) := by decide +kernel
theorem dX2_leads_4 : decode cX2_leads 4 = .ok (.aload_n 0, 1) := by decide +kernel
theorem dX2_leads_5 : decode cX2_leads 5 = .ok (.getfield 19, 3) := by decide +kernel
theorem dX2_leads_8 : decode cX2_leads 8 = .ok (.isub, 1) := by decide +kernel
theorem dX2_leads_9 : decode cX2_leads 9 = .ok (.aload_n 1, 1) := by decide +kernel
theorem dX2_leads_10 : decode cX2_leads 10 = .ok (.getfield 16, 3) := by decide +kernel
theorem dX2_leads_13 : decode cX2_leads 13 = .ok (.aload_n 1, 1) := by decide +kernel
theorem dX2_leads_14 : decode cX2_leads 14 = .ok (.getfield 19, 3) := by decide +kernel
theorem dX2_leads_17 : decode cX2_leads 17 = .ok (.isub, 1) := by decide +kernel
theorem dX2_leads_18 : decode cX2_leads 18 = .ok (.isub, 1) := by decide +kernel
theorem dX2_leads_19 : decode cX2_leads 19 = .ok (.istore_n 2, 1) := by decide +kernel
theorem dX2_leads_20 : decode cX2_leads 20 = .ok (.iload_n 2, 1) := by decide +kernel
theorem dX2_leads_21 : decode cX2_leads 21 = .ok (.ifCond .eq 15, 3) := by decide +kernel
theorem dX2_leads_24 : decode cX2_leads 24 = .ok (.iload_n 2, 1) := by decide +kernel
theorem dX2_leads_25 : decode cX2_leads 25 = .ok (.ifCond .le 7, 3) := by decide +kernel
theorem dX2_leads_28 : decode cX2_leads 28 = .ok (.iconst 1, 1) := by decide +kernel
theorem dX2_leads_29 : decode cX2_leads 29 = .ok (.goto 23, 3) := by decide +kernel
theorem dX2_leads_32 : decode cX2_leads 32 = .ok (.iconst 0, 1) := by decide +kernel
theorem dX2_leads_33 : decode cX2_leads 33 = .ok (.goto 19, 3) := by decide +kernel
theorem dX2_leads_36 : decode cX2_leads 36 = .ok (.aload_n 0, 1) := by decide +kernel
theorem dX2_leads_37 : decode cX2_leads 37 = .ok (.getfield 7, 3) := by decide +kernel
theorem dX2_leads_40 : decode cX2_leads 40 = .ok (.aload_n 1, 1) := by decide +kernel
theorem dX2_leads_41 : decode cX2_leads 41 = .ok (.getfield 7, 3) := by decide +kernel
theorem dX2_leads_44 : decode cX2_leads 44 = .ok (.if_icmp .le 7, 3) := by decide +kernel
theorem dX2_leads_47 : decode cX2_leads 47 = .ok (.iconst 1, 1) := by decide +kernel
theorem dX2_leads_48 : decode cX2_leads 48 = .ok (.goto 4, 3) := by decide +kernel
theorem dX2_leads_51 : decode cX2_leads 51 = .ok (.iconst 0, 1) := by decide +kernel
theorem dX2_leads_52 : decode cX2_leads 52 = .ok (.ireturn, 1) := by decide +kernel
theorem dX3_init_0 : decode cX3_init 0 = .ok (.aload_n 0, 1) := by decide +kernel
theorem dX3_init_1 : decode cX3_init 1 = .ok (.invokespecial 1, 3) := by decide +kernel
theorem dX3_init_4 : decode cX3_init 4 = .ok (.return_, 1) := by decide +kernel
theorem dX3_sit_0 : decode cX3_sit 0 = .ok (.aload_n 0, 1) := by decide +kernel
theorem dX3_sit_1 : decode cX3_sit 1 = .ok (.iload_n 1, 1) := by decide +kernel
theorem dX3_sit_2 : decode cX3_sit 2 = .ok (.putfield 7, 3) := by decide +kernel
theorem dX3_sit_5 : decode cX3_sit 5 = .ok (.aload_n 0, 1) := by decide +kernel
theorem dX3_sit_6 : decode cX3_sit 6 = .ok (.iload_n 2, 1) := by decide +kernel
theorem dX3_sit_7 : decode cX3_sit 7 = .ok (.putfield 13, 3) := by decide +kernel
theorem dX3_sit_10 : decode cX3_sit 10 = .ok (.aload_n 0, 1) := by decide +kernel
theorem dX3_sit_11 : decode cX3_sit 11 = .ok (.iconst 0, 1) := by decide +kernel
theorem dX3_sit_12 : decode cX3_sit 12 = .ok (.putfield 16, 3) := by decide +kernel
theorem dX3_sit_15 : decode cX3_sit 15 = .ok (.return_, 1) := by decide +kernel
theorem dX3_copy_0 : decode cX3_copy 0 = .ok (.aload_n 0, 1) := by decide +kernel
theorem dX3_copy_1 : decode cX3_copy 1 = .ok (.aload_n 1, 1) := by decide +kernel
theorem dX3_copy_2 : decode cX3_copy 2 = .ok (.getfield 7, 3) := by decide +kernel
theorem dX3_copy_5 : decode cX3_copy 5 = .ok (.putfield 7, 3) := by decide +kernel
theorem dX3_copy_8 : decode cX3_copy 8 = .ok (.aload_n 0, 1) := by decide +kernel
theorem dX3_copy_9 : decode cX3_copy 9 = .ok (.aload_n 1, 1) := by decide +kernel
theorem dX3_copy_10 : decode cX3_copy 10 = .ok (.getfield 13, 3) := by decide +kernel
theorem dX3_copy_13 : decode cX3_copy 13 = .ok (.putfield 13, 3) := by decide +kernel
theorem dX3_copy_16 : decode cX3_copy 16 = .ok (.aload_n 0, 1) := by decide +kernel
theorem dX3_copy_17 : decode cX3_copy 17 = .ok (.aload_n 1, 1) := by decide +kernel
theorem dX3_copy_18 : decode cX3_copy 18 = .ok (.getfield 16, 3) := by decide +kernel
theorem dX3_copy_21 : decode cX3_copy 21 = .ok (.putfield 16, 3) := by decide +kernel
theorem dX3_copy_24 : decode cX3_copy 24 = .ok (.return_, 1) := by decide +kernel
theorem dX3_giveUpTo_0 : decode cX3_giveUpTo 0 = .ok (.iload_n 1, 1) := by decide +kernel
theorem dX3_giveUpTo_1 : decode cX3_giveUpTo 1 = .ok (.aload_n 0, 1) := by decide +kernel
theorem dX3_giveUpTo_2 : decode cX3_giveUpTo 2 = .ok (.getfield 13, 3) := by decide +kernel
theorem dX3_giveUpTo_5 : decode cX3_giveUpTo 5 = .ok (.iconst 1, 1) := by decide +kernel
theorem dX3_giveUpTo_6 : decode cX3_giveUpTo 6 = .ok (.isub, 1) := by decide +kernel
theorem dX3_giveUpTo_7 : decode cX3_giveUpTo 7 = .ok (.invokestatic 19, 3) := by decide +kernel
theorem dX3_giveUpTo_10 : decode cX3_giveUpTo 10 = .ok (.istore_n 2, 1) := by decide +kernel
theorem dX3_giveUpTo_11 : decode cX3_giveUpTo 11 = .ok (.aload_n 0, 1) := by decide +kernel
theorem dX3_giveUpTo_12 : decode cX3_giveUpTo 12 = .ok (.dup, 1) := by decide +kernel
theorem dX3_giveUpTo_13 : decode cX3_giveUpTo 13 = .ok (.getfield 13, 3) := by decide +kernel
theorem dX3_giveUpTo_16 : decode cX3_giveUpTo 16 = .ok (.iload_n 2, 1) := by decide +kernel
theorem dX3_giveUpTo_17 : decode cX3_giveUpTo 17 = .ok (.isub, 1) := by decide +kernel
theorem dX3_giveUpTo_18 : decode cX3_giveUpTo 18 = .ok (.putfield 13, 3) := by decide +kernel
theorem dX3_giveUpTo_21 : decode cX3_giveUpTo 21 = .ok (.iload_n 2, 1) := by decide +kernel
theorem dX3_giveUpTo_22 : decode cX3_giveUpTo 22 = .ok (.ireturn, 1) := by decide +kernel
theorem dX3_giveTo_0 : decode cX3_giveTo 0 = .ok (.aload_n 0, 1) := by decide +kernel
theorem dX3_giveTo_1 : decode cX3_giveTo 1 = .ok (.iload_n 2, 1) := by decide +kernel
theorem dX3_giveTo_2 : decode cX3_giveTo 2 = .ok (.invokevirtual 25, 3) := by decide +kernel
theorem dX3_giveTo_5 : decode cX3_giveTo 5 = .ok (.istore_n 3, 1) := by decide +kernel
theorem dX3_giveTo_6 : decode cX3_giveTo 6 = .ok (.aload_n 1, 1) := by decide +kernel
theorem dX3_giveTo_7 : decode cX3_giveTo 7 = .ok (.dup, 1) := by decide +kernel
theorem dX3_giveTo_8 : decode cX3_giveTo 8 = .ok (.getfield 13, 3) := by decide +kernel
theorem dX3_giveTo_11 : decode cX3_giveTo 11 = .ok (.iload_n 3, 1) := by decide +kernel
theorem dX3_giveTo_12 : decode cX3_giveTo 12 = .ok (.iadd, 1) := by decide +kernel
theorem dX3_giveTo_13 : decode cX3_giveTo 13 = .ok (.putfield 13, 3) := by decide +kernel
theorem dX3_giveTo_16 : decode cX3_giveTo 16 = .ok (.iload_n 3, 1) := by decide +kernel
theorem dX3_giveTo_17 : decode cX3_giveTo 17 = .ok (.ireturn, 1) := by decide +kernel
theorem dX4_init_0 : decode cX4_init 0 = .ok (.aload_n 0, 1) := by decide +kernel
theorem dX4_init_1 : decode cX4_init 1 = .ok (.invokespecial 3, 3) := by decide +kernel
theorem dX4_init_4 : decode cX4_init 4 = .ok (.aload_n 0, 1) := by decide +kernel
theorem dX4_init_5 : decode cX4_init 5 = .ok (.bipush 8, 2) := by decide +kernel
theorem dX4_init_7 : decode cX4_init 7 = .ok (.anewarray 9, 3) := by decide +kernel
theorem dX4_init_10 : decode cX4_init 10 = .ok (.putfield 11, 3) := by decide +kernel
theorem dX4_init_13 : decode cX4_init 13 = .ok (.aload_n 0, 1) := by decide +kernel
theorem dX4_init_14 : decode cX4_init 14 = .ok (.bipush 20, 2) := by decide +kernel
theorem dX4_init_16 : decode cX4_init 16 = .ok (.anewarray 17, 3) := by decide +kernel
theorem dX4_init_19 : decode cX4_init 19 = .ok (.putfield 19, 3) := by decide +kernel
theorem dX4_init_22 : decode cX4_init 22 = .ok (.aload_n 0, 1) := by decide +kernel
theorem dX4_init_23 : decode cX4_init 23 = .ok (.bipush 16, 2) := by decide +kernel
theorem dX4_init_25 : decode cX4_init 25 = .ok (.anewarray 23, 3) := by decide +kernel
theorem dX4_init_28 : decode cX4_init 28 = .ok (.putfield 25, 3) := by decide +kernel
theorem dX4_init_31 : decode cX4_init 31 = .ok (.aload_n 0, 1) := by decide +kernel
theorem dX4_init_32 : decode cX4_init 32 = .ok (.ldc 29, 2) := by decide +kernel
theorem dX4_init_34 : decode cX4_init 34 = .ok (.putfield 30, 3) := by decide +kernel
theorem dX4_init_37 : decode cX4_init 37 = .ok (.aload_n 0, 1) := by decide +kernel
theorem dX4_init_38 : decode cX4_init 38 = .ok (.iconst (-1), 1) := by decide +kernel
theorem dX4_init_39 : decode cX4_init 39 = .ok (.putfield 34, 3) := by decide +kernel
theorem dX4_init_42 : decode cX4_init 42 = .ok (.aload_n 0, 1) := by decide +kernel
theorem dX4_init_43 : decode cX4_init 43 = .ok (.iconst (-1), 1) := by decide +kernel
theorem dX4_init_44 : decode cX4_init 44 = .ok (.putfield 37, 3) := by decide +kernel
theorem dX4_init_47 : decode cX4_init 47 = .ok (.iconst 0, 1) := by decide +kernel
theorem dX4_init_48 : decode cX4_init 48 = .ok (.istore_n 1, 1) := by decide +kernel
theorem dX4_init_49 : decode cX4_init 49 = .ok (.iload_n 1, 1) := by decide +kernel
theorem dX4_init_50 : decode cX4_init 50 = .ok (.aload_n 0, 1) := by decide +kernel
theorem dX4_init_51 : decode cX4_init 51 = .ok (.getfield 11, 3) := by decide +kernel
theorem dX4_init_54 : decode cX4_init 54 = .ok (.arraylength, 1) := by decide +kernel
theorem dX4_init_55 : decode cX4_init 55 = .ok (.if_icmp .ge 22, 3) := by decide +kernel
theorem dX4_init_58 : decode cX4_init 58 = .ok (.aload_n 0, 1) := by decide +kernel
theorem dX4_init_59 : decode cX4_init 59 = .ok (.getfield 11, 3) := by decide +kernel
theorem dX4_init_62 : decode cX4_init 62 = .ok (.iload_n 1, 1) := by decide +kernel
theorem dX4_init_63 : decode cX4_init 63 = .ok (.new 9, 3) := by decide +kernel
theorem dX4_init_66 : decode cX4_init 66 = .ok (.dup, 1) := by decide +kernel
theorem dX4_init_67 : decode cX4_init 67 = .ok (.invokespecial 40, 3) := by decide +kernel
theorem dX4_init_70 : decode cX4_init 70 = .ok (.aastore, 1) := by decide +kernel
theorem dX4_init_71 : decode cX4_init 71 = .ok (.iinc 1 1, 3) := by decide +kernel
theorem dX4_init_74 : decode cX4_init 74 = .ok (.goto (-25), 3) := by decide +kernel
theorem dX4_init_77 : decode cX4_init 77 = .ok (.iconst 0, 1) := by decide +kernel
theorem dX4_init_78 : decode cX4_init 78 = .ok (.istore_n 1, 1) := by decide +kernel
theorem dX4_init_79 : decode cX4_init 79 = .ok (.iload_n 1, 1) := by decide +kernel
theorem dX4_init_80 : decode cX4_init 80 = .ok (.aload_n 0, 1) := by decide +kernel
theorem dX4_init_81 : decode cX4_init 81 = .ok (.getfield 19, 3) := by decide +kernel
theorem dX4_init_84 : decode cX4_init 84 = .ok (.arraylength, 1) := by decide +kernel
theorem dX4_init_85 : decode cX4_init 85 = .ok (.if_icmp .ge 22, 3) := by decide +kernel
theorem dX4_init_88 : decode cX4_init 88 = .ok (.aload_n 0, 1) := by decide +kernel
theorem dX4_init_89 : decode cX4_init 89 = .ok (.getfield 19, 3) := by decide +kernel
theorem dX4_init_92 : decode cX4_init 92 = .ok (.iload_n 1, 1) := by decide +kernel
theorem dX4_init_93 : decode cX4_init 93 = .ok (.new 17, 3) := by decide +kernel
theorem dX4_init_96 : decode cX4_init 96 = .ok (.dup, 1) := by decide +kernel
theorem dX4_init_97 : decode cX4_init 97 = .ok (.invokespecial 41, 3) := by decide +kernel
theorem dX4_init_100 : decode cX4_init 100 = .ok (.aastore, 1) := by decide +kernel
theorem dX4_init_101 : decode cX4_init 101 = .ok (.iinc 1 1, 3) := by decide +kernel
theorem dX4_init_104 : decode cX4_init 104 = .ok (.goto (-25), 3) := by decide +kernel
theorem dX4_init_107 : decode cX4_init 107 = .ok (.iconst 0, 1) := by decide +kernel
theorem dX4_init_108 : decode cX4_init 108 = .ok (.istore_n 1, 1) := by decide +kernel
theorem dX4_init_109 : decode cX4_init 109 = .ok (.iload_n 1, 1) := by decide +kernel
theorem dX4_init_110 : decode cX4_init 110 = .ok (.aload_n 0, 1) := by decide +kernel
theorem dX4_init_111 : decode cX4_init 111 = .ok (.getfield 25, 3) := by decide +kernel
theorem dX4_init_114 : decode cX4_init 114 = .ok (.arraylength, 1) := by decide +kernel
theorem dX4_init_115 : decode cX4_init 115 = .ok (.if_icmp .ge 22, 3) := by decide +kernel
theorem dX4_init_118 : decode cX4_init 118 = .ok (.aload_n 0, 1) := by decide +kernel
theorem dX4_init_119 : decode cX4_init 119 = .ok (.getfield 25, 3) := by decide +kernel
theorem dX4_init_122 : decode cX4_init 122 = .ok (.iload_n 1, 1) := by decide +kernel
theorem dX4_init_123 : decode cX4_init 123 = .ok (.new 23, 3) := by decide +kernel
theorem dX4_init_126 : decode cX4_init 126 = .ok (.dup, 1) := by decide +kernel
theorem dX4_init_127 : decode cX4_init 127 = .ok (.invokespecial 42, 3) := by decide +kernel
theorem dX4_init_130 : decode cX4_init 130 = .ok (.aastore, 1) := by decide +kernel
theorem dX4_init_131 : decode cX4_init 131 = .ok (.iinc 1 1, 3) := by decide +kernel
theorem dX4_init_134 : decode cX4_init 134 = .ok (.goto (-25), 3) := by decide +kernel
theorem dX4_init_137 : decode cX4_init 137 = .ok (.return_, 1) := by decide +kernel
theorem dX4_copy_0 : decode cX4_copy 0 = .ok (.aload_n 0, 1) := by decide +kernel
theorem dX4_copy_1 : decode cX4_copy 1 = .ok (.aload_n 1, 1) := by decide +kernel
theorem dX4_copy_2 : decode cX4_copy 2 = .ok (.getfield 43, 3) := by decide +kernel
theorem dX4_copy_5 : decode cX4_copy 5 = .ok (.putfield 43, 3) := by decide +kernel
theorem dX4_copy_8 : decode cX4_copy 8 = .ok (.aload_n 0, 1) := by decide +kernel
theorem dX4_copy_9 : decode cX4_copy 9 = .ok (.aload_n 1, 1) := by decide +kernel
theorem dX4_copy_10 : decode cX4_copy 10 = .ok (.getfield 30, 3) := by decide +kernel
theorem dX4_copy_13 : decode cX4_copy 13 = .ok (.putfield 30, 3) := by decide +kernel
theorem dX4_copy_16 : decode cX4_copy 16 = .ok (.aload_n 0, 1) := by decide +kernel
theorem dX4_copy_17 : decode cX4_copy 17 = .ok (.aload_n 1, 1) := by decide +kernel
theorem dX4_copy_18 : decode cX4_copy 18 = .ok (.getfield 46, 3) := by decide +kernel
theorem dX4_copy_21 : decode cX4_copy 21 = .ok (.putfield 46, 3) := by decide +kernel
theorem dX4_copy_24 : decode cX4_copy 24 = .ok (.aload_n 0, 1) := by decide +kernel
theorem dX4_copy_25 : decode cX4_copy 25 = .ok (.aload_n 1, 1) := by decide +kernel
theorem dX4_copy_26 : decode cX4_copy 26 = .ok (.getfield 49, 3) := by decide +kernel
theorem dX4_copy_29 : decode cX4_copy 29 = .ok (.putfield 49, 3) := by decide +kernel
theorem dX4_copy_32 : decode cX4_copy 32 = .ok (.aload_n 0, 1) := by decide +kernel
theorem dX4_copy_33 : decode cX4_copy 33 = .ok (.aload_n 1, 1) := by decide +kernel
theorem dX4_copy_34 : decode cX4_copy 34 = .ok (.getfield 52, 3) := by decide +kernel
theorem dX4_copy_37 : decode cX4_copy 37 = .ok (.putfield 52, 3) := by decide +kernel
theorem dX4_copy_40 : decode cX4_copy 40 = .ok (.aload_n 0, 1) := by decide +kernel
theorem dX4_copy_41 : decode cX4_copy 41 = .ok (.aload_n 1, 1) := by decide +kernel
theorem dX4_copy_42 : decode cX4_copy 42 = .ok (.getfield 55, 3) := by decide +kernel
theorem dX4_copy_45 : decode cX4_copy 45 = .ok (.putfield 55, 3) := by decide +kernel
theorem dX4_copy_48 : decode cX4_copy 48 = .ok (.aload_n 0, 1) := by decide +kernel
theorem dX4_copy_49 : decode cX4_copy 49 = .ok (.aload_n 1, 1) := by decide +kernel
theorem dX4_copy_50 : decode cX4_copy 50 = .ok (.getfield 58, 3) := by decide +kernel
theorem dX4_copy_53 : decode cX4_copy 53 = .ok (.putfield 58, 3) := by decide +kernel
theorem dX4_copy_56 : decode cX4_copy 56 = .ok (.iconst 0, 1) := by decide +kernel
theorem dX4_copy_57 : decode cX4_copy 57 = .ok (.istore_n 2, 1) := by decide +kernel
theorem dX4_copy_58 : decode cX4_copy 58 = .ok (.iload_n 2, 1) := by decide +kernel
theorem dX4_copy_59 : decode cX4_copy 59 = .ok (.aload_n 0, 1) := by decide +kernel
theorem dX4_copy_60 : decode cX4_copy 60 = .ok (.getfield 52, 3) := by decide +kernel
theorem dX4_copy_63 : decode cX4_copy 63 = .ok (.if_icmp .ge 22, 3) := by decide +kernel
theorem dX4_copy_66 : decode cX4_copy 66 = .ok (.aload_n 0, 1) := by decide +kernel
theorem dX4_copy_67 : decode cX4_copy 67 = .ok (.iload_n 2, 1) := by decide +kernel
theorem dX4_copy_68 : decode cX4_copy 68 = .ok (.invokevirtual 61, 3) := by decide +kernel
theorem dX4_copy_71 : decode cX4_copy 71 = .ok (.aload_n 1, 1) := by decide +kernel
theorem dX4_copy_72 : decode cX4_copy 72 = .ok (.iload_n 2, 1) := by decide +kernel
theorem dX4_copy_73 : decode cX4_copy 73 = .ok (.invokevirtual 61, 3) := by decide +kernel
theorem dX4_copy_76 : decode cX4_copy 76 = .ok (.invokevirtual 65, 3) := by decide +kernel
theorem dX4_copy_79 : decode cX4_copy 79 = .ok (.iinc 2 1, 3) := by decide +kernel
theorem dX4_copy_82 : decode cX4_copy 82 = .ok (.goto (-24), 3) := by decide +kernel
theorem dX4_copy_85 : decode cX4_copy 85 = .ok (.iconst 0, 1) := by decide +kernel
theorem dX4_copy_86 : decode cX4_copy 86 = .ok (.istore_n 2, 1) := by decide +kernel
theorem dX4_copy_87 : decode cX4_copy 87 = .ok (.iload_n 2, 1) := by decide +kernel
theorem dX4_copy_88 : decode cX4_copy 88 = .ok (.aload_n 0, 1) := by decide +kernel
theorem dX4_copy_89 : decode cX4_copy 89 = .ok (.getfield 55, 3) := by decide +kernel
theorem dX4_copy_92 : decode cX4_copy 92 = .ok (.if_icmp .ge 22, 3) := by decide +kernel
theorem dX4_copy_95 : decode cX4_copy 95 = .ok (.aload_n 0, 1) := by decide +kernel
theorem dX4_copy_96 : decode cX4_copy 96 = .ok (.iload_n 2, 1) := by decide +kernel
theorem dX4_copy_97 : decode cX4_copy 97 = .ok (.invokevirtual 69, 3) := by decide +kernel
theorem dX4_copy_100 : decode cX4_copy 100 = .ok (.aload_n 1, 1) := by decide +kernel
theorem dX4_copy_101 : decode cX4_copy 101 = .ok (.iload_n 2, 1) := by decide +kernel
theorem dX4_copy_102 : decode cX4_copy 102 = .ok (.invokevirtual 69, 3) := by decide +kernel
theorem dX4_copy_105 : decode cX4_copy 105 = .ok (.invokevirtual 73, 3) := by decide +kernel
theorem dX4_copy_108 : decode cX4_copy 108 = .ok (.iinc 2 1, 3) := by decide +kernel
theorem dX4_copy_111 : decode cX4_copy 111 = .ok (.goto (-24), 3) := by decide +kernel
theorem dX4_copy_114 : decode cX4_copy 114 = .ok (.iconst 0, 1) := by decide +kernel
theorem dX4_copy_115 : decode cX4_copy 115 = .ok (.istore_n 2, 1) := by decide +kernel
theorem dX4_copy_116 : decode cX4_copy 116 = .ok (.iload_n 2, 1) := by decide +kernel
theorem dX4_copy_117 : decode cX4_copy 117 = .ok (.aload_n 0, 1) := by decide +kernel
theorem dX4_copy_118 : decode cX4_copy 118 = .ok (.getfield 58, 3) := by decide +kernel
theorem dX4_copy_121 : decode cX4_copy 121 = .ok (.if_icmp .ge 22, 3) := by decide +kernel
theorem dX4_copy_124 : decode cX4_copy 124 = .ok (.aload_n 0, 1) := by decide +kernel
theorem dX4_copy_125 : decode cX4_copy 125 = .ok (.iload_n 2, 1) := by decide +kernel
theorem dX4_copy_126 : decode cX4_copy 126 = .ok (.invokevirtual 76, 3) := by decide +kernel
theorem dX4_copy_129 : decode cX4_copy 129 = .ok (.aload_n 1, 1) := by decide +kernel
theorem dX4_copy_130 : decode cX4_copy 130 = .ok (.iload_n 2, 1) := by decide +kernel
theorem dX4_copy_131 : decode cX4_copy 131 = .ok (.invokevirtual 76, 3) := by decide +kernel
theorem dX4_copy_134 : decode cX4_copy 134 = .ok (.invokevirtual 80, 3) := by decide +kernel
theorem dX4_copy_137 : decode cX4_copy 137 = .ok (.iinc 2 1, 3) := by decide +kernel
theorem dX4_copy_140 : decode cX4_copy 140 = .ok (.goto (-24), 3) := by decide +kernel
theorem dX4_copy_143 : decode cX4_copy 143 = .ok (.return_, 1) := by decide +kernel
theorem dX4_playerAt_0 : decode cX4_playerAt 0 = .ok (.iload_n 1, 1) := by decide +kernel
theorem dX4_playerAt_1 : decode cX4_playerAt 1 = .ok (.ifCond .lt 20, 3) := by decide +kernel
theorem dX4_playerAt_4 : decode cX4_playerAt 4 = .ok (.iload_n 1, 1) := by decide +kernel
theorem dX4_playerAt_5 : decode cX4_playerAt 5 = .ok (.aload_n 0, 1) := by decide +kernel
theorem dX4_playerAt_6 : decode cX4_playerAt 6 = .ok (.getfield 52, 3) := by decide +kernel
theorem dX4_playerAt_9 : decode cX4_playerAt 9 = .ok (.if_icmp .ge 12, 3) := by decide +kernel
theorem dX4_playerAt_12 : decode cX4_playerAt 12 = .ok (.iload_n 1, 1) := by decide +kernel
theorem dX4_playerAt_13 : decode cX4_playerAt 13 = .ok (.aload_n 0, 1) := by decide +kernel
theorem dX4_playerAt_14 : decode cX4_playerAt 14 = .ok (.getfield 11, 3) := by decide +kernel
theorem dX4_playerAt_17 : decode cX4_playerAt 17 = .ok (.arraylength, 1) := by decide +kernel
theorem dX4_playerAt_18 : decode cX4_playerAt 18 = .ok (.if_icmp .lt 13, 3) := by decide +kernel
theorem dX4_playerAt_21 : decode cX4_playerAt 21 = .ok (.new 83, 3) := by decide +kernel
theorem dX4_playerAt_24 : decode cX4_playerAt 24 = .ok (.dup, 1) := by decide +kernel
theorem dX4_playerAt_25 : decode cX4_playerAt 25 = .ok (.ldc 85, 2) := by decide +kernel
theorem dX4_playerAt_27 : decode cX4_playerAt 27 = .ok (.invokespecial 87, 3) := by decide +kernel
theorem dX4_playerAt_30 : decode cX4_playerAt 30 = .ok (.athrow, 1) := by decide +kernel
theorem dX4_playerAt_31 : decode cX4_playerAt 31 = .ok (.aload_n 0, 1) := by decide +kernel
theorem dX4_playerAt_32 : decode cX4_playerAt 32 = .ok (.getfield 11, 3) := by decide +kernel
theorem dX4_playerAt_35 : decode cX4_playerAt 35 = .ok (.iload_n 1, 1) := by decide +kernel
theorem dX4_playerAt_36 : decode cX4_playerAt 36 = .ok (.aaload, 1) := by decide +kernel
theorem dX4_playerAt_37 : decode cX4_playerAt 37 = .ok (.areturn, 1) := by decide +kernel
theorem dX4_loanAt_0 : decode cX4_loanAt 0 = .ok (.iload_n 1, 1) := by decide +kernel
theorem dX4_loanAt_1 : decode cX4_loanAt 1 = .ok (.ifCond .lt 20, 3) := by decide +kernel
theorem dX4_loanAt_4 : decode cX4_loanAt 4 = .ok (.iload_n 1, 1) := by decide +kernel
theorem dX4_loanAt_5 : decode cX4_loanAt 5 = .ok (.aload_n 0, 1) := by decide +kernel
theorem dX4_loanAt_6 : decode cX4_loanAt 6 = .ok (.getfield 55, 3) := by decide +kernel
theorem dX4_loanAt_9 : decode cX4_loanAt 9 = .ok (.if_icmp .ge 12, 3) := by decide +kernel
theorem dX4_loanAt_12 : decode cX4_loanAt 12 = .ok (.iload_n 1, 1) := by decide +kernel
theorem dX4_loanAt_13 : decode cX4_loanAt 13 = .ok (.aload_n 0, 1) := by decide +kernel
theorem dX4_loanAt_14 : decode cX4_loanAt 14 = .ok (.getfield 19, 3) := by decide +kernel
theorem dX4_loanAt_17 : decode cX4_loanAt 17 = .ok (.arraylength, 1) := by decide +kernel
theorem dX4_loanAt_18 : decode cX4_loanAt 18 = .ok (.if_icmp .lt 13, 3) := by decide +kernel
theorem dX4_loanAt_21 : decode cX4_loanAt 21 = .ok (.new 83, 3) := by decide +kernel
theorem dX4_loanAt_24 : decode cX4_loanAt 24 = .ok (.dup, 1) := by decide +kernel
theorem dX4_loanAt_25 : decode cX4_loanAt 25 = .ok (.ldc 90, 2) := by decide +kernel
theorem dX4_loanAt_27 : decode cX4_loanAt 27 = .ok (.invokespecial 87, 3) := by decide +kernel
theorem dX4_loanAt_30 : decode cX4_loanAt 30 = .ok (.athrow, 1) := by decide +kernel
theorem dX4_loanAt_31 : decode cX4_loanAt 31 = .ok (.aload_n 0, 1) := by decide +kernel
theorem dX4_loanAt_32 : decode cX4_loanAt 32 = .ok (.getfield 19, 3) := by decide +kernel
theorem dX4_loanAt_35 : decode cX4_loanAt 35 = .ok (.iload_n 1, 1) := by decide +kernel
theorem dX4_loanAt_36 : decode cX4_loanAt 36 = .ok (.aaload, 1) := by decide +kernel
theorem dX4_loanAt_37 : decode cX4_loanAt 37 = .ok (.areturn, 1) := by decide +kernel
theorem dX4_gameAt_0 : decode cX4_gameAt 0 = .ok (.iload_n 1, 1) := by decide +kernel
theorem dX4_gameAt_1 : decode cX4_gameAt 1 = .ok (.ifCond .lt 20, 3) := by decide +kernel
theorem dX4_gameAt_4 : decode cX4_gameAt 4 = .ok (.iload_n 1, 1) := by decide +kernel
theorem dX4_gameAt_5 : decode cX4_gameAt 5 = .ok (.aload_n 0, 1) := by decide +kernel
theorem dX4_gameAt_6 : decode cX4_gameAt 6 = .ok (.getfield 58, 3) := by decide +kernel
theorem dX4_gameAt_9 : decode cX4_gameAt 9 = .ok (.if_icmp .ge 12, 3) := by decide +kernel
theorem dX4_gameAt_12 : decode cX4_gameAt 12 = .ok (.iload_n 1, 1) := by decide +kernel
theorem dX4_gameAt_13 : decode cX4_gameAt 13 = .ok (.aload_n 0, 1) := by decide +kernel
theorem dX4_gameAt_14 : decode cX4_gameAt 14 = .ok (.getfield 25, 3) := by decide +kernel
theorem dX4_gameAt_17 : decode cX4_gameAt 17 = .ok (.arraylength, 1) := by decide +kernel
theorem dX4_gameAt_18 : decode cX4_gameAt 18 = .ok (.if_icmp .lt 13, 3) := by decide +kernel
theorem dX4_gameAt_21 : decode cX4_gameAt 21 = .ok (.new 83, 3) := by decide +kernel
theorem dX4_gameAt_24 : decode cX4_gameAt 24 = .ok (.dup, 1) := by decide +kernel
theorem dX4_gameAt_25 : decode cX4_gameAt 25 = .ok (.ldc 92, 2) := by decide +kernel
theorem dX4_gameAt_27 : decode cX4_gameAt 27 = .ok (.invokespecial 87, 3) := by decide +kernel
theorem dX4_gameAt_30 : decode cX4_gameAt 30 = .ok (.athrow, 1) := by decide +kernel
theorem dX4_gameAt_31 : decode cX4_gameAt 31 = .ok (.aload_n 0, 1) := by decide +kernel
theorem dX4_gameAt_32 : decode cX4_gameAt 32 = .ok (.getfield 25, 3) := by decide +kernel
theorem dX4_gameAt_35 : decode cX4_gameAt 35 = .ok (.iload_n 1, 1) := by decide +kernel
theorem dX4_gameAt_36 : decode cX4_gameAt 36 = .ok (.aaload, 1) := by decide +kernel
theorem dX4_gameAt_37 : decode cX4_gameAt 37 = .ok (.areturn, 1) := by decide +kernel
theorem dX4_secondsOut_0 : decode cX4_secondsOut 0 = .ok (.ldc 29, 2) := by decide +kernel
theorem dX4_secondsOut_2 : decode cX4_secondsOut 2 = .ok (.aload_n 0, 1) := by decide +kernel
theorem dX4_secondsOut_3 : decode cX4_secondsOut 3 = .ok (.getfield 30, 3) := by decide +kernel
theorem dX4_secondsOut_6 : decode cX4_secondsOut 6 = .ok (.isub, 1) := by decide +kernel
theorem dX4_secondsOut_7 : decode cX4_secondsOut 7 = .ok (.ireturn, 1) := by decide +kernel
theorem dX4_currentPrice_0 : decode cX4_currentPrice 0 = .ok (.iconst 3, 1) := by decide +kernel
theorem dX4_currentPrice_1 : decode cX4_currentPrice 1 = .ok (.iconst 0, 1) := by decide +kernel
theorem dX4_currentPrice_2 : decode cX4_currentPrice 2 = .ok (.aload_n 0, 1) := by decide +kernel
theorem dX4_currentPrice_3 : decode cX4_currentPrice 3 = .ok (.invokevirtual 94, 3) := by decide +kernel
theorem dX4_currentPrice_6 : decode cX4_currentPrice 6 = .ok (.invokestatic 98, 3) := by decide +kernel
theorem dX4_currentPrice_9 : decode cX4_currentPrice 9 = .ok (.sipush 1000, 3) := by decide +kernel
theorem dX4_currentPrice_12 : decode cX4_currentPrice 12 = .ok (.idiv, 1) := by decide +kernel
theorem dX4_currentPrice_13 : decode cX4_currentPrice 13 = .ok (.iadd, 1) := by decide +kernel
theorem dX4_currentPrice_14 : decode cX4_currentPrice 14 = .ok (.ireturn, 1) := by decide +kernel
theorem dX4_handOut_0 : decode cX4_handOut 0 = .ok (.aload_n 0, 1) := by decide +kernel
theorem dX4_handOut_1 : decode cX4_handOut 1 = .ok (.dup, 1) := by decide +kernel
theorem dX4_handOut_2 : decode cX4_handOut 2 = .ok (.getfield 30, 3) := by decide +kernel
theorem dX4_handOut_5 : decode cX4_handOut 5 = .ok (.iload_n 2, 1) := by decide +kernel
theorem dX4_handOut_6 : decode cX4_handOut 6 = .ok (.isub, 1) := by decide +kernel
theorem dX4_handOut_7 : decode cX4_handOut 7 = .ok (.putfield 30, 3) := by decide +kernel
theorem dX4_handOut_10 : decode cX4_handOut 10 = .ok (.aload_n 1, 1) := by decide +kernel
theorem dX4_handOut_11 : decode cX4_handOut 11 = .ok (.dup, 1) := by decide +kernel
theorem dX4_handOut_12 : decode cX4_handOut 12 = .ok (.getfield 104, 3) := by decide +kernel
theorem dX4_handOut_15 : decode cX4_handOut 15 = .ok (.iload_n 2, 1) := by decide +kernel
theorem dX4_handOut_16 : decode cX4_handOut 16 = .ok (.iadd, 1) := by decide +kernel
theorem dX4_handOut_17 : decode cX4_handOut 17 = .ok (.putfield 104, 3) := by decide +kernel
theorem dX4_handOut_20 : decode cX4_handOut 20 = .ok (.return_, 1) := by decide +kernel
theorem dX4_gamesRunning_0 : decode cX4_gamesRunning 0 = .ok (.iconst 0, 1) := by decide +kernel
theorem dX4_gamesRunning_1 : decode cX4_gamesRunning 1 = .ok (.istore_n 1, 1) := by decide +kernel
theorem dX4_gamesRunning_2 : decode cX4_gamesRunning 2 = .ok (.aload_n 0, 1) := by decide +kernel
theorem dX4_gamesRunning_3 : decode cX4_gamesRunning 3 = .ok (.getfield 25, 3) := by decide +kernel
theorem dX4_gamesRunning_6 : decode cX4_gamesRunning 6 = .ok (.astore_n 2, 1) := by decide +kernel
theorem dX4_gamesRunning_7 : decode cX4_gamesRunning 7 = .ok (.aload_n 2, 1) := by decide +kernel
theorem dX4_gamesRunning_8 : decode cX4_gamesRunning 8 = .ok (.arraylength, 1) := by decide +kernel
theorem dX4_gamesRunning_9 : decode cX4_gamesRunning 9 = .ok (.istore_n 3, 1) := by decide +kernel
theorem dX4_gamesRunning_10 : decode cX4_gamesRunning 10 = .ok (.iconst 0, 1) := by decide +kernel
theorem dX4_gamesRunning_11 : decode cX4_gamesRunning 11 = .ok (.istore 4, 2) := by decide +kernel
theorem dX4_gamesRunning_13 : decode cX4_gamesRunning 13 = .ok (.iload 4, 2) := by decide +kernel
theorem dX4_gamesRunning_15 : decode cX4_gamesRunning 15 = .ok (.iload_n 3, 1) := by decide +kernel
theorem dX4_gamesRunning_16 : decode cX4_gamesRunning 16 = .ok (.if_icmp .ge 26, 3) := by decide +kernel
theorem dX4_gamesRunning_19 : decode cX4_gamesRunning 19 = .ok (.aload_n 2, 1) := by decide +kernel
theorem dX4_gamesRunning_20 : decode cX4_gamesRunning 20 = .ok (.iload 4, 2) := by decide +kernel
theorem dX4_gamesRunning_22 : decode cX4_gamesRunning 22 = .ok (.aaload, 1) := by decide +kernel
theorem dX4_gamesRunning_23 : decode cX4_gamesRunning 23 = .ok (.astore 5, 2) := by decide +kernel
theorem dX4_gamesRunning_25 : decode cX4_gamesRunning 25 = .ok (.aload 5, 2) := by decide +kernel
theorem dX4_gamesRunning_27 : decode cX4_gamesRunning 27 = .ok (.invokevirtual 107, 3) := by decide +kernel
theorem dX4_gamesRunning_30 : decode cX4_gamesRunning 30 = .ok (.ifCond .eq 6, 3) := by decide +kernel
theorem dX4_gamesRunning_33 : decode cX4_gamesRunning 33 = .ok (.iinc 1 1, 3) := by decide +kernel
theorem dX4_gamesRunning_36 : decode cX4_gamesRunning 36 = .ok (.iinc 4 1, 3) := by decide +kernel
theorem dX4_gamesRunning_39 : decode cX4_gamesRunning 39 = .ok (.goto (-26), 3) := by decide +kernel
theorem dX4_gamesRunning_42 : decode cX4_gamesRunning 42 = .ok (.iload_n 1, 1) := by decide +kernel
theorem dX4_gamesRunning_43 : decode cX4_gamesRunning 43 = .ok (.ireturn, 1) := by decide +kernel
theorem dX4_gamesRunningOf_0 : decode cX4_gamesRunningOf 0 = .ok (.iconst 0, 1) := by decide +kernel
theorem dX4_gamesRunningOf_1 : decode cX4_gamesRunningOf 1 = .ok (.istore_n 2, 1) := by decide +kernel
theorem dX4_gamesRunningOf_2 : decode cX4_gamesRunningOf 2 = .ok (.aload_n 0, 1) := by decide +kernel
theorem dX4_gamesRunningOf_3 : decode cX4_gamesRunningOf 3 = .ok (.getfield 25, 3) := by decide +kernel
theorem dX4_gamesRunningOf_6 : decode cX4_gamesRunningOf 6 = .ok (.astore_n 3, 1) := by decide +kernel
theorem dX4_gamesRunningOf_7 : decode cX4_gamesRunningOf 7 = .ok (.aload_n 3, 1) := by decide +kernel
theorem dX4_gamesRunningOf_8 : decode cX4_gamesRunningOf 8 = .ok (.arraylength, 1) := by decide +kernel
theorem dX4_gamesRunningOf_9 : decode cX4_gamesRunningOf 9 = .ok (.istore 4, 2) := by decide +kernel
theorem dX4_gamesRunningOf_11 : decode cX4_gamesRunningOf 11 = .ok (.iconst 0, 1) := by decide +kernel
theorem dX4_gamesRunningOf_12 : decode cX4_gamesRunningOf 12 = .ok (.istore 5, 2) := by decide +kernel
theorem dX4_gamesRunningOf_14 : decode cX4_gamesRunningOf 14 = .ok (.iload 5, 2) := by decide +kernel
theorem dX4_gamesRunningOf_16 : decode cX4_gamesRunningOf 16 = .ok (.iload 4, 2) := by decide +kernel
theorem dX4_gamesRunningOf_18 : decode cX4_gamesRunningOf 18 = .ok (.if_icmp .ge 35, 3) := by decide +kernel
theorem dX4_gamesRunningOf_21 : decode cX4_gamesRunningOf 21 = .ok (.aload_n 3, 1) := by decide +kernel
theorem dX4_gamesRunningOf_22 : decode cX4_gamesRunningOf 22 = .ok (.iload 5, 2) := by decide +kernel
theorem dX4_gamesRunningOf_24 : decode cX4_gamesRunningOf 24 = .ok (.aaload, 1) := by decide +kernel
theorem dX4_gamesRunningOf_25 : decode cX4_gamesRunningOf 25 = .ok (.astore 6, 2) := by decide +kernel
theorem dX4_gamesRunningOf_27 : decode cX4_gamesRunningOf 27 = .ok (.aload 6, 2) := by decide +kernel
theorem dX4_gamesRunningOf_29 : decode cX4_gamesRunningOf 29 = .ok (.invokevirtual 107, 3) := by decide +kernel
theorem dX4_gamesRunningOf_32 : decode cX4_gamesRunningOf 32 = .ok (.ifCond .eq 15, 3) := by decide +kernel
theorem dX4_gamesRunningOf_35 : decode cX4_gamesRunningOf 35 = .ok (.aload 6, 2) := by decide +kernel
theorem dX4_gamesRunningOf_37 : decode cX4_gamesRunningOf 37 = .ok (.iload_n 1, 1) := by decide +kernel
theorem dX4_gamesRunningOf_38 : decode cX4_gamesRunningOf 38 = .ok (.invokevirtual 111, 3) := by decide +kernel
theorem dX4_gamesRunningOf_41 : decode cX4_gamesRunningOf 41 = .ok (.ifCond .eq 6, 3) := by decide +kernel
theorem dX4_gamesRunningOf_44 : decode cX4_gamesRunningOf 44 = .ok (.iinc 2 1, 3) := by decide +kernel
theorem dX4_gamesRunningOf_47 : decode cX4_gamesRunningOf 47 = .ok (.iinc 5 1, 3) := by decide +kernel
theorem dX4_gamesRunningOf_50 : decode cX4_gamesRunningOf 50 = .ok (.goto (-36), 3) := by decide +kernel
theorem dX4_gamesRunningOf_53 : decode cX4_gamesRunningOf 53 = .ok (.iload_n 2, 1) := by decide +kernel
theorem dX4_gamesRunningOf_54 : decode cX4_gamesRunningOf 54 = .ok (.ireturn, 1) := by decide +kernel
theorem dX4_openLoans_0 : decode cX4_openLoans 0 = .ok (.iconst 0, 1) := by decide +kernel
theorem dX4_openLoans_1 : decode cX4_openLoans 1 = .ok (.istore_n 1, 1) := by decide +kernel
theorem dX4_openLoans_2 : decode cX4_openLoans 2 = .ok (.aload_n 0, 1) := by decide +kernel
theorem dX4_openLoans_3 : decode cX4_openLoans 3 = .ok (.getfield 19, 3) := by decide +kernel
theorem dX4_openLoans_6 : decode cX4_openLoans 6 = .ok (.astore_n 2, 1) := by decide +kernel
theorem dX4_openLoans_7 : decode cX4_openLoans 7 = .ok (.aload_n 2, 1) := by decide +kernel
theorem dX4_openLoans_8 : decode cX4_openLoans 8 = .ok (.arraylength, 1) := by decide +kernel
theorem dX4_openLoans_9 : decode cX4_openLoans 9 = .ok (.istore_n 3, 1) := by decide +kernel
theorem dX4_openLoans_10 : decode cX4_openLoans 10 = .ok (.iconst 0, 1) := by decide +kernel
theorem dX4_openLoans_11 : decode cX4_openLoans 11 = .ok (.istore 4, 2) := by decide +kernel
theorem dX4_openLoans_13 : decode cX4_openLoans 13 = .ok (.iload 4, 2) := by decide +kernel
theorem dX4_openLoans_15 : decode cX4_openLoans 15 = .ok (.iload_n 3, 1) := by decide +kernel
theorem dX4_openLoans_16 : decode cX4_openLoans 16 = .ok (.if_icmp .ge 26, 3) := by decide +kernel
theorem dX4_openLoans_19 : decode cX4_openLoans 19 = .ok (.aload_n 2, 1) := by decide +kernel
theorem dX4_openLoans_20 : decode cX4_openLoans 20 = .ok (.iload 4, 2) := by decide +kernel
theorem dX4_openLoans_22 : decode cX4_openLoans 22 = .ok (.aaload, 1) := by decide +kernel
theorem dX4_openLoans_23 : decode cX4_openLoans 23 = .ok (.astore 5, 2) := by decide +kernel
theorem dX4_openLoans_25 : decode cX4_openLoans 25 = .ok (.aload 5, 2) := by decide +kernel
theorem dX4_openLoans_27 : decode cX4_openLoans 27 = .ok (.getfield 115, 3) := by decide +kernel
theorem dX4_openLoans_30 : decode cX4_openLoans 30 = .ok (.ifCond .ne 6, 3) := by decide +kernel
theorem dX4_openLoans_33 : decode cX4_openLoans 33 = .ok (.iinc 1 1, 3) := by decide +kernel
theorem dX4_openLoans_36 : decode cX4_openLoans 36 = .ok (.iinc 4 1, 3) := by decide +kernel
theorem dX4_openLoans_39 : decode cX4_openLoans 39 = .ok (.goto (-26), 3) := by decide +kernel
theorem dX4_openLoans_42 : decode cX4_openLoans 42 = .ok (.iload_n 1, 1) := by decide +kernel
theorem dX4_openLoans_43 : decode cX4_openLoans 43 = .ok (.ireturn, 1) := by decide +kernel
theorem dX4_loansOf_0 : decode cX4_loansOf 0 = .ok (.iconst 0, 1) := by decide +kernel
theorem dX4_loansOf_1 : decode cX4_loansOf 1 = .ok (.istore_n 3, 1) := by decide +kernel
theorem dX4_loansOf_2 : decode cX4_loansOf 2 = .ok (.aload_n 0, 1) := by decide +kernel
theorem dX4_loansOf_3 : decode cX4_loansOf 3 = .ok (.getfield 19, 3) := by decide +kernel
theorem dX4_loansOf_6 : decode cX4_loansOf 6 = .ok (.astore 4, 2) := by decide +kernel
theorem dX4_loansOf_8 : decode cX4_loansOf 8 = .ok (.aload 4, 2) := by decide +kernel
theorem dX4_loansOf_10 : decode cX4_loansOf 10 = .ok (.arraylength, 1) := by decide +kernel
theorem dX4_loansOf_11 : decode cX4_loansOf 11 = .ok (.istore 5, 2) := by decide +kernel
theorem dX4_loansOf_13 : decode cX4_loansOf 13 = .ok (.iconst 0, 1) := by decide +kernel
theorem dX4_loansOf_14 : decode cX4_loansOf 14 = .ok (.istore 6, 2) := by decide +kernel
theorem dX4_loansOf_16 : decode cX4_loansOf 16 = .ok (.iload 6, 2) := by decide +kernel
theorem dX4_loansOf_18 : decode cX4_loansOf 18 = .ok (.iload 5, 2) := by decide +kernel
theorem dX4_loansOf_20 : decode cX4_loansOf 20 = .ok (.if_icmp .ge 37, 3) := by decide +kernel
theorem dX4_loansOf_23 : decode cX4_loansOf 23 = .ok (.aload 4, 2) := by decide +kernel
theorem dX4_loansOf_25 : decode cX4_loansOf 25 = .ok (.iload 6, 2) := by decide +kernel
theorem dX4_loansOf_27 : decode cX4_loansOf 27 = .ok (.aaload, 1) := by decide +kernel
theorem dX4_loansOf_28 : decode cX4_loansOf 28 = .ok (.astore 7, 2) := by decide +kernel
theorem dX4_loansOf_30 : decode cX4_loansOf 30 = .ok (.aload 7, 2) := by decide +kernel
theorem dX4_loansOf_32 : decode cX4_loansOf 32 = .ok (.getfield 115, 3) := by decide +kernel
theorem dX4_loansOf_35 : decode cX4_loansOf 35 = .ok (.iload_n 2, 1) := by decide +kernel
theorem dX4_loansOf_36 : decode cX4_loansOf 36 = .ok (.if_icmp .ne 15, 3) := by decide +kernel
theorem dX4_loansOf_39 : decode cX4_loansOf 39 = .ok (.aload 7, 2) := by decide +kernel
theorem dX4_loansOf_41 : decode cX4_loansOf 41 = .ok (.getfield 118, 3) := by decide +kernel
theorem dX4_loansOf_44 : decode cX4_loansOf 44 = .ok (.iload_n 1, 1) := by decide +kernel
theorem dX4_loansOf_45 : decode cX4_loansOf 45 = .ok (.if_icmp .ne 6, 3) := by decide +kernel
theorem dX4_loansOf_48 : decode cX4_loansOf 48 = .ok (.iinc 3 1, 3) := by decide +kernel
theorem dX4_loansOf_51 : decode cX4_loansOf 51 = .ok (.iinc 6 1, 3) := by decide +kernel
theorem dX4_loansOf_54 : decode cX4_loansOf 54 = .ok (.goto (-38), 3) := by decide +kernel
theorem dX4_loansOf_57 : decode cX4_loansOf 57 = .ok (.iload_n 3, 1) := by decide +kernel
theorem dX4_loansOf_58 : decode cX4_loansOf 58 = .ok (.ireturn, 1) := by decide +kernel
theorem dX4_owedBy_0 : decode cX4_owedBy 0 = .ok (.iconst 0, 1) := by decide +kernel
theorem dX4_owedBy_1 : decode cX4_owedBy 1 = .ok (.istore_n 2, 1) := by decide +kernel
theorem dX4_owedBy_2 : decode cX4_owedBy 2 = .ok (.aload_n 0, 1) := by decide +kernel
theorem dX4_owedBy_3 : decode cX4_owedBy 3 = .ok (.getfield 19, 3) := by decide +kernel
theorem dX4_owedBy_6 : decode cX4_owedBy 6 = .ok (.astore_n 3, 1) := by decide +kernel
theorem dX4_owedBy_7 : decode cX4_owedBy 7 = .ok (.aload_n 3, 1) := by decide +kernel
theorem dX4_owedBy_8 : decode cX4_owedBy 8 = .ok (.arraylength, 1) := by decide +kernel
theorem dX4_owedBy_9 : decode cX4_owedBy 9 = .ok (.istore 4, 2) := by decide +kernel
theorem dX4_owedBy_11 : decode cX4_owedBy 11 = .ok (.iconst 0, 1) := by decide +kernel
theorem dX4_owedBy_12 : decode cX4_owedBy 12 = .ok (.istore 5, 2) := by decide +kernel
theorem dX4_owedBy_14 : decode cX4_owedBy 14 = .ok (.iload 5, 2) := by decide +kernel
theorem dX4_owedBy_16 : decode cX4_owedBy 16 = .ok (.iload 4, 2) := by decide +kernel
theorem dX4_owedBy_18 : decode cX4_owedBy 18 = .ok (.if_icmp .ge 41, 3) := by decide +kernel
theorem dX4_owedBy_21 : decode cX4_owedBy 21 = .ok (.aload_n 3, 1) := by decide +kernel
theorem dX4_owedBy_22 : decode cX4_owedBy 22 = .ok (.iload 5, 2) := by decide +kernel
theorem dX4_owedBy_24 : decode cX4_owedBy 24 = .ok (.aaload, 1) := by decide +kernel
theorem dX4_owedBy_25 : decode cX4_owedBy 25 = .ok (.astore 6, 2) := by decide +kernel
theorem dX4_owedBy_27 : decode cX4_owedBy 27 = .ok (.aload_n 0, 1) := by decide +kernel
theorem dX4_owedBy_28 : decode cX4_owedBy 28 = .ok (.aload 6, 2) := by decide +kernel
theorem dX4_owedBy_30 : decode cX4_owedBy 30 = .ok (.invokevirtual 121, 3) := by decide +kernel
theorem dX4_owedBy_33 : decode cX4_owedBy 33 = .ok (.ifCond .eq 20, 3) := by decide +kernel
theorem dX4_owedBy_36 : decode cX4_owedBy 36 = .ok (.aload 6, 2) := by decide +kernel
theorem dX4_owedBy_38 : decode cX4_owedBy 38 = .ok (.getfield 118, 3) := by decide +kernel
theorem dX4_owedBy_41 : decode cX4_owedBy 41 = .ok (.iload_n 1, 1) := by decide +kernel
theorem dX4_owedBy_42 : decode cX4_owedBy 42 = .ok (.if_icmp .ne 11, 3) := by decide +kernel
theorem dX4_owedBy_45 : decode cX4_owedBy 45 = .ok (.iload_n 2, 1) := by decide +kernel
theorem dX4_owedBy_46 : decode cX4_owedBy 46 = .ok (.aload 6, 2) := by decide +kernel
theorem dX4_owedBy_48 : decode cX4_owedBy 48 = .ok (.getfield 125, 3) := by decide +kernel
theorem dX4_owedBy_51 : decode cX4_owedBy 51 = .ok (.iadd, 1) := by decide +kernel
theorem dX4_owedBy_52 : decode cX4_owedBy 52 = .ok (.istore_n 2, 1) := by decide +kernel
theorem dX4_owedBy_53 : decode cX4_owedBy 53 = .ok (.iinc 5 1, 3) := by decide +kernel
theorem dX4_owedBy_56 : decode cX4_owedBy 56 = .ok (.goto (-42), 3) := by decide +kernel
theorem dX4_owedBy_59 : decode cX4_owedBy 59 = .ok (.iload_n 2, 1) := by decide +kernel
theorem dX4_owedBy_60 : decode cX4_owedBy 60 = .ok (.ireturn, 1) := by decide +kernel
theorem dX4_isOwed_0 : decode cX4_isOwed 0 = .ok (.aload_n 1, 1) := by decide +kernel
theorem dX4_isOwed_1 : decode cX4_isOwed 1 = .ok (.getfield 115, 3) := by decide +kernel
theorem dX4_isOwed_4 : decode cX4_isOwed 4 = .ok (.ifCond .eq 11, 3) := by decide +kernel
theorem dX4_isOwed_7 : decode cX4_isOwed 7 = .ok (.aload_n 1, 1) := by decide +kernel
theorem dX4_isOwed_8 : decode cX4_isOwed 8 = .ok (.getfield 115, 3) := by decide +kernel
theorem dX4_isOwed_11 : decode cX4_isOwed 11 = .ok (.iconst 2, 1) := by decide +kernel
theorem dX4_isOwed_12 : decode cX4_isOwed 12 = .ok (.if_icmp .ne 7, 3) := by decide +kernel
theorem dX4_isOwed_15 : decode cX4_isOwed 15 = .ok (.iconst 1, 1) := by decide +kernel
theorem dX4_isOwed_16 : decode cX4_isOwed 16 = .ok (.goto 4, 3) := by decide +kernel
theorem dX4_isOwed_19 : decode cX4_isOwed 19 = .ok (.iconst 0, 1) := by decide +kernel
theorem dX4_isOwed_20 : decode cX4_isOwed 20 = .ok (.ireturn, 1) := by decide +kernel
theorem dX4_playersAheadOf_0 : decode cX4_playersAheadOf 0 = .ok (.aload_n 0, 1) := by decide +kernel
theorem dX4_playersAheadOf_1 : decode cX4_playersAheadOf 1 = .ok (.iload_n 1, 1) := by decide +kernel
theorem dX4_playersAheadOf_2 : decode cX4_playersAheadOf 2 = .ok (.invokevirtual 61, 3) := by decide +kernel
theorem dX4_playersAheadOf_5 : decode cX4_playersAheadOf 5 = .ok (.astore_n 2, 1) := by decide +kernel
theorem dX4_playersAheadOf_6 : decode cX4_playersAheadOf 6 = .ok (.iconst 0, 1) := by decide +kernel
theorem dX4_playersAheadOf_7 : decode cX4_playersAheadOf 7 = .ok (.istore_n 3, 1) := by decide +kernel
theorem dX4_playersAheadOf_8 : decode cX4_playersAheadOf 8 = .ok (.iconst 0, 1) := by decide +kernel
theorem dX4_playersAheadOf_9 : decode cX4_playersAheadOf 9 = .ok (.istore 4, 2) := by decide +kernel
theorem dX4_playersAheadOf_11 : decode cX4_playersAheadOf 11 = .ok (.iload 4, 2) := by decide +kernel
theorem dX4_playersAheadOf_13 : decode cX4_playersAheadOf 13 = .ok (.aload_n 0, 1) := by decide +kernel
theorem dX4_playersAheadOf_14 : decode cX4_playersAheadOf 14 = .ok (.getfield 52, 3) := by decide +kernel
theorem dX4_playersAheadOf_17 : decode cX4_playersAheadOf 17 = .ok (.if_icmp .ge 56, 3) := by decide +kernel
theorem dX4_playersAheadOf_20 : decode cX4_playersAheadOf 20 = .ok (.aload_n 0, 1) := by decide +kernel
theorem dX4_playersAheadOf_21 : decode cX4_playersAheadOf 21 = .ok (.iload 4, 2) := by decide +kernel
theorem dX4_playersAheadOf_23 : decode cX4_playersAheadOf 23 = .ok (.invokevirtual 61, 3) := by decide +kernel
theorem dX4_playersAheadOf_26 : decode cX4_playersAheadOf 26 = .ok (.astore 5, 2) := by decide +kernel
theorem dX4_playersAheadOf_28 : decode cX4_playersAheadOf 28 = .ok (.iload 4, 2) := by decide +kernel
theorem dX4_playersAheadOf_30 : decode cX4_playersAheadOf 30 = .ok (.iload_n 1, 1) := by decide +kernel
theorem dX4_playersAheadOf_31 : decode cX4_playersAheadOf 31 = .ok (.if_icmp .ge 16, 3) := by decide +kernel
theorem dX4_playersAheadOf_34 : decode cX4_playersAheadOf 34 = .ok (.aload_n 2, 1) := by decide +kernel
theorem dX4_playersAheadOf_35 : decode cX4_playersAheadOf 35 = .ok (.aload 5, 2) := by decide +kernel
theorem dX4_playersAheadOf_37 : decode cX4_playersAheadOf 37 = .ok (.invokevirtual 128, 3) := by decide +kernel
theorem dX4_playersAheadOf_40 : decode cX4_playersAheadOf 40 = .ok (.ifCond .ne 7, 3) := by decide +kernel
theorem dX4_playersAheadOf_43 : decode cX4_playersAheadOf 43 = .ok (.iconst 1, 1) := by decide +kernel
theorem dX4_playersAheadOf_44 : decode cX4_playersAheadOf 44 = .ok (.goto 4, 3) := by decide +kernel
theorem dX4_playersAheadOf_47 : decode cX4_playersAheadOf 47 = .ok (.iconst 0, 1) := by decide +kernel
theorem dX4_playersAheadOf_48 : decode cX4_playersAheadOf 48 = .ok (.istore 6, 2) := by decide +kernel
theorem dX4_playersAheadOf_50 : decode cX4_playersAheadOf 50 = .ok (.aload 5, 2) := by decide +kernel
theorem dX4_playersAheadOf_52 : decode cX4_playersAheadOf 52 = .ok (.aload_n 2, 1) := by decide +kernel
theorem dX4_playersAheadOf_53 : decode cX4_playersAheadOf 53 = .ok (.invokevirtual 128, 3) := by decide +kernel
theorem dX4_playersAheadOf_56 : decode cX4_playersAheadOf 56 = .ok (.ifCond .ne 8, 3) := by decide +kernel
theorem dX4_playersAheadOf_59 : decode cX4_playersAheadOf 59 = .ok (.iload 6, 2) := by decide +kernel
theorem dX4_playersAheadOf_61 : decode cX4_playersAheadOf 61 = .ok (.ifCond .eq 6, 3) := by decide +kernel
theorem dX4_playersAheadOf_64 : decode cX4_playersAheadOf 64 = .ok (.iinc 3 1, 3) := by decide +kernel
theorem dX4_playersAheadOf_67 : decode cX4_playersAheadOf 67 = .ok (.iinc 4 1, 3) := by decide +kernel
theorem dX4_playersAheadOf_70 : decode cX4_playersAheadOf 70 = .ok (.goto (-59), 3) := by decide +kernel
theorem dX4_playersAheadOf_73 : decode cX4_playersAheadOf 73 = .ok (.iload_n 3, 1) := by decide +kernel
theorem dX4_playersAheadOf_74 : decode cX4_playersAheadOf 74 = .ok (.ireturn, 1) := by decide +kernel
theorem dX4_stop_0 : decode cX4_stop 0 = .ok (.aload_n 0, 1) := by decide +kernel
theorem dX4_stop_1 : decode cX4_stop 1 = .ok (.aload_n 1, 1) := by decide +kernel
theorem dX4_stop_2 : decode cX4_stop 2 = .ok (.getfield 132, 3) := by decide +kernel
theorem dX4_stop_5 : decode cX4_stop 5 = .ok (.getfield 136, 3) := by decide +kernel
theorem dX4_stop_8 : decode cX4_stop 8 = .ok (.invokevirtual 61, 3) := by decide +kernel
theorem dX4_stop_11 : decode cX4_stop 11 = .ok (.dup, 1) := by decide +kernel
theorem dX4_stop_12 : decode cX4_stop 12 = .ok (.getfield 139, 3) := by decide +kernel
theorem dX4_stop_15 : decode cX4_stop 15 = .ok (.aload_n 1, 1) := by decide +kernel
theorem dX4_stop_16 : decode cX4_stop 16 = .ok (.getfield 140, 3) := by decide +kernel
theorem dX4_stop_19 : decode cX4_stop 19 = .ok (.iadd, 1) := by decide +kernel
theorem dX4_stop_20 : decode cX4_stop 20 = .ok (.putfield 139, 3) := by decide +kernel
theorem dX4_stop_23 : decode cX4_stop 23 = .ok (.aload_n 0, 1) := by decide +kernel
theorem dX4_stop_24 : decode cX4_stop 24 = .ok (.aload_n 1, 1) := by decide +kernel
theorem dX4_stop_25 : decode cX4_stop 25 = .ok (.getfield 143, 3) := by decide +kernel
theorem dX4_stop_28 : decode cX4_stop 28 = .ok (.getfield 136, 3) := by decide +kernel
theorem dX4_stop_31 : decode cX4_stop 31 = .ok (.invokevirtual 61, 3) := by decide +kernel
theorem dX4_stop_34 : decode cX4_stop 34 = .ok (.dup, 1) := by decide +kernel
theorem dX4_stop_35 : decode cX4_stop 35 = .ok (.getfield 139, 3) := by decide +kernel
theorem dX4_stop_38 : decode cX4_stop 38 = .ok (.aload_n 1, 1) := by decide +kernel
theorem dX4_stop_39 : decode cX4_stop 39 = .ok (.getfield 140, 3) := by decide +kernel
theorem dX4_stop_42 : decode cX4_stop 42 = .ok (.iadd, 1) := by decide +kernel
theorem dX4_stop_43 : decode cX4_stop 43 = .ok (.putfield 139, 3) := by decide +kernel
theorem dX4_stop_46 : decode cX4_stop 46 = .ok (.aload_n 1, 1) := by decide +kernel
theorem dX4_stop_47 : decode cX4_stop 47 = .ok (.iconst 3, 1) := by decide +kernel
theorem dX4_stop_48 : decode cX4_stop 48 = .ok (.putfield 146, 3) := by decide +kernel
theorem dX4_stop_51 : decode cX4_stop 51 = .ok (.return_, 1) := by decide +kernel
theorem dX4_awardTo_0 : decode cX4_awardTo 0 = .ok (.aload_n 0, 1) := by decide +kernel
theorem dX4_awardTo_1 : decode cX4_awardTo 1 = .ok (.aload_n 1, 1) := by decide +kernel
theorem dX4_awardTo_2 : decode cX4_awardTo 2 = .ok (.iload_n 2, 1) := by decide +kernel
theorem dX4_awardTo_3 : decode cX4_awardTo 3 = .ok (.invokevirtual 147, 3) := by decide +kernel
theorem dX4_awardTo_6 : decode cX4_awardTo 6 = .ok (.getfield 136, 3) := by decide +kernel
theorem dX4_awardTo_9 : decode cX4_awardTo 9 = .ok (.invokevirtual 61, 3) := by decide +kernel
theorem dX4_awardTo_12 : decode cX4_awardTo 12 = .ok (.astore_n 3, 1) := by decide +kernel
theorem dX4_awardTo_13 : decode cX4_awardTo 13 = .ok (.aload_n 0, 1) := by decide +kernel
theorem dX4_awardTo_14 : decode cX4_awardTo 14 = .ok (.aload_n 1, 1) := by decide +kernel
theorem dX4_awardTo_15 : decode cX4_awardTo 15 = .ok (.iconst 1, 1) := by decide +kernel
theorem dX4_awardTo_16 : decode cX4_awardTo 16 = .ok (.iload_n 2, 1) := by decide +kernel
theorem dX4_awardTo_17 : decode cX4_awardTo 17 = .ok (.isub, 1) := by decide +kernel
theorem dX4_awardTo_18 : decode cX4_awardTo 18 = .ok (.invokevirtual 147, 3) := by decide +kernel
theorem dX4_awardTo_21 : decode cX4_awardTo 21 = .ok (.getfield 136, 3) := by decide +kernel
theorem dX4_awardTo_24 : decode cX4_awardTo 24 = .ok (.invokevirtual 61, 3) := by decide +kernel
theorem dX4_awardTo_27 : decode cX4_awardTo 27 = .ok (.astore 4, 2) := by decide +kernel
theorem dX4_awardTo_29 : decode cX4_awardTo 29 = .ok (.iconst 2, 1) := by decide +kernel
theorem dX4_awardTo_30 : decode cX4_awardTo 30 = .ok (.aload_n 1, 1) := by decide +kernel
theorem dX4_awardTo_31 : decode cX4_awardTo 31 = .ok (.getfield 140, 3) := by decide +kernel
theorem dX4_awardTo_34 : decode cX4_awardTo 34 = .ok (.imul, 1) := by decide +kernel
theorem dX4_awardTo_35 : decode cX4_awardTo 35 = .ok (.istore 5, 2) := by decide +kernel
theorem dX4_awardTo_37 : decode cX4_awardTo 37 = .ok (.iload 5, 2) := by decide +kernel
theorem dX4_awardTo_39 : decode cX4_awardTo 39 = .ok (.bipush 10, 2) := by decide +kernel
theorem dX4_awardTo_41 : decode cX4_awardTo 41 = .ok (.idiv, 1) := by decide +kernel
theorem dX4_awardTo_42 : decode cX4_awardTo 42 = .ok (.istore 6, 2) := by decide +kernel
theorem dX4_awardTo_44 : decode cX4_awardTo 44 = .ok (.aload_n 3, 1) := by decide +kernel
theorem dX4_awardTo_45 : decode cX4_awardTo 45 = .ok (.dup, 1) := by decide +kernel
theorem dX4_awardTo_46 : decode cX4_awardTo 46 = .ok (.getfield 139, 3) := by decide +kernel
theorem dX4_awardTo_49 : decode cX4_awardTo 49 = .ok (.iload 5, 2) := by decide +kernel
theorem dX4_awardTo_51 : decode cX4_awardTo 51 = .ok (.iload 6, 2) := by decide +kernel
theorem dX4_awardTo_53 : decode cX4_awardTo 53 = .ok (.isub, 1) := by decide +kernel
theorem dX4_awardTo_54 : decode cX4_awardTo 54 = .ok (.iadd, 1) := by decide +kernel
theorem dX4_awardTo_55 : decode cX4_awardTo 55 = .ok (.putfield 139, 3) := by decide +kernel
theorem dX4_awardTo_58 : decode cX4_awardTo 58 = .ok (.aload_n 0, 1) := by decide +kernel
theorem dX4_awardTo_59 : decode cX4_awardTo 59 = .ok (.dup, 1) := by decide +kernel
theorem dX4_awardTo_60 : decode cX4_awardTo 60 = .ok (.getfield 46, 3) := by decide +kernel
theorem dX4_awardTo_63 : decode cX4_awardTo 63 = .ok (.iload 6, 2) := by decide +kernel
theorem dX4_awardTo_65 : decode cX4_awardTo 65 = .ok (.iadd, 1) := by decide +kernel
theorem dX4_awardTo_66 : decode cX4_awardTo 66 = .ok (.putfield 46, 3) := by decide +kernel
theorem dX4_awardTo_69 : decode cX4_awardTo 69 = .ok (.aload_n 3, 1) := by decide +kernel
theorem dX4_awardTo_70 : decode cX4_awardTo 70 = .ok (.dup, 1) := by decide +kernel
theorem dX4_awardTo_71 : decode cX4_awardTo 71 = .ok (.getfield 151, 3) := by decide +kernel
theorem dX4_awardTo_74 : decode cX4_awardTo 74 = .ok (.iconst 1, 1) := by decide +kernel
theorem dX4_awardTo_75 : decode cX4_awardTo 75 = .ok (.iadd, 1) := by decide +kernel
theorem dX4_awardTo_76 : decode cX4_awardTo 76 = .ok (.putfield 151, 3) := by decide +kernel
theorem dX4_awardTo_79 : decode cX4_awardTo 79 = .ok (.aload 4, 2) := by decide +kernel
theorem dX4_awardTo_81 : decode cX4_awardTo 81 = .ok (.dup, 1) := by decide +kernel
theorem dX4_awardTo_82 : decode cX4_awardTo 82 = .ok (.getfield 154, 3) := by decide +kernel
theorem dX4_awardTo_85 : decode cX4_awardTo 85 = .ok (.iconst 1, 1) := by decide +kernel
theorem dX4_awardTo_86 : decode cX4_awardTo 86 = .ok (.iadd, 1) := by decide +kernel
theorem dX4_awardTo_87 : decode cX4_awardTo 87 = .ok (.putfield 154, 3) := by decide +kernel
theorem dX4_awardTo_90 : decode cX4_awardTo 90 = .ok (.aload_n 1, 1) := by decide +kernel
theorem dX4_awardTo_91 : decode cX4_awardTo 91 = .ok (.iload_n 2, 1) := by decide +kernel
theorem dX4_awardTo_92 : decode cX4_awardTo 92 = .ok (.ifCond .ne 7, 3) := by decide +kernel
theorem dX4_awardTo_95 : decode cX4_awardTo 95 = .ok (.iconst 1, 1) := by decide +kernel
theorem dX4_awardTo_96 : decode cX4_awardTo 96 = .ok (.goto 4, 3) := by decide +kernel
theorem dX4_awardTo_99 : decode cX4_awardTo 99 = .ok (.iconst 2, 1) := by decide +kernel
theorem dX4_awardTo_100 : decode cX4_awardTo 100 = .ok (.putfield 146, 3) := by decide +kernel
theorem dX4_awardTo_103 : decode cX4_awardTo 103 = .ok (.iload 5, 2) := by decide +kernel
theorem dX4_awardTo_105 : decode cX4_awardTo 105 = .ok (.iload 6, 2) := by decide +kernel
theorem dX4_awardTo_107 : decode cX4_awardTo 107 = .ok (.isub, 1) := by decide +kernel
theorem dX4_awardTo_108 : decode cX4_awardTo 108 = .ok (.ireturn, 1) := by decide +kernel
theorem dX4_letGoBy_0 : decode cX4_letGoBy 0 = .ok (.aload_n 0, 1) := by decide +kernel
theorem dX4_letGoBy_1 : decode cX4_letGoBy 1 = .ok (.invokevirtual 157, 3) := by decide +kernel
theorem dX4_letGoBy_4 : decode cX4_letGoBy 4 = .ok (.iconst 0, 1) := by decide +kernel
theorem dX4_letGoBy_5 : decode cX4_letGoBy 5 = .ok (.istore_n 2, 1) := by decide +kernel
theorem dX4_letGoBy_6 : decode cX4_letGoBy 6 = .ok (.iload_n 2, 1) := by decide +kernel
theorem dX4_letGoBy_7 : decode cX4_letGoBy 7 = .ok (.iload_n 1, 1) := by decide +kernel
theorem dX4_letGoBy_8 : decode cX4_letGoBy 8 = .ok (.if_icmp .ge 55, 3) := by decide +kernel
theorem dX4_letGoBy_11 : decode cX4_letGoBy 11 = .ok (.aload_n 0, 1) := by decide +kernel
theorem dX4_letGoBy_12 : decode cX4_letGoBy 12 = .ok (.dup, 1) := by decide +kernel
theorem dX4_letGoBy_13 : decode cX4_letGoBy 13 = .ok (.getfield 43, 3) := by decide +kernel
theorem dX4_letGoBy_16 : decode cX4_letGoBy 16 = .ok (.iconst 1, 1) := by decide +kernel
theorem dX4_letGoBy_17 : decode cX4_letGoBy 17 = .ok (.iadd, 1) := by decide +kernel
theorem dX4_letGoBy_18 : decode cX4_letGoBy 18 = .ok (.putfield 43, 3) := by decide +kernel
theorem dX4_letGoBy_21 : decode cX4_letGoBy 21 = .ok (.aload_n 0, 1) := by decide +kernel
theorem dX4_letGoBy_22 : decode cX4_letGoBy 22 = .ok (.invokevirtual 160, 3) := by decide +kernel
theorem dX4_letGoBy_25 : decode cX4_letGoBy 25 = .ok (.aload_n 0, 1) := by decide +kernel
theorem dX4_letGoBy_26 : decode cX4_letGoBy 26 = .ok (.getfield 43, 3) := by decide +kernel
theorem dX4_letGoBy_29 : decode cX4_letGoBy 29 = .ok (.bipush 60, 2) := by decide +kernel
theorem dX4_letGoBy_31 : decode cX4_letGoBy 31 = .ok (.irem, 1) := by decide +kernel
theorem dX4_letGoBy_32 : decode cX4_letGoBy 32 = .ok (.ifCond .ne 7, 3) := by decide +kernel
theorem dX4_letGoBy_35 : decode cX4_letGoBy 35 = .ok (.aload_n 0, 1) := by decide +kernel
theorem dX4_letGoBy_36 : decode cX4_letGoBy 36 = .ok (.invokevirtual 163, 3) := by decide +kernel
theorem dX4_letGoBy_39 : decode cX4_letGoBy 39 = .ok (.aload_n 0, 1) := by decide +kernel
theorem dX4_letGoBy_40 : decode cX4_letGoBy 40 = .ok (.invokevirtual 166, 3) := by decide +kernel
theorem dX4_letGoBy_43 : decode cX4_letGoBy 43 = .ok (.aload_n 0, 1) := by decide +kernel
theorem dX4_letGoBy_44 : decode cX4_letGoBy 44 = .ok (.getfield 43, 3) := by decide +kernel
theorem dX4_letGoBy_47 : decode cX4_letGoBy 47 = .ok (.bipush 30, 2) := by decide +kernel
theorem dX4_letGoBy_49 : decode cX4_letGoBy 49 = .ok (.irem, 1) := by decide +kernel
theorem dX4_letGoBy_50 : decode cX4_letGoBy 50 = .ok (.ifCond .ne 7, 3) := by decide +kernel
theorem dX4_letGoBy_53 : decode cX4_letGoBy 53 = .ok (.aload_n 0, 1) := by decide +kernel
theorem dX4_letGoBy_54 : decode cX4_letGoBy 54 = .ok (.invokevirtual 169, 3) := by decide +kernel
theorem dX4_letGoBy_57 : decode cX4_letGoBy 57 = .ok (.iinc 2 1, 3) := by decide +kernel
theorem dX4_letGoBy_60 : decode cX4_letGoBy 60 = .ok (.goto (-54), 3) := by decide +kernel
theorem dX4_letGoBy_63 : decode cX4_letGoBy 63 = .ok (.return_, 1) := by decide +kernel
theorem dX4_forgetWhatPassed_0 : decode cX4_forgetWhatPassed 0 = .ok (.aload_n 0, 1) := by decide +kernel
theorem dX4_forgetWhatPassed_1 : decode cX4_forgetWhatPassed 1 = .ok (.iconst 0, 1) := by decide +kernel
theorem dX4_forgetWhatPassed_2 : decode cX4_forgetWhatPassed 2 = .ok (.putfield 172, 3) := by decide +kernel
theorem dX4_forgetWhatPassed_5 : decode cX4_forgetWhatPassed 5 = .ok (.aload_n 0, 1) := by decide +kernel
theorem dX4_forgetWhatPassed_6 : decode cX4_forgetWhatPassed 6 = .ok (.iconst 0, 1) := by decide +kernel
theorem dX4_forgetWhatPassed_7 : decode cX4_forgetWhatPassed 7 = .ok (.putfield 175, 3) := by decide +kernel
theorem dX4_forgetWhatPassed_10 : decode cX4_forgetWhatPassed 10 = .ok (.aload_n 0, 1) := by decide +kernel
theorem dX4_forgetWhatPassed_11 : decode cX4_forgetWhatPassed 11 = .ok (.iconst (-1), 1) := by decide +kernel
theorem dX4_forgetWhatPassed_12 : decode cX4_forgetWhatPassed 12 = .ok (.putfield 34, 3) := by decide +kernel
theorem dX4_forgetWhatPassed_15 : decode cX4_forgetWhatPassed 15 = .ok (.aload_n 0, 1) := by decide +kernel
theorem dX4_forgetWhatPassed_16 : decode cX4_forgetWhatPassed 16 = .ok (.iconst (-1), 1) := by decide +kernel
theorem dX4_forgetWhatPassed_17 : decode cX4_forgetWhatPassed 17 = .ok (.putfield 37, 3) := by decide +kernel
theorem dX4_forgetWhatPassed_20 : decode cX4_forgetWhatPassed 20 = .ok (.return_, 1) := by decide +kernel
theorem dX4_runClocks_0 : decode cX4_runClocks 0 = .ok (.aload_n 0, 1) := by decide +kernel
theorem dX4_runClocks_1 : decode cX4_runClocks 1 = .ok (.getfield 25, 3) := by decide +kernel
theorem dX4_runClocks_4 : decode cX4_runClocks 4 = .ok (.astore_n 1, 1) := by decide +kernel
theorem dX4_runClocks_5 : decode cX4_runClocks 5 = .ok (.aload_n 1, 1) := by decide +kernel
theorem dX4_runClocks_6 : decode cX4_runClocks 6 = .ok (.arraylength, 1) := by decide +kernel
theorem dX4_runClocks_7 : decode cX4_runClocks 7 = .ok (.istore_n 2, 1) := by decide +kernel
theorem dX4_runClocks_8 : decode cX4_runClocks 8 = .ok (.iconst 0, 1) := by decide +kernel
theorem dX4_runClocks_9 : decode cX4_runClocks 9 = .ok (.istore_n 3, 1) := by decide +kernel
theorem dX4_runClocks_10 : decode cX4_runClocks 10 = .ok (.iload_n 3, 1) := by decide +kernel
theorem dX4_runClocks_11 : decode cX4_runClocks 11 = .ok (.iload_n 2, 1) := by decide +kernel
theorem dX4_runClocks_12 : decode cX4_runClocks 12 = .ok (.if_icmp .ge 50, 3) := by decide +kernel
theorem dX4_runClocks_15 : decode cX4_runClocks 15 = .ok (.aload_n 1, 1) := by decide +kernel
theorem dX4_runClocks_16 : decode cX4_runClocks 16 = .ok (.iload_n 3, 1) := by decide +kernel
theorem dX4_runClocks_17 : decode cX4_runClocks 17 = .ok (.aaload, 1) := by decide +kernel
theorem dX4_runClocks_18 : decode cX4_runClocks 18 = .ok (.astore 4, 2) := by decide +kernel
theorem dX4_runClocks_20 : decode cX4_runClocks 20 = .ok (.aload 4, 2) := by decide +kernel
theorem dX4_runClocks_22 : decode cX4_runClocks 22 = .ok (.invokevirtual 107, 3) := by decide +kernel
theorem dX4_runClocks_25 : decode cX4_runClocks 25 = .ok (.ifCond .eq 31, 3) := by decide +kernel
theorem dX4_runClocks_28 : decode cX4_runClocks 28 = .ok (.aload 4, 2) := by decide +kernel
theorem dX4_runClocks_30 : decode cX4_runClocks 30 = .ok (.invokevirtual 178, 3) := by decide +kernel
theorem dX4_runClocks_33 : decode cX4_runClocks 33 = .ok (.ifCond .eq 23, 3) := by decide +kernel
theorem dX4_runClocks_36 : decode cX4_runClocks 36 = .ok (.aload_n 0, 1) := by decide +kernel
theorem dX4_runClocks_37 : decode cX4_runClocks 37 = .ok (.aload 4, 2) := by decide +kernel
theorem dX4_runClocks_39 : decode cX4_runClocks 39 = .ok (.invokevirtual 181, 3) := by decide +kernel
theorem dX4_runClocks_42 : decode cX4_runClocks 42 = .ok (.aload_n 0, 1) := by decide +kernel
theorem dX4_runClocks_43 : decode cX4_runClocks 43 = .ok (.aload 4, 2) := by decide +kernel
theorem dX4_runClocks_45 : decode cX4_runClocks 45 = .ok (.iconst 1, 1) := by decide +kernel
theorem dX4_runClocks_46 : decode cX4_runClocks 46 = .ok (.aload 4, 2) := by decide +kernel
theorem dX4_runClocks_48 : decode cX4_runClocks 48 = .ok (.getfield 184, 3) := by decide +kernel
theorem dX4_runClocks_51 : decode cX4_runClocks 51 = .ok (.isub, 1) := by decide +kernel
theorem dX4_runClocks_52 : decode cX4_runClocks 52 = .ok (.invokevirtual 187, 3) := by decide +kernel
theorem dX4_runClocks_55 : decode cX4_runClocks 55 = .ok (.pop, 1) := by decide +kernel
theorem dX4_runClocks_56 : decode cX4_runClocks 56 = .ok (.iinc 3 1, 3) := by decide +kernel
theorem dX4_runClocks_59 : decode cX4_runClocks 59 = .ok (.goto (-49), 3) := by decide +kernel
theorem dX4_runClocks_62 : decode cX4_runClocks 62 = .ok (.return_, 1) := by decide +kernel
theorem dX4_noteFall_0 : decode cX4_noteFall 0 = .ok (.aload_n 0, 1) := by decide +kernel
theorem dX4_noteFall_1 : decode cX4_noteFall 1 = .ok (.getfield 172, 3) := by decide +kernel
theorem dX4_noteFall_4 : decode cX4_noteFall 4 = .ok (.ifCond .ne 19, 3) := by decide +kernel
theorem dX4_noteFall_7 : decode cX4_noteFall 7 = .ok (.aload_n 0, 1) := by decide +kernel
theorem dX4_noteFall_8 : decode cX4_noteFall 8 = .ok (.aload_n 1, 1) := by decide +kernel
theorem dX4_noteFall_9 : decode cX4_noteFall 9 = .ok (.getfield 191, 3) := by decide +kernel
theorem dX4_noteFall_12 : decode cX4_noteFall 12 = .ok (.putfield 34, 3) := by decide +kernel
theorem dX4_noteFall_15 : decode cX4_noteFall 15 = .ok (.aload_n 0, 1) := by decide +kernel
theorem dX4_noteFall_16 : decode cX4_noteFall 16 = .ok (.aload_n 0, 1) := by decide +kernel
theorem dX4_noteFall_17 : decode cX4_noteFall 17 = .ok (.getfield 43, 3) := by decide +kernel
theorem dX4_noteFall_20 : decode cX4_noteFall 20 = .ok (.putfield 37, 3) := by decide +kernel
theorem dX4_noteFall_23 : decode cX4_noteFall 23 = .ok (.aload_n 0, 1) := by decide +kernel
theorem dX4_noteFall_24 : decode cX4_noteFall 24 = .ok (.dup, 1) := by decide +kernel
theorem dX4_noteFall_25 : decode cX4_noteFall 25 = .ok (.getfield 172, 3) := by decide +kernel
theorem dX4_noteFall_28 : decode cX4_noteFall 28 = .ok (.iconst 1, 1) := by decide +kernel
theorem dX4_noteFall_29 : decode cX4_noteFall 29 = .ok (.iadd, 1) := by decide +kernel
theorem dX4_noteFall_30 : decode cX4_noteFall 30 = .ok (.putfield 172, 3) := by decide +kernel
theorem dX4_noteFall_33 : decode cX4_noteFall 33 = .ok (.return_, 1) := by decide +kernel
theorem dX4_addInterest_0 : decode cX4_addInterest 0 = .ok (.aload_n 0, 1) := by decide +kernel
theorem dX4_addInterest_1 : decode cX4_addInterest 1 = .ok (.getfield 19, 3) := by decide +kernel
theorem dX4_addInterest_4 : decode cX4_addInterest 4 = .ok (.astore_n 1, 1) := by decide +kernel
theorem dX4_addInterest_5 : decode cX4_addInterest 5 = .ok (.aload_n 1, 1) := by decide +kernel
theorem dX4_addInterest_6 : decode cX4_addInterest 6 = .ok (.arraylength, 1) := by decide +kernel
theorem dX4_addInterest_7 : decode cX4_addInterest 7 = .ok (.istore_n 2, 1) := by decide +kernel
theorem dX4_addInterest_8 : decode cX4_addInterest 8 = .ok (.iconst 0, 1) := by decide +kernel
theorem dX4_addInterest_9 : decode cX4_addInterest 9 = .ok (.istore_n 3, 1) := by decide +kernel
theorem dX4_addInterest_10 : decode cX4_addInterest 10 = .ok (.iload_n 3, 1) := by decide +kernel
theorem dX4_addInterest_11 : decode cX4_addInterest 11 = .ok (.iload_n 2, 1) := by decide +kernel
theorem dX4_addInterest_12 : decode cX4_addInterest 12 = .ok (.if_icmp .ge 27, 3) := by decide +kernel
theorem dX4_addInterest_15 : decode cX4_addInterest 15 = .ok (.aload_n 1, 1) := by decide +kernel
theorem dX4_addInterest_16 : decode cX4_addInterest 16 = .ok (.iload_n 3, 1) := by decide +kernel
theorem dX4_addInterest_17 : decode cX4_addInterest 17 = .ok (.aaload, 1) := by decide +kernel
theorem dX4_addInterest_18 : decode cX4_addInterest 18 = .ok (.astore 4, 2) := by decide +kernel
theorem dX4_addInterest_20 : decode cX4_addInterest 20 = .ok (.aload 4, 2) := by decide +kernel
theorem dX4_addInterest_22 : decode cX4_addInterest 22 = .ok (.getfield 115, 3) := by decide +kernel
theorem dX4_addInterest_25 : decode cX4_addInterest 25 = .ok (.ifCond .ne 8, 3) := by decide +kernel
theorem dX4_addInterest_28 : decode cX4_addInterest 28 = .ok (.aload 4, 2) := by decide +kernel
theorem dX4_addInterest_30 : decode cX4_addInterest 30 = .ok (.invokevirtual 194, 3) := by decide +kernel
theorem dX4_addInterest_33 : decode cX4_addInterest 33 = .ok (.iinc 3 1, 3) := by decide +kernel
theorem dX4_addInterest_36 : decode cX4_addInterest 36 = .ok (.goto (-26), 3) := by decide +kernel
theorem dX4_addInterest_39 : decode cX4_addInterest 39 = .ok (.return_, 1) := by decide +kernel
theorem dX4_collectDueLoans_0 : decode cX4_collectDueLoans 0 = .ok (.aload_n 0, 1) := by decide +kernel
theorem dX4_collectDueLoans_1 : decode cX4_collectDueLoans 1 = .ok (.getfield 19, 3) := by decide +kernel
theorem dX4_collectDueLoans_4 : decode cX4_collectDueLoans 4 = .ok (.astore_n 1, 1) := by decide +kernel
theorem dX4_collectDueLoans_5 : decode cX4_collectDueLoans 5 = .ok (.aload_n 1, 1) := by decide +kernel
theorem dX4_collectDueLoans_6 : decode cX4_collectDueLoans 6 = .ok (.arraylength, 1) := by decide +kernel
theorem dX4_collectDueLoans_7 : decode cX4_collectDueLoans 7 = .ok (.istore_n 2, 1) := by decide +kernel
theorem dX4_collectDueLoans_8 : decode cX4_collectDueLoans 8 = .ok (.iconst 0, 1) := by decide +kernel
theorem dX4_collectDueLoans_9 : decode cX4_collectDueLoans 9 = .ok (.istore_n 3, 1) := by decide +kernel
theorem dX4_collectDueLoans_10 : decode cX4_collectDueLoans 10 = .ok (.iload_n 3, 1) := by decide +kernel
theorem dX4_collectDueLoans_11 : decode cX4_collectDueLoans 11 = .ok (.iload_n 2, 1) := by decide +kernel
theorem dX4_collectDueLoans_12 : decode cX4_collectDueLoans 12 = .ok (.if_icmp .ge 58, 3) := by decide +kernel
theorem dX4_collectDueLoans_15 : decode cX4_collectDueLoans 15 = .ok (.aload_n 1, 1) := by decide +kernel
theorem dX4_collectDueLoans_16 : decode cX4_collectDueLoans 16 = .ok (.iload_n 3, 1) := by decide +kernel
theorem dX4_collectDueLoans_17 : decode cX4_collectDueLoans 17 = .ok (.aaload, 1) := by decide +kernel
theorem dX4_collectDueLoans_18 : decode cX4_collectDueLoans 18 = .ok (.astore 4, 2) := by decide +kernel
theorem dX4_collectDueLoans_20 : decode cX4_collectDueLoans 20 = .ok (.aload 4, 2) := by decide +kernel
theorem dX4_collectDueLoans_22 : decode cX4_collectDueLoans 22 = .ok (.getfield 115, 3) := by decide +kernel
theorem dX4_collectDueLoans_25 : decode cX4_collectDueLoans 25 = .ok (.ifCond .ne 39, 3) := by decide +kernel
theorem dX4_collectDueLoans_28 : decode cX4_collectDueLoans 28 = .ok (.aload 4, 2) := by decide +kernel
theorem dX4_collectDueLoans_30 : decode cX4_collectDueLoans 30 = .ok (.getfield 195, 3) := by decide +kernel
theorem dX4_collectDueLoans_33 : decode cX4_collectDueLoans 33 = .ok (.aload_n 0, 1) := by decide +kernel
theorem dX4_collectDueLoans_34 : decode cX4_collectDueLoans 34 = .ok (.getfield 43, 3) := by decide +kernel
theorem dX4_collectDueLoans_37 : decode cX4_collectDueLoans 37 = .ok (.if_icmp .ne 27, 3) := by decide +kernel
theorem dX4_collectDueLoans_40 : decode cX4_collectDueLoans 40 = .ok (.aload_n 0, 1) := by decide +kernel
theorem dX4_collectDueLoans_41 : decode cX4_collectDueLoans 41 = .ok (.aload 4, 2) := by decide +kernel
theorem dX4_collectDueLoans_43 : decode cX4_collectDueLoans 43 = .ok (.aload 4, 2) := by decide +kernel
theorem dX4_collectDueLoans_45 : decode cX4_collectDueLoans 45 = .ok (.getfield 125, 3) := by decide +kernel
theorem dX4_collectDueLoans_48 : decode cX4_collectDueLoans 48 = .ok (.invokevirtual 198, 3) := by decide +kernel
theorem dX4_collectDueLoans_51 : decode cX4_collectDueLoans 51 = .ok (.pop, 1) := by decide +kernel
theorem dX4_collectDueLoans_52 : decode cX4_collectDueLoans 52 = .ok (.aload_n 0, 1) := by decide +kernel
theorem dX4_collectDueLoans_53 : decode cX4_collectDueLoans 53 = .ok (.aload 4, 2) := by decide +kernel
theorem dX4_collectDueLoans_55 : decode cX4_collectDueLoans 55 = .ok (.invokevirtual 202, 3) := by decide +kernel
theorem dX4_collectDueLoans_58 : decode cX4_collectDueLoans 58 = .ok (.aload_n 0, 1) := by decide +kernel
theorem dX4_collectDueLoans_59 : decode cX4_collectDueLoans 59 = .ok (.aload 4, 2) := by decide +kernel
theorem dX4_collectDueLoans_61 : decode cX4_collectDueLoans 61 = .ok (.invokevirtual 205, 3) := by decide +kernel
theorem dX4_collectDueLoans_64 : decode cX4_collectDueLoans 64 = .ok (.iinc 3 1, 3) := by decide +kernel
theorem dX4_collectDueLoans_67 : decode cX4_collectDueLoans 67 = .ok (.goto (-57), 3) := by decide +kernel
theorem dX4_collectDueLoans_70 : decode cX4_collectDueLoans 70 = .ok (.return_, 1) := by decide +kernel
theorem dX4_judge_0 : decode cX4_judge 0 = .ok (.aload_n 1, 1) := by decide +kernel
theorem dX4_judge_1 : decode cX4_judge 1 = .ok (.getfield 125, 3) := by decide +kernel
theorem dX4_judge_4 : decode cX4_judge 4 = .ok (.ifCond .ne 11, 3) := by decide +kernel
theorem dX4_judge_7 : decode cX4_judge 7 = .ok (.aload_n 1, 1) := by decide +kernel
theorem dX4_judge_8 : decode cX4_judge 8 = .ok (.iconst 1, 1) := by decide +kernel
theorem dX4_judge_9 : decode cX4_judge 9 = .ok (.putfield 115, 3) := by decide +kernel
theorem dX4_judge_12 : decode cX4_judge 12 = .ok (.goto 18, 3) := by decide +kernel
theorem dX4_judge_15 : decode cX4_judge 15 = .ok (.aload_n 1, 1) := by decide +kernel
theorem dX4_judge_16 : decode cX4_judge 16 = .ok (.iconst 2, 1) := by decide +kernel
theorem dX4_judge_17 : decode cX4_judge 17 = .ok (.putfield 115, 3) := by decide +kernel
theorem dX4_judge_20 : decode cX4_judge 20 = .ok (.aload_n 0, 1) := by decide +kernel
theorem dX4_judge_21 : decode cX4_judge 21 = .ok (.dup, 1) := by decide +kernel
theorem dX4_judge_22 : decode cX4_judge 22 = .ok (.getfield 175, 3) := by decide +kernel
theorem dX4_judge_25 : decode cX4_judge 25 = .ok (.iconst 1, 1) := by decide +kernel
theorem dX4_judge_26 : decode cX4_judge 26 = .ok (.iadd, 1) := by decide +kernel
theorem dX4_judge_27 : decode cX4_judge 27 = .ok (.putfield 175, 3) := by decide +kernel
theorem dX4_judge_30 : decode cX4_judge 30 = .ok (.return_, 1) := by decide +kernel
theorem dX4_takeFromPocket_0 : decode cX4_takeFromPocket 0 = .ok (.aload_n 0, 1) := by decide +kernel
theorem dX4_takeFromPocket_1 : decode cX4_takeFromPocket 1 = .ok (.aload_n 1, 1) := by decide +kernel
theorem dX4_takeFromPocket_2 : decode cX4_takeFromPocket 2 = .ok (.getfield 118, 3) := by decide +kernel
theorem dX4_takeFromPocket_5 : decode cX4_takeFromPocket 5 = .ok (.invokevirtual 61, 3) := by decide +kernel
theorem dX4_takeFromPocket_8 : decode cX4_takeFromPocket 8 = .ok (.astore_n 3, 1) := by decide +kernel
theorem dX4_takeFromPocket_9 : decode cX4_takeFromPocket 9 = .ok (.iload_n 2, 1) := by decide +kernel
theorem dX4_takeFromPocket_10 : decode cX4_takeFromPocket 10 = .ok (.aload_n 1, 1) := by decide +kernel
theorem dX4_takeFromPocket_11 : decode cX4_takeFromPocket 11 = .ok (.getfield 125, 3) := by decide +kernel
theorem dX4_takeFromPocket_14 : decode cX4_takeFromPocket 14 = .ok (.invokestatic 208, 3) := by decide +kernel
theorem dX4_takeFromPocket_17 : decode cX4_takeFromPocket 17 = .ok (.aload_n 3, 1) := by decide +kernel
theorem dX4_takeFromPocket_18 : decode cX4_takeFromPocket 18 = .ok (.getfield 104, 3) := by decide +kernel
theorem dX4_takeFromPocket_21 : decode cX4_takeFromPocket 21 = .ok (.invokestatic 208, 3) := by decide +kernel
theorem dX4_takeFromPocket_24 : decode cX4_takeFromPocket 24 = .ok (.istore 4, 2) := by decide +kernel
theorem dX4_takeFromPocket_26 : decode cX4_takeFromPocket 26 = .ok (.aload_n 3, 1) := by decide +kernel
theorem dX4_takeFromPocket_27 : decode cX4_takeFromPocket 27 = .ok (.dup, 1) := by decide +kernel
theorem dX4_takeFromPocket_28 : decode cX4_takeFromPocket 28 = .ok (.getfield 104, 3) := by decide +kernel
theorem dX4_takeFromPocket_31 : decode cX4_takeFromPocket 31 = .ok (.iload 4, 2) := by decide +kernel
theorem dX4_takeFromPocket_33 : decode cX4_takeFromPocket 33 = .ok (.isub, 1) := by decide +kernel
theorem dX4_takeFromPocket_34 : decode cX4_takeFromPocket 34 = .ok (.putfield 104, 3) := by decide +kernel
theorem dX4_takeFromPocket_37 : decode cX4_takeFromPocket 37 = .ok (.aload_n 0, 1) := by decide +kernel
theorem dX4_takeFromPocket_38 : decode cX4_takeFromPocket 38 = .ok (.aload_n 1, 1) := by decide +kernel
theorem dX4_takeFromPocket_39 : decode cX4_takeFromPocket 39 = .ok (.iload 4, 2) := by decide +kernel
theorem dX4_takeFromPocket_41 : decode cX4_takeFromPocket 41 = .ok (.invokevirtual 211, 3) := by decide +kernel
theorem dX4_takeFromPocket_44 : decode cX4_takeFromPocket 44 = .ok (.iload 4, 2) := by decide +kernel
theorem dX4_takeFromPocket_46 : decode cX4_takeFromPocket 46 = .ok (.ireturn, 1) := by decide +kernel
theorem dX4_takeFromClocks_0 : decode cX4_takeFromClocks 0 = .ok (.aload_n 0, 1) := by decide +kernel
theorem dX4_takeFromClocks_1 : decode cX4_takeFromClocks 1 = .ok (.getfield 25, 3) := by decide +kernel
theorem dX4_takeFromClocks_4 : decode cX4_takeFromClocks 4 = .ok (.astore_n 2, 1) := by decide +kernel
theorem dX4_takeFromClocks_5 : decode cX4_takeFromClocks 5 = .ok (.aload_n 2, 1) := by decide +kernel
theorem dX4_takeFromClocks_6 : decode cX4_takeFromClocks 6 = .ok (.arraylength, 1) := by decide +kernel
theorem dX4_takeFromClocks_7 : decode cX4_takeFromClocks 7 = .ok (.istore_n 3, 1) := by decide +kernel
theorem dX4_takeFromClocks_8 : decode cX4_takeFromClocks 8 = .ok (.iconst 0, 1) := by decide +kernel
theorem dX4_takeFromClocks_9 : decode cX4_takeFromClocks 9 = .ok (.istore 4, 2) := by decide +kernel
theorem dX4_takeFromClocks_11 : decode cX4_takeFromClocks 11 = .ok (.iload 4, 2) := by decide +kernel
theorem dX4_takeFromClocks_13 : decode cX4_takeFromClocks 13 = .ok (.iload_n 3, 1) := by decide +kernel
theorem dX4_takeFromClocks_14 : decode cX4_takeFromClocks 14 = .ok (.if_icmp .ge 43, 3) := by decide +kernel
theorem dX4_takeFromClocks_17 : decode cX4_takeFromClocks 17 = .ok (.aload_n 2, 1) := by decide +kernel
theorem dX4_takeFromClocks_18 : decode cX4_takeFromClocks 18 = .ok (.iload 4, 2) := by decide +kernel
theorem dX4_takeFromClocks_20 : decode cX4_takeFromClocks 20 = .ok (.aaload, 1) := by decide +kernel
theorem dX4_takeFromClocks_21 : decode cX4_takeFromClocks 21 = .ok (.astore 5, 2) := by decide +kernel
theorem dX4_takeFromClocks_23 : decode cX4_takeFromClocks 23 = .ok (.aload 5, 2) := by decide +kernel
theorem dX4_takeFromClocks_25 : decode cX4_takeFromClocks 25 = .ok (.invokevirtual 107, 3) := by decide +kernel
theorem dX4_takeFromClocks_28 : decode cX4_takeFromClocks 28 = .ok (.ifCond .eq 23, 3) := by decide +kernel
theorem dX4_takeFromClocks_31 : decode cX4_takeFromClocks 31 = .ok (.aload_n 0, 1) := by decide +kernel
theorem dX4_takeFromClocks_32 : decode cX4_takeFromClocks 32 = .ok (.aload_n 1, 1) := by decide +kernel
theorem dX4_takeFromClocks_33 : decode cX4_takeFromClocks 33 = .ok (.aload 5, 2) := by decide +kernel
theorem dX4_takeFromClocks_35 : decode cX4_takeFromClocks 35 = .ok (.getfield 132, 3) := by decide +kernel
theorem dX4_takeFromClocks_38 : decode cX4_takeFromClocks 38 = .ok (.invokevirtual 215, 3) := by decide +kernel
theorem dX4_takeFromClocks_41 : decode cX4_takeFromClocks 41 = .ok (.aload_n 0, 1) := by decide +kernel
theorem dX4_takeFromClocks_42 : decode cX4_takeFromClocks 42 = .ok (.aload_n 1, 1) := by decide +kernel
theorem dX4_takeFromClocks_43 : decode cX4_takeFromClocks 43 = .ok (.aload 5, 2) := by decide +kernel
theorem dX4_takeFromClocks_45 : decode cX4_takeFromClocks 45 = .ok (.getfield 143, 3) := by decide +kernel
theorem dX4_takeFromClocks_48 : decode cX4_takeFromClocks 48 = .ok (.invokevirtual 215, 3) := by decide +kernel
theorem dX4_takeFromClocks_51 : decode cX4_takeFromClocks 51 = .ok (.iinc 4 1, 3) := by decide +kernel
theorem dX4_takeFromClocks_54 : decode cX4_takeFromClocks 54 = .ok (.goto (-43), 3) := by decide +kernel
theorem dX4_takeFromClocks_57 : decode cX4_takeFromClocks 57 = .ok (.return_, 1) := by decide +kernel
theorem dX4_takeFromSide_0 : decode cX4_takeFromSide 0 = .ok (.aload_n 2, 1) := by decide +kernel
theorem dX4_takeFromSide_1 : decode cX4_takeFromSide 1 = .ok (.getfield 136, 3) := by decide +kernel
theorem dX4_takeFromSide_4 : decode cX4_takeFromSide 4 = .ok (.aload_n 1, 1) := by decide +kernel
theorem dX4_takeFromSide_5 : decode cX4_takeFromSide 5 = .ok (.getfield 118, 3) := by decide +kernel
theorem dX4_takeFromSide_8 : decode cX4_takeFromSide 8 = .ok (.if_icmp .ne 16, 3) := by decide +kernel
theorem dX4_takeFromSide_11 : decode cX4_takeFromSide 11 = .ok (.aload_n 0, 1) := by decide +kernel
theorem dX4_takeFromSide_12 : decode cX4_takeFromSide 12 = .ok (.aload_n 1, 1) := by decide +kernel
theorem dX4_takeFromSide_13 : decode cX4_takeFromSide 13 = .ok (.aload_n 2, 1) := by decide +kernel
theorem dX4_takeFromSide_14 : decode cX4_takeFromSide 14 = .ok (.aload_n 1, 1) := by decide +kernel
theorem dX4_takeFromSide_15 : decode cX4_takeFromSide 15 = .ok (.getfield 125, 3) := by decide +kernel
theorem dX4_takeFromSide_18 : decode cX4_takeFromSide 18 = .ok (.invokevirtual 219, 3) := by decide +kernel
theorem dX4_takeFromSide_21 : decode cX4_takeFromSide 21 = .ok (.invokevirtual 211, 3) := by decide +kernel
theorem dX4_takeFromSide_24 : decode cX4_takeFromSide 24 = .ok (.return_, 1) := by decide +kernel
theorem dX4_bringBack_0 : decode cX4_bringBack 0 = .ok (.aload_n 1, 1) := by decide +kernel
theorem dX4_bringBack_1 : decode cX4_bringBack 1 = .ok (.dup, 1) := by decide +kernel
theorem dX4_bringBack_2 : decode cX4_bringBack 2 = .ok (.getfield 125, 3) := by decide +kernel
theorem dX4_bringBack_5 : decode cX4_bringBack 5 = .ok (.iload_n 2, 1) := by decide +kernel
theorem dX4_bringBack_6 : decode cX4_bringBack 6 = .ok (.isub, 1) := by decide +kernel
theorem dX4_bringBack_7 : decode cX4_bringBack 7 = .ok (.putfield 125, 3) := by decide +kernel
theorem dX4_bringBack_10 : decode cX4_bringBack 10 = .ok (.aload_n 0, 1) := by decide +kernel
theorem dX4_bringBack_11 : decode cX4_bringBack 11 = .ok (.dup, 1) := by decide +kernel
theorem dX4_bringBack_12 : decode cX4_bringBack 12 = .ok (.getfield 30, 3) := by decide +kernel
theorem dX4_bringBack_15 : decode cX4_bringBack 15 = .ok (.iload_n 2, 1) := by decide +kernel
theorem dX4_bringBack_16 : decode cX4_bringBack 16 = .ok (.iadd, 1) := by decide +kernel
theorem dX4_bringBack_17 : decode cX4_bringBack 17 = .ok (.putfield 30, 3) := by decide +kernel
theorem dX4_bringBack_20 : decode cX4_bringBack 20 = .ok (.return_, 1) := by decide +kernel
theorem dX4_lookForThieves_0 : decode cX4_lookForThieves 0 = .ok (.aload_n 0, 1) := by decide +kernel
theorem dX4_lookForThieves_1 : decode cX4_lookForThieves 1 = .ok (.getfield 25, 3) := by decide +kernel
theorem dX4_lookForThieves_4 : decode cX4_lookForThieves 4 = .ok (.astore_n 1, 1) := by decide +kernel
theorem dX4_lookForThieves_5 : decode cX4_lookForThieves 5 = .ok (.aload_n 1, 1) := by decide +kernel
theorem dX4_lookForThieves_6 : decode cX4_lookForThieves 6 = .ok (.arraylength, 1) := by decide +kernel
theorem dX4_lookForThieves_7 : decode cX4_lookForThieves 7 = .ok (.istore_n 2, 1) := by decide +kernel
theorem dX4_lookForThieves_8 : decode cX4_lookForThieves 8 = .ok (.iconst 0, 1) := by decide +kernel
theorem dX4_lookForThieves_9 : decode cX4_lookForThieves 9 = .ok (.istore_n 3, 1) := by decide +kernel
theorem dX4_lookForThieves_10 : decode cX4_lookForThieves 10 = .ok (.iload_n 3, 1) := by decide +kernel
theorem dX4_lookForThieves_11 : decode cX4_lookForThieves 11 = .ok (.iload_n 2, 1) := by decide +kernel
theorem dX4_lookForThieves_12 : decode cX4_lookForThieves 12 = .ok (.if_icmp .ge 50, 3) := by decide +kernel
theorem dX4_lookForThieves_15 : decode cX4_lookForThieves 15 = .ok (.aload_n 1, 1) := by decide +kernel
theorem dX4_lookForThieves_16 : decode cX4_lookForThieves 16 = .ok (.iload_n 3, 1) := by decide +kernel
theorem dX4_lookForThieves_17 : decode cX4_lookForThieves 17 = .ok (.aaload, 1) := by decide +kernel
theorem dX4_lookForThieves_18 : decode cX4_lookForThieves 18 = .ok (.astore 4, 2) := by decide +kernel
theorem dX4_lookForThieves_20 : decode cX4_lookForThieves 20 = .ok (.aload 4, 2) := by decide +kernel
theorem dX4_lookForThieves_22 : decode cX4_lookForThieves 22 = .ok (.invokevirtual 107, 3) := by decide +kernel
theorem dX4_lookForThieves_25 : decode cX4_lookForThieves 25 = .ok (.ifCond .eq 31, 3) := by decide +kernel
theorem dX4_lookForThieves_28 : decode cX4_lookForThieves 28 = .ok (.aload_n 0, 1) := by decide +kernel
theorem dX4_lookForThieves_29 : decode cX4_lookForThieves 29 = .ok (.aload 4, 2) := by decide +kernel
theorem dX4_lookForThieves_31 : decode cX4_lookForThieves 31 = .ok (.getfield 132, 3) := by decide +kernel
theorem dX4_lookForThieves_34 : decode cX4_lookForThieves 34 = .ok (.aload 4, 2) := by decide +kernel
theorem dX4_lookForThieves_36 : decode cX4_lookForThieves 36 = .ok (.getfield 143, 3) := by decide +kernel
theorem dX4_lookForThieves_39 : decode cX4_lookForThieves 39 = .ok (.invokevirtual 223, 3) := by decide +kernel
theorem dX4_lookForThieves_42 : decode cX4_lookForThieves 42 = .ok (.aload_n 0, 1) := by decide +kernel
theorem dX4_lookForThieves_43 : decode cX4_lookForThieves 43 = .ok (.aload 4, 2) := by decide +kernel
theorem dX4_lookForThieves_45 : decode cX4_lookForThieves 45 = .ok (.getfield 143, 3) := by decide +kernel
theorem dX4_lookForThieves_48 : decode cX4_lookForThieves 48 = .ok (.aload 4, 2) := by decide +kernel
theorem dX4_lookForThieves_50 : decode cX4_lookForThieves 50 = .ok (.getfield 132, 3) := by decide +kernel
theorem dX4_lookForThieves_53 : decode cX4_lookForThieves 53 = .ok (.invokevirtual 223, 3) := by decide +kernel
theorem dX4_lookForThieves_56 : decode cX4_lookForThieves 56 = .ok (.iinc 3 1, 3) := by decide +kernel
theorem dX4_lookForThieves_59 : decode cX4_lookForThieves 59 = .ok (.goto (-49), 3) := by decide +kernel
theorem dX4_lookForThieves_62 : decode cX4_lookForThieves 62 = .ok (.return_, 1) := by decide +kernel
theorem dX4_inspect_0 : decode cX4_inspect 0 = .ok (.aload_n 1, 1) := by decide +kernel
theorem dX4_inspect_1 : decode cX4_inspect 1 = .ok (.getfield 227, 3) := by decide +kernel
theorem dX4_inspect_4 : decode cX4_inspect 4 = .ok (.bipush 15, 2) := by decide +kernel
theorem dX4_inspect_6 : decode cX4_inspect 6 = .ok (.if_icmp .ge 14, 3) := by decide +kernel
theorem dX4_inspect_9 : decode cX4_inspect 9 = .ok (.aload_n 1, 1) := by decide +kernel
theorem dX4_inspect_10 : decode cX4_inspect 10 = .ok (.dup, 1) := by decide +kernel
theorem dX4_inspect_11 : decode cX4_inspect 11 = .ok (.getfield 227, 3) := by decide +kernel
theorem dX4_inspect_14 : decode cX4_inspect 14 = .ok (.iconst 2, 1) := by decide +kernel
theorem dX4_inspect_15 : decode cX4_inspect 15 = .ok (.idiv, 1) := by decide +kernel
theorem dX4_inspect_16 : decode cX4_inspect 16 = .ok (.putfield 227, 3) := by decide +kernel
theorem dX4_inspect_19 : decode cX4_inspect 19 = .ok (.return_, 1) := by decide +kernel
theorem dX4_inspect_20 : decode cX4_inspect 20 = .ok (.aload_n 1, 1) := by decide +kernel
theorem dX4_inspect_21 : decode cX4_inspect 21 = .ok (.aload_n 2, 1) := by decide +kernel
theorem dX4_inspect_22 : decode cX4_inspect 22 = .ok (.iconst 2, 1) := by decide +kernel
theorem dX4_inspect_23 : decode cX4_inspect 23 = .ok (.aload_n 1, 1) := by decide +kernel
theorem dX4_inspect_24 : decode cX4_inspect 24 = .ok (.getfield 227, 3) := by decide +kernel
theorem dX4_inspect_27 : decode cX4_inspect 27 = .ok (.imul, 1) := by decide +kernel
theorem dX4_inspect_28 : decode cX4_inspect 28 = .ok (.invokevirtual 230, 3) := by decide +kernel
theorem dX4_inspect_31 : decode cX4_inspect 31 = .ok (.pop, 1) := by decide +kernel
theorem dX4_inspect_32 : decode cX4_inspect 32 = .ok (.aload_n 1, 1) := by decide +kernel
theorem dX4_inspect_33 : decode cX4_inspect 33 = .ok (.iconst 0, 1) := by decide +kernel
theorem dX4_inspect_34 : decode cX4_inspect 34 = .ok (.putfield 227, 3) := by decide +kernel
theorem dX4_inspect_37 : decode cX4_inspect 37 = .ok (.aload_n 0, 1) := by decide +kernel
theorem dX4_inspect_38 : decode cX4_inspect 38 = .ok (.aload_n 1, 1) := by decide +kernel
theorem dX4_inspect_39 : decode cX4_inspect 39 = .ok (.getfield 136, 3) := by decide +kernel
theorem dX4_inspect_42 : decode cX4_inspect 42 = .ok (.invokevirtual 61, 3) := by decide +kernel
theorem dX4_inspect_45 : decode cX4_inspect 45 = .ok (.dup, 1) := by decide +kernel
theorem dX4_inspect_46 : decode cX4_inspect 46 = .ok (.getfield 234, 3) := by decide +kernel
theorem dX4_inspect_49 : decode cX4_inspect 49 = .ok (.iconst 1, 1) := by decide +kernel
theorem dX4_inspect_50 : decode cX4_inspect 50 = .ok (.iadd, 1) := by decide +kernel
theorem dX4_inspect_51 : decode cX4_inspect 51 = .ok (.putfield 234, 3) := by decide +kernel
theorem dX4_inspect_54 : decode cX4_inspect 54 = .ok (.aload_n 0, 1) := by decide +kernel
theorem dX4_inspect_55 : decode cX4_inspect 55 = .ok (.dup, 1) := by decide +kernel
theorem dX4_inspect_56 : decode cX4_inspect 56 = .ok (.getfield 49, 3) := by decide +kernel
theorem dX4_inspect_59 : decode cX4_inspect 59 = .ok (.iconst 1, 1) := by decide +kernel
theorem dX4_inspect_60 : decode cX4_inspect 60 = .ok (.iadd, 1) := by decide +kernel
theorem dX4_inspect_61 : decode cX4_inspect 61 = .ok (.putfield 49, 3) := by decide +kernel
theorem dX4_inspect_64 : decode cX4_inspect 64 = .ok (.return_, 1) := by decide +kernel
theorem dX5_init_0 : decode cX5_init 0 = .ok (.aload_n 0, 1) := by decide +kernel
theorem dX5_init_1 : decode cX5_init 1 = .ok (.invokespecial 1, 3) := by decide +kernel
theorem dX5_init_4 : decode cX5_init 4 = .ok (.aload_n 0, 1) := by decide +kernel
theorem dX5_init_5 : decode cX5_init 5 = .ok (.new 7, 3) := by decide +kernel
theorem dX5_init_8 : decode cX5_init 8 = .ok (.dup, 1) := by decide +kernel
theorem dX5_init_9 : decode cX5_init 9 = .ok (.invokespecial 9, 3) := by decide +kernel
theorem dX5_init_12 : decode cX5_init 12 = .ok (.putfield 10, 3) := by decide +kernel
theorem dX5_init_15 : decode cX5_init 15 = .ok (.aload_n 0, 1) := by decide +kernel
theorem dX5_init_16 : decode cX5_init 16 = .ok (.new 7, 3) := by decide +kernel
theorem dX5_init_19 : decode cX5_init 19 = .ok (.dup, 1) := by decide +kernel
theorem dX5_init_20 : decode cX5_init 20 = .ok (.invokespecial 9, 3) := by decide +kernel
theorem dX5_init_23 : decode cX5_init 23 = .ok (.putfield 16, 3) := by decide +kernel
theorem dX5_init_26 : decode cX5_init 26 = .ok (.return_, 1) := by decide +kernel
theorem dX5_addPlayer_0 : decode cX5_addPlayer 0 = .ok (.iload_n 1, 1) := by decide +kernel
theorem dX5_addPlayer_1 : decode cX5_addPlayer 1 = .ok (.iconst 0, 1) := by decide +kernel
theorem dX5_addPlayer_2 : decode cX5_addPlayer 2 = .ok (.ldc 19, 2) := by decide +kernel
theorem dX5_addPlayer_4 : decode cX5_addPlayer 4 = .ok (.invokestatic 20, 3) := by decide +kernel
theorem dX5_addPlayer_7 : decode cX5_addPlayer 7 = .ok (.ifCond .eq 13, 3) := by decide +kernel
theorem dX5_addPlayer_10 : decode cX5_addPlayer 10 = .ok (.new 24, 3) := by decide +kernel
theorem dX5_addPlayer_13 : decode cX5_addPlayer 13 = .ok (.dup, 1) := by decide +kernel
theorem dX5_addPlayer_14 : decode cX5_addPlayer 14 = .ok (.ldc 26, 2) := by decide +kernel
theorem dX5_addPlayer_16 : decode cX5_addPlayer 16 = .ok (.invokespecial 28, 3) := by decide +kernel
theorem dX5_addPlayer_19 : decode cX5_addPlayer 19 = .ok (.athrow, 1) := by decide +kernel
theorem dX5_addPlayer_20 : decode cX5_addPlayer 20 = .ok (.aload_n 0, 1) := by decide +kernel
theorem dX5_addPlayer_21 : decode cX5_addPlayer 21 = .ok (.getfield 10, 3) := by decide +kernel
theorem dX5_addPlayer_24 : decode cX5_addPlayer 24 = .ok (.getfield 31, 3) := by decide +kernel
theorem dX5_addPlayer_27 : decode cX5_addPlayer 27 = .ok (.aload_n 0, 1) := by decide +kernel
theorem dX5_addPlayer_28 : decode cX5_addPlayer 28 = .ok (.getfield 10, 3) := by decide +kernel
theorem dX5_addPlayer_31 : decode cX5_addPlayer 31 = .ok (.getfield 35, 3) := by decide +kernel
theorem dX5_addPlayer_34 : decode cX5_addPlayer 34 = .ok (.arraylength, 1) := by decide +kernel
theorem dX5_addPlayer_35 : decode cX5_addPlayer 35 = .ok (.if_icmp .lt 13, 3) := by decide +kernel
theorem dX5_addPlayer_38 : decode cX5_addPlayer 38 = .ok (.new 39, 3) := by decide +kernel
theorem dX5_addPlayer_41 : decode cX5_addPlayer 41 = .ok (.dup, 1) := by decide +kernel
theorem dX5_addPlayer_42 : decode cX5_addPlayer 42 = .ok (.ldc 41, 2) := by decide +kernel
theorem dX5_addPlayer_44 : decode cX5_addPlayer 44 = .ok (.invokespecial 43, 3) := by decide +kernel
theorem dX5_addPlayer_47 : decode cX5_addPlayer 47 = .ok (.athrow, 1) := by decide +kernel
theorem dX5_addPlayer_48 : decode cX5_addPlayer 48 = .ok (.aload_n 0, 1) := by decide +kernel
theorem dX5_addPlayer_49 : decode cX5_addPlayer 49 = .ok (.getfield 10, 3) := by decide +kernel
theorem dX5_addPlayer_52 : decode cX5_addPlayer 52 = .ok (.getfield 31, 3) := by decide +kernel
theorem dX5_addPlayer_55 : decode cX5_addPlayer 55 = .ok (.istore_n 2, 1) := by decide +kernel
theorem dX5_addPlayer_56 : decode cX5_addPlayer 56 = .ok (.aload_n 0, 1) := by decide +kernel
theorem dX5_addPlayer_57 : decode cX5_addPlayer 57 = .ok (.getfield 10, 3) := by decide +kernel
theorem dX5_addPlayer_60 : decode cX5_addPlayer 60 = .ok (.dup, 1) := by decide +kernel
theorem dX5_addPlayer_61 : decode cX5_addPlayer 61 = .ok (.getfield 31, 3) := by decide +kernel
theorem dX5_addPlayer_64 : decode cX5_addPlayer 64 = .ok (.iconst 1, 1) := by decide +kernel
theorem dX5_addPlayer_65 : decode cX5_addPlayer 65 = .ok (.iadd, 1) := by decide +kernel
theorem dX5_addPlayer_66 : decode cX5_addPlayer 66 = .ok (.putfield 31, 3) := by decide +kernel
theorem dX5_addPlayer_69 : decode cX5_addPlayer 69 = .ok (.aload_n 0, 1) := by decide +kernel
theorem dX5_addPlayer_70 : decode cX5_addPlayer 70 = .ok (.getfield 10, 3) := by decide +kernel
theorem dX5_addPlayer_73 : decode cX5_addPlayer 73 = .ok (.iload_n 2, 1) := by decide +kernel
theorem dX5_addPlayer_74 : decode cX5_addPlayer 74 = .ok (.invokevirtual 44, 3) := by decide +kernel
theorem dX5_addPlayer_77 : decode cX5_addPlayer 77 = .ok (.iload_n 1, 1) := by decide +kernel
theorem dX5_addPlayer_78 : decode cX5_addPlayer 78 = .ok (.putfield 48, 3) := by decide +kernel
theorem dX5_addPlayer_81 : decode cX5_addPlayer 81 = .ok (.iload_n 2, 1) := by decide +kernel
theorem dX5_addPlayer_82 : decode cX5_addPlayer 82 = .ok (.ireturn, 1) := by decide +kernel
theorem dX5_player_0 : decode cX5_player 0 = .ok (.aload_n 0, 1) := by decide +kernel
theorem dX5_player_1 : decode cX5_player 1 = .ok (.getfield 10, 3) := by decide +kernel
theorem dX5_player_4 : decode cX5_player 4 = .ok (.iload_n 1, 1) := by decide +kernel
theorem dX5_player_5 : decode cX5_player 5 = .ok (.invokevirtual 44, 3) := by decide +kernel
theorem dX5_player_8 : decode cX5_player 8 = .ok (.astore_n 3, 1) := by decide +kernel
theorem dX5_player_9 : decode cX5_player 9 = .ok (.iload_n 2, 1) := by decide +kernel
theorem dX5_player_10 : decode cX5_player 10 = .ok (.tableswitch 99 0 7 #[46, 51, 56, 65, 70, 75, 84, 94], 46) := by decide +kernel
theorem dX5_player_56 : decode cX5_player 56 = .ok (.aload_n 3, 1) := by decide +kernel
theorem dX5_player_57 : decode cX5_player 57 = .ok (.getfield 48, 3) := by decide +kernel
theorem dX5_player_60 : decode cX5_player 60 = .ok (.ireturn, 1) := by decide +kernel
theorem dX5_player_61 : decode cX5_player 61 = .ok (.aload_n 3, 1) := by decide +kernel
theorem dX5_player_62 : decode cX5_player 62 = .ok (.getfield 53, 3) := by decide +kernel
theorem dX5_player_65 : decode cX5_player 65 = .ok (.ireturn, 1) := by decide +kernel
theorem dX5_player_66 : decode cX5_player 66 = .ok (.aload_n 0, 1) := by decide +kernel
theorem dX5_player_67 : decode cX5_player 67 = .ok (.getfield 10, 3) := by decide +kernel
theorem dX5_player_70 : decode cX5_player 70 = .ok (.iload_n 1, 1) := by decide +kernel
theorem dX5_player_71 : decode cX5_player 71 = .ok (.invokevirtual 56, 3) := by decide +kernel
theorem dX5_player_74 : decode cX5_player 74 = .ok (.ireturn, 1) := by decide +kernel
theorem dX5_player_75 : decode cX5_player 75 = .ok (.aload_n 3, 1) := by decide +kernel
theorem dX5_player_76 : decode cX5_player 76 = .ok (.getfield 60, 3) := by decide +kernel
theorem dX5_player_79 : decode cX5_player 79 = .ok (.ireturn, 1) := by decide +kernel
theorem dX5_player_80 : decode cX5_player 80 = .ok (.aload_n 3, 1) := by decide +kernel
theorem dX5_player_81 : decode cX5_player 81 = .ok (.getfield 63, 3) := by decide +kernel
theorem dX5_player_84 : decode cX5_player 84 = .ok (.ireturn, 1) := by decide +kernel
theorem dX5_player_85 : decode cX5_player 85 = .ok (.aload_n 0, 1) := by decide +kernel
theorem dX5_player_86 : decode cX5_player 86 = .ok (.getfield 10, 3) := by decide +kernel
theorem dX5_player_89 : decode cX5_player 89 = .ok (.iload_n 1, 1) := by decide +kernel
theorem dX5_player_90 : decode cX5_player 90 = .ok (.invokevirtual 66, 3) := by decide +kernel
theorem dX5_player_93 : decode cX5_player 93 = .ok (.ireturn, 1) := by decide +kernel
theorem dX5_player_94 : decode cX5_player 94 = .ok (.aload_n 0, 1) := by decide +kernel
theorem dX5_player_95 : decode cX5_player 95 = .ok (.getfield 10, 3) := by decide +kernel
theorem dX5_player_98 : decode cX5_player 98 = .ok (.iload_n 1, 1) := by decide +kernel
theorem dX5_player_99 : decode cX5_player 99 = .ok (.iconst 2, 1) := by decide +kernel
theorem dX5_player_100 : decode cX5_player 100 = .ok (.invokevirtual 71, 3) := by decide +kernel
theorem dX5_player_103 : decode cX5_player 103 = .ok (.ireturn, 1) := by decide +kernel
theorem dX5_player_104 : decode cX5_player 104 = .ok (.aload_n 3, 1) := by decide +kernel
theorem dX5_player_105 : decode cX5_player 105 = .ok (.getfield 75, 3) := by decide +kernel
theorem dX5_player_108 : decode cX5_player 108 = .ok (.ireturn, 1) := by decide +kernel
theorem dX5_player_109 : decode cX5_player 109 = .ok (.new 78, 3) := by decide +kernel
theorem dX5_player_112 : decode cX5_player 112 = .ok (.dup, 1) := by decide +kernel
theorem dX5_player_113 : decode cX5_player 113 = .ok (.ldc 80, 2) := by decide +kernel
theorem dX5_player_115 : decode cX5_player 115 = .ok (.invokespecial 82, 3) := by decide +kernel
theorem dX5_player_118 : decode cX5_player 118 = .ok (.athrow, 1) := by decide +kernel
theorem dX5_buy_0 : decode cX5_buy 0 = .ok (.aload_n 0, 1) := by decide +kernel
theorem dX5_buy_1 : decode cX5_buy 1 = .ok (.getfield 10, 3) := by decide +kernel
theorem dX5_buy_4 : decode cX5_buy 4 = .ok (.iload_n 1, 1) := by decide +kernel
theorem dX5_buy_5 : decode cX5_buy 5 = .ok (.invokevirtual 44, 3) := by decide +kernel
theorem dX5_buy_8 : decode cX5_buy 8 = .ok (.astore_n 3, 1) := by decide +kernel
theorem dX5_buy_9 : decode cX5_buy 9 = .ok (.iload_n 2, 1) := by decide +kernel
theorem dX5_buy_10 : decode cX5_buy 10 = .ok (.iconst 1, 1) := by decide +kernel
theorem dX5_buy_11 : decode cX5_buy 11 = .ok (.sipush 10000, 3) := by decide +kernel
theorem dX5_buy_14 : decode cX5_buy 14 = .ok (.invokestatic 20, 3) := by decide +kernel
theorem dX5_buy_17 : decode cX5_buy 17 = .ok (.ifCond .eq 13, 3) := by decide +kernel
theorem dX5_buy_20 : decode cX5_buy 20 = .ok (.new 24, 3) := by decide +kernel
theorem dX5_buy_23 : decode cX5_buy 23 = .ok (.dup, 1) := by decide +kernel
theorem dX5_buy_24 : decode cX5_buy 24 = .ok (.ldc 83, 2) := by decide +kernel
theorem dX5_buy_26 : decode cX5_buy 26 = .ok (.invokespecial 28, 3) := by decide +kernel
theorem dX5_buy_29 : decode cX5_buy 29 = .ok (.athrow, 1) := by decide +kernel
theorem dX5_buy_30 : decode cX5_buy 30 = .ok (.iload_n 2, 1) := by decide +kernel
theorem dX5_buy_31 : decode cX5_buy 31 = .ok (.aload_n 0, 1) := by decide +kernel
theorem dX5_buy_32 : decode cX5_buy 32 = .ok (.getfield 10, 3) := by decide +kernel
theorem dX5_buy_35 : decode cX5_buy 35 = .ok (.invokevirtual 85, 3) := by decide +kernel
theorem dX5_buy_38 : decode cX5_buy 38 = .ok (.imul, 1) := by decide +kernel
theorem dX5_buy_39 : decode cX5_buy 39 = .ok (.bipush 10, 2) := by decide +kernel
theorem dX5_buy_41 : decode cX5_buy 41 = .ok (.idiv, 1) := by decide +kernel
theorem dX5_buy_42 : decode cX5_buy 42 = .ok (.iconst 1, 1) := by decide +kernel
theorem dX5_buy_43 : decode cX5_buy 43 = .ok (.iadd, 1) := by decide +kernel
theorem dX5_buy_44 : decode cX5_buy 44 = .ok (.istore 4, 2) := by decide +kernel
theorem dX5_buy_46 : decode cX5_buy 46 = .ok (.iload_n 2, 1) := by decide +kernel
theorem dX5_buy_47 : decode cX5_buy 47 = .ok (.aload_n 0, 1) := by decide +kernel
theorem dX5_buy_48 : decode cX5_buy 48 = .ok (.getfield 10, 3) := by decide +kernel
theorem dX5_buy_51 : decode cX5_buy 51 = .ok (.getfield 89, 3) := by decide +kernel
theorem dX5_buy_54 : decode cX5_buy 54 = .ok (.if_icmp .le 13, 3) := by decide +kernel
theorem dX5_buy_57 : decode cX5_buy 57 = .ok (.new 39, 3) := by decide +kernel
theorem dX5_buy_60 : decode cX5_buy 60 = .ok (.dup, 1) := by decide +kernel
theorem dX5_buy_61 : decode cX5_buy 61 = .ok (.ldc 92, 2) := by decide +kernel
theorem dX5_buy_63 : decode cX5_buy 63 = .ok (.invokespecial 43, 3) := by decide +kernel
theorem dX5_buy_66 : decode cX5_buy 66 = .ok (.athrow, 1) := by decide +kernel
theorem dX5_buy_67 : decode cX5_buy 67 = .ok (.iload 4, 2) := by decide +kernel
theorem dX5_buy_69 : decode cX5_buy 69 = .ok (.aload_n 3, 1) := by decide +kernel
theorem dX5_buy_70 : decode cX5_buy 70 = .ok (.getfield 48, 3) := by decide +kernel
theorem dX5_buy_73 : decode cX5_buy 73 = .ok (.if_icmp .le 13, 3) := by decide +kernel
theorem dX5_buy_76 : decode cX5_buy 76 = .ok (.new 39, 3) := by decide +kernel
theorem dX5_buy_79 : decode cX5_buy 79 = .ok (.dup, 1) := by decide +kernel
theorem dX5_buy_80 : decode cX5_buy 80 = .ok (.ldc 94, 2) := by decide +kernel
theorem dX5_buy_82 : decode cX5_buy 82 = .ok (.invokespecial 43, 3) := by decide +kernel
theorem dX5_buy_85 : decode cX5_buy 85 = .ok (.athrow, 1) := by decide +kernel
theorem dX5_buy_86 : decode cX5_buy 86 = .ok (.aload_n 0, 1) := by decide +kernel
theorem dX5_buy_87 : decode cX5_buy 87 = .ok (.getfield 10, 3) := by decide +kernel
theorem dX5_buy_90 : decode cX5_buy 90 = .ok (.aload_n 3, 1) := by decide +kernel
theorem dX5_buy_91 : decode cX5_buy 91 = .ok (.iload_n 2, 1) := by decide +kernel
theorem dX5_buy_92 : decode cX5_buy 92 = .ok (.invokevirtual 96, 3) := by decide +kernel
theorem dX5_buy_95 : decode cX5_buy 95 = .ok (.aload_n 3, 1) := by decide +kernel
theorem dX5_buy_96 : decode cX5_buy 96 = .ok (.dup, 1) := by decide +kernel
theorem dX5_buy_97 : decode cX5_buy 97 = .ok (.getfield 48, 3) := by decide +kernel
theorem dX5_buy_100 : decode cX5_buy 100 = .ok (.iload 4, 2) := by decide +kernel
theorem dX5_buy_102 : decode cX5_buy 102 = .ok (.isub, 1) := by decide +kernel
theorem dX5_buy_103 : decode cX5_buy 103 = .ok (.putfield 48, 3) := by decide +kernel
theorem dX5_buy_106 : decode cX5_buy 106 = .ok (.aload_n 0, 1) := by decide +kernel
theorem dX5_buy_107 : decode cX5_buy 107 = .ok (.getfield 10, 3) := by decide +kernel
theorem dX5_buy_110 : decode cX5_buy 110 = .ok (.dup, 1) := by decide +kernel
theorem dX5_buy_111 : decode cX5_buy 111 = .ok (.getfield 100, 3) := by decide +kernel
theorem dX5_buy_114 : decode cX5_buy 114 = .ok (.iload 4, 2) := by decide +kernel
theorem dX5_buy_116 : decode cX5_buy 116 = .ok (.iadd, 1) := by decide +kernel
theorem dX5_buy_117 : decode cX5_buy 117 = .ok (.putfield 100, 3) := by decide +kernel
theorem dX5_buy_120 : decode cX5_buy 120 = .ok (.iload 4, 2) := by decide +kernel
theorem dX5_buy_122 : decode cX5_buy 122 = .ok (.ireturn, 1) := by decide +kernel
theorem dX5_sell_0 : decode cX5_sell 0 = .ok (.aload_n 0, 1) := by decide +kernel
theorem dX5_sell_1 : decode cX5_sell 1 = .ok (.getfield 10, 3) := by decide +kernel
theorem dX5_sell_4 : decode cX5_sell 4 = .ok (.iload_n 1, 1) := by decide +kernel
theorem dX5_sell_5 : decode cX5_sell 5 = .ok (.invokevirtual 44, 3) := by decide +kernel
theorem dX5_sell_8 : decode cX5_sell 8 = .ok (.astore_n 3, 1) := by decide +kernel
theorem dX5_sell_9 : decode cX5_sell 9 = .ok (.iload_n 2, 1) := by decide +kernel
theorem dX5_sell_10 : decode cX5_sell 10 = .ok (.iconst 1, 1) := by decide +kernel
theorem dX5_sell_11 : decode cX5_sell 11 = .ok (.sipush 10000, 3) := by decide +kernel
theorem dX5_sell_14 : decode cX5_sell 14 = .ok (.invokestatic 20, 3) := by decide +kernel
theorem dX5_sell_17 : decode cX5_sell 17 = .ok (.ifCond .eq 13, 3) := by decide +kernel
theorem dX5_sell_20 : decode cX5_sell 20 = .ok (.new 24, 3) := by decide +kernel
theorem dX5_sell_23 : decode cX5_sell 23 = .ok (.dup, 1) := by decide +kernel
theorem dX5_sell_24 : decode cX5_sell 24 = .ok (.ldc 83, 2) := by decide +kernel
theorem dX5_sell_26 : decode cX5_sell 26 = .ok (.invokespecial 28, 3) := by decide +kernel
theorem dX5_sell_29 : decode cX5_sell 29 = .ok (.athrow, 1) := by decide +kernel
theorem dX5_sell_30 : decode cX5_sell 30 = .ok (.iload_n 2, 1) := by decide +kernel
theorem dX5_sell_31 : decode cX5_sell 31 = .ok (.aload_n 0, 1) := by decide +kernel
theorem dX5_sell_32 : decode cX5_sell 32 = .ok (.getfield 10, 3) := by decide +kernel
theorem dX5_sell_35 : decode cX5_sell 35 = .ok (.invokevirtual 85, 3) := by decide +kernel
theorem dX5_sell_38 : decode cX5_sell 38 = .ok (.imul, 1) := by decide +kernel
theorem dX5_sell_39 : decode cX5_sell 39 = .ok (.bipush 20, 2) := by decide +kernel
theorem dX5_sell_41 : decode cX5_sell 41 = .ok (.idiv, 1) := by decide +kernel
theorem dX5_sell_42 : decode cX5_sell 42 = .ok (.istore 4, 2) := by decide +kernel
theorem dX5_sell_44 : decode cX5_sell 44 = .ok (.iload_n 2, 1) := by decide +kernel
theorem dX5_sell_45 : decode cX5_sell 45 = .ok (.aload_n 3, 1) := by decide +kernel
theorem dX5_sell_46 : decode cX5_sell 46 = .ok (.getfield 53, 3) := by decide +kernel
theorem dX5_sell_49 : decode cX5_sell 49 = .ok (.if_icmp .le 13, 3) := by decide +kernel
theorem dX5_sell_52 : decode cX5_sell 52 = .ok (.new 39, 3) := by decide +kernel
theorem dX5_sell_55 : decode cX5_sell 55 = .ok (.dup, 1) := by decide +kernel
theorem dX5_sell_56 : decode cX5_sell 56 = .ok (.ldc 101, 2) := by decide +kernel
theorem dX5_sell_58 : decode cX5_sell 58 = .ok (.invokespecial 43, 3) := by decide +kernel
theorem dX5_sell_61 : decode cX5_sell 61 = .ok (.athrow, 1) := by decide +kernel
theorem dX5_sell_62 : decode cX5_sell 62 = .ok (.iload 4, 2) := by decide +kernel
theorem dX5_sell_64 : decode cX5_sell 64 = .ok (.aload_n 0, 1) := by decide +kernel
theorem dX5_sell_65 : decode cX5_sell 65 = .ok (.getfield 10, 3) := by decide +kernel
theorem dX5_sell_68 : decode cX5_sell 68 = .ok (.getfield 100, 3) := by decide +kernel
theorem dX5_sell_71 : decode cX5_sell 71 = .ok (.if_icmp .le 13, 3) := by decide +kernel
theorem dX5_sell_74 : decode cX5_sell 74 = .ok (.new 39, 3) := by decide +kernel
theorem dX5_sell_77 : decode cX5_sell 77 = .ok (.dup, 1) := by decide +kernel
theorem dX5_sell_78 : decode cX5_sell 78 = .ok (.ldc 103, 2) := by decide +kernel
theorem dX5_sell_80 : decode cX5_sell 80 = .ok (.invokespecial 43, 3) := by decide +kernel
theorem dX5_sell_83 : decode cX5_sell 83 = .ok (.athrow, 1) := by decide +kernel
theorem dX5_sell_84 : decode cX5_sell 84 = .ok (.aload_n 3, 1) := by decide +kernel
theorem dX5_sell_85 : decode cX5_sell 85 = .ok (.dup, 1) := by decide +kernel
theorem dX5_sell_86 : decode cX5_sell 86 = .ok (.getfield 53, 3) := by decide +kernel
theorem dX5_sell_89 : decode cX5_sell 89 = .ok (.iload_n 2, 1) := by decide +kernel
theorem dX5_sell_90 : decode cX5_sell 90 = .ok (.isub, 1) := by decide +kernel
theorem dX5_sell_91 : decode cX5_sell 91 = .ok (.putfield 53, 3) := by decide +kernel
theorem dX5_sell_94 : decode cX5_sell 94 = .ok (.aload_n 0, 1) := by decide +kernel
theorem dX5_sell_95 : decode cX5_sell 95 = .ok (.getfield 10, 3) := by decide +kernel
theorem dX5_sell_98 : decode cX5_sell 98 = .ok (.dup, 1) := by decide +kernel
theorem dX5_sell_99 : decode cX5_sell 99 = .ok (.getfield 89, 3) := by decide +kernel
theorem dX5_sell_102 : decode cX5_sell 102 = .ok (.iload_n 2, 1) := by decide +kernel
theorem dX5_sell_103 : decode cX5_sell 103 = .ok (.iadd, 1) := by decide +kernel
theorem dX5_sell_104 : decode cX5_sell 104 = .ok (.putfield 89, 3) := by decide +kernel
theorem dX5_sell_107 : decode cX5_sell 107 = .ok (.aload_n 3, 1) := by decide +kernel
theorem dX5_sell_108 : decode cX5_sell 108 = .ok (.dup, 1) := by decide +kernel
theorem dX5_sell_109 : decode cX5_sell 109 = .ok (.getfield 48, 3) := by decide +kernel
theorem dX5_sell_112 : decode cX5_sell 112 = .ok (.iload 4, 2) := by decide +kernel
theorem dX5_sell_114 : decode cX5_sell 114 = .ok (.iadd, 1) := by decide +kernel
theorem dX5_sell_115 : decode cX5_sell 115 = .ok (.putfield 48, 3) := by decide +kernel
theorem dX5_sell_118 : decode cX5_sell 118 = .ok (.aload_n 0, 1) := by decide +kernel
theorem dX5_sell_119 : decode cX5_sell 119 = .ok (.getfield 10, 3) := by decide +kernel
theorem dX5_sell_122 : decode cX5_sell 122 = .ok (.dup, 1) := by decide +kernel
theorem dX5_sell_123 : decode cX5_sell 123 = .ok (.getfield 100, 3) := by decide +kernel
theorem dX5_sell_126 : decode cX5_sell 126 = .ok (.iload 4, 2) := by decide +kernel
theorem dX5_sell_128 : decode cX5_sell 128 = .ok (.isub, 1) := by decide +kernel
theorem dX5_sell_129 : decode cX5_sell 129 = .ok (.putfield 100, 3) := by decide +kernel
theorem dX5_sell_132 : decode cX5_sell 132 = .ok (.iload 4, 2) := by decide +kernel
theorem dX5_sell_134 : decode cX5_sell 134 = .ok (.ireturn, 1) := by decide +kernel
theorem dX5_borrow_0 : decode cX5_borrow 0 = .ok (.aload_n 0, 1) := by decide +kernel
theorem dX5_borrow_1 : decode cX5_borrow 1 = .ok (.getfield 10, 3) := by decide +kernel
theorem dX5_borrow_4 : decode cX5_borrow 4 = .ok (.iload_n 1, 1) := by decide +kernel
theorem dX5_borrow_5 : decode cX5_borrow 5 = .ok (.invokevirtual 44, 3) := by decide +kernel
theorem dX5_borrow_8 : decode cX5_borrow 8 = .ok (.astore 5, 2) := by decide +kernel
theorem dX5_borrow_10 : decode cX5_borrow 10 = .ok (.iload_n 2, 1) := by decide +kernel
theorem dX5_borrow_11 : decode cX5_borrow 11 = .ok (.iconst 1, 1) := by decide +kernel
theorem dX5_borrow_12 : decode cX5_borrow 12 = .ok (.sipush 5000, 3) := by decide +kernel
theorem dX5_borrow_15 : decode cX5_borrow 15 = .ok (.invokestatic 20, 3) := by decide +kernel
theorem dX5_borrow_18 : decode cX5_borrow 18 = .ok (.ifCond .eq 13, 3) := by decide +kernel
theorem dX5_borrow_21 : decode cX5_borrow 21 = .ok (.new 24, 3) := by decide +kernel
theorem dX5_borrow_24 : decode cX5_borrow 24 = .ok (.dup, 1) := by decide +kernel
theorem dX5_borrow_25 : decode cX5_borrow 25 = .ok (.ldc 105, 2) := by decide +kernel
theorem dX5_borrow_27 : decode cX5_borrow 27 = .ok (.invokespecial 28, 3) := by decide +kernel
theorem dX5_borrow_30 : decode cX5_borrow 30 = .ok (.athrow, 1) := by decide +kernel
theorem dX5_borrow_31 : decode cX5_borrow 31 = .ok (.iload_n 3, 1) := by decide +kernel
theorem dX5_borrow_32 : decode cX5_borrow 32 = .ok (.iconst 0, 1) := by decide +kernel
theorem dX5_borrow_33 : decode cX5_borrow 33 = .ok (.bipush 100, 2) := by decide +kernel
theorem dX5_borrow_35 : decode cX5_borrow 35 = .ok (.invokestatic 20, 3) := by decide +kernel
theorem dX5_borrow_38 : decode cX5_borrow 38 = .ok (.ifCond .eq 13, 3) := by decide +kernel
theorem dX5_borrow_41 : decode cX5_borrow 41 = .ok (.new 24, 3) := by decide +kernel
theorem dX5_borrow_44 : decode cX5_borrow 44 = .ok (.dup, 1) := by decide +kernel
theorem dX5_borrow_45 : decode cX5_borrow 45 = .ok (.ldc 107, 2) := by decide +kernel
theorem dX5_borrow_47 : decode cX5_borrow 47 = .ok (.invokespecial 28, 3) := by decide +kernel
theorem dX5_borrow_50 : decode cX5_borrow 50 = .ok (.athrow, 1) := by decide +kernel
theorem dX5_borrow_51 : decode cX5_borrow 51 = .ok (.iload 4, 2) := by decide +kernel
theorem dX5_borrow_53 : decode cX5_borrow 53 = .ok (.iconst 1, 1) := by decide +kernel
theorem dX5_borrow_54 : decode cX5_borrow 54 = .ok (.sipush 3600, 3) := by decide +kernel
theorem dX5_borrow_57 : decode cX5_borrow 57 = .ok (.invokestatic 20, 3) := by decide +kernel
theorem dX5_borrow_60 : decode cX5_borrow 60 = .ok (.ifCond .eq 13, 3) := by decide +kernel
theorem dX5_borrow_63 : decode cX5_borrow 63 = .ok (.new 24, 3) := by decide +kernel
theorem dX5_borrow_66 : decode cX5_borrow 66 = .ok (.dup, 1) := by decide +kernel
theorem dX5_borrow_67 : decode cX5_borrow 67 = .ok (.ldc 109, 2) := by decide +kernel
theorem dX5_borrow_69 : decode cX5_borrow 69 = .ok (.invokespecial 28, 3) := by decide +kernel
theorem dX5_borrow_72 : decode cX5_borrow 72 = .ok (.athrow, 1) := by decide +kernel
theorem dX5_borrow_73 : decode cX5_borrow 73 = .ok (.iload_n 2, 1) := by decide +kernel
theorem dX5_borrow_74 : decode cX5_borrow 74 = .ok (.aload_n 0, 1) := by decide +kernel
theorem dX5_borrow_75 : decode cX5_borrow 75 = .ok (.getfield 10, 3) := by decide +kernel
theorem dX5_borrow_78 : decode cX5_borrow 78 = .ok (.getfield 89, 3) := by decide +kernel
theorem dX5_borrow_81 : decode cX5_borrow 81 = .ok (.if_icmp .le 13, 3) := by decide +kernel
theorem dX5_borrow_84 : decode cX5_borrow 84 = .ok (.new 39, 3) := by decide +kernel
theorem dX5_borrow_87 : decode cX5_borrow 87 = .ok (.dup, 1) := by decide +kernel
theorem dX5_borrow_88 : decode cX5_borrow 88 = .ok (.ldc 92, 2) := by decide +kernel
theorem dX5_borrow_90 : decode cX5_borrow 90 = .ok (.invokespecial 43, 3) := by decide +kernel
theorem dX5_borrow_93 : decode cX5_borrow 93 = .ok (.athrow, 1) := by decide +kernel
theorem dX5_borrow_94 : decode cX5_borrow 94 = .ok (.aload_n 0, 1) := by decide +kernel
theorem dX5_borrow_95 : decode cX5_borrow 95 = .ok (.getfield 10, 3) := by decide +kernel
theorem dX5_borrow_98 : decode cX5_borrow 98 = .ok (.iload_n 1, 1) := by decide +kernel
theorem dX5_borrow_99 : decode cX5_borrow 99 = .ok (.iconst 2, 1) := by decide +kernel
theorem dX5_borrow_100 : decode cX5_borrow 100 = .ok (.invokevirtual 71, 3) := by decide +kernel
theorem dX5_borrow_103 : decode cX5_borrow 103 = .ok (.ifCond .gt 16, 3) := by decide +kernel
theorem dX5_borrow_106 : decode cX5_borrow 106 = .ok (.aload_n 0, 1) := by decide +kernel
theorem dX5_borrow_107 : decode cX5_borrow 107 = .ok (.getfield 10, 3) := by decide +kernel
theorem dX5_borrow_110 : decode cX5_borrow 110 = .ok (.iload_n 1, 1) := by decide +kernel
theorem dX5_borrow_111 : decode cX5_borrow 111 = .ok (.iconst 0, 1) := by decide +kernel
theorem dX5_borrow_112 : decode cX5_borrow 112 = .ok (.invokevirtual 71, 3) := by decide +kernel
theorem dX5_borrow_115 : decode cX5_borrow 115 = .ok (.iconst 3, 1) := by decide +kernel
theorem dX5_borrow_116 : decode cX5_borrow 116 = .ok (.if_icmp .lt 13, 3) := by decide +kernel
theorem dX5_borrow_119 : decode cX5_borrow 119 = .ok (.new 39, 3) := by decide +kernel
theorem dX5_borrow_122 : decode cX5_borrow 122 = .ok (.dup, 1) := by decide +kernel
theorem dX5_borrow_123 : decode cX5_borrow 123 = .ok (.ldc 111, 2) := by decide +kernel
theorem dX5_borrow_125 : decode cX5_borrow 125 = .ok (.invokespecial 43, 3) := by decide +kernel
theorem dX5_borrow_128 : decode cX5_borrow 128 = .ok (.athrow, 1) := by decide +kernel
theorem dX5_borrow_129 : decode cX5_borrow 129 = .ok (.aload_n 0, 1) := by decide +kernel
theorem dX5_borrow_130 : decode cX5_borrow 130 = .ok (.getfield 10, 3) := by decide +kernel
theorem dX5_borrow_133 : decode cX5_borrow 133 = .ok (.getfield 113, 3) := by decide +kernel
theorem dX5_borrow_136 : decode cX5_borrow 136 = .ok (.aload_n 0, 1) := by decide +kernel
theorem dX5_borrow_137 : decode cX5_borrow 137 = .ok (.getfield 10, 3) := by decide +kernel
theorem dX5_borrow_140 : decode cX5_borrow 140 = .ok (.getfield 116, 3) := by decide +kernel
theorem dX5_borrow_143 : decode cX5_borrow 143 = .ok (.arraylength, 1) := by decide +kernel
theorem dX5_borrow_144 : decode cX5_borrow 144 = .ok (.if_icmp .lt 13, 3) := by decide +kernel
theorem dX5_borrow_147 : decode cX5_borrow 147 = .ok (.new 39, 3) := by decide +kernel
theorem dX5_borrow_150 : decode cX5_borrow 150 = .ok (.dup, 1) := by decide +kernel
theorem dX5_borrow_151 : decode cX5_borrow 151 = .ok (.ldc 120, 2) := by decide +kernel
theorem dX5_borrow_153 : decode cX5_borrow 153 = .ok (.invokespecial 43, 3) := by decide +kernel
theorem dX5_borrow_156 : decode cX5_borrow 156 = .ok (.athrow, 1) := by decide +kernel
theorem dX5_borrow_157 : decode cX5_borrow 157 = .ok (.aload_n 0, 1) := by decide +kernel
theorem dX5_borrow_158 : decode cX5_borrow 158 = .ok (.getfield 10, 3) := by decide +kernel
theorem dX5_borrow_161 : decode cX5_borrow 161 = .ok (.getfield 113, 3) := by decide +kernel
theorem dX5_borrow_164 : decode cX5_borrow 164 = .ok (.istore 6, 2) := by decide +kernel
theorem dX5_borrow_166 : decode cX5_borrow 166 = .ok (.aload_n 0, 1) := by decide +kernel
theorem dX5_borrow_167 : decode cX5_borrow 167 = .ok (.getfield 10, 3) := by decide +kernel
theorem dX5_borrow_170 : decode cX5_borrow 170 = .ok (.dup, 1) := by decide +kernel
theorem dX5_borrow_171 : decode cX5_borrow 171 = .ok (.getfield 113, 3) := by decide +kernel
theorem dX5_borrow_174 : decode cX5_borrow 174 = .ok (.iconst 1, 1) := by decide +kernel
theorem dX5_borrow_175 : decode cX5_borrow 175 = .ok (.iadd, 1) := by decide +kernel
theorem dX5_borrow_176 : decode cX5_borrow 176 = .ok (.putfield 113, 3) := by decide +kernel
theorem dX5_borrow_179 : decode cX5_borrow 179 = .ok (.aload_n 0, 1) := by decide +kernel
theorem dX5_borrow_180 : decode cX5_borrow 180 = .ok (.getfield 10, 3) := by decide +kernel
theorem dX5_borrow_183 : decode cX5_borrow 183 = .ok (.iload 6, 2) := by decide +kernel
theorem dX5_borrow_185 : decode cX5_borrow 185 = .ok (.invokevirtual 122, 3) := by decide +kernel
theorem dX5_borrow_188 : decode cX5_borrow 188 = .ok (.iload_n 1, 1) := by decide +kernel
theorem dX5_borrow_189 : decode cX5_borrow 189 = .ok (.iload_n 2, 1) := by decide +kernel
theorem dX5_borrow_190 : decode cX5_borrow 190 = .ok (.iload_n 3, 1) := by decide +kernel
theorem dX5_borrow_191 : decode cX5_borrow 191 = .ok (.aload_n 0, 1) := by decide +kernel
theorem dX5_borrow_192 : decode cX5_borrow 192 = .ok (.getfield 10, 3) := by decide +kernel
theorem dX5_borrow_195 : decode cX5_borrow 195 = .ok (.getfield 126, 3) := by decide +kernel
theorem dX5_borrow_198 : decode cX5_borrow 198 = .ok (.iload 4, 2) := by decide +kernel
theorem dX5_borrow_200 : decode cX5_borrow 200 = .ok (.iadd, 1) := by decide +kernel
theorem dX5_borrow_201 : decode cX5_borrow 201 = .ok (.invokevirtual 129, 3) := by decide +kernel
theorem dX5_borrow_204 : decode cX5_borrow 204 = .ok (.aload_n 0, 1) := by decide +kernel
theorem dX5_borrow_205 : decode cX5_borrow 205 = .ok (.getfield 10, 3) := by decide +kernel
theorem dX5_borrow_208 : decode cX5_borrow 208 = .ok (.aload 5, 2) := by decide +kernel
theorem dX5_borrow_210 : decode cX5_borrow 210 = .ok (.iload_n 2, 1) := by decide +kernel
theorem dX5_borrow_211 : decode cX5_borrow 211 = .ok (.invokevirtual 96, 3) := by decide +kernel
theorem dX5_borrow_214 : decode cX5_borrow 214 = .ok (.iload 6, 2) := by decide +kernel
theorem dX5_borrow_216 : decode cX5_borrow 216 = .ok (.ireturn, 1) := by decide +kernel
theorem dX5_repay_0 : decode cX5_repay 0 = .ok (.aload_n 0, 1) := by decide +kernel
theorem dX5_repay_1 : decode cX5_repay 1 = .ok (.getfield 10, 3) := by decide +kernel
theorem dX5_repay_4 : decode cX5_repay 4 = .ok (.iload_n 1, 1) := by decide +kernel
theorem dX5_repay_5 : decode cX5_repay 5 = .ok (.invokevirtual 122, 3) := by decide +kernel
theorem dX5_repay_8 : decode cX5_repay 8 = .ok (.astore_n 3, 1) := by decide +kernel
theorem dX5_repay_9 : decode cX5_repay 9 = .ok (.iload_n 2, 1) := by decide +kernel
theorem dX5_repay_10 : decode cX5_repay 10 = .ok (.iconst 1, 1) := by decide +kernel
theorem dX5_repay_11 : decode cX5_repay 11 = .ok (.ldc 19, 2) := by decide +kernel
theorem dX5_repay_13 : decode cX5_repay 13 = .ok (.invokestatic 20, 3) := by decide +kernel
theorem dX5_repay_16 : decode cX5_repay 16 = .ok (.ifCond .eq 13, 3) := by decide +kernel
theorem dX5_repay_19 : decode cX5_repay 19 = .ok (.new 24, 3) := by decide +kernel
theorem dX5_repay_22 : decode cX5_repay 22 = .ok (.dup, 1) := by decide +kernel
theorem dX5_repay_23 : decode cX5_repay 23 = .ok (.ldc 133, 2) := by decide +kernel
theorem dX5_repay_25 : decode cX5_repay 25 = .ok (.invokespecial 28, 3) := by decide +kernel
theorem dX5_repay_28 : decode cX5_repay 28 = .ok (.athrow, 1) := by decide +kernel
theorem dX5_repay_29 : decode cX5_repay 29 = .ok (.aload_n 3, 1) := by decide +kernel
theorem dX5_repay_30 : decode cX5_repay 30 = .ok (.getfield 135, 3) := by decide +kernel
theorem dX5_repay_33 : decode cX5_repay 33 = .ok (.iconst 1, 1) := by decide +kernel
theorem dX5_repay_34 : decode cX5_repay 34 = .ok (.if_icmp .ne 13, 3) := by decide +kernel
theorem dX5_repay_37 : decode cX5_repay 37 = .ok (.new 39, 3) := by decide +kernel
theorem dX5_repay_40 : decode cX5_repay 40 = .ok (.dup, 1) := by decide +kernel
theorem dX5_repay_41 : decode cX5_repay 41 = .ok (.ldc 138, 2) := by decide +kernel
theorem dX5_repay_43 : decode cX5_repay 43 = .ok (.invokespecial 43, 3) := by decide +kernel
theorem dX5_repay_46 : decode cX5_repay 46 = .ok (.athrow, 1) := by decide +kernel
theorem dX5_repay_47 : decode cX5_repay 47 = .ok (.aload_n 0, 1) := by decide +kernel
theorem dX5_repay_48 : decode cX5_repay 48 = .ok (.getfield 10, 3) := by decide +kernel
theorem dX5_repay_51 : decode cX5_repay 51 = .ok (.aload_n 3, 1) := by decide +kernel
theorem dX5_repay_52 : decode cX5_repay 52 = .ok (.iload_n 2, 1) := by decide +kernel
theorem dX5_repay_53 : decode cX5_repay 53 = .ok (.invokevirtual 140, 3) := by decide +kernel
theorem dX5_repay_56 : decode cX5_repay 56 = .ok (.istore 4, 2) := by decide +kernel
theorem dX5_repay_58 : decode cX5_repay 58 = .ok (.aload_n 3, 1) := by decide +kernel
theorem dX5_repay_59 : decode cX5_repay 59 = .ok (.getfield 144, 3) := by decide +kernel
theorem dX5_repay_62 : decode cX5_repay 62 = .ok (.ifCond .ne 8, 3) := by decide +kernel
theorem dX5_repay_65 : decode cX5_repay 65 = .ok (.aload_n 3, 1) := by decide +kernel
theorem dX5_repay_66 : decode cX5_repay 66 = .ok (.iconst 1, 1) := by decide +kernel
theorem dX5_repay_67 : decode cX5_repay 67 = .ok (.putfield 135, 3) := by decide +kernel
theorem dX5_repay_70 : decode cX5_repay 70 = .ok (.iload 4, 2) := by decide +kernel
theorem dX5_repay_72 : decode cX5_repay 72 = .ok (.ireturn, 1) := by decide +kernel
theorem dX5_loan_0 : decode cX5_loan 0 = .ok (.aload_n 0, 1) := by decide +kernel
theorem dX5_loan_1 : decode cX5_loan 1 = .ok (.getfield 10, 3) := by decide +kernel
theorem dX5_loan_4 : decode cX5_loan 4 = .ok (.iload_n 1, 1) := by decide +kernel
theorem dX5_loan_5 : decode cX5_loan 5 = .ok (.invokevirtual 122, 3) := by decide +kernel
theorem dX5_loan_8 : decode cX5_loan 8 = .ok (.astore_n 3, 1) := by decide +kernel
theorem dX5_loan_9 : decode cX5_loan 9 = .ok (.iload_n 2, 1) := by decide +kernel
theorem dX5_loan_10 : decode cX5_loan 10 = .ok (.tableswitch 59 0 4 #[34, 39, 44, 49, 54], 34) := by decide +kernel
theorem dX5_loan_44 : decode cX5_loan 44 = .ok (.aload_n 3, 1) := by decide +kernel
theorem dX5_loan_45 : decode cX5_loan 45 = .ok (.getfield 147, 3) := by decide +kernel
theorem dX5_loan_48 : decode cX5_loan 48 = .ok (.ireturn, 1) := by decide +kernel
theorem dX5_loan_49 : decode cX5_loan 49 = .ok (.aload_n 3, 1) := by decide +kernel
theorem dX5_loan_50 : decode cX5_loan 50 = .ok (.getfield 144, 3) := by decide +kernel
theorem dX5_loan_53 : decode cX5_loan 53 = .ok (.ireturn, 1) := by decide +kernel
theorem dX5_loan_54 : decode cX5_loan 54 = .ok (.aload_n 3, 1) := by decide +kernel
theorem dX5_loan_55 : decode cX5_loan 55 = .ok (.getfield 150, 3) := by decide +kernel
theorem dX5_loan_58 : decode cX5_loan 58 = .ok (.ireturn, 1) := by decide +kernel
theorem dX5_loan_59 : decode cX5_loan 59 = .ok (.aload_n 3, 1) := by decide +kernel
theorem dX5_loan_60 : decode cX5_loan 60 = .ok (.getfield 153, 3) := by decide +kernel
theorem dX5_loan_63 : decode cX5_loan 63 = .ok (.ireturn, 1) := by decide +kernel
theorem dX5_loan_64 : decode cX5_loan 64 = .ok (.aload_n 3, 1) := by decide +kernel
theorem dX5_loan_65 : decode cX5_loan 65 = .ok (.getfield 135, 3) := by decide +kernel
theorem dX5_loan_68 : decode cX5_loan 68 = .ok (.ireturn, 1) := by decide +kernel
theorem dX5_loan_69 : decode cX5_loan 69 = .ok (.new 78, 3) := by decide +kernel
theorem dX5_loan_72 : decode cX5_loan 72 = .ok (.dup, 1) := by decide +kernel
theorem dX5_loan_73 : decode cX5_loan 73 = .ok (.ldc 156, 2) := by decide +kernel
theorem dX5_loan_75 : decode cX5_loan 75 = .ok (.invokespecial 82, 3) := by decide +kernel
theorem dX5_loan_78 : decode cX5_loan 78 = .ok (.athrow, 1) := by decide +kernel
theorem dX5_begin_0 : decode cX5_begin 0 = .ok (.aload_n 0, 1) := by decide +kernel
theorem dX5_begin_1 : decode cX5_begin 1 = .ok (.getfield 10, 3) := by decide +kernel
theorem dX5_begin_4 : decode cX5_begin 4 = .ok (.iload_n 1, 1) := by decide +kernel
theorem dX5_begin_5 : decode cX5_begin 5 = .ok (.invokevirtual 44, 3) := by decide +kernel
theorem dX5_begin_8 : decode cX5_begin 8 = .ok (.astore 7, 2) := by decide +kernel
theorem dX5_begin_10 : decode cX5_begin 10 = .ok (.aload_n 0, 1) := by decide +kernel
theorem dX5_begin_11 : decode cX5_begin 11 = .ok (.getfield 10, 3) := by decide +kernel
theorem dX5_begin_14 : decode cX5_begin 14 = .ok (.iload_n 2, 1) := by decide +kernel
theorem dX5_begin_15 : decode cX5_begin 15 = .ok (.invokevirtual 44, 3) := by decide +kernel
theorem dX5_begin_18 : decode cX5_begin 18 = .ok (.astore 8, 2) := by decide +kernel
theorem dX5_begin_20 : decode cX5_begin 20 = .ok (.iload_n 1, 1) := by decide +kernel
theorem dX5_begin_21 : decode cX5_begin 21 = .ok (.iload_n 2, 1) := by decide +kernel
theorem dX5_begin_22 : decode cX5_begin 22 = .ok (.if_icmp .ne 13, 3) := by decide +kernel
theorem dX5_begin_25 : decode cX5_begin 25 = .ok (.new 24, 3) := by decide +kernel
theorem dX5_begin_28 : decode cX5_begin 28 = .ok (.dup, 1) := by decide +kernel
theorem dX5_begin_29 : decode cX5_begin 29 = .ok (.ldc 158, 2) := by decide +kernel
theorem dX5_begin_31 : decode cX5_begin 31 = .ok (.invokespecial 28, 3) := by decide +kernel
theorem dX5_begin_34 : decode cX5_begin 34 = .ok (.athrow, 1) := by decide +kernel
theorem dX5_begin_35 : decode cX5_begin 35 = .ok (.iload_n 3, 1) := by decide +kernel
theorem dX5_begin_36 : decode cX5_begin 36 = .ok (.iconst 1, 1) := by decide +kernel
theorem dX5_begin_37 : decode cX5_begin 37 = .ok (.sipush 7200, 3) := by decide +kernel
theorem dX5_begin_40 : decode cX5_begin 40 = .ok (.invokestatic 20, 3) := by decide +kernel
theorem dX5_begin_43 : decode cX5_begin 43 = .ok (.ifCond .eq 13, 3) := by decide +kernel
theorem dX5_begin_46 : decode cX5_begin 46 = .ok (.new 24, 3) := by decide +kernel
theorem dX5_begin_49 : decode cX5_begin 49 = .ok (.dup, 1) := by decide +kernel
theorem dX5_begin_50 : decode cX5_begin 50 = .ok (.ldc 160, 2) := by decide +kernel
theorem dX5_begin_52 : decode cX5_begin 52 = .ok (.invokespecial 28, 3) := by decide +kernel
theorem dX5_begin_55 : decode cX5_begin 55 = .ok (.athrow, 1) := by decide +kernel
theorem dX5_begin_56 : decode cX5_begin 56 = .ok (.iload 4, 2) := by decide +kernel
theorem dX5_begin_58 : decode cX5_begin 58 = .ok (.iconst 0, 1) := by decide +kernel
theorem dX5_begin_59 : decode cX5_begin 59 = .ok (.bipush 30, 2) := by decide +kernel
theorem dX5_begin_61 : decode cX5_begin 61 = .ok (.invokestatic 20, 3) := by decide +kernel
theorem dX5_begin_64 : decode cX5_begin 64 = .ok (.ifCond .ne 14, 3) := by decide +kernel
theorem dX5_begin_67 : decode cX5_begin 67 = .ok (.iload 5, 2) := by decide +kernel
theorem dX5_begin_69 : decode cX5_begin 69 = .ok (.iconst 0, 1) := by decide +kernel
theorem dX5_begin_70 : decode cX5_begin 70 = .ok (.bipush 30, 2) := by decide +kernel
theorem dX5_begin_72 : decode cX5_begin 72 = .ok (.invokestatic 20, 3) := by decide +kernel
theorem dX5_begin_75 : decode cX5_begin 75 = .ok (.ifCond .eq 13, 3) := by decide +kernel
theorem dX5_begin_78 : decode cX5_begin 78 = .ok (.new 24, 3) := by decide +kernel
theorem dX5_begin_81 : decode cX5_begin 81 = .ok (.dup, 1) := by decide +kernel
theorem dX5_begin_82 : decode cX5_begin 82 = .ok (.ldc 162, 2) := by decide +kernel
theorem dX5_begin_84 : decode cX5_begin 84 = .ok (.invokespecial 28, 3) := by decide +kernel
theorem dX5_begin_87 : decode cX5_begin 87 = .ok (.athrow, 1) := by decide +kernel
theorem dX5_begin_88 : decode cX5_begin 88 = .ok (.iload 6, 2) := by decide +kernel
theorem dX5_begin_90 : decode cX5_begin 90 = .ok (.iconst 0, 1) := by decide +kernel
theorem dX5_begin_91 : decode cX5_begin 91 = .ok (.sipush 10000, 3) := by decide +kernel
theorem dX5_begin_94 : decode cX5_begin 94 = .ok (.invokestatic 20, 3) := by decide +kernel
theorem dX5_begin_97 : decode cX5_begin 97 = .ok (.ifCond .eq 13, 3) := by decide +kernel
theorem dX5_begin_100 : decode cX5_begin 100 = .ok (.new 24, 3) := by decide +kernel
theorem dX5_begin_103 : decode cX5_begin 103 = .ok (.dup, 1) := by decide +kernel
theorem dX5_begin_104 : decode cX5_begin 104 = .ok (.ldc 164, 2) := by decide +kernel
theorem dX5_begin_106 : decode cX5_begin 106 = .ok (.invokespecial 28, 3) := by decide +kernel
theorem dX5_begin_109 : decode cX5_begin 109 = .ok (.athrow, 1) := by decide +kernel
theorem dX5_begin_110 : decode cX5_begin 110 = .ok (.iload 6, 2) := by decide +kernel
theorem dX5_begin_112 : decode cX5_begin 112 = .ok (.aload 7, 2) := by decide +kernel
theorem dX5_begin_114 : decode cX5_begin 114 = .ok (.getfield 48, 3) := by decide +kernel
theorem dX5_begin_117 : decode cX5_begin 117 = .ok (.if_icmp .gt 13, 3) := by decide +kernel
theorem dX5_begin_120 : decode cX5_begin 120 = .ok (.iload 6, 2) := by decide +kernel
theorem dX5_begin_122 : decode cX5_begin 122 = .ok (.aload 8, 2) := by decide +kernel
theorem dX5_begin_124 : decode cX5_begin 124 = .ok (.getfield 48, 3) := by decide +kernel
theorem dX5_begin_127 : decode cX5_begin 127 = .ok (.if_icmp .le 13, 3) := by decide +kernel
theorem dX5_begin_130 : decode cX5_begin 130 = .ok (.new 39, 3) := by decide +kernel
theorem dX5_begin_133 : decode cX5_begin 133 = .ok (.dup, 1) := by decide +kernel
theorem dX5_begin_134 : decode cX5_begin 134 = .ok (.ldc 166, 2) := by decide +kernel
theorem dX5_begin_136 : decode cX5_begin 136 = .ok (.invokespecial 43, 3) := by decide +kernel
theorem dX5_begin_139 : decode cX5_begin 139 = .ok (.athrow, 1) := by decide +kernel
theorem dX5_begin_140 : decode cX5_begin 140 = .ok (.aload_n 0, 1) := by decide +kernel
theorem dX5_begin_141 : decode cX5_begin 141 = .ok (.getfield 10, 3) := by decide +kernel
theorem dX5_begin_144 : decode cX5_begin 144 = .ok (.getfield 168, 3) := by decide +kernel
theorem dX5_begin_147 : decode cX5_begin 147 = .ok (.aload_n 0, 1) := by decide +kernel
theorem dX5_begin_148 : decode cX5_begin 148 = .ok (.getfield 10, 3) := by decide +kernel
theorem dX5_begin_151 : decode cX5_begin 151 = .ok (.getfield 171, 3) := by decide +kernel
theorem dX5_begin_154 : decode cX5_begin 154 = .ok (.arraylength, 1) := by decide +kernel
theorem dX5_begin_155 : decode cX5_begin 155 = .ok (.if_icmp .lt 13, 3) := by decide +kernel
theorem dX5_begin_158 : decode cX5_begin 158 = .ok (.new 39, 3) := by decide +kernel
theorem dX5_begin_161 : decode cX5_begin 161 = .ok (.dup, 1) := by decide +kernel
theorem dX5_begin_162 : decode cX5_begin 162 = .ok (.ldc 175, 2) := by decide +kernel
theorem dX5_begin_164 : decode cX5_begin 164 = .ok (.invokespecial 43, 3) := by decide +kernel
theorem dX5_begin_167 : decode cX5_begin 167 = .ok (.athrow, 1) := by decide +kernel
theorem dX5_begin_168 : decode cX5_begin 168 = .ok (.aload_n 0, 1) := by decide +kernel
theorem dX5_begin_169 : decode cX5_begin 169 = .ok (.getfield 10, 3) := by decide +kernel
theorem dX5_begin_172 : decode cX5_begin 172 = .ok (.getfield 168, 3) := by decide +kernel
theorem dX5_begin_175 : decode cX5_begin 175 = .ok (.istore 9, 2) := by decide +kernel
theorem dX5_begin_177 : decode cX5_begin 177 = .ok (.aload_n 0, 1) := by decide +kernel
theorem dX5_begin_178 : decode cX5_begin 178 = .ok (.getfield 10, 3) := by decide +kernel
theorem dX5_begin_181 : decode cX5_begin 181 = .ok (.dup, 1) := by decide +kernel
theorem dX5_begin_182 : decode cX5_begin 182 = .ok (.getfield 168, 3) := by decide +kernel
theorem dX5_begin_185 : decode cX5_begin 185 = .ok (.iconst 1, 1) := by decide +kernel
theorem dX5_begin_186 : decode cX5_begin 186 = .ok (.iadd, 1) := by decide +kernel
theorem dX5_begin_187 : decode cX5_begin 187 = .ok (.putfield 168, 3) := by decide +kernel
theorem dX5_begin_190 : decode cX5_begin 190 = .ok (.aload_n 0, 1) := by decide +kernel
theorem dX5_begin_191 : decode cX5_begin 191 = .ok (.getfield 10, 3) := by decide +kernel
theorem dX5_begin_194 : decode cX5_begin 194 = .ok (.iload 9, 2) := by decide +kernel
theorem dX5_begin_196 : decode cX5_begin 196 = .ok (.invokevirtual 177, 3) := by decide +kernel
theorem dX5_begin_199 : decode cX5_begin 199 = .ok (.astore 10, 2) := by decide +kernel
theorem dX5_begin_201 : decode cX5_begin 201 = .ok (.aload 10, 2) := by decide +kernel
theorem dX5_begin_203 : decode cX5_begin 203 = .ok (.iload_n 1, 1) := by decide +kernel
theorem dX5_begin_204 : decode cX5_begin 204 = .ok (.iload_n 2, 1) := by decide +kernel
theorem dX5_begin_205 : decode cX5_begin 205 = .ok (.iload_n 3, 1) := by decide +kernel
theorem dX5_begin_206 : decode cX5_begin 206 = .ok (.invokevirtual 181, 3) := by decide +kernel
theorem dX5_begin_209 : decode cX5_begin 209 = .ok (.aload 10, 2) := by decide +kernel
theorem dX5_begin_211 : decode cX5_begin 211 = .ok (.iload 9, 2) := by decide +kernel
theorem dX5_begin_213 : decode cX5_begin 213 = .ok (.iload 4, 2) := by decide +kernel
theorem dX5_begin_215 : decode cX5_begin 215 = .ok (.iload 5, 2) := by decide +kernel
theorem dX5_begin_217 : decode cX5_begin 217 = .ok (.iload 6, 2) := by decide +kernel
theorem dX5_begin_219 : decode cX5_begin 219 = .ok (.invokevirtual 187, 3) := by decide +kernel
theorem dX5_begin_222 : decode cX5_begin 222 = .ok (.aload 7, 2) := by decide +kernel
theorem dX5_begin_224 : decode cX5_begin 224 = .ok (.dup, 1) := by decide +kernel
theorem dX5_begin_225 : decode cX5_begin 225 = .ok (.getfield 48, 3) := by decide +kernel
theorem dX5_begin_228 : decode cX5_begin 228 = .ok (.iload 6, 2) := by decide +kernel
theorem dX5_begin_230 : decode cX5_begin 230 = .ok (.isub, 1) := by decide +kernel
theorem dX5_begin_231 : decode cX5_begin 231 = .ok (.putfield 48, 3) := by decide +kernel
theorem dX5_begin_234 : decode cX5_begin 234 = .ok (.aload 8, 2) := by decide +kernel
theorem dX5_begin_236 : decode cX5_begin 236 = .ok (.dup, 1) := by decide +kernel
theorem dX5_begin_237 : decode cX5_begin 237 = .ok (.getfield 48, 3) := by decide +kernel
theorem dX5_begin_240 : decode cX5_begin 240 = .ok (.iload 6, 2) := by decide +kernel
theorem dX5_begin_242 : decode cX5_begin 242 = .ok (.isub, 1) := by decide +kernel
theorem dX5_begin_243 : decode cX5_begin 243 = .ok (.putfield 48, 3) := by decide +kernel
theorem dX5_begin_246 : decode cX5_begin 246 = .ok (.iload 9, 2) := by decide +kernel
theorem dX5_begin_248 : decode cX5_begin 248 = .ok (.ireturn, 1) := by decide +kernel
theorem dX5_press_0 : decode cX5_press 0 = .ok (.aload_n 0, 1) := by decide +kernel
theorem dX5_press_1 : decode cX5_press 1 = .ok (.getfield 10, 3) := by decide +kernel
theorem dX5_press_4 : decode cX5_press 4 = .ok (.iload_n 1, 1) := by decide +kernel
theorem dX5_press_5 : decode cX5_press 5 = .ok (.invokevirtual 177, 3) := by decide +kernel
theorem dX5_press_8 : decode cX5_press 8 = .ok (.astore_n 2, 1) := by decide +kernel
theorem dX5_press_9 : decode cX5_press 9 = .ok (.aload_n 2, 1) := by decide +kernel
theorem dX5_press_10 : decode cX5_press 10 = .ok (.invokevirtual 190, 3) := by decide +kernel
theorem dX5_press_13 : decode cX5_press 13 = .ok (.ifCond .ne 13, 3) := by decide +kernel
theorem dX5_press_16 : decode cX5_press 16 = .ok (.new 39, 3) := by decide +kernel
theorem dX5_press_19 : decode cX5_press 19 = .ok (.dup, 1) := by decide +kernel
theorem dX5_press_20 : decode cX5_press 20 = .ok (.ldc 194, 2) := by decide +kernel
theorem dX5_press_22 : decode cX5_press 22 = .ok (.invokespecial 43, 3) := by decide +kernel
theorem dX5_press_25 : decode cX5_press 25 = .ok (.athrow, 1) := by decide +kernel
theorem dX5_press_26 : decode cX5_press 26 = .ok (.aload_n 2, 1) := by decide +kernel
theorem dX5_press_27 : decode cX5_press 27 = .ok (.invokevirtual 196, 3) := by decide +kernel
theorem dX5_press_30 : decode cX5_press 30 = .ok (.aload_n 2, 1) := by decide +kernel
theorem dX5_press_31 : decode cX5_press 31 = .ok (.getfield 199, 3) := by decide +kernel
theorem dX5_press_34 : decode cX5_press 34 = .ok (.ireturn, 1) := by decide +kernel
theorem dX5_put_0 : decode cX5_put 0 = .ok (.aload_n 0, 1) := by decide +kernel
theorem dX5_put_1 : decode cX5_put 1 = .ok (.getfield 10, 3) := by decide +kernel
theorem dX5_put_4 : decode cX5_put 4 = .ok (.iload_n 1, 1) := by decide +kernel
theorem dX5_put_5 : decode cX5_put 5 = .ok (.invokevirtual 177, 3) := by decide +kernel
theorem dX5_put_8 : decode cX5_put 8 = .ok (.astore 4, 2) := by decide +kernel
theorem dX5_put_10 : decode cX5_put 10 = .ok (.iload_n 2, 1) := by decide +kernel
theorem dX5_put_11 : decode cX5_put 11 = .ok (.iconst 0, 1) := by decide +kernel
theorem dX5_put_12 : decode cX5_put 12 = .ok (.iconst 1, 1) := by decide +kernel
theorem dX5_put_13 : decode cX5_put 13 = .ok (.invokestatic 20, 3) := by decide +kernel
theorem dX5_put_16 : decode cX5_put 16 = .ok (.ifCond .eq 13, 3) := by decide +kernel
theorem dX5_put_19 : decode cX5_put 19 = .ok (.new 24, 3) := by decide +kernel
theorem dX5_put_22 : decode cX5_put 22 = .ok (.dup, 1) := by decide +kernel
theorem dX5_put_23 : decode cX5_put 23 = .ok (.ldc 202, 2) := by decide +kernel
theorem dX5_put_25 : decode cX5_put 25 = .ok (.invokespecial 28, 3) := by decide +kernel
theorem dX5_put_28 : decode cX5_put 28 = .ok (.athrow, 1) := by decide +kernel
theorem dX5_put_29 : decode cX5_put 29 = .ok (.iload_n 3, 1) := by decide +kernel
theorem dX5_put_30 : decode cX5_put 30 = .ok (.iconst 1, 1) := by decide +kernel
theorem dX5_put_31 : decode cX5_put 31 = .ok (.sipush 3600, 3) := by decide +kernel
theorem dX5_put_34 : decode cX5_put 34 = .ok (.invokestatic 20, 3) := by decide +kernel
theorem dX5_put_37 : decode cX5_put 37 = .ok (.ifCond .eq 13, 3) := by decide +kernel
theorem dX5_put_40 : decode cX5_put 40 = .ok (.new 24, 3) := by decide +kernel
theorem dX5_put_43 : decode cX5_put 43 = .ok (.dup, 1) := by decide +kernel
theorem dX5_put_44 : decode cX5_put 44 = .ok (.ldc 204, 2) := by decide +kernel
theorem dX5_put_46 : decode cX5_put 46 = .ok (.invokespecial 28, 3) := by decide +kernel
theorem dX5_put_49 : decode cX5_put 49 = .ok (.athrow, 1) := by decide +kernel
theorem dX5_put_50 : decode cX5_put 50 = .ok (.aload 4, 2) := by decide +kernel
theorem dX5_put_52 : decode cX5_put 52 = .ok (.invokevirtual 190, 3) := by decide +kernel
theorem dX5_put_55 : decode cX5_put 55 = .ok (.ifCond .ne 13, 3) := by decide +kernel
theorem dX5_put_58 : decode cX5_put 58 = .ok (.new 39, 3) := by decide +kernel
theorem dX5_put_61 : decode cX5_put 61 = .ok (.dup, 1) := by decide +kernel
theorem dX5_put_62 : decode cX5_put 62 = .ok (.ldc 194, 2) := by decide +kernel
theorem dX5_put_64 : decode cX5_put 64 = .ok (.invokespecial 43, 3) := by decide +kernel
theorem dX5_put_67 : decode cX5_put 67 = .ok (.athrow, 1) := by decide +kernel
theorem dX5_put_68 : decode cX5_put 68 = .ok (.aload 4, 2) := by decide +kernel
theorem dX5_put_70 : decode cX5_put 70 = .ok (.iload_n 2, 1) := by decide +kernel
theorem dX5_put_71 : decode cX5_put 71 = .ok (.invokevirtual 206, 3) := by decide +kernel
theorem dX5_put_74 : decode cX5_put 74 = .ok (.astore 5, 2) := by decide +kernel
theorem dX5_put_76 : decode cX5_put 76 = .ok (.aload_n 0, 1) := by decide +kernel
theorem dX5_put_77 : decode cX5_put 77 = .ok (.getfield 10, 3) := by decide +kernel
theorem dX5_put_80 : decode cX5_put 80 = .ok (.aload 5, 2) := by decide +kernel
theorem dX5_put_82 : decode cX5_put 82 = .ok (.getfield 210, 3) := by decide +kernel
theorem dX5_put_85 : decode cX5_put 85 = .ok (.invokevirtual 44, 3) := by decide +kernel
theorem dX5_put_88 : decode cX5_put 88 = .ok (.astore 6, 2) := by decide +kernel
theorem dX5_put_90 : decode cX5_put 90 = .ok (.iload_n 3, 1) := by decide +kernel
theorem dX5_put_91 : decode cX5_put 91 = .ok (.aload 6, 2) := by decide +kernel
theorem dX5_put_93 : decode cX5_put 93 = .ok (.getfield 53, 3) := by decide +kernel
theorem dX5_put_96 : decode cX5_put 96 = .ok (.if_icmp .le 13, 3) := by decide +kernel
theorem dX5_put_99 : decode cX5_put 99 = .ok (.new 39, 3) := by decide +kernel
theorem dX5_put_102 : decode cX5_put 102 = .ok (.dup, 1) := by decide +kernel
theorem dX5_put_103 : decode cX5_put 103 = .ok (.ldc 101, 2) := by decide +kernel
theorem dX5_put_105 : decode cX5_put 105 = .ok (.invokespecial 43, 3) := by decide +kernel
theorem dX5_put_108 : decode cX5_put 108 = .ok (.athrow, 1) := by decide +kernel
theorem dX5_put_109 : decode cX5_put 109 = .ok (.aload 6, 2) := by decide +kernel
theorem dX5_put_111 : decode cX5_put 111 = .ok (.dup, 1) := by decide +kernel
theorem dX5_put_112 : decode cX5_put 112 = .ok (.getfield 53, 3) := by decide +kernel
theorem dX5_put_115 : decode cX5_put 115 = .ok (.iload_n 3, 1) := by decide +kernel
theorem dX5_put_116 : decode cX5_put 116 = .ok (.isub, 1) := by decide +kernel
theorem dX5_put_117 : decode cX5_put 117 = .ok (.putfield 53, 3) := by decide +kernel
theorem dX5_put_120 : decode cX5_put 120 = .ok (.aload 5, 2) := by decide +kernel
theorem dX5_put_122 : decode cX5_put 122 = .ok (.dup, 1) := by decide +kernel
theorem dX5_put_123 : decode cX5_put 123 = .ok (.getfield 213, 3) := by decide +kernel
theorem dX5_put_126 : decode cX5_put 126 = .ok (.iload_n 3, 1) := by decide +kernel
theorem dX5_put_127 : decode cX5_put 127 = .ok (.iadd, 1) := by decide +kernel
theorem dX5_put_128 : decode cX5_put 128 = .ok (.putfield 213, 3) := by decide +kernel
theorem dX5_put_131 : decode cX5_put 131 = .ok (.aload 5, 2) := by decide +kernel
theorem dX5_put_133 : decode cX5_put 133 = .ok (.getfield 213, 3) := by decide +kernel
theorem dX5_put_136 : decode cX5_put 136 = .ok (.ireturn, 1) := by decide +kernel
theorem dX5_steal_0 : decode cX5_steal 0 = .ok (.aload_n 0, 1) := by decide +kernel
theorem dX5_steal_1 : decode cX5_steal 1 = .ok (.getfield 10, 3) := by decide +kernel
theorem dX5_steal_4 : decode cX5_steal 4 = .ok (.iload_n 1, 1) := by decide +kernel
theorem dX5_steal_5 : decode cX5_steal 5 = .ok (.invokevirtual 177, 3) := by decide +kernel
theorem dX5_steal_8 : decode cX5_steal 8 = .ok (.astore 4, 2) := by decide +kernel
theorem dX5_steal_10 : decode cX5_steal 10 = .ok (.iload_n 2, 1) := by decide +kernel
theorem dX5_steal_11 : decode cX5_steal 11 = .ok (.iconst 0, 1) := by decide +kernel
theorem dX5_steal_12 : decode cX5_steal 12 = .ok (.iconst 1, 1) := by decide +kernel
theorem dX5_steal_13 : decode cX5_steal 13 = .ok (.invokestatic 20, 3) := by decide +kernel
theorem dX5_steal_16 : decode cX5_steal 16 = .ok (.ifCond .eq 13, 3) := by decide +kernel
theorem dX5_steal_19 : decode cX5_steal 19 = .ok (.new 24, 3) := by decide +kernel
theorem dX5_steal_22 : decode cX5_steal 22 = .ok (.dup, 1) := by decide +kernel
theorem dX5_steal_23 : decode cX5_steal 23 = .ok (.ldc 202, 2) := by decide +kernel
theorem dX5_steal_25 : decode cX5_steal 25 = .ok (.invokespecial 28, 3) := by decide +kernel
theorem dX5_steal_28 : decode cX5_steal 28 = .ok (.athrow, 1) := by decide +kernel
theorem dX5_steal_29 : decode cX5_steal 29 = .ok (.iload_n 3, 1) := by decide +kernel
theorem dX5_steal_30 : decode cX5_steal 30 = .ok (.iconst 1, 1) := by decide +kernel
theorem dX5_steal_31 : decode cX5_steal 31 = .ok (.bipush 20, 2) := by decide +kernel
theorem dX5_steal_33 : decode cX5_steal 33 = .ok (.invokestatic 20, 3) := by decide +kernel
theorem dX5_steal_36 : decode cX5_steal 36 = .ok (.ifCond .eq 13, 3) := by decide +kernel
theorem dX5_steal_39 : decode cX5_steal 39 = .ok (.new 24, 3) := by decide +kernel
theorem dX5_steal_42 : decode cX5_steal 42 = .ok (.dup, 1) := by decide +kernel
theorem dX5_steal_43 : decode cX5_steal 43 = .ok (.ldc 216, 2) := by decide +kernel
theorem dX5_steal_45 : decode cX5_steal 45 = .ok (.invokespecial 28, 3) := by decide +kernel
theorem dX5_steal_48 : decode cX5_steal 48 = .ok (.athrow, 1) := by decide +kernel
theorem dX5_steal_49 : decode cX5_steal 49 = .ok (.aload 4, 2) := by decide +kernel
theorem dX5_steal_51 : decode cX5_steal 51 = .ok (.invokevirtual 190, 3) := by decide +kernel
theorem dX5_steal_54 : decode cX5_steal 54 = .ok (.ifCond .ne 13, 3) := by decide +kernel
theorem dX5_steal_57 : decode cX5_steal 57 = .ok (.new 39, 3) := by decide +kernel
theorem dX5_steal_60 : decode cX5_steal 60 = .ok (.dup, 1) := by decide +kernel
theorem dX5_steal_61 : decode cX5_steal 61 = .ok (.ldc 194, 2) := by decide +kernel
theorem dX5_steal_63 : decode cX5_steal 63 = .ok (.invokespecial 43, 3) := by decide +kernel
theorem dX5_steal_66 : decode cX5_steal 66 = .ok (.athrow, 1) := by decide +kernel
theorem dX5_steal_67 : decode cX5_steal 67 = .ok (.aload 4, 2) := by decide +kernel
theorem dX5_steal_69 : decode cX5_steal 69 = .ok (.getfield 218, 3) := by decide +kernel
theorem dX5_steal_72 : decode cX5_steal 72 = .ok (.iload_n 2, 1) := by decide +kernel
theorem dX5_steal_73 : decode cX5_steal 73 = .ok (.if_icmp .ne 13, 3) := by decide +kernel
theorem dX5_steal_76 : decode cX5_steal 76 = .ok (.new 39, 3) := by decide +kernel
theorem dX5_steal_79 : decode cX5_steal 79 = .ok (.dup, 1) := by decide +kernel
theorem dX5_steal_80 : decode cX5_steal 80 = .ok (.ldc 221, 2) := by decide +kernel
theorem dX5_steal_82 : decode cX5_steal 82 = .ok (.invokespecial 43, 3) := by decide +kernel
theorem dX5_steal_85 : decode cX5_steal 85 = .ok (.athrow, 1) := by decide +kernel
theorem dX5_steal_86 : decode cX5_steal 86 = .ok (.aload 4, 2) := by decide +kernel
theorem dX5_steal_88 : decode cX5_steal 88 = .ok (.iload_n 2, 1) := by decide +kernel
theorem dX5_steal_89 : decode cX5_steal 89 = .ok (.invokevirtual 206, 3) := by decide +kernel
theorem dX5_steal_92 : decode cX5_steal 92 = .ok (.astore 5, 2) := by decide +kernel
theorem dX5_steal_94 : decode cX5_steal 94 = .ok (.aload 4, 2) := by decide +kernel
theorem dX5_steal_96 : decode cX5_steal 96 = .ok (.iconst 1, 1) := by decide +kernel
theorem dX5_steal_97 : decode cX5_steal 97 = .ok (.iload_n 2, 1) := by decide +kernel
theorem dX5_steal_98 : decode cX5_steal 98 = .ok (.isub, 1) := by decide +kernel
theorem dX5_steal_99 : decode cX5_steal 99 = .ok (.invokevirtual 206, 3) := by decide +kernel
theorem dX5_steal_102 : decode cX5_steal 102 = .ok (.aload 5, 2) := by decide +kernel
theorem dX5_steal_104 : decode cX5_steal 104 = .ok (.iload_n 3, 1) := by decide +kernel
theorem dX5_steal_105 : decode cX5_steal 105 = .ok (.invokevirtual 223, 3) := by decide +kernel
theorem dX5_steal_108 : decode cX5_steal 108 = .ok (.istore 6, 2) := by decide +kernel
theorem dX5_steal_110 : decode cX5_steal 110 = .ok (.aload 5, 2) := by decide +kernel
theorem dX5_steal_112 : decode cX5_steal 112 = .ok (.dup, 1) := by decide +kernel
theorem dX5_steal_113 : decode cX5_steal 113 = .ok (.getfield 227, 3) := by decide +kernel
theorem dX5_steal_116 : decode cX5_steal 116 = .ok (.iload 6, 2) := by decide +kernel
theorem dX5_steal_118 : decode cX5_steal 118 = .ok (.iadd, 1) := by decide +kernel
theorem dX5_steal_119 : decode cX5_steal 119 = .ok (.putfield 227, 3) := by decide +kernel
theorem dX5_steal_122 : decode cX5_steal 122 = .ok (.iload 6, 2) := by decide +kernel
theorem dX5_steal_124 : decode cX5_steal 124 = .ok (.ireturn, 1) := by decide +kernel
theorem dX5_end_0 : decode cX5_end 0 = .ok (.aload_n 0, 1) := by decide +kernel
theorem dX5_end_1 : decode cX5_end 1 = .ok (.getfield 10, 3) := by decide +kernel
theorem dX5_end_4 : decode cX5_end 4 = .ok (.iload_n 1, 1) := by decide +kernel
theorem dX5_end_5 : decode cX5_end 5 = .ok (.invokevirtual 177, 3) := by decide +kernel
theorem dX5_end_8 : decode cX5_end 8 = .ok (.astore_n 3, 1) := by decide +kernel
theorem dX5_end_9 : decode cX5_end 9 = .ok (.iload_n 2, 1) := by decide +kernel
theorem dX5_end_10 : decode cX5_end 10 = .ok (.iconst (-1), 1) := by decide +kernel
theorem dX5_end_11 : decode cX5_end 11 = .ok (.iconst 1, 1) := by decide +kernel
theorem dX5_end_12 : decode cX5_end 12 = .ok (.invokestatic 20, 3) := by decide +kernel
theorem dX5_end_15 : decode cX5_end 15 = .ok (.ifCond .eq 13, 3) := by decide +kernel
theorem dX5_end_18 : decode cX5_end 18 = .ok (.new 24, 3) := by decide +kernel
theorem dX5_end_21 : decode cX5_end 21 = .ok (.dup, 1) := by decide +kernel
theorem dX5_end_22 : decode cX5_end 22 = .ok (.ldc 230, 2) := by decide +kernel
theorem dX5_end_24 : decode cX5_end 24 = .ok (.invokespecial 28, 3) := by decide +kernel
theorem dX5_end_27 : decode cX5_end 27 = .ok (.athrow, 1) := by decide +kernel
theorem dX5_end_28 : decode cX5_end 28 = .ok (.aload_n 3, 1) := by decide +kernel
theorem dX5_end_29 : decode cX5_end 29 = .ok (.invokevirtual 190, 3) := by decide +kernel
theorem dX5_end_32 : decode cX5_end 32 = .ok (.ifCond .ne 13, 3) := by decide +kernel
theorem dX5_end_35 : decode cX5_end 35 = .ok (.new 39, 3) := by decide +kernel
theorem dX5_end_38 : decode cX5_end 38 = .ok (.dup, 1) := by decide +kernel
theorem dX5_end_39 : decode cX5_end 39 = .ok (.ldc 194, 2) := by decide +kernel
theorem dX5_end_41 : decode cX5_end 41 = .ok (.invokespecial 43, 3) := by decide +kernel
theorem dX5_end_44 : decode cX5_end 44 = .ok (.athrow, 1) := by decide +kernel
theorem dX5_end_45 : decode cX5_end 45 = .ok (.iload_n 2, 1) := by decide +kernel
theorem dX5_end_46 : decode cX5_end 46 = .ok (.iconst (-1), 1) := by decide +kernel
theorem dX5_end_47 : decode cX5_end 47 = .ok (.if_icmp .ne 13, 3) := by decide +kernel
theorem dX5_end_50 : decode cX5_end 50 = .ok (.aload_n 0, 1) := by decide +kernel
theorem dX5_end_51 : decode cX5_end 51 = .ok (.getfield 10, 3) := by decide +kernel
theorem dX5_end_54 : decode cX5_end 54 = .ok (.aload_n 3, 1) := by decide +kernel
theorem dX5_end_55 : decode cX5_end 55 = .ok (.invokevirtual 232, 3) := by decide +kernel
theorem dX5_end_58 : decode cX5_end 58 = .ok (.iconst 0, 1) := by decide +kernel
theorem dX5_end_59 : decode cX5_end 59 = .ok (.ireturn, 1) := by decide +kernel
theorem dX5_end_60 : decode cX5_end 60 = .ok (.aload_n 0, 1) := by decide +kernel
theorem dX5_end_61 : decode cX5_end 61 = .ok (.getfield 10, 3) := by decide +kernel
theorem dX5_end_64 : decode cX5_end 64 = .ok (.aload_n 3, 1) := by decide +kernel
theorem dX5_end_65 : decode cX5_end 65 = .ok (.iconst 1, 1) := by decide +kernel
theorem dX5_end_66 : decode cX5_end 66 = .ok (.iload_n 2, 1) := by decide +kernel
theorem dX5_end_67 : decode cX5_end 67 = .ok (.isub, 1) := by decide +kernel
theorem dX5_end_68 : decode cX5_end 68 = .ok (.invokevirtual 236, 3) := by decide +kernel
theorem dX5_end_71 : decode cX5_end 71 = .ok (.ireturn, 1) := by decide +kernel
theorem dX5_game_0 : decode cX5_game 0 = .ok (.aload_n 0, 1) := by decide +kernel
theorem dX5_game_1 : decode cX5_game 1 = .ok (.getfield 10, 3) := by decide +kernel
theorem dX5_game_4 : decode cX5_game 4 = .ok (.iload_n 1, 1) := by decide +kernel
theorem dX5_game_5 : decode cX5_game 5 = .ok (.invokevirtual 177, 3) := by decide +kernel
theorem dX5_game_8 : decode cX5_game 8 = .ok (.astore_n 3, 1) := by decide +kernel
theorem dX5_game_9 : decode cX5_game 9 = .ok (.iload_n 2, 1) := by decide +kernel
theorem dX5_game_10 : decode cX5_game 10 = .ok (.tableswitch 131 0 10 #[58, 66, 74, 82, 90, 95, 100, 105, 110, 118, 126], 58) := by decide +kernel
theorem dX5_game_68 : decode cX5_game 68 = .ok (.aload_n 3, 1) := by decide +kernel
theorem dX5_game_69 : decode cX5_game 69 = .ok (.getfield 240, 3) := by decide +kernel
theorem dX5_game_72 : decode cX5_game 72 = .ok (.getfield 210, 3) := by decide +kernel
theorem dX5_game_75 : decode cX5_game 75 = .ok (.ireturn, 1) := by decide +kernel
theorem dX5_game_76 : decode cX5_game 76 = .ok (.aload_n 3, 1) := by decide +kernel
theorem dX5_game_77 : decode cX5_game 77 = .ok (.getfield 244, 3) := by decide +kernel
theorem dX5_game_80 : decode cX5_game 80 = .ok (.getfield 210, 3) := by decide +kernel
theorem dX5_game_83 : decode cX5_game 83 = .ok (.ireturn, 1) := by decide +kernel
theorem dX5_game_84 : decode cX5_game 84 = .ok (.aload_n 3, 1) := by decide +kernel
theorem dX5_game_85 : decode cX5_game 85 = .ok (.getfield 240, 3) := by decide +kernel
theorem dX5_game_88 : decode cX5_game 88 = .ok (.getfield 213, 3) := by decide +kernel
theorem dX5_game_91 : decode cX5_game 91 = .ok (.ireturn, 1) := by decide +kernel
theorem dX5_game_92 : decode cX5_game 92 = .ok (.aload_n 3, 1) := by decide +kernel
theorem dX5_game_93 : decode cX5_game 93 = .ok (.getfield 244, 3) := by decide +kernel
theorem dX5_game_96 : decode cX5_game 96 = .ok (.getfield 213, 3) := by decide +kernel
theorem dX5_game_99 : decode cX5_game 99 = .ok (.ireturn, 1) := by decide +kernel
theorem dX5_game_100 : decode cX5_game 100 = .ok (.aload_n 3, 1) := by decide +kernel
theorem dX5_game_101 : decode cX5_game 101 = .ok (.getfield 218, 3) := by decide +kernel
theorem dX5_game_104 : decode cX5_game 104 = .ok (.ireturn, 1) := by decide +kernel
theorem dX5_game_105 : decode cX5_game 105 = .ok (.aload_n 3, 1) := by decide +kernel
theorem dX5_game_106 : decode cX5_game 106 = .ok (.getfield 199, 3) := by decide +kernel
theorem dX5_game_109 : decode cX5_game 109 = .ok (.ireturn, 1) := by decide +kernel
theorem dX5_game_110 : decode cX5_game 110 = .ok (.aload_n 3, 1) := by decide +kernel
theorem dX5_game_111 : decode cX5_game 111 = .ok (.getfield 247, 3) := by decide +kernel
theorem dX5_game_114 : decode cX5_game 114 = .ok (.ireturn, 1) := by decide +kernel
theorem dX5_game_115 : decode cX5_game 115 = .ok (.aload_n 3, 1) := by decide +kernel
theorem dX5_game_116 : decode cX5_game 116 = .ok (.getfield 250, 3) := by decide +kernel
theorem dX5_game_119 : decode cX5_game 119 = .ok (.ireturn, 1) := by decide +kernel
theorem dX5_game_120 : decode cX5_game 120 = .ok (.aload_n 3, 1) := by decide +kernel
theorem dX5_game_121 : decode cX5_game 121 = .ok (.getfield 240, 3) := by decide +kernel
theorem dX5_game_124 : decode cX5_game 124 = .ok (.getfield 227, 3) := by decide +kernel
theorem dX5_game_127 : decode cX5_game 127 = .ok (.ireturn, 1) := by decide +kernel
theorem dX5_game_128 : decode cX5_game 128 = .ok (.aload_n 3, 1) := by decide +kernel
theorem dX5_game_129 : decode cX5_game 129 = .ok (.getfield 244, 3) := by decide +kernel
theorem dX5_game_132 : decode cX5_game 132 = .ok (.getfield 227, 3) := by decide +kernel
theorem dX5_game_135 : decode cX5_game 135 = .ok (.ireturn, 1) := by decide +kernel
theorem dX5_game_136 : decode cX5_game 136 = .ok (.aload_n 3, 1) := by decide +kernel
theorem dX5_game_137 : decode cX5_game 137 = .ok (.getfield 251, 3) := by decide +kernel
theorem dX5_game_140 : decode cX5_game 140 = .ok (.ireturn, 1) := by decide +kernel
theorem dX5_game_141 : decode cX5_game 141 = .ok (.new 78, 3) := by decide +kernel
theorem dX5_game_144 : decode cX5_game 144 = .ok (.dup, 1) := by decide +kernel
theorem dX5_game_145 : decode cX5_game 145 = .ok (.ldc 254, 2) := by decide +kernel
theorem dX5_game_147 : decode cX5_game 147 = .ok (.invokespecial 82, 3) := by decide +kernel
theorem dX5_game_150 : decode cX5_game 150 = .ok (.athrow, 1) := by decide +kernel
theorem dX5_pass_0 : decode cX5_pass 0 = .ok (.iload_n 1, 1) := by decide +kernel
theorem dX5_pass_1 : decode cX5_pass 1 = .ok (.iconst 1, 1) := by decide +kernel
theorem dX5_pass_2 : decode cX5_pass 2 = .ok (.sipush 1200, 3) := by decide +kernel
theorem dX5_pass_5 : decode cX5_pass 5 = .ok (.invokestatic 20, 3) := by decide +kernel
theorem dX5_pass_8 : decode cX5_pass 8 = .ok (.ifCond .eq 14, 3) := by decide +kernel
theorem dX5_pass_11 : decode cX5_pass 11 = .ok (.new 24, 3) := by decide +kernel
theorem dX5_pass_14 : decode cX5_pass 14 = .ok (.dup, 1) := by decide +kernel
theorem dX5_pass_15 : decode cX5_pass 15 = .ok (.ldc_w 256, 3) := by decide +kernel
theorem dX5_pass_18 : decode cX5_pass 18 = .ok (.invokespecial 28, 3) := by decide +kernel
theorem dX5_pass_21 : decode cX5_pass 21 = .ok (.athrow, 1) := by decide +kernel
theorem dX5_pass_22 : decode cX5_pass 22 = .ok (.aload_n 0, 1) := by decide +kernel
theorem dX5_pass_23 : decode cX5_pass 23 = .ok (.getfield 10, 3) := by decide +kernel
theorem dX5_pass_26 : decode cX5_pass 26 = .ok (.getfield 126, 3) := by decide +kernel
theorem dX5_pass_29 : decode cX5_pass 29 = .ok (.iload_n 1, 1) := by decide +kernel
theorem dX5_pass_30 : decode cX5_pass 30 = .ok (.iadd, 1) := by decide +kernel
theorem dX5_pass_31 : decode cX5_pass 31 = .ok (.sipush 20000, 3) := by decide +kernel
theorem dX5_pass_34 : decode cX5_pass 34 = .ok (.if_icmp .le 14, 3) := by decide +kernel
theorem dX5_pass_37 : decode cX5_pass 37 = .ok (.new 39, 3) := by decide +kernel
theorem dX5_pass_40 : decode cX5_pass 40 = .ok (.dup, 1) := by decide +kernel
theorem dX5_pass_41 : decode cX5_pass 41 = .ok (.ldc_w 258, 3) := by decide +kernel
theorem dX5_pass_44 : decode cX5_pass 44 = .ok (.invokespecial 43, 3) := by decide +kernel
theorem dX5_pass_47 : decode cX5_pass 47 = .ok (.athrow, 1) := by decide +kernel
theorem dX5_pass_48 : decode cX5_pass 48 = .ok (.aload_n 0, 1) := by decide +kernel
theorem dX5_pass_49 : decode cX5_pass 49 = .ok (.getfield 10, 3) := by decide +kernel
theorem dX5_pass_52 : decode cX5_pass 52 = .ok (.iload_n 1, 1) := by decide +kernel
theorem dX5_pass_53 : decode cX5_pass 53 = .ok (.invokevirtual 260, 3) := by decide +kernel
theorem dX5_pass_56 : decode cX5_pass 56 = .ok (.aload_n 0, 1) := by decide +kernel
theorem dX5_pass_57 : decode cX5_pass 57 = .ok (.getfield 10, 3) := by decide +kernel
theorem dX5_pass_60 : decode cX5_pass 60 = .ok (.getfield 264, 3) := by decide +kernel
theorem dX5_pass_63 : decode cX5_pass 63 = .ok (.ireturn, 1) := by decide +kernel
theorem dX5_count_0 : decode cX5_count 0 = .ok (.iload_n 1, 1) := by decide +kernel
theorem dX5_count_1 : decode cX5_count 1 = .ok (.tableswitch 147 0 10 #[59, 67, 75, 83, 91, 99, 107, 115, 123, 131, 139], 59) := by decide +kernel
theorem dX5_count_60 : decode cX5_count 60 = .ok (.aload_n 0, 1) := by decide +kernel
theorem dX5_count_61 : decode cX5_count 61 = .ok (.getfield 10, 3) := by decide +kernel
theorem dX5_count_64 : decode cX5_count 64 = .ok (.getfield 126, 3) := by decide +kernel
theorem dX5_count_67 : decode cX5_count 67 = .ok (.ireturn, 1) := by decide +kernel
theorem dX5_count_68 : decode cX5_count 68 = .ok (.aload_n 0, 1) := by decide +kernel
theorem dX5_count_69 : decode cX5_count 69 = .ok (.getfield 10, 3) := by decide +kernel
theorem dX5_count_72 : decode cX5_count 72 = .ok (.getfield 31, 3) := by decide +kernel
theorem dX5_count_75 : decode cX5_count 75 = .ok (.ireturn, 1) := by decide +kernel
theorem dX5_count_76 : decode cX5_count 76 = .ok (.aload_n 0, 1) := by decide +kernel
theorem dX5_count_77 : decode cX5_count 77 = .ok (.getfield 10, 3) := by decide +kernel
theorem dX5_count_80 : decode cX5_count 80 = .ok (.getfield 168, 3) := by decide +kernel
theorem dX5_count_83 : decode cX5_count 83 = .ok (.ireturn, 1) := by decide +kernel
theorem dX5_count_84 : decode cX5_count 84 = .ok (.aload_n 0, 1) := by decide +kernel
theorem dX5_count_85 : decode cX5_count 85 = .ok (.getfield 10, 3) := by decide +kernel
theorem dX5_count_88 : decode cX5_count 88 = .ok (.invokevirtual 267, 3) := by decide +kernel
theorem dX5_count_91 : decode cX5_count 91 = .ok (.ireturn, 1) := by decide +kernel
theorem dX5_count_92 : decode cX5_count 92 = .ok (.aload_n 0, 1) := by decide +kernel
theorem dX5_count_93 : decode cX5_count 93 = .ok (.getfield 10, 3) := by decide +kernel
theorem dX5_count_96 : decode cX5_count 96 = .ok (.getfield 113, 3) := by decide +kernel
theorem dX5_count_99 : decode cX5_count 99 = .ok (.ireturn, 1) := by decide +kernel
theorem dX5_count_100 : decode cX5_count 100 = .ok (.aload_n 0, 1) := by decide +kernel
theorem dX5_count_101 : decode cX5_count 101 = .ok (.getfield 10, 3) := by decide +kernel
theorem dX5_count_104 : decode cX5_count 104 = .ok (.invokevirtual 270, 3) := by decide +kernel
theorem dX5_count_107 : decode cX5_count 107 = .ok (.ireturn, 1) := by decide +kernel
theorem dX5_count_108 : decode cX5_count 108 = .ok (.aload_n 0, 1) := by decide +kernel
theorem dX5_count_109 : decode cX5_count 109 = .ok (.getfield 10, 3) := by decide +kernel
theorem dX5_count_112 : decode cX5_count 112 = .ok (.getfield 89, 3) := by decide +kernel
theorem dX5_count_115 : decode cX5_count 115 = .ok (.ireturn, 1) := by decide +kernel
theorem dX5_count_116 : decode cX5_count 116 = .ok (.aload_n 0, 1) := by decide +kernel
theorem dX5_count_117 : decode cX5_count 117 = .ok (.getfield 10, 3) := by decide +kernel
theorem dX5_count_120 : decode cX5_count 120 = .ok (.getfield 100, 3) := by decide +kernel
theorem dX5_count_123 : decode cX5_count 123 = .ok (.ireturn, 1) := by decide +kernel
theorem dX5_count_124 : decode cX5_count 124 = .ok (.aload_n 0, 1) := by decide +kernel
theorem dX5_count_125 : decode cX5_count 125 = .ok (.getfield 10, 3) := by decide +kernel
theorem dX5_count_128 : decode cX5_count 128 = .ok (.invokevirtual 85, 3) := by decide +kernel
theorem dX5_count_131 : decode cX5_count 131 = .ok (.ireturn, 1) := by decide +kernel
theorem dX5_count_132 : decode cX5_count 132 = .ok (.aload_n 0, 1) := by decide +kernel
theorem dX5_count_133 : decode cX5_count 133 = .ok (.getfield 10, 3) := by decide +kernel
theorem dX5_count_136 : decode cX5_count 136 = .ok (.invokevirtual 273, 3) := by decide +kernel
theorem dX5_count_139 : decode cX5_count 139 = .ok (.ireturn, 1) := by decide +kernel
theorem dX5_count_140 : decode cX5_count 140 = .ok (.aload_n 0, 1) := by decide +kernel
theorem dX5_count_141 : decode cX5_count 141 = .ok (.getfield 10, 3) := by decide +kernel
theorem dX5_count_144 : decode cX5_count 144 = .ok (.getfield 276, 3) := by decide +kernel
theorem dX5_count_147 : decode cX5_count 147 = .ok (.ireturn, 1) := by decide +kernel
theorem dX5_count_148 : decode cX5_count 148 = .ok (.new 78, 3) := by decide +kernel
theorem dX5_count_151 : decode cX5_count 151 = .ok (.dup, 1) := by decide +kernel
theorem dX5_count_152 : decode cX5_count 152 = .ok (.ldc 254, 2) := by decide +kernel
theorem dX5_count_154 : decode cX5_count 154 = .ok (.invokespecial 82, 3) := by decide +kernel
theorem dX5_count_157 : decode cX5_count 157 = .ok (.athrow, 1) := by decide +kernel
theorem dX5_foresee_0 : decode cX5_foresee 0 = .ok (.iload_n 1, 1) := by decide +kernel
theorem dX5_foresee_1 : decode cX5_foresee 1 = .ok (.iconst 1, 1) := by decide +kernel
theorem dX5_foresee_2 : decode cX5_foresee 2 = .ok (.sipush 2400, 3) := by decide +kernel
theorem dX5_foresee_5 : decode cX5_foresee 5 = .ok (.invokestatic 20, 3) := by decide +kernel
theorem dX5_foresee_8 : decode cX5_foresee 8 = .ok (.ifCond .eq 14, 3) := by decide +kernel
theorem dX5_foresee_11 : decode cX5_foresee 11 = .ok (.new 24, 3) := by decide +kernel
theorem dX5_foresee_14 : decode cX5_foresee 14 = .ok (.dup, 1) := by decide +kernel
theorem dX5_foresee_15 : decode cX5_foresee 15 = .ok (.ldc_w 277, 3) := by decide +kernel
theorem dX5_foresee_18 : decode cX5_foresee 18 = .ok (.invokespecial 28, 3) := by decide +kernel
theorem dX5_foresee_21 : decode cX5_foresee 21 = .ok (.athrow, 1) := by decide +kernel
theorem dX5_foresee_22 : decode cX5_foresee 22 = .ok (.iload_n 2, 1) := by decide +kernel
theorem dX5_foresee_23 : decode cX5_foresee 23 = .ok (.iconst 0, 1) := by decide +kernel
theorem dX5_foresee_24 : decode cX5_foresee 24 = .ok (.iconst 3, 1) := by decide +kernel
theorem dX5_foresee_25 : decode cX5_foresee 25 = .ok (.invokestatic 20, 3) := by decide +kernel
theorem dX5_foresee_28 : decode cX5_foresee 28 = .ok (.ifCond .eq 14, 3) := by decide +kernel
theorem dX5_foresee_31 : decode cX5_foresee 31 = .ok (.new 78, 3) := by decide +kernel
theorem dX5_foresee_34 : decode cX5_foresee 34 = .ok (.dup, 1) := by decide +kernel
theorem dX5_foresee_35 : decode cX5_foresee 35 = .ok (.ldc_w 279, 3) := by decide +kernel
theorem dX5_foresee_38 : decode cX5_foresee 38 = .ok (.invokespecial 82, 3) := by decide +kernel
theorem dX5_foresee_41 : decode cX5_foresee 41 = .ok (.athrow, 1) := by decide +kernel
theorem dX5_foresee_42 : decode cX5_foresee 42 = .ok (.aload_n 0, 1) := by decide +kernel
theorem dX5_foresee_43 : decode cX5_foresee 43 = .ok (.getfield 10, 3) := by decide +kernel
theorem dX5_foresee_46 : decode cX5_foresee 46 = .ok (.getfield 126, 3) := by decide +kernel
theorem dX5_foresee_49 : decode cX5_foresee 49 = .ok (.iload_n 1, 1) := by decide +kernel
theorem dX5_foresee_50 : decode cX5_foresee 50 = .ok (.iadd, 1) := by decide +kernel
theorem dX5_foresee_51 : decode cX5_foresee 51 = .ok (.sipush 20000, 3) := by decide +kernel
theorem dX5_foresee_54 : decode cX5_foresee 54 = .ok (.if_icmp .le 14, 3) := by decide +kernel
theorem dX5_foresee_57 : decode cX5_foresee 57 = .ok (.new 39, 3) := by decide +kernel
theorem dX5_foresee_60 : decode cX5_foresee 60 = .ok (.dup, 1) := by decide +kernel
theorem dX5_foresee_61 : decode cX5_foresee 61 = .ok (.ldc_w 258, 3) := by decide +kernel
theorem dX5_foresee_64 : decode cX5_foresee 64 = .ok (.invokespecial 43, 3) := by decide +kernel
theorem dX5_foresee_67 : decode cX5_foresee 67 = .ok (.athrow, 1) := by decide +kernel
theorem dX5_foresee_68 : decode cX5_foresee 68 = .ok (.aload_n 0, 1) := by decide +kernel
theorem dX5_foresee_69 : decode cX5_foresee 69 = .ok (.getfield 16, 3) := by decide +kernel
theorem dX5_foresee_72 : decode cX5_foresee 72 = .ok (.aload_n 0, 1) := by decide +kernel
theorem dX5_foresee_73 : decode cX5_foresee 73 = .ok (.getfield 10, 3) := by decide +kernel
theorem dX5_foresee_76 : decode cX5_foresee 76 = .ok (.invokevirtual 281, 3) := by decide +kernel
theorem dX5_foresee_79 : decode cX5_foresee 79 = .ok (.aload_n 0, 1) := by decide +kernel
theorem dX5_foresee_80 : decode cX5_foresee 80 = .ok (.getfield 16, 3) := by decide +kernel
theorem dX5_foresee_83 : decode cX5_foresee 83 = .ok (.iload_n 1, 1) := by decide +kernel
theorem dX5_foresee_84 : decode cX5_foresee 84 = .ok (.invokevirtual 260, 3) := by decide +kernel
theorem dX5_foresee_87 : decode cX5_foresee 87 = .ok (.iload_n 2, 1) := by decide +kernel
theorem dX5_foresee_88 : decode cX5_foresee 88 = .ok (.tableswitch 52 0 2 #[28, 36, 44], 28) := by decide +kernel
theorem dX5_foresee_116 : decode cX5_foresee 116 = .ok (.aload_n 0, 1) := by decide +kernel
theorem dX5_foresee_117 : decode cX5_foresee 117 = .ok (.getfield 16, 3) := by decide +kernel
theorem dX5_foresee_120 : decode cX5_foresee 120 = .ok (.getfield 285, 3) := by decide +kernel
theorem dX5_foresee_123 : decode cX5_foresee 123 = .ok (.ireturn, 1) := by decide +kernel
theorem dX5_foresee_124 : decode cX5_foresee 124 = .ok (.aload_n 0, 1) := by decide +kernel
theorem dX5_foresee_125 : decode cX5_foresee 125 = .ok (.getfield 16, 3) := by decide +kernel
theorem dX5_foresee_128 : decode cX5_foresee 128 = .ok (.getfield 288, 3) := by decide +kernel
theorem dX5_foresee_131 : decode cX5_foresee 131 = .ok (.ireturn, 1) := by decide +kernel
theorem dX5_foresee_132 : decode cX5_foresee 132 = .ok (.aload_n 0, 1) := by decide +kernel
theorem dX5_foresee_133 : decode cX5_foresee 133 = .ok (.getfield 16, 3) := by decide +kernel
theorem dX5_foresee_136 : decode cX5_foresee 136 = .ok (.getfield 264, 3) := by decide +kernel
theorem dX5_foresee_139 : decode cX5_foresee 139 = .ok (.ireturn, 1) := by decide +kernel
theorem dX5_foresee_140 : decode cX5_foresee 140 = .ok (.aload_n 0, 1) := by decide +kernel
theorem dX5_foresee_141 : decode cX5_foresee 141 = .ok (.getfield 16, 3) := by decide +kernel
theorem dX5_foresee_144 : decode cX5_foresee 144 = .ok (.getfield 291, 3) := by decide +kernel
theorem dX5_foresee_147 : decode cX5_foresee 147 = .ok (.ireturn, 1) := by decide +kernel
theorem dX5_leader_0 : decode cX5_leader 0 = .ok (.iconst 0, 1) := by decide +kernel
theorem dX5_leader_1 : decode cX5_leader 1 = .ok (.istore_n 2, 1) := by decide +kernel
theorem dX5_leader_2 : decode cX5_leader 2 = .ok (.iload_n 2, 1) := by decide +kernel
theorem dX5_leader_3 : decode cX5_leader 3 = .ok (.aload_n 0, 1) := by decide +kernel
theorem dX5_leader_4 : decode cX5_leader 4 = .ok (.getfield 10, 3) := by decide +kernel
theorem dX5_leader_7 : decode cX5_leader 7 = .ok (.getfield 31, 3) := by decide +kernel
theorem dX5_leader_10 : decode cX5_leader 10 = .ok (.if_icmp .ge 23, 3) := by decide +kernel
theorem dX5_leader_13 : decode cX5_leader 13 = .ok (.aload_n 0, 1) := by decide +kernel
theorem dX5_leader_14 : decode cX5_leader 14 = .ok (.getfield 10, 3) := by decide +kernel
theorem dX5_leader_17 : decode cX5_leader 17 = .ok (.iload_n 2, 1) := by decide +kernel
theorem dX5_leader_18 : decode cX5_leader 18 = .ok (.invokevirtual 294, 3) := by decide +kernel
theorem dX5_leader_21 : decode cX5_leader 21 = .ok (.iload_n 1, 1) := by decide +kernel
theorem dX5_leader_22 : decode cX5_leader 22 = .ok (.if_icmp .ne 5, 3) := by decide +kernel
theorem dX5_leader_25 : decode cX5_leader 25 = .ok (.iload_n 2, 1) := by decide +kernel
theorem dX5_leader_26 : decode cX5_leader 26 = .ok (.ireturn, 1) := by decide +kernel
theorem dX5_leader_27 : decode cX5_leader 27 = .ok (.iinc 2 1, 3) := by decide +kernel
theorem dX5_leader_30 : decode cX5_leader 30 = .ok (.goto (-28), 3) := by decide +kernel
theorem dX5_leader_33 : decode cX5_leader 33 = .ok (.new 78, 3) := by decide +kernel
theorem dX5_leader_36 : decode cX5_leader 36 = .ok (.dup, 1) := by decide +kernel
theorem dX5_leader_37 : decode cX5_leader 37 = .ok (.ldc_w 297, 3) := by decide +kernel
theorem dX5_leader_40 : decode cX5_leader 40 = .ok (.invokespecial 82, 3) := by decide +kernel
theorem dX5_leader_43 : decode cX5_leader 43 = .ok (.athrow, 1) := by decide +kernel
theorem dX5_needs_0 : decode cX5_needs 0 = .ok (.iload_n 1, 1) := by decide +kernel
theorem dX5_needs_1 : decode cX5_needs 1 = .ok (.iconst 0, 1) := by decide +kernel
theorem dX5_needs_2 : decode cX5_needs 2 = .ok (.aload_n 0, 1) := by decide +kernel
theorem dX5_needs_3 : decode cX5_needs 3 = .ok (.getfield 10, 3) := by decide +kernel
theorem dX5_needs_6 : decode cX5_needs 6 = .ok (.getfield 31, 3) := by decide +kernel
theorem dX5_needs_9 : decode cX5_needs 9 = .ok (.iconst 1, 1) := by decide +kernel
theorem dX5_needs_10 : decode cX5_needs 10 = .ok (.isub, 1) := by decide +kernel
theorem dX5_needs_11 : decode cX5_needs 11 = .ok (.invokestatic 20, 3) := by decide +kernel
theorem dX5_needs_14 : decode cX5_needs 14 = .ok (.ifCond .eq 14, 3) := by decide +kernel
theorem dX5_needs_17 : decode cX5_needs 17 = .ok (.new 78, 3) := by decide +kernel
theorem dX5_needs_20 : decode cX5_needs 20 = .ok (.dup, 1) := by decide +kernel
theorem dX5_needs_21 : decode cX5_needs 21 = .ok (.ldc_w 299, 3) := by decide +kernel
theorem dX5_needs_24 : decode cX5_needs 24 = .ok (.invokespecial 82, 3) := by decide +kernel
theorem dX5_needs_27 : decode cX5_needs 27 = .ok (.athrow, 1) := by decide +kernel
theorem dX5_needs_28 : decode cX5_needs 28 = .ok (.iload_n 2, 1) := by decide +kernel
theorem dX5_needs_29 : decode cX5_needs 29 = .ok (.iconst 1, 1) := by decide +kernel
theorem dX5_needs_30 : decode cX5_needs 30 = .ok (.sipush 600, 3) := by decide +kernel
theorem dX5_needs_33 : decode cX5_needs 33 = .ok (.invokestatic 20, 3) := by decide +kernel
theorem dX5_needs_36 : decode cX5_needs 36 = .ok (.ifCond .eq 14, 3) := by decide +kernel
theorem dX5_needs_39 : decode cX5_needs 39 = .ok (.new 24, 3) := by decide +kernel
theorem dX5_needs_42 : decode cX5_needs 42 = .ok (.dup, 1) := by decide +kernel
theorem dX5_needs_43 : decode cX5_needs 43 = .ok (.ldc_w 301, 3) := by decide +kernel
theorem dX5_needs_46 : decode cX5_needs 46 = .ok (.invokespecial 28, 3) := by decide +kernel
theorem dX5_needs_49 : decode cX5_needs 49 = .ok (.athrow, 1) := by decide +kernel
theorem dX5_needs_50 : decode cX5_needs 50 = .ok (.iconst 0, 1) := by decide +kernel
theorem dX5_needs_51 : decode cX5_needs 51 = .ok (.istore_n 3, 1) := by decide +kernel
theorem dX5_needs_52 : decode cX5_needs 52 = .ok (.aload_n 0, 1) := by decide +kernel
theorem dX5_needs_53 : decode cX5_needs 53 = .ok (.getfield 10, 3) := by decide +kernel
theorem dX5_needs_56 : decode cX5_needs 56 = .ok (.getfield 171, 3) := by decide +kernel
theorem dX5_needs_59 : decode cX5_needs 59 = .ok (.astore 4, 2) := by decide +kernel
theorem dX5_needs_61 : decode cX5_needs 61 = .ok (.aload 4, 2) := by decide +kernel
theorem dX5_needs_63 : decode cX5_needs 63 = .ok (.arraylength, 1) := by decide +kernel
theorem dX5_needs_64 : decode cX5_needs 64 = .ok (.istore 5, 2) := by decide +kernel
theorem dX5_needs_66 : decode cX5_needs 66 = .ok (.iconst 0, 1) := by decide +kernel
theorem dX5_needs_67 : decode cX5_needs 67 = .ok (.istore 6, 2) := by decide +kernel
theorem dX5_needs_69 : decode cX5_needs 69 = .ok (.iload 6, 2) := by decide +kernel
theorem dX5_needs_71 : decode cX5_needs 71 = .ok (.iload 5, 2) := by decide +kernel
theorem dX5_needs_73 : decode cX5_needs 73 = .ok (.if_icmp .ge 45, 3) := by decide +kernel
theorem dX5_needs_76 : decode cX5_needs 76 = .ok (.aload 4, 2) := by decide +kernel
theorem dX5_needs_78 : decode cX5_needs 78 = .ok (.iload 6, 2) := by decide +kernel
theorem dX5_needs_80 : decode cX5_needs 80 = .ok (.aaload, 1) := by decide +kernel
theorem dX5_needs_81 : decode cX5_needs 81 = .ok (.astore 7, 2) := by decide +kernel
theorem dX5_needs_83 : decode cX5_needs 83 = .ok (.aload 7, 2) := by decide +kernel
theorem dX5_needs_85 : decode cX5_needs 85 = .ok (.invokevirtual 190, 3) := by decide +kernel
theorem dX5_needs_88 : decode cX5_needs 88 = .ok (.ifCond .eq 24, 3) := by decide +kernel
theorem dX5_needs_91 : decode cX5_needs 91 = .ok (.aload 7, 2) := by decide +kernel
theorem dX5_needs_93 : decode cX5_needs 93 = .ok (.invokevirtual 303, 3) := by decide +kernel
theorem dX5_needs_96 : decode cX5_needs 96 = .ok (.getfield 210, 3) := by decide +kernel
theorem dX5_needs_99 : decode cX5_needs 99 = .ok (.iload_n 1, 1) := by decide +kernel
theorem dX5_needs_100 : decode cX5_needs 100 = .ok (.if_icmp .ne 12, 3) := by decide +kernel
theorem dX5_needs_103 : decode cX5_needs 103 = .ok (.iload_n 3, 1) := by decide +kernel
theorem dX5_needs_104 : decode cX5_needs 104 = .ok (.aload 7, 2) := by decide +kernel
theorem dX5_needs_106 : decode cX5_needs 106 = .ok (.iload_n 2, 1) := by decide +kernel
theorem dX5_needs_107 : decode cX5_needs 107 = .ok (.invokevirtual 307, 3) := by decide +kernel
theorem dX5_needs_110 : decode cX5_needs 110 = .ok (.iadd, 1) := by decide +kernel
theorem dX5_needs_111 : decode cX5_needs 111 = .ok (.istore_n 3, 1) := by decide +kernel
theorem dX5_needs_112 : decode cX5_needs 112 = .ok (.iinc 6 1, 3) := by decide +kernel
theorem dX5_needs_115 : decode cX5_needs 115 = .ok (.goto (-46), 3) := by decide +kernel
theorem dX5_needs_118 : decode cX5_needs 118 = .ok (.iload_n 3, 1) := by decide +kernel
