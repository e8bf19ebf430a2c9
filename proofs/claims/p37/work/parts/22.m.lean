theorem dX1_standing_0 : decode cX1_standing 0 = .ok (.aload_n 0, 1) := by decide +kernel
theorem dX1_standing_1 : decode cX1_standing 1 = .ok (.getfield 13, 3) := by decide +kernel
theorem dX1_standing_4 : decode cX1_standing 4 = .ok (.iconst 0, 1) := by decide +kernel
theorem dX1_standing_5 : decode cX1_standing 5 = .ok (.aaload, 1) := by decide +kernel
theorem dX1_standing_6 : decode cX1_standing 6 = .ok (.aload_n 1, 1) := by decide +kernel
theorem dX1_standing_7 : decode cX1_standing 7 = .ok (.invokevirtual 26, 3) := by decide +kernel
theorem dX1_standing_10 : decode cX1_standing 10 = .ok (.aload_n 0, 1) := by decide +kernel
theorem dX1_standing_11 : decode cX1_standing 11 = .ok (.iconst 0, 1) := by decide +kernel
theorem dX1_standing_12 : decode cX1_standing 12 = .ok (.iload_n 2, 1) := by decide +kernel
theorem dX1_standing_13 : decode cX1_standing 13 = .ok (.iload_n 3, 1) := by decide +kernel
theorem dX1_standing_14 : decode cX1_standing 14 = .ok (.bipush 7, 2) := by decide +kernel
theorem dX1_standing_16 : decode cX1_standing 16 = .ok (.invokestatic 65, 3) := by decide +kernel
theorem dX1_standing_19 : decode cX1_standing 19 = .ok (.invokevirtual 71, 3) := by decide +kernel
theorem dX1_standing_22 : decode cX1_standing 22 = .ok (.ireturn, 1) := by decide +kernel
theorem dJ7_fill_53178_0 : decode cJ7_fill_53178 0 = .ok (.iconst 0, 1) := by decide +kernel
theorem dJ7_fill_53178_1 : decode cJ7_fill_53178 1 = .ok (.istore_n 2, 1) := by decide +kernel
theorem dJ7_fill_53178_2 : decode cJ7_fill_53178 2 = .ok (.aload_n 0, 1) := by decide +kernel
theorem dJ7_fill_53178_3 : decode cJ7_fill_53178 3 = .ok (.arraylength, 1) := by decide +kernel
theorem dJ7_fill_53178_4 : decode cJ7_fill_53178 4 = .ok (.istore_n 3, 1) := by decide +kernel
theorem dJ7_fill_53178_5 : decode cJ7_fill_53178 5 = .ok (.iload_n 2, 1) := by decide +kernel
theorem dJ7_fill_53178_6 : decode cJ7_fill_53178 6 = .ok (.iload_n 3, 1) := by decide +kernel
theorem dJ7_fill_53178_7 : decode cJ7_fill_53178 7 = .ok (.if_icmp .ge 13, 3) := by decide +kernel
theorem dJ7_fill_53178_10 : decode cJ7_fill_53178 10 = .ok (.aload_n 0, 1) := by decide +kernel
theorem dJ7_fill_53178_11 : decode cJ7_fill_53178 11 = .ok (.iload_n 2, 1) := by decide +kernel
theorem dJ7_fill_53178_12 : decode cJ7_fill_53178 12 = .ok (.iload_n 1, 1) := by decide +kernel
theorem dJ7_fill_53178_13 : decode cJ7_fill_53178 13 = .ok (.iastore, 1) := by decide +kernel
theorem dJ7_fill_53178_14 : decode cJ7_fill_53178 14 = .ok (.iinc 2 1, 3) := by decide +kernel
theorem dJ7_fill_53178_17 : decode cJ7_fill_53178 17 = .ok (.goto (-12), 3) := by decide +kernel
theorem dJ7_fill_53178_20 : decode cJ7_fill_53178 20 = .ok (.return_, 1) := by decide +kernel
theorem dX2_clear_0 : decode cX2_clear 0 = .ok (.aload_n 0, 1) := by decide +kernel
theorem dX2_clear_1 : decode cX2_clear 1 = .ok (.iconst 0, 1) := by decide +kernel
theorem dX2_clear_2 : decode cX2_clear 2 = .ok (.putfield 27, 3) := by decide +kernel
theorem dX2_clear_5 : decode cX2_clear 5 = .ok (.aload_n 0, 1) := by decide +kernel
theorem dX2_clear_6 : decode cX2_clear 6 = .ok (.iconst 0, 1) := by decide +kernel
theorem dX2_clear_7 : decode cX2_clear 7 = .ok (.putfield 31, 3) := by decide +kernel
theorem dX2_clear_10 : decode cX2_clear 10 = .ok (.aload_n 0, 1) := by decide +kernel
theorem dX2_clear_11 : decode cX2_clear 11 = .ok (.getfield 15, 3) := by decide +kernel
theorem dX2_clear_14 : decode cX2_clear 14 = .ok (.iconst 0, 1) := by decide +kernel
theorem dX2_clear_15 : decode cX2_clear 15 = .ok (.invokestatic 34, 3) := by decide +kernel
theorem dX2_clear_18 : decode cX2_clear 18 = .ok (.aload_n 0, 1) := by decide +kernel
theorem dX2_clear_19 : decode cX2_clear 19 = .ok (.getfield 18, 3) := by decide +kernel
theorem dX2_clear_22 : decode cX2_clear 22 = .ok (.iconst 0, 1) := by decide +kernel
theorem dX2_clear_23 : decode cX2_clear 23 = .ok (.invokestatic 34, 3) := by decide +kernel
theorem dX2_clear_26 : decode cX2_clear 26 = .ok (.return_, 1) := by decide +kernel
theorem dX2_open_0 : decode cX2_open 0 = .ok (.iload_n 1, 1) := by decide +kernel
theorem dX2_open_1 : decode cX2_open 1 = .ok (.ifCond .lt 32, 3) := by decide +kernel
theorem dX2_open_4 : decode cX2_open 4 = .ok (.iload_n 1, 1) := by decide +kernel
theorem dX2_open_5 : decode cX2_open 5 = .ok (.aload_n 0, 1) := by decide +kernel
theorem dX2_open_6 : decode cX2_open 6 = .ok (.getfield 15, 3) := by decide +kernel
theorem dX2_open_9 : decode cX2_open 9 = .ok (.arraylength, 1) := by decide +kernel
theorem dX2_open_10 : decode cX2_open 10 = .ok (.if_icmp .ge 23, 3) := by decide +kernel
theorem dX2_open_13 : decode cX2_open 13 = .ok (.aload_n 0, 1) := by decide +kernel
theorem dX2_open_14 : decode cX2_open 14 = .ok (.getfield 15, 3) := by decide +kernel
theorem dX2_open_17 : decode cX2_open 17 = .ok (.iload_n 1, 1) := by decide +kernel
theorem dX2_open_18 : decode cX2_open 18 = .ok (.aload_n 0, 1) := by decide +kernel
theorem dX2_open_19 : decode cX2_open 19 = .ok (.getfield 27, 3) := by decide +kernel
theorem dX2_open_22 : decode cX2_open 22 = .ok (.iastore, 1) := by decide +kernel
theorem dX2_open_23 : decode cX2_open 23 = .ok (.aload_n 0, 1) := by decide +kernel
theorem dX2_open_24 : decode cX2_open 24 = .ok (.getfield 18, 3) := by decide +kernel
theorem dX2_open_27 : decode cX2_open 27 = .ok (.iload_n 1, 1) := by decide +kernel
theorem dX2_open_28 : decode cX2_open 28 = .ok (.aload_n 0, 1) := by decide +kernel
theorem dX2_open_29 : decode cX2_open 29 = .ok (.getfield 27, 3) := by decide +kernel
theorem dX2_open_32 : decode cX2_open 32 = .ok (.iastore, 1) := by decide +kernel
theorem dX2_open_33 : decode cX2_open 33 = .ok (.return_, 1) := by decide +kernel
theorem dX2_close_0 : decode cX2_close 0 = .ok (.iload_n 1, 1) := by decide +kernel
theorem dX2_close_1 : decode cX2_close 1 = .ok (.ifCond .lt 22, 3) := by decide +kernel
theorem dX2_close_4 : decode cX2_close 4 = .ok (.iload_n 1, 1) := by decide +kernel
theorem dX2_close_5 : decode cX2_close 5 = .ok (.aload_n 0, 1) := by decide +kernel
theorem dX2_close_6 : decode cX2_close 6 = .ok (.getfield 18, 3) := by decide +kernel
theorem dX2_close_9 : decode cX2_close 9 = .ok (.arraylength, 1) := by decide +kernel
theorem dX2_close_10 : decode cX2_close 10 = .ok (.if_icmp .ge 13, 3) := by decide +kernel
theorem dX2_close_13 : decode cX2_close 13 = .ok (.aload_n 0, 1) := by decide +kernel
theorem dX2_close_14 : decode cX2_close 14 = .ok (.getfield 18, 3) := by decide +kernel
theorem dX2_close_17 : decode cX2_close 17 = .ok (.iload_n 1, 1) := by decide +kernel
theorem dX2_close_18 : decode cX2_close 18 = .ok (.aload_n 0, 1) := by decide +kernel
theorem dX2_close_19 : decode cX2_close 19 = .ok (.getfield 27, 3) := by decide +kernel
theorem dX2_close_22 : decode cX2_close 22 = .ok (.iastore, 1) := by decide +kernel
theorem dX2_close_23 : decode cX2_close 23 = .ok (.return_, 1) := by decide +kernel
theorem dX2_add_0 : decode cX2_add 0 = .ok (.aload_n 0, 1) := by decide +kernel
theorem dX2_add_1 : decode cX2_add 1 = .ok (.getfield 27, 3) := by decide +kernel
theorem dX2_add_4 : decode cX2_add 4 = .ok (.aload_n 0, 1) := by decide +kernel
theorem dX2_add_5 : decode cX2_add 5 = .ok (.getfield 9, 3) := by decide +kernel
theorem dX2_add_8 : decode cX2_add 8 = .ok (.arraylength, 1) := by decide +kernel
theorem dX2_add_9 : decode cX2_add 9 = .ok (.if_icmp .ge 23, 3) := by decide +kernel
theorem dX2_add_12 : decode cX2_add 12 = .ok (.aload_n 0, 1) := by decide +kernel
theorem dX2_add_13 : decode cX2_add 13 = .ok (.getfield 9, 3) := by decide +kernel
theorem dX2_add_16 : decode cX2_add 16 = .ok (.aload_n 0, 1) := by decide +kernel
theorem dX2_add_17 : decode cX2_add 17 = .ok (.getfield 27, 3) := by decide +kernel
theorem dX2_add_20 : decode cX2_add 20 = .ok (.iload_n 1, 1) := by decide +kernel
theorem dX2_add_21 : decode cX2_add 21 = .ok (.iastore, 1) := by decide +kernel
theorem dX2_add_22 : decode cX2_add 22 = .ok (.aload_n 0, 1) := by decide +kernel
theorem dX2_add_23 : decode cX2_add 23 = .ok (.dup, 1) := by decide +kernel
theorem dX2_add_24 : decode cX2_add 24 = .ok (.getfield 27, 3) := by decide +kernel
theorem dX2_add_27 : decode cX2_add 27 = .ok (.iconst 1, 1) := by decide +kernel
theorem dX2_add_28 : decode cX2_add 28 = .ok (.iadd, 1) := by decide +kernel
theorem dX2_add_29 : decode cX2_add 29 = .ok (.putfield 27, 3) := by decide +kernel
theorem dX2_add_32 : decode cX2_add 32 = .ok (.return_, 1) := by decide +kernel
theorem dX3_now_0 : decode cX3_now 0 = .ok (.aload_n 0, 1) := by decide +kernel
theorem dX3_now_1 : decode cX3_now 1 = .ok (.getfield 11, 3) := by decide +kernel
theorem dX3_now_4 : decode cX3_now 4 = .ok (.aload_n 0, 1) := by decide +kernel
theorem dX3_now_5 : decode cX3_now 5 = .ok (.getfield 15, 3) := by decide +kernel
theorem dX3_now_8 : decode cX3_now 8 = .ok (.aload_n 0, 1) := by decide +kernel
theorem dX3_now_9 : decode cX3_now 9 = .ok (.getfield 19, 3) := by decide +kernel
theorem dX3_now_12 : decode cX3_now 12 = .ok (.iadd, 1) := by decide +kernel
theorem dX3_now_13 : decode cX3_now 13 = .ok (.aload_n 0, 1) := by decide +kernel
theorem dX3_now_14 : decode cX3_now 14 = .ok (.getfield 11, 3) := by decide +kernel
theorem dX3_now_17 : decode cX3_now 17 = .ok (.arraylength, 1) := by decide +kernel
theorem dX3_now_18 : decode cX3_now 18 = .ok (.irem, 1) := by decide +kernel
theorem dX3_now_19 : decode cX3_now 19 = .ok (.aaload, 1) := by decide +kernel
theorem dX3_now_20 : decode cX3_now 20 = .ok (.areturn, 1) := by decide +kernel
theorem dX3_advance_0 : decode cX3_advance 0 = .ok (.aload_n 0, 1) := by decide +kernel
theorem dX3_advance_1 : decode cX3_advance 1 = .ok (.invokevirtual 26, 3) := by decide +kernel
theorem dX3_advance_4 : decode cX3_advance 4 = .ok (.astore_n 1, 1) := by decide +kernel
theorem dX3_advance_5 : decode cX3_advance 5 = .ok (.aload_n 0, 1) := by decide +kernel
theorem dX3_advance_6 : decode cX3_advance 6 = .ok (.getfield 19, 3) := by decide +kernel
theorem dX3_advance_9 : decode cX3_advance 9 = .ok (.bipush 40, 2) := by decide +kernel
theorem dX3_advance_11 : decode cX3_advance 11 = .ok (.if_icmp .ge 16, 3) := by decide +kernel
theorem dX3_advance_14 : decode cX3_advance 14 = .ok (.aload_n 0, 1) := by decide +kernel
theorem dX3_advance_15 : decode cX3_advance 15 = .ok (.dup, 1) := by decide +kernel
theorem dX3_advance_16 : decode cX3_advance 16 = .ok (.getfield 19, 3) := by decide +kernel
theorem dX3_advance_19 : decode cX3_advance 19 = .ok (.iconst 1, 1) := by decide +kernel
theorem dX3_advance_20 : decode cX3_advance 20 = .ok (.iadd, 1) := by decide +kernel
theorem dX3_advance_21 : decode cX3_advance 21 = .ok (.putfield 19, 3) := by decide +kernel
theorem dX3_advance_24 : decode cX3_advance 24 = .ok (.goto 19, 3) := by decide +kernel
theorem dX3_advance_27 : decode cX3_advance 27 = .ok (.aload_n 0, 1) := by decide +kernel
theorem dX3_advance_28 : decode cX3_advance 28 = .ok (.aload_n 0, 1) := by decide +kernel
theorem dX3_advance_29 : decode cX3_advance 29 = .ok (.getfield 15, 3) := by decide +kernel
theorem dX3_advance_32 : decode cX3_advance 32 = .ok (.iconst 1, 1) := by decide +kernel
theorem dX3_advance_33 : decode cX3_advance 33 = .ok (.iadd, 1) := by decide +kernel
theorem dX3_advance_34 : decode cX3_advance 34 = .ok (.aload_n 0, 1) := by decide +kernel
theorem dX3_advance_35 : decode cX3_advance 35 = .ok (.getfield 11, 3) := by decide +kernel
theorem dX3_advance_38 : decode cX3_advance 38 = .ok (.arraylength, 1) := by decide +kernel
theorem dX3_advance_39 : decode cX3_advance 39 = .ok (.irem, 1) := by decide +kernel
theorem dX3_advance_40 : decode cX3_advance 40 = .ok (.putfield 15, 3) := by decide +kernel
theorem dX3_advance_43 : decode cX3_advance 43 = .ok (.aload_n 0, 1) := by decide +kernel
theorem dX3_advance_44 : decode cX3_advance 44 = .ok (.iconst 0, 1) := by decide +kernel
theorem dX3_advance_45 : decode cX3_advance 45 = .ok (.putfield 22, 3) := by decide +kernel
theorem dX3_advance_48 : decode cX3_advance 48 = .ok (.aload_n 0, 1) := by decide +kernel
theorem dX3_advance_49 : decode cX3_advance 49 = .ok (.invokevirtual 26, 3) := by decide +kernel
theorem dX3_advance_52 : decode cX3_advance 52 = .ok (.aload_n 1, 1) := by decide +kernel
theorem dX3_advance_53 : decode cX3_advance 53 = .ok (.invokevirtual 30, 3) := by decide +kernel
theorem dX3_advance_56 : decode cX3_advance 56 = .ok (.aload_n 0, 1) := by decide +kernel
theorem dX3_advance_57 : decode cX3_advance 57 = .ok (.invokevirtual 26, 3) := by decide +kernel
theorem dX3_advance_60 : decode cX3_advance 60 = .ok (.areturn, 1) := by decide +kernel
theorem dX3_stepBack_0 : decode cX3_stepBack 0 = .ok (.aload_n 0, 1) := by decide +kernel
theorem dX3_stepBack_1 : decode cX3_stepBack 1 = .ok (.getfield 19, 3) := by decide +kernel
theorem dX3_stepBack_4 : decode cX3_stepBack 4 = .ok (.ifCond .ne 5, 3) := by decide +kernel
theorem dX3_stepBack_7 : decode cX3_stepBack 7 = .ok (.iconst 0, 1) := by decide +kernel
theorem dX3_stepBack_8 : decode cX3_stepBack 8 = .ok (.ireturn, 1) := by decide +kernel
theorem dX3_stepBack_9 : decode cX3_stepBack 9 = .ok (.aload_n 0, 1) := by decide +kernel
theorem dX3_stepBack_10 : decode cX3_stepBack 10 = .ok (.dup, 1) := by decide +kernel
theorem dX3_stepBack_11 : decode cX3_stepBack 11 = .ok (.getfield 19, 3) := by decide +kernel
theorem dX3_stepBack_14 : decode cX3_stepBack 14 = .ok (.iconst 1, 1) := by decide +kernel
theorem dX3_stepBack_15 : decode cX3_stepBack 15 = .ok (.isub, 1) := by decide +kernel
theorem dX3_stepBack_16 : decode cX3_stepBack 16 = .ok (.putfield 19, 3) := by decide +kernel
theorem dX3_stepBack_19 : decode cX3_stepBack 19 = .ok (.aload_n 0, 1) := by decide +kernel
theorem dX3_stepBack_20 : decode cX3_stepBack 20 = .ok (.dup, 1) := by decide +kernel
theorem dX3_stepBack_21 : decode cX3_stepBack 21 = .ok (.getfield 22, 3) := by decide +kernel
theorem dX3_stepBack_24 : decode cX3_stepBack 24 = .ok (.iconst 1, 1) := by decide +kernel
theorem dX3_stepBack_25 : decode cX3_stepBack 25 = .ok (.iadd, 1) := by decide +kernel
theorem dX3_stepBack_26 : decode cX3_stepBack 26 = .ok (.putfield 22, 3) := by decide +kernel
theorem dX3_stepBack_29 : decode cX3_stepBack 29 = .ok (.iconst 1, 1) := by decide +kernel
theorem dX3_stepBack_30 : decode cX3_stepBack 30 = .ok (.ireturn, 1) := by decide +kernel
theorem dX3_stepOn_0 : decode cX3_stepOn 0 = .ok (.aload_n 0, 1) := by decide +kernel
theorem dX3_stepOn_1 : decode cX3_stepOn 1 = .ok (.getfield 22, 3) := by decide +kernel
theorem dX3_stepOn_4 : decode cX3_stepOn 4 = .ok (.ifCond .ne 5, 3) := by decide +kernel
theorem dX3_stepOn_7 : decode cX3_stepOn 7 = .ok (.iconst 0, 1) := by decide +kernel
theorem dX3_stepOn_8 : decode cX3_stepOn 8 = .ok (.ireturn, 1) := by decide +kernel
theorem dX3_stepOn_9 : decode cX3_stepOn 9 = .ok (.aload_n 0, 1) := by decide +kernel
theorem dX3_stepOn_10 : decode cX3_stepOn 10 = .ok (.dup, 1) := by decide +kernel
theorem dX3_stepOn_11 : decode cX3_stepOn 11 = .ok (.getfield 19, 3) := by decide +kernel
theorem dX3_stepOn_14 : decode cX3_stepOn 14 = .ok (.iconst 1, 1) := by decide +kernel
theorem dX3_stepOn_15 : decode cX3_stepOn 15 = .ok (.iadd, 1) := by decide +kernel
theorem dX3_stepOn_16 : decode cX3_stepOn 16 = .ok (.putfield 19, 3) := by decide +kernel
theorem dX3_stepOn_19 : decode cX3_stepOn 19 = .ok (.aload_n 0, 1) := by decide +kernel
theorem dX3_stepOn_20 : decode cX3_stepOn 20 = .ok (.dup, 1) := by decide +kernel
theorem dX3_stepOn_21 : decode cX3_stepOn 21 = .ok (.getfield 22, 3) := by decide +kernel
theorem dX3_stepOn_24 : decode cX3_stepOn 24 = .ok (.iconst 1, 1) := by decide +kernel
theorem dX3_stepOn_25 : decode cX3_stepOn 25 = .ok (.isub, 1) := by decide +kernel
theorem dX3_stepOn_26 : decode cX3_stepOn 26 = .ok (.putfield 22, 3) := by decide +kernel
theorem dX3_stepOn_29 : decode cX3_stepOn 29 = .ok (.iconst 1, 1) := by decide +kernel
theorem dX3_stepOn_30 : decode cX3_stepOn 30 = .ok (.ireturn, 1) := by decide +kernel
theorem dX3_restart_0 : decode cX3_restart 0 = .ok (.aload_n 0, 1) := by decide +kernel
theorem dX3_restart_1 : decode cX3_restart 1 = .ok (.iconst 0, 1) := by decide +kernel
theorem dX3_restart_2 : decode cX3_restart 2 = .ok (.putfield 15, 3) := by decide +kernel
theorem dX3_restart_5 : decode cX3_restart 5 = .ok (.aload_n 0, 1) := by decide +kernel
theorem dX3_restart_6 : decode cX3_restart 6 = .ok (.iconst 0, 1) := by decide +kernel
theorem dX3_restart_7 : decode cX3_restart 7 = .ok (.putfield 19, 3) := by decide +kernel
theorem dX3_restart_10 : decode cX3_restart 10 = .ok (.aload_n 0, 1) := by decide +kernel
theorem dX3_restart_11 : decode cX3_restart 11 = .ok (.iconst 0, 1) := by decide +kernel
theorem dX3_restart_12 : decode cX3_restart 12 = .ok (.putfield 22, 3) := by decide +kernel
theorem dX3_restart_15 : decode cX3_restart 15 = .ok (.aload_n 0, 1) := by decide +kernel
theorem dX3_restart_16 : decode cX3_restart 16 = .ok (.getfield 11, 3) := by decide +kernel
theorem dX3_restart_19 : decode cX3_restart 19 = .ok (.iconst 0, 1) := by decide +kernel
theorem dX3_restart_20 : decode cX3_restart 20 = .ok (.aaload, 1) := by decide +kernel
theorem dX3_restart_21 : decode cX3_restart 21 = .ok (.aload_n 1, 1) := by decide +kernel
theorem dX3_restart_22 : decode cX3_restart 22 = .ok (.invokevirtual 30, 3) := by decide +kernel
theorem dX3_restart_25 : decode cX3_restart 25 = .ok (.return_, 1) := by decide +kernel
theorem dX4_clear_0 : decode cX4_clear 0 = .ok (.aload_n 0, 1) := by decide +kernel
theorem dX4_clear_1 : decode cX4_clear 1 = .ok (.getfield 28, 3) := by decide +kernel
theorem dX4_clear_4 : decode cX4_clear 4 = .ok (.iconst 0, 1) := by decide +kernel
theorem dX4_clear_5 : decode cX4_clear 5 = .ok (.invokestatic 80, 3) := by decide +kernel
theorem dX4_clear_8 : decode cX4_clear 8 = .ok (.aload_n 0, 1) := by decide +kernel
theorem dX4_clear_9 : decode cX4_clear 9 = .ok (.getfield 31, 3) := by decide +kernel
theorem dX4_clear_12 : decode cX4_clear 12 = .ok (.iconst 0, 1) := by decide +kernel
theorem dX4_clear_13 : decode cX4_clear 13 = .ok (.invokestatic 80, 3) := by decide +kernel
theorem dX4_clear_16 : decode cX4_clear 16 = .ok (.aload_n 0, 1) := by decide +kernel
theorem dX4_clear_17 : decode cX4_clear 17 = .ok (.getfield 34, 3) := by decide +kernel
theorem dX4_clear_20 : decode cX4_clear 20 = .ok (.iconst 0, 1) := by decide +kernel
theorem dX4_clear_21 : decode cX4_clear 21 = .ok (.invokestatic 80, 3) := by decide +kernel
theorem dX4_clear_24 : decode cX4_clear 24 = .ok (.aload_n 0, 1) := by decide +kernel
theorem dX4_clear_25 : decode cX4_clear 25 = .ok (.getfield 37, 3) := by decide +kernel
theorem dX4_clear_28 : decode cX4_clear 28 = .ok (.iconst 1, 1) := by decide +kernel
theorem dX4_clear_29 : decode cX4_clear 29 = .ok (.invokestatic 80, 3) := by decide +kernel
theorem dX4_clear_32 : decode cX4_clear 32 = .ok (.aload_n 0, 1) := by decide +kernel
theorem dX4_clear_33 : decode cX4_clear 33 = .ok (.getfield 50, 3) := by decide +kernel
theorem dX4_clear_36 : decode cX4_clear 36 = .ok (.getfield 86, 3) := by decide +kernel
theorem dX4_clear_39 : decode cX4_clear 39 = .ok (.iconst 0, 1) := by decide +kernel
theorem dX4_clear_40 : decode cX4_clear 40 = .ok (.invokestatic 80, 3) := by decide +kernel
theorem dX4_clear_43 : decode cX4_clear 43 = .ok (.aload_n 0, 1) := by decide +kernel
theorem dX4_clear_44 : decode cX4_clear 44 = .ok (.getfield 43, 3) := by decide +kernel
theorem dX4_clear_47 : decode cX4_clear 47 = .ok (.invokevirtual 89, 3) := by decide +kernel
theorem dX4_clear_50 : decode cX4_clear 50 = .ok (.aload_n 0, 1) := by decide +kernel
theorem dX4_clear_51 : decode cX4_clear 51 = .ok (.iconst 0, 1) := by decide +kernel
theorem dX4_clear_52 : decode cX4_clear 52 = .ok (.putfield 54, 3) := by decide +kernel
theorem dX4_clear_55 : decode cX4_clear 55 = .ok (.aload_n 0, 1) := by decide +kernel
theorem dX4_clear_56 : decode cX4_clear 56 = .ok (.iconst 0, 1) := by decide +kernel
theorem dX4_clear_57 : decode cX4_clear 57 = .ok (.putfield 58, 3) := by decide +kernel
theorem dX4_clear_60 : decode cX4_clear 60 = .ok (.aload_n 0, 1) := by decide +kernel
theorem dX4_clear_61 : decode cX4_clear 61 = .ok (.iconst 0, 1) := by decide +kernel
theorem dX4_clear_62 : decode cX4_clear 62 = .ok (.putfield 61, 3) := by decide +kernel
theorem dX4_clear_65 : decode cX4_clear 65 = .ok (.aload_n 0, 1) := by decide +kernel
theorem dX4_clear_66 : decode cX4_clear 66 = .ok (.iconst 0, 1) := by decide +kernel
theorem dX4_clear_67 : decode cX4_clear 67 = .ok (.putfield 64, 3) := by decide +kernel
theorem dX4_clear_70 : decode cX4_clear 70 = .ok (.aload_n 0, 1) := by decide +kernel
theorem dX4_clear_71 : decode cX4_clear 71 = .ok (.iconst 0, 1) := by decide +kernel
theorem dX4_clear_72 : decode cX4_clear 72 = .ok (.putfield 67, 3) := by decide +kernel
theorem dX4_clear_75 : decode cX4_clear 75 = .ok (.aload_n 0, 1) := by decide +kernel
theorem dX4_clear_76 : decode cX4_clear 76 = .ok (.iconst 0, 1) := by decide +kernel
theorem dX4_clear_77 : decode cX4_clear 77 = .ok (.putfield 70, 3) := by decide +kernel
theorem dX4_clear_80 : decode cX4_clear 80 = .ok (.aload_n 0, 1) := by decide +kernel
theorem dX4_clear_81 : decode cX4_clear 81 = .ok (.iconst 0, 1) := by decide +kernel
theorem dX4_clear_82 : decode cX4_clear 82 = .ok (.putfield 74, 3) := by decide +kernel
theorem dX4_clear_85 : decode cX4_clear 85 = .ok (.aload_n 0, 1) := by decide +kernel
theorem dX4_clear_86 : decode cX4_clear 86 = .ok (.iconst 0, 1) := by decide +kernel
theorem dX4_clear_87 : decode cX4_clear 87 = .ok (.putfield 77, 3) := by decide +kernel
theorem dX4_clear_90 : decode cX4_clear 90 = .ok (.return_, 1) := by decide +kernel
theorem dX4_hasRoomFor_0 : decode cX4_hasRoomFor 0 = .ok (.iload_n 1, 1) := by decide +kernel
theorem dX4_hasRoomFor_1 : decode cX4_hasRoomFor 1 = .ok (.tableswitch 162 128 135 #[47, 61, 75, 90, 108, 123, 136, 149], 47) := by decide +kernel
theorem dX4_hasRoomFor_48 : decode cX4_hasRoomFor 48 = .ok (.aload_n 0, 1) := by decide +kernel
theorem dX4_hasRoomFor_49 : decode cX4_hasRoomFor 49 = .ok (.getfield 54, 3) := by decide +kernel
theorem dX4_hasRoomFor_52 : decode cX4_hasRoomFor 52 = .ok (.iconst 3, 1) := by decide +kernel
theorem dX4_hasRoomFor_53 : decode cX4_hasRoomFor 53 = .ok (.if_icmp .ge 7, 3) := by decide +kernel
theorem dX4_hasRoomFor_56 : decode cX4_hasRoomFor 56 = .ok (.iconst 1, 1) := by decide +kernel
theorem dX4_hasRoomFor_57 : decode cX4_hasRoomFor 57 = .ok (.goto 4, 3) := by decide +kernel
theorem dX4_hasRoomFor_60 : decode cX4_hasRoomFor 60 = .ok (.iconst 0, 1) := by decide +kernel
theorem dX4_hasRoomFor_61 : decode cX4_hasRoomFor 61 = .ok (.ireturn, 1) := by decide +kernel
theorem dX4_hasRoomFor_62 : decode cX4_hasRoomFor 62 = .ok (.aload_n 0, 1) := by decide +kernel
theorem dX4_hasRoomFor_63 : decode cX4_hasRoomFor 63 = .ok (.getfield 58, 3) := by decide +kernel
theorem dX4_hasRoomFor_66 : decode cX4_hasRoomFor 66 = .ok (.iconst 4, 1) := by decide +kernel
theorem dX4_hasRoomFor_67 : decode cX4_hasRoomFor 67 = .ok (.if_icmp .ge 7, 3) := by decide +kernel
theorem dX4_hasRoomFor_70 : decode cX4_hasRoomFor 70 = .ok (.iconst 1, 1) := by decide +kernel
theorem dX4_hasRoomFor_71 : decode cX4_hasRoomFor 71 = .ok (.goto 4, 3) := by decide +kernel
theorem dX4_hasRoomFor_74 : decode cX4_hasRoomFor 74 = .ok (.iconst 0, 1) := by decide +kernel
theorem dX4_hasRoomFor_75 : decode cX4_hasRoomFor 75 = .ok (.ireturn, 1) := by decide +kernel
theorem dX4_hasRoomFor_76 : decode cX4_hasRoomFor 76 = .ok (.aload_n 0, 1) := by decide +kernel
theorem dX4_hasRoomFor_77 : decode cX4_hasRoomFor 77 = .ok (.getfield 61, 3) := by decide +kernel
theorem dX4_hasRoomFor_80 : decode cX4_hasRoomFor 80 = .ok (.bipush 8, 2) := by decide +kernel
theorem dX4_hasRoomFor_82 : decode cX4_hasRoomFor 82 = .ok (.if_icmp .ge 7, 3) := by decide +kernel
theorem dX4_hasRoomFor_85 : decode cX4_hasRoomFor 85 = .ok (.iconst 1, 1) := by decide +kernel
theorem dX4_hasRoomFor_86 : decode cX4_hasRoomFor 86 = .ok (.goto 4, 3) := by decide +kernel
theorem dX4_hasRoomFor_89 : decode cX4_hasRoomFor 89 = .ok (.iconst 0, 1) := by decide +kernel
theorem dX4_hasRoomFor_90 : decode cX4_hasRoomFor 90 = .ok (.ireturn, 1) := by decide +kernel
theorem dX4_hasRoomFor_91 : decode cX4_hasRoomFor 91 = .ok (.aload_n 0, 1) := by decide +kernel
theorem dX4_hasRoomFor_92 : decode cX4_hasRoomFor 92 = .ok (.getfield 67, 3) := by decide +kernel
theorem dX4_hasRoomFor_95 : decode cX4_hasRoomFor 95 = .ok (.invokestatic 92, 3) := by decide +kernel
theorem dX4_hasRoomFor_98 : decode cX4_hasRoomFor 98 = .ok (.bipush 12, 2) := by decide +kernel
theorem dX4_hasRoomFor_100 : decode cX4_hasRoomFor 100 = .ok (.if_icmp .ge 7, 3) := by decide +kernel
theorem dX4_hasRoomFor_103 : decode cX4_hasRoomFor 103 = .ok (.iconst 1, 1) := by decide +kernel
theorem dX4_hasRoomFor_104 : decode cX4_hasRoomFor 104 = .ok (.goto 4, 3) := by decide +kernel
theorem dX4_hasRoomFor_107 : decode cX4_hasRoomFor 107 = .ok (.iconst 0, 1) := by decide +kernel
theorem dX4_hasRoomFor_108 : decode cX4_hasRoomFor 108 = .ok (.ireturn, 1) := by decide +kernel
theorem dX4_hasRoomFor_109 : decode cX4_hasRoomFor 109 = .ok (.aload_n 0, 1) := by decide +kernel
theorem dX4_hasRoomFor_110 : decode cX4_hasRoomFor 110 = .ok (.getfield 64, 3) := by decide +kernel
theorem dX4_hasRoomFor_113 : decode cX4_hasRoomFor 113 = .ok (.bipush 6, 2) := by decide +kernel
theorem dX4_hasRoomFor_115 : decode cX4_hasRoomFor 115 = .ok (.if_icmp .ge 7, 3) := by decide +kernel
theorem dX4_hasRoomFor_118 : decode cX4_hasRoomFor 118 = .ok (.iconst 1, 1) := by decide +kernel
theorem dX4_hasRoomFor_119 : decode cX4_hasRoomFor 119 = .ok (.goto 4, 3) := by decide +kernel
theorem dX4_hasRoomFor_122 : decode cX4_hasRoomFor 122 = .ok (.iconst 0, 1) := by decide +kernel
theorem dX4_hasRoomFor_123 : decode cX4_hasRoomFor 123 = .ok (.ireturn, 1) := by decide +kernel
theorem dX4_hasRoomFor_124 : decode cX4_hasRoomFor 124 = .ok (.aload_n 0, 1) := by decide +kernel
theorem dX4_hasRoomFor_125 : decode cX4_hasRoomFor 125 = .ok (.getfield 70, 3) := by decide +kernel
theorem dX4_hasRoomFor_128 : decode cX4_hasRoomFor 128 = .ok (.ifCond .ne 7, 3) := by decide +kernel
theorem dX4_hasRoomFor_131 : decode cX4_hasRoomFor 131 = .ok (.iconst 1, 1) := by decide +kernel
theorem dX4_hasRoomFor_132 : decode cX4_hasRoomFor 132 = .ok (.goto 4, 3) := by decide +kernel
theorem dX4_hasRoomFor_135 : decode cX4_hasRoomFor 135 = .ok (.iconst 0, 1) := by decide +kernel
theorem dX4_hasRoomFor_136 : decode cX4_hasRoomFor 136 = .ok (.ireturn, 1) := by decide +kernel
theorem dX4_hasRoomFor_137 : decode cX4_hasRoomFor 137 = .ok (.aload_n 0, 1) := by decide +kernel
theorem dX4_hasRoomFor_138 : decode cX4_hasRoomFor 138 = .ok (.getfield 74, 3) := by decide +kernel
theorem dX4_hasRoomFor_141 : decode cX4_hasRoomFor 141 = .ok (.ifCond .ne 7, 3) := by decide +kernel
theorem dX4_hasRoomFor_144 : decode cX4_hasRoomFor 144 = .ok (.iconst 1, 1) := by decide +kernel
theorem dX4_hasRoomFor_145 : decode cX4_hasRoomFor 145 = .ok (.goto 4, 3) := by decide +kernel
theorem dX4_hasRoomFor_148 : decode cX4_hasRoomFor 148 = .ok (.iconst 0, 1) := by decide +kernel
theorem dX4_hasRoomFor_149 : decode cX4_hasRoomFor 149 = .ok (.ireturn, 1) := by decide +kernel
theorem dX4_hasRoomFor_150 : decode cX4_hasRoomFor 150 = .ok (.aload_n 0, 1) := by decide +kernel
theorem dX4_hasRoomFor_151 : decode cX4_hasRoomFor 151 = .ok (.getfield 77, 3) := by decide +kernel
theorem dX4_hasRoomFor_154 : decode cX4_hasRoomFor 154 = .ok (.ifCond .ne 7, 3) := by decide +kernel
theorem dX4_hasRoomFor_157 : decode cX4_hasRoomFor 157 = .ok (.iconst 1, 1) := by decide +kernel
theorem dX4_hasRoomFor_158 : decode cX4_hasRoomFor 158 = .ok (.goto 4, 3) := by decide +kernel
theorem dX4_hasRoomFor_161 : decode cX4_hasRoomFor 161 = .ok (.iconst 0, 1) := by decide +kernel
theorem dX4_hasRoomFor_162 : decode cX4_hasRoomFor 162 = .ok (.ireturn, 1) := by decide +kernel
theorem dX4_hasRoomFor_163 : decode cX4_hasRoomFor 163 = .ok (.iconst 0, 1) := by decide +kernel
theorem dX4_hasRoomFor_164 : decode cX4_hasRoomFor 164 = .ok (.ireturn, 1) := by decide +kernel
theorem dX5_prepare_0 : decode cX5_prepare 0 = .ok (.aload_n 0, 1) := by decide +kernel
theorem dX5_prepare_1 : decode cX5_prepare 1 = .ok (.iload_n 2, 1) := by decide +kernel
theorem dX5_prepare_2 : decode cX5_prepare 2 = .ok (.putfield 40, 3) := by decide +kernel
theorem dX5_prepare_5 : decode cX5_prepare 5 = .ok (.aload_n 0, 1) := by decide +kernel
theorem dX5_prepare_6 : decode cX5_prepare 6 = .ok (.getfield 21, 3) := by decide +kernel
theorem dX5_prepare_9 : decode cX5_prepare 9 = .ok (.iconst 0, 1) := by decide +kernel
theorem dX5_prepare_10 : decode cX5_prepare 10 = .ok (.aaload, 1) := by decide +kernel
theorem dX5_prepare_11 : decode cX5_prepare 11 = .ok (.aload_n 1, 1) := by decide +kernel
theorem dX5_prepare_12 : decode cX5_prepare 12 = .ok (.invokevirtual 80, 3) := by decide +kernel
theorem dX5_prepare_15 : decode cX5_prepare 15 = .ok (.iconst 0, 1) := by decide +kernel
theorem dX5_prepare_16 : decode cX5_prepare 16 = .ok (.istore_n 3, 1) := by decide +kernel
theorem dX5_prepare_17 : decode cX5_prepare 17 = .ok (.iload_n 3, 1) := by decide +kernel
theorem dX5_prepare_18 : decode cX5_prepare 18 = .ok (.aload_n 0, 1) := by decide +kernel
theorem dX5_prepare_19 : decode cX5_prepare 19 = .ok (.getfield 52, 3) := by decide +kernel
theorem dX5_prepare_22 : decode cX5_prepare 22 = .ok (.getfield 84, 3) := by decide +kernel
theorem dX5_prepare_25 : decode cX5_prepare 25 = .ok (.getfield 90, 3) := by decide +kernel
theorem dX5_prepare_28 : decode cX5_prepare 28 = .ok (.if_icmp .ge 24, 3) := by decide +kernel
theorem dX5_prepare_31 : decode cX5_prepare 31 = .ok (.aload_n 0, 1) := by decide +kernel
theorem dX5_prepare_32 : decode cX5_prepare 32 = .ok (.getfield 25, 3) := by decide +kernel
theorem dX5_prepare_35 : decode cX5_prepare 35 = .ok (.iload_n 3, 1) := by decide +kernel
theorem dX5_prepare_36 : decode cX5_prepare 36 = .ok (.aload_n 0, 1) := by decide +kernel
theorem dX5_prepare_37 : decode cX5_prepare 37 = .ok (.getfield 52, 3) := by decide +kernel
theorem dX5_prepare_40 : decode cX5_prepare 40 = .ok (.aload_n 1, 1) := by decide +kernel
theorem dX5_prepare_41 : decode cX5_prepare 41 = .ok (.iload_n 3, 1) := by decide +kernel
theorem dX5_prepare_42 : decode cX5_prepare 42 = .ok (.invokevirtual 95, 3) := by decide +kernel
theorem dX5_prepare_45 : decode cX5_prepare 45 = .ok (.iastore, 1) := by decide +kernel
theorem dX5_prepare_46 : decode cX5_prepare 46 = .ok (.iinc 3 1, 3) := by decide +kernel
theorem dX5_prepare_49 : decode cX5_prepare 49 = .ok (.goto (-32), 3) := by decide +kernel
theorem dX5_prepare_52 : decode cX5_prepare 52 = .ok (.return_, 1) := by decide +kernel
set_option maxRecDepth 100000 in
theorem m_X1_standingFrom_v5 (l : Launch) (D : va_G) (cT : Nat → ClassId) (T : Nat → Option Nat) (q : Nat → Int) (hq : qok q) (a0 : Nat) (t0 : T a0 = some 6) (y1 : Int32) (j1 : IV y1 2 2) (y2 : Int32) (j2 : IV y2 0 7) (y3 : Int32) (j3 : IV y3 0 7) : th_Met l D cT T (kd q) yX1_standingFrom cX1_standingFrom 6 (some .int) (rmk 9 226) [.ref a0, .int y1, .int y2, .int y3] (th_R T (some (.inl (0, 16)))) [18, 19, 29] := by
  refine th_start (by decide) (Nat.le_of_ble_eq_true rfl) ?_
  intro p e s m below meth c ls S hK hH hr hlocks hnm hl
  have hx := S.1
  have hb := S.2.1
  have hl : lv_has ls 6 [(0, .ref a0), (1, .int y1), (2, .int y2), (3, .int y3)] := hl
  have J27_s0_0 : ∀ (H : Heap) (locs : List Loc) (ls : Array Slot), th_H D cT T (kd q) H → va_S (th_A T [18, 19, 29]) s.heap H locs → lv_has ls 6 [] → W p l e (rmk 9 226) s m [.ref a0, .int y1, .int y2, .int y3].toArray below meth c H locs 0 0 (MQ below (th_Q D cT T (kd q) (th_R T (some (.inl (0, 16)))) [18, 19, 29]) [.ref a0, .int y1, .int y2, .int y3].toArray s 0 0 (th_A T [18, 19, 29])) (F0 m 27 ls [.int 0]) := by
    intro H locs ls hH hS hl
    exact th_iret S hK hH hS hr hlocks (th_R.i (iv_w (iv_c (by decide) : IV 0 0 0) (by decide))) dX1_standingFrom_27
  have J27_s0_1 : ∀ (H : Heap) (locs : List Loc) (ls : Array Slot), th_H D cT T (kd q) H → va_S (th_A T [18, 19, 29]) s.heap H locs → lv_has ls 6 [] → W p l e (rmk 9 226) s m [.ref a0, .int y1, .int y2, .int y3].toArray below meth c H locs 0 0 (MQ below (th_Q D cT T (kd q) (th_R T (some (.inl (0, 16)))) [18, 19, 29]) [.ref a0, .int y1, .int y2, .int y3].toArray s 0 0 (th_A T [18, 19, 29])) (F0 m 27 ls [.int 1]) := by
    intro H locs ls hH hS hl
    exact th_iret S hK hH hS hr hlocks (th_R.i (iv_w (iv_c (by decide) : IV 1 1 1) (by decide))) dX1_standingFrom_27
  have J0 : ∀ (H : Heap) (locs : List Loc) (ls : Array Slot), th_H D cT T (kd q) H → va_S (th_A T [18, 19, 29]) s.heap H locs → lv_has ls 6 [(0, .ref a0), (1, .int y1), (2, .int y2), (3, .int y3)] → W p l e (rmk 9 226) s m [.ref a0, .int y1, .int y2, .int y3].toArray below meth c H locs 0 0 (MQ below (th_Q D cT T (kd q) (th_R T (some (.inl (0, 16)))) [18, 19, 29]) [.ref a0, .int y1, .int y2, .int y3].toArray s 0 0 (th_A T [18, 19, 29])) (F0 m 0 ls []) := by
    intro H locs ls hH hS hl
    refine lv_iload_n hx hb dX1_standingFrom_0 rfl (lv_at hl 1 rfl) ?_
    refine lv_iload_n hx hb dX1_standingFrom_1 rfl (lv_at hl 3 rfl) ?_
    refine lv_icmp_lt (tgt := 28) hx hb dX1_standingFrom_2 (by decide) (fun c1 => ?_) (fun c1 => ?_)
    · skip
      have ir2 : IV y3 3 7 := iv_uR j1 j3 (iv_lt c1) (by decide)
      refine lv_aload_n hx hb dX1_standingFrom_28 rfl (lv_at hl 0 rfl) ?_
      refine th_get S hK hH inG1 t0 kd_6 rfl 1 (by decide) gm_409 rfl rfl dX1_standingFrom_29 (fun v3 hv3 fv3 => ?_)
      obtain ⟨rf4, rfl, trf4⟩ := th_V.ref hv3
      refine lv_iload_n hx hb dX1_standingFrom_32 rfl (lv_at hl 1 rfl) ?_
      refine lv_iconst (v := 1) hx hb dX1_standingFrom_33 (by decide) ?_
      refine lv_iadd hx hb dX1_standingFrom_34 ?_
      refine lv_topi (fun x5 ex5 => ?_)
      have ix5 : IV x5 3 3 := by rw [ex5]; exact iv_add j1 (iv_c (by decide) : IV 1 1 1) (by decide)
      refine th_aald S hK hH trf4 kd_31 (th_in (hi := 3) (iv_w ix5 (by decide)) (by decide)) dX1_standingFrom_35 (fun v6 hv6 => ?_)
      obtain ⟨rf7, rfl, trf7⟩ := th_V.ref hv6
      refine lv_astore (lv' := [(4, .ref rf7), (0, .ref a0), (1, .int y1), (2, .int y2), (3, .int y3)]) hx hb dX1_standingFrom_36 hl (by decide) rfl (fun ls hl => ?_)
      refine lv_aload hx hb dX1_standingFrom_38 (lv_at hl 0 rfl) ?_
      refine lv_aload_n hx hb dX1_standingFrom_40 rfl (lv_at hl 1 rfl) ?_
      refine th_getK S hK fv3 inG1 rfl (by decide) gm_409 rfl dX1_standingFrom_41 ?_
      refine lv_iload_n hx hb dX1_standingFrom_44 rfl (lv_at hl 2 rfl) ?_
      refine th_aald S hK hH trf4 kd_31 (th_in (hi := 2) (iv_w j1 (by decide)) (by decide)) dX1_standingFrom_45 (fun v9 hv9 => ?_)
      obtain ⟨rf10, rfl, trf10⟩ := th_V.ref hv9
      refine th_callVv (n := 1) (As := [.ref rf10]) S hK hH hS (th_A.sub (by decide)) (m_X7_copyFrom l D cT T q hq rf7 trf7 rf10 trf10) gm_809 gm_980 gm_807 gm_808 gm_118 (by decide +kernel) ⟨rfl, rfl, Nat.le_of_ble_eq_true rfl, Nat.le_of_ble_eq_true rfl⟩ trf7 kd_10 rfl rfl hl.1 rfl (Nat.le_of_ble_eq_true rfl) dX1_standingFrom_46 ⟨Nat.zero_le _, Nat.zero_le _⟩ (fun H locs hH hS hF1 => ?_)
      have f11 := fv3.kept (hF1 _ fv3.lt (th_off t0 (by decide)))
      refine lv_aload_n hx hb dX1_standingFrom_49 rfl (lv_at hl 1 rfl) ?_
      refine th_get S hK hH inG1 t0 kd_6 rfl 0 (by decide) gm_408 rfl rfl dX1_standingFrom_50 (fun v12 hv12 fv12 => ?_)
      obtain ⟨rf13, rfl, trf13⟩ := th_V.ref hv12
      refine lv_aload hx hb dX1_standingFrom_53 (lv_at hl 0 rfl) ?_
      refine th_callVv (n := 1) (As := [.ref rf7]) S hK hH hS (th_A.sub (by decide)) (m_X0_passYear l D cT T q hq rf13 trf13 rf7 trf7) gm_908 gm_981 gm_906 gm_907 gm_119 (by decide +kernel) ⟨rfl, rfl, Nat.le_of_ble_eq_true rfl, Nat.le_of_ble_eq_true rfl⟩ trf13 kd_4 rfl rfl hl.1 rfl (Nat.le_of_ble_eq_true rfl) dX1_standingFrom_55 ⟨Nat.zero_le _, Nat.zero_le _⟩ (fun H locs hH hS hF1 => ?_)
      have f14 := f11.kept (hF1 _ f11.lt (th_off t0 (by decide)))
      refine lv_iload_n hx hb dX1_standingFrom_58 rfl (lv_at hl 2 rfl) ?_
      refine lv_iconst (v := 1) hx hb dX1_standingFrom_59 (by decide) ?_
      refine lv_iadd hx hb dX1_standingFrom_60 ?_
      refine lv_topi (fun x15 ex15 => ?_)
      have zx15 : x5 = x15 := ex5.trans ex15.symm
      subst zx15
      refine lv_iload_n hx hb dX1_standingFrom_61 rfl (lv_at hl 4 rfl) ?_
      refine lv_icmp_lt (tgt := 75) hx hb dX1_standingFrom_62 (by decide) (fun c16 => ?_) (fun c16 => ?_)
      · skip
        have ir17 : IV y3 4 7 := iv_uR ix5 ir2 (iv_lt c16) (by decide)
        refine lv_aload hx hb dX1_standingFrom_75 (lv_at hl 0 rfl) ?_
        refine th_get S hK hH inG7 trf7 kd_10 rfl 0 (by decide) gm_230 rfl rfl dX1_standingFrom_77 (fun v18 hv18 fv18 => ?_)
        obtain ⟨rf19, rfl, trf19⟩ := th_V.ref hv18
        refine lv_bipush (v := 41) hx hb dX1_standingFrom_80 (by decide) ?_
        refine lv_iconst (v := 0) hx hb dX1_standingFrom_82 (by decide) ?_
        refine th_iast S hK hH hS ⟨29, by decide, trf19⟩ trf19 kd_29 (th_in (hi := 41) (iv_w (iv_c (by decide) : IV 41 41 41) (by decide)) (by decide)) (th_iv (iv_top _)) dX1_standingFrom_83 (fun H locs hH hS hq1 => ?_)
        have f20 := f14.kept (hq1 _ (th_ne t0 trf19 (by decide)))
        have f21 := fv18.kept (hq1 _ (th_ne trf7 trf19 (by decide)))
        refine lv_aload_n hx hb dX1_standingFrom_84 rfl (lv_at hl 1 rfl) ?_
        refine lv_iload_n hx hb dX1_standingFrom_85 rfl (lv_at hl 2 rfl) ?_
        refine lv_iconst (v := 1) hx hb dX1_standingFrom_86 (by decide) ?_
        refine lv_iadd hx hb dX1_standingFrom_87 ?_
        refine lv_topi (fun x22 ex22 => ?_)
        have zx22 : x5 = x22 := ex5.trans ex22.symm
        subst zx22
        refine lv_iload_n hx hb dX1_standingFrom_88 rfl (lv_at hl 3 rfl) ?_
        refine lv_iload_n hx hb dX1_standingFrom_89 rfl (lv_at hl 4 rfl) ?_
        refine th_callVi (n := 3) (As := [.int x5, .int y2, .int y3]) S hK hH hS (th_A.sub (by decide)) (m_X1_standingFrom_v4 l D cT T q hq a0 t0 (x5) ix5 (y2) j2 (y3) (iv_w ir17 (by decide))) gm_1128 gm_1125 gm_1127 gm_40 gm_121 (by decide +kernel) ⟨rfl, rfl, Nat.le_of_ble_eq_true rfl, Nat.le_of_ble_eq_true rfl⟩ t0 kd_6 rfl rfl hl.1 rfl (Nat.le_of_ble_eq_true rfl) dX1_standingFrom_90 ⟨Nat.zero_le _, Nat.zero_le _⟩ (fun x23 H locs ix23 hH hS hF1 => ?_)
        have f24 := f20.kept (hF1 _ f20.lt (th_off t0 (by decide)))
        have f25 := f21.kept (hF1 _ f21.lt (th_off trf7 (by decide)))
        refine lv_istore (lv' := [(5, .int x23), (4, .ref rf7), (0, .ref a0), (1, .int y1), (2, .int y2), (3, .int y3)]) hx hb dX1_standingFrom_93 hl (by decide) rfl (fun ls hl => ?_)
        refine lv_aload hx hb dX1_standingFrom_95 (lv_at hl 1 rfl) ?_
        refine th_getK S hK f25 inG7 rfl (by decide) gm_230 rfl dX1_standingFrom_97 ?_
        refine lv_bipush (v := 41) hx hb dX1_standingFrom_100 (by decide) ?_
        refine lv_iconst (v := 1) hx hb dX1_standingFrom_102 (by decide) ?_
        refine th_iast S hK hH hS ⟨29, by decide, trf19⟩ trf19 kd_29 (th_in (hi := 41) (iv_w (iv_c (by decide) : IV 41 41 41) (by decide)) (by decide)) (th_iv (iv_top _)) dX1_standingFrom_103 (fun H locs hH hS hq1 => ?_)
        have f27 := f24.kept (hq1 _ (th_ne t0 trf19 (by decide)))
        have f28 := f25.kept (hq1 _ (th_ne trf7 trf19 (by decide)))
        refine lv_iload hx hb dX1_standingFrom_104 (lv_at hl 0 rfl) ?_
        refine lv_aload_n hx hb dX1_standingFrom_106 rfl (lv_at hl 2 rfl) ?_
        refine lv_iload_n hx hb dX1_standingFrom_107 rfl (lv_at hl 3 rfl) ?_
        refine lv_iconst (v := 1) hx hb dX1_standingFrom_108 (by decide) ?_
        refine lv_iadd hx hb dX1_standingFrom_109 ?_
        refine lv_topi (fun x29 ex29 => ?_)
        have zx29 : x5 = x29 := ex5.trans ex29.symm
        subst zx29
        refine lv_iload_n hx hb dX1_standingFrom_110 rfl (lv_at hl 4 rfl) ?_
        refine lv_iload_n hx hb dX1_standingFrom_111 rfl (lv_at hl 5 rfl) ?_
        refine th_callVi (n := 3) (As := [.int x5, .int y2, .int y3]) S hK hH hS (th_A.sub (by decide)) (m_X1_standingFrom_v4 l D cT T q hq a0 t0 (x5) ix5 (y2) j2 (y3) (iv_w ir17 (by decide))) gm_1128 gm_1125 gm_1127 gm_40 gm_121 (by decide +kernel) ⟨rfl, rfl, Nat.le_of_ble_eq_true rfl, Nat.le_of_ble_eq_true rfl⟩ t0 kd_6 rfl rfl hl.1 rfl (Nat.le_of_ble_eq_true rfl) dX1_standingFrom_112 ⟨Nat.zero_le _, Nat.zero_le _⟩ (fun x30 H locs ix30 hH hS hF1 => ?_)
        have f31 := f27.kept (hF1 _ f27.lt (th_off t0 (by decide)))
        have f32 := f28.kept (hF1 _ f28.lt (th_off trf7 (by decide)))
        refine lv_iadd hx hb dX1_standingFrom_115 ?_
        refine lv_topi (fun x33 ex33 => ?_)
        have ix33 : IV x33 0 16 := by rw [ex33]; exact iv_add ix23 ix30 (by decide)
        exact th_iret S hK hH hS hr hlocks (th_R.i ix33) dX1_standingFrom_116
      · skip
        have ir34 : IV y3 3 3 := iv_vL ir2 ix5 (iv_nlt c16) (by decide)
        refine lv_aload_n hx hb dX1_standingFrom_65 rfl (lv_at hl 1 rfl) ?_
        refine lv_iload_n hx hb dX1_standingFrom_66 rfl (lv_at hl 2 rfl) ?_
        refine lv_iconst (v := 1) hx hb dX1_standingFrom_67 (by decide) ?_
        refine lv_iadd hx hb dX1_standingFrom_68 ?_
        refine lv_topi (fun x35 ex35 => ?_)
        have zx35 : x5 = x35 := ex5.trans ex35.symm
        subst zx35
        refine lv_iload_n hx hb dX1_standingFrom_69 rfl (lv_at hl 3 rfl) ?_
        refine lv_iload_n hx hb dX1_standingFrom_70 rfl (lv_at hl 4 rfl) ?_
        refine th_callVi (n := 3) (As := [.int x5, .int y2, .int y3]) S hK hH hS (th_A.sub (by decide)) (m_X1_standingFrom_v4 l D cT T q hq a0 t0 (x5) ix5 (y2) j2 (y3) (iv_w ir34 (by decide))) gm_1128 gm_1125 gm_1127 gm_40 gm_121 (by decide +kernel) ⟨rfl, rfl, Nat.le_of_ble_eq_true rfl, Nat.le_of_ble_eq_true rfl⟩ t0 kd_6 rfl rfl hl.1 rfl (Nat.le_of_ble_eq_true rfl) dX1_standingFrom_71 ⟨Nat.zero_le _, Nat.zero_le _⟩ (fun x36 H locs ix36 hH hS hF1 => ?_)
        have f37 := f14.kept (hF1 _ f14.lt (th_off t0 (by decide)))
        exact th_iret S hK hH hS hr hlocks (th_R.i (iv_w ix36 (by decide))) dX1_standingFrom_74
    · skip
      have ir38 : IV y3 0 2 := iv_vL j3 j1 (iv_nlt c1) (by decide)
      refine lv_aload_n hx hb dX1_standingFrom_5 rfl (lv_at hl 0 rfl) ?_
      refine th_get S hK hH inG1 t0 kd_6 rfl 1 (by decide) gm_409 rfl rfl dX1_standingFrom_6 (fun v39 hv39 fv39 => ?_)
      obtain ⟨rf40, rfl, trf40⟩ := th_V.ref hv39
      refine lv_iload_n hx hb dX1_standingFrom_9 rfl (lv_at hl 1 rfl) ?_
      refine th_aald S hK hH trf40 kd_31 (th_in (hi := 2) (iv_w j1 (by decide)) (by decide)) dX1_standingFrom_10 (fun v41 hv41 => ?_)
      obtain ⟨rf42, rfl, trf42⟩ := th_V.ref hv41
      refine th_get S hK hH inG7 trf42 kd_10 rfl 0 (by decide) gm_230 rfl rfl dX1_standingFrom_11 (fun v43 hv43 fv43 => ?_)
      obtain ⟨rf44, rfl, trf44⟩ := th_V.ref hv43
      refine lv_bipush (v := 15) hx hb dX1_standingFrom_14 (by decide) ?_
      refine lv_iload_n hx hb dX1_standingFrom_16 rfl (lv_at hl 2 rfl) ?_
      refine lv_iadd hx hb dX1_standingFrom_17 ?_
      refine lv_topi (fun x45 ex45 => ?_)
      have ix45 : IV x45 15 22 := by rw [ex45]; exact iv_add (iv_c (by decide) : IV 15 15 15) j2 (by decide)
      refine th_iald S hK hH trf44 kd_29 (th_in (hi := 22) (iv_w ix45 (by decide)) (by decide)) dX1_standingFrom_18 (fun v46 hv46 => ?_)
      obtain ⟨x47, rfl, ix47⟩ := th_V.int hv46
      refine lv_if_le (tgt := 26) hx hb dX1_standingFrom_19 (by decide) (fun c48 => ?_) (fun c48 => ?_)
      · skip
        have ir49 : IV x47 (-2147483648) 0 := iv_vL ix47 (iv_c (by decide) : IV 0 0 0) (iv_le c48) (by decide)
        refine lv_iconst (v := 0) hx hb dX1_standingFrom_26 (by decide) ?_
        exact J27_s0_0 H locs ls  hH hS (lv_sub hl [] rfl)
      · skip
        have ir50 : IV x47 1 2147483647 := iv_uR (iv_c (by decide) : IV 0 0 0) ix47 (iv_nle c48) (by decide)
        refine lv_iconst (v := 1) hx hb dX1_standingFrom_22 (by decide) ?_
        refine lv_goto (tgt := 27) hx hb dX1_standingFrom_23 (by decide) ?_
        exact J27_s0_1 H locs ls  hH hS (lv_sub hl [] rfl)
  exact J0 s.heap [] ls hH va_S.rf hl

set_option maxRecDepth 100000 in
theorem m_X1_standingFrom_v6 (l : Launch) (D : va_G) (cT : Nat → ClassId) (T : Nat → Option Nat) (q : Nat → Int) (hq : qok q) (a0 : Nat) (t0 : T a0 = some 6) (y1 : Int32) (j1 : IV y1 1 1) (y2 : Int32) (j2 : IV y2 0 7) (y3 : Int32) (j3 : IV y3 0 7) : th_Met l D cT T (kd q) yX1_standingFrom cX1_standingFrom 6 (some .int) (rmk 10 251) [.ref a0, .int y1, .int y2, .int y3] (th_R T (some (.inl (0, 32)))) [18, 19, 29] := by
  refine th_start (by decide) (Nat.le_of_ble_eq_true rfl) ?_
  intro p e s m below meth c ls S hK hH hr hlocks hnm hl
  have hx := S.1
  have hb := S.2.1
  have hl : lv_has ls 6 [(0, .ref a0), (1, .int y1), (2, .int y2), (3, .int y3)] := hl
  have J27_s0_0 : ∀ (H : Heap) (locs : List Loc) (ls : Array Slot), th_H D cT T (kd q) H → va_S (th_A T [18, 19, 29]) s.heap H locs → lv_has ls 6 [] → W p l e (rmk 10 251) s m [.ref a0, .int y1, .int y2, .int y3].toArray below meth c H locs 0 0 (MQ below (th_Q D cT T (kd q) (th_R T (some (.inl (0, 32)))) [18, 19, 29]) [.ref a0, .int y1, .int y2, .int y3].toArray s 0 0 (th_A T [18, 19, 29])) (F0 m 27 ls [.int 0]) := by
    intro H locs ls hH hS hl
    exact th_iret S hK hH hS hr hlocks (th_R.i (iv_w (iv_c (by decide) : IV 0 0 0) (by decide))) dX1_standingFrom_27
  have J27_s0_1 : ∀ (H : Heap) (locs : List Loc) (ls : Array Slot), th_H D cT T (kd q) H → va_S (th_A T [18, 19, 29]) s.heap H locs → lv_has ls 6 [] → W p l e (rmk 10 251) s m [.ref a0, .int y1, .int y2, .int y3].toArray below meth c H locs 0 0 (MQ below (th_Q D cT T (kd q) (th_R T (some (.inl (0, 32)))) [18, 19, 29]) [.ref a0, .int y1, .int y2, .int y3].toArray s 0 0 (th_A T [18, 19, 29])) (F0 m 27 ls [.int 1]) := by
    intro H locs ls hH hS hl
    exact th_iret S hK hH hS hr hlocks (th_R.i (iv_w (iv_c (by decide) : IV 1 1 1) (by decide))) dX1_standingFrom_27
  have J0 : ∀ (H : Heap) (locs : List Loc) (ls : Array Slot), th_H D cT T (kd q) H → va_S (th_A T [18, 19, 29]) s.heap H locs → lv_has ls 6 [(0, .ref a0), (1, .int y1), (2, .int y2), (3, .int y3)] → W p l e (rmk 10 251) s m [.ref a0, .int y1, .int y2, .int y3].toArray below meth c H locs 0 0 (MQ below (th_Q D cT T (kd q) (th_R T (some (.inl (0, 32)))) [18, 19, 29]) [.ref a0, .int y1, .int y2, .int y3].toArray s 0 0 (th_A T [18, 19, 29])) (F0 m 0 ls []) := by
    intro H locs ls hH hS hl
    refine lv_iload_n hx hb dX1_standingFrom_0 rfl (lv_at hl 1 rfl) ?_
    refine lv_iload_n hx hb dX1_standingFrom_1 rfl (lv_at hl 3 rfl) ?_
    refine lv_icmp_lt (tgt := 28) hx hb dX1_standingFrom_2 (by decide) (fun c1 => ?_) (fun c1 => ?_)
    · skip
      have ir2 : IV y3 2 7 := iv_uR j1 j3 (iv_lt c1) (by decide)
      refine lv_aload_n hx hb dX1_standingFrom_28 rfl (lv_at hl 0 rfl) ?_
      refine th_get S hK hH inG1 t0 kd_6 rfl 1 (by decide) gm_409 rfl rfl dX1_standingFrom_29 (fun v3 hv3 fv3 => ?_)
      obtain ⟨rf4, rfl, trf4⟩ := th_V.ref hv3
      refine lv_iload_n hx hb dX1_standingFrom_32 rfl (lv_at hl 1 rfl) ?_
      refine lv_iconst (v := 1) hx hb dX1_standingFrom_33 (by decide) ?_
      refine lv_iadd hx hb dX1_standingFrom_34 ?_
      refine lv_topi (fun x5 ex5 => ?_)
      have ix5 : IV x5 2 2 := by rw [ex5]; exact iv_add j1 (iv_c (by decide) : IV 1 1 1) (by decide)
      refine th_aald S hK hH trf4 kd_31 (th_in (hi := 2) (iv_w ix5 (by decide)) (by decide)) dX1_standingFrom_35 (fun v6 hv6 => ?_)
      obtain ⟨rf7, rfl, trf7⟩ := th_V.ref hv6
      refine lv_astore (lv' := [(4, .ref rf7), (0, .ref a0), (1, .int y1), (2, .int y2), (3, .int y3)]) hx hb dX1_standingFrom_36 hl (by decide) rfl (fun ls hl => ?_)
      refine lv_aload hx hb dX1_standingFrom_38 (lv_at hl 0 rfl) ?_
      refine lv_aload_n hx hb dX1_standingFrom_40 rfl (lv_at hl 1 rfl) ?_
      refine th_getK S hK fv3 inG1 rfl (by decide) gm_409 rfl dX1_standingFrom_41 ?_
      refine lv_iload_n hx hb dX1_standingFrom_44 rfl (lv_at hl 2 rfl) ?_
      refine th_aald S hK hH trf4 kd_31 (th_in (hi := 1) (iv_w j1 (by decide)) (by decide)) dX1_standingFrom_45 (fun v9 hv9 => ?_)
      obtain ⟨rf10, rfl, trf10⟩ := th_V.ref hv9
      refine th_callVv (n := 1) (As := [.ref rf10]) S hK hH hS (th_A.sub (by decide)) (m_X7_copyFrom l D cT T q hq rf7 trf7 rf10 trf10) gm_809 gm_980 gm_807 gm_808 gm_118 (by decide +kernel) ⟨rfl, rfl, Nat.le_of_ble_eq_true rfl, Nat.le_of_ble_eq_true rfl⟩ trf7 kd_10 rfl rfl hl.1 rfl (Nat.le_of_ble_eq_true rfl) dX1_standingFrom_46 ⟨Nat.zero_le _, Nat.zero_le _⟩ (fun H locs hH hS hF1 => ?_)
      have f11 := fv3.kept (hF1 _ fv3.lt (th_off t0 (by decide)))
      refine lv_aload_n hx hb dX1_standingFrom_49 rfl (lv_at hl 1 rfl) ?_
      refine th_get S hK hH inG1 t0 kd_6 rfl 0 (by decide) gm_408 rfl rfl dX1_standingFrom_50 (fun v12 hv12 fv12 => ?_)
      obtain ⟨rf13, rfl, trf13⟩ := th_V.ref hv12
      refine lv_aload hx hb dX1_standingFrom_53 (lv_at hl 0 rfl) ?_
      refine th_callVv (n := 1) (As := [.ref rf7]) S hK hH hS (th_A.sub (by decide)) (m_X0_passYear l D cT T q hq rf13 trf13 rf7 trf7) gm_908 gm_981 gm_906 gm_907 gm_119 (by decide +kernel) ⟨rfl, rfl, Nat.le_of_ble_eq_true rfl, Nat.le_of_ble_eq_true rfl⟩ trf13 kd_4 rfl rfl hl.1 rfl (Nat.le_of_ble_eq_true rfl) dX1_standingFrom_55 ⟨Nat.zero_le _, Nat.zero_le _⟩ (fun H locs hH hS hF1 => ?_)
      have f14 := f11.kept (hF1 _ f11.lt (th_off t0 (by decide)))
      refine lv_iload_n hx hb dX1_standingFrom_58 rfl (lv_at hl 2 rfl) ?_
      refine lv_iconst (v := 1) hx hb dX1_standingFrom_59 (by decide) ?_
      refine lv_iadd hx hb dX1_standingFrom_60 ?_
      refine lv_topi (fun x15 ex15 => ?_)
      have zx15 : x5 = x15 := ex5.trans ex15.symm
      subst zx15
      refine lv_iload_n hx hb dX1_standingFrom_61 rfl (lv_at hl 4 rfl) ?_
      refine lv_icmp_lt (tgt := 75) hx hb dX1_standingFrom_62 (by decide) (fun c16 => ?_) (fun c16 => ?_)
      · skip
        have ir17 : IV y3 3 7 := iv_uR ix5 ir2 (iv_lt c16) (by decide)
        refine lv_aload hx hb dX1_standingFrom_75 (lv_at hl 0 rfl) ?_
        refine th_get S hK hH inG7 trf7 kd_10 rfl 0 (by decide) gm_230 rfl rfl dX1_standingFrom_77 (fun v18 hv18 fv18 => ?_)
        obtain ⟨rf19, rfl, trf19⟩ := th_V.ref hv18
        refine lv_bipush (v := 41) hx hb dX1_standingFrom_80 (by decide) ?_
        refine lv_iconst (v := 0) hx hb dX1_standingFrom_82 (by decide) ?_
        refine th_iast S hK hH hS ⟨29, by decide, trf19⟩ trf19 kd_29 (th_in (hi := 41) (iv_w (iv_c (by decide) : IV 41 41 41) (by decide)) (by decide)) (th_iv (iv_top _)) dX1_standingFrom_83 (fun H locs hH hS hq1 => ?_)
        have f20 := f14.kept (hq1 _ (th_ne t0 trf19 (by decide)))
        have f21 := fv18.kept (hq1 _ (th_ne trf7 trf19 (by decide)))
        refine lv_aload_n hx hb dX1_standingFrom_84 rfl (lv_at hl 1 rfl) ?_
        refine lv_iload_n hx hb dX1_standingFrom_85 rfl (lv_at hl 2 rfl) ?_
        refine lv_iconst (v := 1) hx hb dX1_standingFrom_86 (by decide) ?_
        refine lv_iadd hx hb dX1_standingFrom_87 ?_
        refine lv_topi (fun x22 ex22 => ?_)
        have zx22 : x5 = x22 := ex5.trans ex22.symm
        subst zx22
        refine lv_iload_n hx hb dX1_standingFrom_88 rfl (lv_at hl 3 rfl) ?_
        refine lv_iload_n hx hb dX1_standingFrom_89 rfl (lv_at hl 4 rfl) ?_
        refine th_callVi (n := 3) (As := [.int x5, .int y2, .int y3]) S hK hH hS (th_A.sub (by decide)) (m_X1_standingFrom_v5 l D cT T q hq a0 t0 (x5) ix5 (y2) j2 (y3) (iv_w ir17 (by decide))) gm_1128 gm_1125 gm_1127 gm_40 gm_121 (by decide +kernel) ⟨rfl, rfl, Nat.le_of_ble_eq_true rfl, Nat.le_of_ble_eq_true rfl⟩ t0 kd_6 rfl rfl hl.1 rfl (Nat.le_of_ble_eq_true rfl) dX1_standingFrom_90 ⟨Nat.zero_le _, Nat.zero_le _⟩ (fun x23 H locs ix23 hH hS hF1 => ?_)
        have f24 := f20.kept (hF1 _ f20.lt (th_off t0 (by decide)))
        have f25 := f21.kept (hF1 _ f21.lt (th_off trf7 (by decide)))
        refine lv_istore (lv' := [(5, .int x23), (4, .ref rf7), (0, .ref a0), (1, .int y1), (2, .int y2), (3, .int y3)]) hx hb dX1_standingFrom_93 hl (by decide) rfl (fun ls hl => ?_)
        refine lv_aload hx hb dX1_standingFrom_95 (lv_at hl 1 rfl) ?_
        refine th_getK S hK f25 inG7 rfl (by decide) gm_230 rfl dX1_standingFrom_97 ?_
        refine lv_bipush (v := 41) hx hb dX1_standingFrom_100 (by decide) ?_
        refine lv_iconst (v := 1) hx hb dX1_standingFrom_102 (by decide) ?_
        refine th_iast S hK hH hS ⟨29, by decide, trf19⟩ trf19 kd_29 (th_in (hi := 41) (iv_w (iv_c (by decide) : IV 41 41 41) (by decide)) (by decide)) (th_iv (iv_top _)) dX1_standingFrom_103 (fun H locs hH hS hq1 => ?_)
        have f27 := f24.kept (hq1 _ (th_ne t0 trf19 (by decide)))
        have f28 := f25.kept (hq1 _ (th_ne trf7 trf19 (by decide)))
        refine lv_iload hx hb dX1_standingFrom_104 (lv_at hl 0 rfl) ?_
        refine lv_aload_n hx hb dX1_standingFrom_106 rfl (lv_at hl 2 rfl) ?_
        refine lv_iload_n hx hb dX1_standingFrom_107 rfl (lv_at hl 3 rfl) ?_
        refine lv_iconst (v := 1) hx hb dX1_standingFrom_108 (by decide) ?_
        refine lv_iadd hx hb dX1_standingFrom_109 ?_
        refine lv_topi (fun x29 ex29 => ?_)
        have zx29 : x5 = x29 := ex5.trans ex29.symm
        subst zx29
        refine lv_iload_n hx hb dX1_standingFrom_110 rfl (lv_at hl 4 rfl) ?_
        refine lv_iload_n hx hb dX1_standingFrom_111 rfl (lv_at hl 5 rfl) ?_
        refine th_callVi (n := 3) (As := [.int x5, .int y2, .int y3]) S hK hH hS (th_A.sub (by decide)) (m_X1_standingFrom_v5 l D cT T q hq a0 t0 (x5) ix5 (y2) j2 (y3) (iv_w ir17 (by decide))) gm_1128 gm_1125 gm_1127 gm_40 gm_121 (by decide +kernel) ⟨rfl, rfl, Nat.le_of_ble_eq_true rfl, Nat.le_of_ble_eq_true rfl⟩ t0 kd_6 rfl rfl hl.1 rfl (Nat.le_of_ble_eq_true rfl) dX1_standingFrom_112 ⟨Nat.zero_le _, Nat.zero_le _⟩ (fun x30 H locs ix30 hH hS hF1 => ?_)
        have f31 := f27.kept (hF1 _ f27.lt (th_off t0 (by decide)))
        have f32 := f28.kept (hF1 _ f28.lt (th_off trf7 (by decide)))
        refine lv_iadd hx hb dX1_standingFrom_115 ?_
        refine lv_topi (fun x33 ex33 => ?_)
        have ix33 : IV x33 0 32 := by rw [ex33]; exact iv_add ix23 ix30 (by decide)
        exact th_iret S hK hH hS hr hlocks (th_R.i ix33) dX1_standingFrom_116
      · skip
        have ir34 : IV y3 2 2 := iv_vL ir2 ix5 (iv_nlt c16) (by decide)
        refine lv_aload_n hx hb dX1_standingFrom_65 rfl (lv_at hl 1 rfl) ?_
        refine lv_iload_n hx hb dX1_standingFrom_66 rfl (lv_at hl 2 rfl) ?_
        refine lv_iconst (v := 1) hx hb dX1_standingFrom_67 (by decide) ?_
        refine lv_iadd hx hb dX1_standingFrom_68 ?_
        refine lv_topi (fun x35 ex35 => ?_)
        have zx35 : x5 = x35 := ex5.trans ex35.symm
        subst zx35
        refine lv_iload_n hx hb dX1_standingFrom_69 rfl (lv_at hl 3 rfl) ?_
        refine lv_iload_n hx hb dX1_standingFrom_70 rfl (lv_at hl 4 rfl) ?_
        refine th_callVi (n := 3) (As := [.int x5, .int y2, .int y3]) S hK hH hS (th_A.sub (by decide)) (m_X1_standingFrom_v5 l D cT T q hq a0 t0 (x5) ix5 (y2) j2 (y3) (iv_w ir34 (by decide))) gm_1128 gm_1125 gm_1127 gm_40 gm_121 (by decide +kernel) ⟨rfl, rfl, Nat.le_of_ble_eq_true rfl, Nat.le_of_ble_eq_true rfl⟩ t0 kd_6 rfl rfl hl.1 rfl (Nat.le_of_ble_eq_true rfl) dX1_standingFrom_71 ⟨Nat.zero_le _, Nat.zero_le _⟩ (fun x36 H locs ix36 hH hS hF1 => ?_)
        have f37 := f14.kept (hF1 _ f14.lt (th_off t0 (by decide)))
        exact th_iret S hK hH hS hr hlocks (th_R.i (iv_w ix36 (by decide))) dX1_standingFrom_74
    · skip
      have ir38 : IV y3 0 1 := iv_vL j3 j1 (iv_nlt c1) (by decide)
      refine lv_aload_n hx hb dX1_standingFrom_5 rfl (lv_at hl 0 rfl) ?_
      refine th_get S hK hH inG1 t0 kd_6 rfl 1 (by decide) gm_409 rfl rfl dX1_standingFrom_6 (fun v39 hv39 fv39 => ?_)
      obtain ⟨rf40, rfl, trf40⟩ := th_V.ref hv39
      refine lv_iload_n hx hb dX1_standingFrom_9 rfl (lv_at hl 1 rfl) ?_
      refine th_aald S hK hH trf40 kd_31 (th_in (hi := 1) (iv_w j1 (by decide)) (by decide)) dX1_standingFrom_10 (fun v41 hv41 => ?_)
      obtain ⟨rf42, rfl, trf42⟩ := th_V.ref hv41
      refine th_get S hK hH inG7 trf42 kd_10 rfl 0 (by decide) gm_230 rfl rfl dX1_standingFrom_11 (fun v43 hv43 fv43 => ?_)
      obtain ⟨rf44, rfl, trf44⟩ := th_V.ref hv43
      refine lv_bipush (v := 15) hx hb dX1_standingFrom_14 (by decide) ?_
      refine lv_iload_n hx hb dX1_standingFrom_16 rfl (lv_at hl 2 rfl) ?_
      refine lv_iadd hx hb dX1_standingFrom_17 ?_
      refine lv_topi (fun x45 ex45 => ?_)
      have ix45 : IV x45 15 22 := by rw [ex45]; exact iv_add (iv_c (by decide) : IV 15 15 15) j2 (by decide)
      refine th_iald S hK hH trf44 kd_29 (th_in (hi := 22) (iv_w ix45 (by decide)) (by decide)) dX1_standingFrom_18 (fun v46 hv46 => ?_)
      obtain ⟨x47, rfl, ix47⟩ := th_V.int hv46
      refine lv_if_le (tgt := 26) hx hb dX1_standingFrom_19 (by decide) (fun c48 => ?_) (fun c48 => ?_)
      · skip
        have ir49 : IV x47 (-2147483648) 0 := iv_vL ix47 (iv_c (by decide) : IV 0 0 0) (iv_le c48) (by decide)
        refine lv_iconst (v := 0) hx hb dX1_standingFrom_26 (by decide) ?_
        exact J27_s0_0 H locs ls  hH hS (lv_sub hl [] rfl)
      · skip
        have ir50 : IV x47 1 2147483647 := iv_uR (iv_c (by decide) : IV 0 0 0) ix47 (iv_nle c48) (by decide)
        refine lv_iconst (v := 1) hx hb dX1_standingFrom_22 (by decide) ?_
        refine lv_goto (tgt := 27) hx hb dX1_standingFrom_23 (by decide) ?_
        exact J27_s0_1 H locs ls  hH hS (lv_sub hl [] rfl)
  exact J0 s.heap [] ls hH va_S.rf hl

set_option maxRecDepth 100000 in
theorem m_X1_standingFrom_v7 (l : Launch) (D : va_G) (cT : Nat → ClassId) (T : Nat → Option Nat) (q : Nat → Int) (hq : qok q) (a0 : Nat) (t0 : T a0 = some 6) (y1 : Int32) (j1 : IV y1 0 0) (y2 : Int32) (j2 : IV y2 0 7) (y3 : Int32) (j3 : IV y3 0 7) : th_Met l D cT T (kd q) yX1_standingFrom cX1_standingFrom 6 (some .int) (rmk 11 276) [.ref a0, .int y1, .int y2, .int y3] (th_R T (some (.inl (0, 64)))) [18, 19, 29] := by
  refine th_start (by decide) (Nat.le_of_ble_eq_true rfl) ?_
  intro p e s m below meth c ls S hK hH hr hlocks hnm hl
  have hx := S.1
  have hb := S.2.1
  have hl : lv_has ls 6 [(0, .ref a0), (1, .int y1), (2, .int y2), (3, .int y3)] := hl
  have J27_s0_0 : ∀ (H : Heap) (locs : List Loc) (ls : Array Slot), th_H D cT T (kd q) H → va_S (th_A T [18, 19, 29]) s.heap H locs → lv_has ls 6 [] → W p l e (rmk 11 276) s m [.ref a0, .int y1, .int y2, .int y3].toArray below meth c H locs 0 0 (MQ below (th_Q D cT T (kd q) (th_R T (some (.inl (0, 64)))) [18, 19, 29]) [.ref a0, .int y1, .int y2, .int y3].toArray s 0 0 (th_A T [18, 19, 29])) (F0 m 27 ls [.int 0]) := by
    intro H locs ls hH hS hl
    exact th_iret S hK hH hS hr hlocks (th_R.i (iv_w (iv_c (by decide) : IV 0 0 0) (by decide))) dX1_standingFrom_27
  have J27_s0_1 : ∀ (H : Heap) (locs : List Loc) (ls : Array Slot), th_H D cT T (kd q) H → va_S (th_A T [18, 19, 29]) s.heap H locs → lv_has ls 6 [] → W p l e (rmk 11 276) s m [.ref a0, .int y1, .int y2, .int y3].toArray below meth c H locs 0 0 (MQ below (th_Q D cT T (kd q) (th_R T (some (.inl (0, 64)))) [18, 19, 29]) [.ref a0, .int y1, .int y2, .int y3].toArray s 0 0 (th_A T [18, 19, 29])) (F0 m 27 ls [.int 1]) := by
    intro H locs ls hH hS hl
    exact th_iret S hK hH hS hr hlocks (th_R.i (iv_w (iv_c (by decide) : IV 1 1 1) (by decide))) dX1_standingFrom_27
  have J0 : ∀ (H : Heap) (locs : List Loc) (ls : Array Slot), th_H D cT T (kd q) H → va_S (th_A T [18, 19, 29]) s.heap H locs → lv_has ls 6 [(0, .ref a0), (1, .int y1), (2, .int y2), (3, .int y3)] → W p l e (rmk 11 276) s m [.ref a0, .int y1, .int y2, .int y3].toArray below meth c H locs 0 0 (MQ below (th_Q D cT T (kd q) (th_R T (some (.inl (0, 64)))) [18, 19, 29]) [.ref a0, .int y1, .int y2, .int y3].toArray s 0 0 (th_A T [18, 19, 29])) (F0 m 0 ls []) := by
    intro H locs ls hH hS hl
    refine lv_iload_n hx hb dX1_standingFrom_0 rfl (lv_at hl 1 rfl) ?_
    refine lv_iload_n hx hb dX1_standingFrom_1 rfl (lv_at hl 3 rfl) ?_
    refine lv_icmp_lt (tgt := 28) hx hb dX1_standingFrom_2 (by decide) (fun c1 => ?_) (fun c1 => ?_)
    · skip
      have ir2 : IV y3 1 7 := iv_uR j1 j3 (iv_lt c1) (by decide)
      refine lv_aload_n hx hb dX1_standingFrom_28 rfl (lv_at hl 0 rfl) ?_
      refine th_get S hK hH inG1 t0 kd_6 rfl 1 (by decide) gm_409 rfl rfl dX1_standingFrom_29 (fun v3 hv3 fv3 => ?_)
      obtain ⟨rf4, rfl, trf4⟩ := th_V.ref hv3
      refine lv_iload_n hx hb dX1_standingFrom_32 rfl (lv_at hl 1 rfl) ?_
      refine lv_iconst (v := 1) hx hb dX1_standingFrom_33 (by decide) ?_
      refine lv_iadd hx hb dX1_standingFrom_34 ?_
      refine lv_topi (fun x5 ex5 => ?_)
      have ix5 : IV x5 1 1 := by rw [ex5]; exact iv_add j1 (iv_c (by decide) : IV 1 1 1) (by decide)
      refine th_aald S hK hH trf4 kd_31 (th_in (hi := 1) (iv_w ix5 (by decide)) (by decide)) dX1_standingFrom_35 (fun v6 hv6 => ?_)
      obtain ⟨rf7, rfl, trf7⟩ := th_V.ref hv6
      refine lv_astore (lv' := [(4, .ref rf7), (0, .ref a0), (1, .int y1), (2, .int y2), (3, .int y3)]) hx hb dX1_standingFrom_36 hl (by decide) rfl (fun ls hl => ?_)
      refine lv_aload hx hb dX1_standingFrom_38 (lv_at hl 0 rfl) ?_
      refine lv_aload_n hx hb dX1_standingFrom_40 rfl (lv_at hl 1 rfl) ?_
      refine th_getK S hK fv3 inG1 rfl (by decide) gm_409 rfl dX1_standingFrom_41 ?_
      refine lv_iload_n hx hb dX1_standingFrom_44 rfl (lv_at hl 2 rfl) ?_
      refine th_aald S hK hH trf4 kd_31 (th_in (hi := 0) j1 (by decide)) dX1_standingFrom_45 (fun v9 hv9 => ?_)
      obtain ⟨rf10, rfl, trf10⟩ := th_V.ref hv9
      refine th_callVv (n := 1) (As := [.ref rf10]) S hK hH hS (th_A.sub (by decide)) (m_X7_copyFrom l D cT T q hq rf7 trf7 rf10 trf10) gm_809 gm_980 gm_807 gm_808 gm_118 (by decide +kernel) ⟨rfl, rfl, Nat.le_of_ble_eq_true rfl, Nat.le_of_ble_eq_true rfl⟩ trf7 kd_10 rfl rfl hl.1 rfl (Nat.le_of_ble_eq_true rfl) dX1_standingFrom_46 ⟨Nat.zero_le _, Nat.zero_le _⟩ (fun H locs hH hS hF1 => ?_)
      have f11 := fv3.kept (hF1 _ fv3.lt (th_off t0 (by decide)))
      refine lv_aload_n hx hb dX1_standingFrom_49 rfl (lv_at hl 1 rfl) ?_
      refine th_get S hK hH inG1 t0 kd_6 rfl 0 (by decide) gm_408 rfl rfl dX1_standingFrom_50 (fun v12 hv12 fv12 => ?_)
      obtain ⟨rf13, rfl, trf13⟩ := th_V.ref hv12
      refine lv_aload hx hb dX1_standingFrom_53 (lv_at hl 0 rfl) ?_
      refine th_callVv (n := 1) (As := [.ref rf7]) S hK hH hS (th_A.sub (by decide)) (m_X0_passYear l D cT T q hq rf13 trf13 rf7 trf7) gm_908 gm_981 gm_906 gm_907 gm_119 (by decide +kernel) ⟨rfl, rfl, Nat.le_of_ble_eq_true rfl, Nat.le_of_ble_eq_true rfl⟩ trf13 kd_4 rfl rfl hl.1 rfl (Nat.le_of_ble_eq_true rfl) dX1_standingFrom_55 ⟨Nat.zero_le _, Nat.zero_le _⟩ (fun H locs hH hS hF1 => ?_)
      have f14 := f11.kept (hF1 _ f11.lt (th_off t0 (by decide)))
      refine lv_iload_n hx hb dX1_standingFrom_58 rfl (lv_at hl 2 rfl) ?_
      refine lv_iconst (v := 1) hx hb dX1_standingFrom_59 (by decide) ?_
      refine lv_iadd hx hb dX1_standingFrom_60 ?_
      refine lv_topi (fun x15 ex15 => ?_)
      have zx15 : x5 = x15 := ex5.trans ex15.symm
      subst zx15
      refine lv_iload_n hx hb dX1_standingFrom_61 rfl (lv_at hl 4 rfl) ?_
      refine lv_icmp_lt (tgt := 75) hx hb dX1_standingFrom_62 (by decide) (fun c16 => ?_) (fun c16 => ?_)
      · skip
        have ir17 : IV y3 2 7 := iv_uR ix5 ir2 (iv_lt c16) (by decide)
        refine lv_aload hx hb dX1_standingFrom_75 (lv_at hl 0 rfl) ?_
        refine th_get S hK hH inG7 trf7 kd_10 rfl 0 (by decide) gm_230 rfl rfl dX1_standingFrom_77 (fun v18 hv18 fv18 => ?_)
        obtain ⟨rf19, rfl, trf19⟩ := th_V.ref hv18
        refine lv_bipush (v := 41) hx hb dX1_standingFrom_80 (by decide) ?_
        refine lv_iconst (v := 0) hx hb dX1_standingFrom_82 (by decide) ?_
        refine th_iast S hK hH hS ⟨29, by decide, trf19⟩ trf19 kd_29 (th_in (hi := 41) (iv_w (iv_c (by decide) : IV 41 41 41) (by decide)) (by decide)) (th_iv (iv_top _)) dX1_standingFrom_83 (fun H locs hH hS hq1 => ?_)
        have f20 := f14.kept (hq1 _ (th_ne t0 trf19 (by decide)))
        have f21 := fv18.kept (hq1 _ (th_ne trf7 trf19 (by decide)))
        refine lv_aload_n hx hb dX1_standingFrom_84 rfl (lv_at hl 1 rfl) ?_
        refine lv_iload_n hx hb dX1_standingFrom_85 rfl (lv_at hl 2 rfl) ?_
        refine lv_iconst (v := 1) hx hb dX1_standingFrom_86 (by decide) ?_
        refine lv_iadd hx hb dX1_standingFrom_87 ?_
        refine lv_topi (fun x22 ex22 => ?_)
        have zx22 : x5 = x22 := ex5.trans ex22.symm
        subst zx22
        refine lv_iload_n hx hb dX1_standingFrom_88 rfl (lv_at hl 3 rfl) ?_
        refine lv_iload_n hx hb dX1_standingFrom_89 rfl (lv_at hl 4 rfl) ?_
        refine th_callVi (n := 3) (As := [.int x5, .int y2, .int y3]) S hK hH hS (th_A.sub (by decide)) (m_X1_standingFrom_v6 l D cT T q hq a0 t0 (x5) ix5 (y2) j2 (y3) (iv_w ir17 (by decide))) gm_1128 gm_1125 gm_1127 gm_40 gm_121 (by decide +kernel) ⟨rfl, rfl, Nat.le_of_ble_eq_true rfl, Nat.le_of_ble_eq_true rfl⟩ t0 kd_6 rfl rfl hl.1 rfl (Nat.le_of_ble_eq_true rfl) dX1_standingFrom_90 ⟨Nat.zero_le _, Nat.zero_le _⟩ (fun x23 H locs ix23 hH hS hF1 => ?_)
        have f24 := f20.kept (hF1 _ f20.lt (th_off t0 (by decide)))
        have f25 := f21.kept (hF1 _ f21.lt (th_off trf7 (by decide)))
        refine lv_istore (lv' := [(5, .int x23), (4, .ref rf7), (0, .ref a0), (1, .int y1), (2, .int y2), (3, .int y3)]) hx hb dX1_standingFrom_93 hl (by decide) rfl (fun ls hl => ?_)
        refine lv_aload hx hb dX1_standingFrom_95 (lv_at hl 1 rfl) ?_
        refine th_getK S hK f25 inG7 rfl (by decide) gm_230 rfl dX1_standingFrom_97 ?_
        refine lv_bipush (v := 41) hx hb dX1_standingFrom_100 (by decide) ?_
        refine lv_iconst (v := 1) hx hb dX1_standingFrom_102 (by decide) ?_
        refine th_iast S hK hH hS ⟨29, by decide, trf19⟩ trf19 kd_29 (th_in (hi := 41) (iv_w (iv_c (by decide) : IV 41 41 41) (by decide)) (by decide)) (th_iv (iv_top _)) dX1_standingFrom_103 (fun H locs hH hS hq1 => ?_)
        have f27 := f24.kept (hq1 _ (th_ne t0 trf19 (by decide)))
        have f28 := f25.kept (hq1 _ (th_ne trf7 trf19 (by decide)))
        refine lv_iload hx hb dX1_standingFrom_104 (lv_at hl 0 rfl) ?_
        refine lv_aload_n hx hb dX1_standingFrom_106 rfl (lv_at hl 2 rfl) ?_
        refine lv_iload_n hx hb dX1_standingFrom_107 rfl (lv_at hl 3 rfl) ?_
        refine lv_iconst (v := 1) hx hb dX1_standingFrom_108 (by decide) ?_
        refine lv_iadd hx hb dX1_standingFrom_109 ?_
        refine lv_topi (fun x29 ex29 => ?_)
        have zx29 : x5 = x29 := ex5.trans ex29.symm
        subst zx29
        refine lv_iload_n hx hb dX1_standingFrom_110 rfl (lv_at hl 4 rfl) ?_
        refine lv_iload_n hx hb dX1_standingFrom_111 rfl (lv_at hl 5 rfl) ?_
        refine th_callVi (n := 3) (As := [.int x5, .int y2, .int y3]) S hK hH hS (th_A.sub (by decide)) (m_X1_standingFrom_v6 l D cT T q hq a0 t0 (x5) ix5 (y2) j2 (y3) (iv_w ir17 (by decide))) gm_1128 gm_1125 gm_1127 gm_40 gm_121 (by decide +kernel) ⟨rfl, rfl, Nat.le_of_ble_eq_true rfl, Nat.le_of_ble_eq_true rfl⟩ t0 kd_6 rfl rfl hl.1 rfl (Nat.le_of_ble_eq_true rfl) dX1_standingFrom_112 ⟨Nat.zero_le _, Nat.zero_le _⟩ (fun x30 H locs ix30 hH hS hF1 => ?_)
        have f31 := f27.kept (hF1 _ f27.lt (th_off t0 (by decide)))
        have f32 := f28.kept (hF1 _ f28.lt (th_off trf7 (by decide)))
        refine lv_iadd hx hb dX1_standingFrom_115 ?_
        refine lv_topi (fun x33 ex33 => ?_)
        have ix33 : IV x33 0 64 := by rw [ex33]; exact iv_add ix23 ix30 (by decide)
        exact th_iret S hK hH hS hr hlocks (th_R.i ix33) dX1_standingFrom_116
      · skip
        have ir34 : IV y3 1 1 := iv_vL ir2 ix5 (iv_nlt c16) (by decide)
        refine lv_aload_n hx hb dX1_standingFrom_65 rfl (lv_at hl 1 rfl) ?_
        refine lv_iload_n hx hb dX1_standingFrom_66 rfl (lv_at hl 2 rfl) ?_
        refine lv_iconst (v := 1) hx hb dX1_standingFrom_67 (by decide) ?_
        refine lv_iadd hx hb dX1_standingFrom_68 ?_
        refine lv_topi (fun x35 ex35 => ?_)
        have zx35 : x5 = x35 := ex5.trans ex35.symm
        subst zx35
        refine lv_iload_n hx hb dX1_standingFrom_69 rfl (lv_at hl 3 rfl) ?_
        refine lv_iload_n hx hb dX1_standingFrom_70 rfl (lv_at hl 4 rfl) ?_
        refine th_callVi (n := 3) (As := [.int x5, .int y2, .int y3]) S hK hH hS (th_A.sub (by decide)) (m_X1_standingFrom_v6 l D cT T q hq a0 t0 (x5) ix5 (y2) j2 (y3) (iv_w ir34 (by decide))) gm_1128 gm_1125 gm_1127 gm_40 gm_121 (by decide +kernel) ⟨rfl, rfl, Nat.le_of_ble_eq_true rfl, Nat.le_of_ble_eq_true rfl⟩ t0 kd_6 rfl rfl hl.1 rfl (Nat.le_of_ble_eq_true rfl) dX1_standingFrom_71 ⟨Nat.zero_le _, Nat.zero_le _⟩ (fun x36 H locs ix36 hH hS hF1 => ?_)
        have f37 := f14.kept (hF1 _ f14.lt (th_off t0 (by decide)))
        exact th_iret S hK hH hS hr hlocks (th_R.i (iv_w ix36 (by decide))) dX1_standingFrom_74
    · skip
      have ir38 : IV y3 0 0 := iv_vL j3 j1 (iv_nlt c1) (by decide)
      refine lv_aload_n hx hb dX1_standingFrom_5 rfl (lv_at hl 0 rfl) ?_
      refine th_get S hK hH inG1 t0 kd_6 rfl 1 (by decide) gm_409 rfl rfl dX1_standingFrom_6 (fun v39 hv39 fv39 => ?_)
      obtain ⟨rf40, rfl, trf40⟩ := th_V.ref hv39
      refine lv_iload_n hx hb dX1_standingFrom_9 rfl (lv_at hl 1 rfl) ?_
      refine th_aald S hK hH trf40 kd_31 (th_in (hi := 0) j1 (by decide)) dX1_standingFrom_10 (fun v41 hv41 => ?_)
      obtain ⟨rf42, rfl, trf42⟩ := th_V.ref hv41
      refine th_get S hK hH inG7 trf42 kd_10 rfl 0 (by decide) gm_230 rfl rfl dX1_standingFrom_11 (fun v43 hv43 fv43 => ?_)
      obtain ⟨rf44, rfl, trf44⟩ := th_V.ref hv43
      refine lv_bipush (v := 15) hx hb dX1_standingFrom_14 (by decide) ?_
      refine lv_iload_n hx hb dX1_standingFrom_16 rfl (lv_at hl 2 rfl) ?_
      refine lv_iadd hx hb dX1_standingFrom_17 ?_
      refine lv_topi (fun x45 ex45 => ?_)
      have ix45 : IV x45 15 22 := by rw [ex45]; exact iv_add (iv_c (by decide) : IV 15 15 15) j2 (by decide)
      refine th_iald S hK hH trf44 kd_29 (th_in (hi := 22) (iv_w ix45 (by decide)) (by decide)) dX1_standingFrom_18 (fun v46 hv46 => ?_)
      obtain ⟨x47, rfl, ix47⟩ := th_V.int hv46
      refine lv_if_le (tgt := 26) hx hb dX1_standingFrom_19 (by decide) (fun c48 => ?_) (fun c48 => ?_)
      · skip
        have ir49 : IV x47 (-2147483648) 0 := iv_vL ix47 (iv_c (by decide) : IV 0 0 0) (iv_le c48) (by decide)
        refine lv_iconst (v := 0) hx hb dX1_standingFrom_26 (by decide) ?_
        exact J27_s0_0 H locs ls  hH hS (lv_sub hl [] rfl)
      · skip
        have ir50 : IV x47 1 2147483647 := iv_uR (iv_c (by decide) : IV 0 0 0) ix47 (iv_nle c48) (by decide)
        refine lv_iconst (v := 1) hx hb dX1_standingFrom_22 (by decide) ?_
        refine lv_goto (tgt := 27) hx hb dX1_standingFrom_23 (by decide) ?_
        exact J27_s0_1 H locs ls  hH hS (lv_sub hl [] rfl)
  exact J0 s.heap [] ls hH va_S.rf hl

set_option maxRecDepth 100000 in
theorem m_X1_standing (l : Launch) (D : va_G) (cT : Nat → ClassId) (T : Nat → Option Nat) (q : Nat → Int) (hq : qok q) (a0 : Nat) (t0 : T a0 = some 6) (a1 : Nat) (t1 : T a1 = some 10) (y2 : Int32) (j2 : IV y2 0 7) (y3 : Int32) (j3 : IV y3 0 7) : th_Met l D cT T (kd q) yX1_standing cX1_standing 4 (some .int) (rmk 12 301) [.ref a0, .ref a1, .int y2, .int y3] (th_R T (some (.inl (0, 64)))) [18, 19, 29] := by
  refine th_start (by decide) (Nat.le_of_ble_eq_true rfl) ?_
  intro p e s m below meth c ls S hK hH hr hlocks hnm hl
  have hx := S.1
  have hb := S.2.1
  have hl : lv_has ls 4 [(0, .ref a0), (1, .ref a1), (2, .int y2), (3, .int y3)] := hl
  have J0 : ∀ (H : Heap) (locs : List Loc) (ls : Array Slot), th_H D cT T (kd q) H → va_S (th_A T [18, 19, 29]) s.heap H locs → lv_has ls 4 [(0, .ref a0), (1, .ref a1), (2, .int y2), (3, .int y3)] → W p l e (rmk 12 301) s m [.ref a0, .ref a1, .int y2, .int y3].toArray below meth c H locs 0 0 (MQ below (th_Q D cT T (kd q) (th_R T (some (.inl (0, 64)))) [18, 19, 29]) [.ref a0, .ref a1, .int y2, .int y3].toArray s 0 0 (th_A T [18, 19, 29])) (F0 m 0 ls []) := by
    intro H locs ls hH hS hl
    refine lv_aload_n hx hb dX1_standing_0 rfl (lv_at hl 0 rfl) ?_
    refine th_get S hK hH inG1 t0 kd_6 rfl 1 (by decide) gm_409 rfl rfl dX1_standing_1 (fun v1 hv1 fv1 => ?_)
    obtain ⟨rf2, rfl, trf2⟩ := th_V.ref hv1
    refine lv_iconst (v := 0) hx hb dX1_standing_4 (by decide) ?_
    refine th_aald S hK hH trf2 kd_31 (th_in (hi := 0) (iv_c (by decide) : IV 0 0 0) (by decide)) dX1_standing_5 (fun v3 hv3 => ?_)
    obtain ⟨rf4, rfl, trf4⟩ := th_V.ref hv3
    refine lv_aload_n hx hb dX1_standing_6 rfl (lv_at hl 1 rfl) ?_
    refine th_callVv (n := 1) (As := [.ref a1]) S hK hH hS (th_A.sub (by decide)) (m_X7_copyFrom l D cT T q hq rf4 trf4 a1 t1) gm_809 gm_980 gm_807 gm_808 gm_118 (by decide +kernel) ⟨rfl, rfl, Nat.le_of_ble_eq_true rfl, Nat.le_of_ble_eq_true rfl⟩ trf4 kd_10 rfl rfl hl.1 rfl (Nat.le_of_ble_eq_true rfl) dX1_standing_7 ⟨Nat.zero_le _, Nat.zero_le _⟩ (fun H locs hH hS hF1 => ?_)
    refine lv_aload_n hx hb dX1_standing_10 rfl (lv_at hl 0 rfl) ?_
    refine lv_iconst (v := 0) hx hb dX1_standing_11 (by decide) ?_
    refine lv_iload_n hx hb dX1_standing_12 rfl (lv_at hl 2 rfl) ?_
    refine lv_iload_n hx hb dX1_standing_13 rfl (lv_at hl 3 rfl) ?_
    refine lv_bipush (v := 7) hx hb dX1_standing_14 (by decide) ?_
    refine va_mmin hx hb (S.2.2.1.trans hl.1.symm) S.2.2.2.1 (S.2.2.2.2 _ gm_1124) (S.2.2.2.2 _ gm_649) (S.2.2.2.2 _ gm_129) (S.2.2.2.2 _ gm_650) (Nat.le_of_ble_eq_true rfl) (Nat.le_of_ble_eq_true rfl) (Nat.zero_le _) (Nat.zero_le _) dX1_standing_16 ?_
    refine lv_topi (fun x5 ex5 => ?_)
    have ix5 : IV x5 0 7 := by rw [ex5]; exact iv_min j3 (iv_c (by decide) : IV 7 7 7) (by decide)
    refine th_callVi (n := 3) (As := [.int 0, .int y2, .int x5]) S hK hH hS (th_A.sub (by decide)) (m_X1_standingFrom_v7 l D cT T q hq a0 t0 (0) (iv_c (by decide) : IV 0 0 0) (y2) j2 (x5) ix5) gm_1128 gm_1125 gm_1127 gm_40 gm_121 (by decide +kernel) ⟨rfl, rfl, Nat.le_of_ble_eq_true rfl, Nat.le_of_ble_eq_true rfl⟩ t0 kd_6 rfl rfl hl.1 rfl (Nat.le_of_ble_eq_true rfl) dX1_standing_19 ⟨Nat.zero_le _, Nat.zero_le _⟩ (fun x6 H locs ix6 hH hS hF1 => ?_)
    exact th_iret S hK hH hS hr hlocks (th_R.i ix6) dX1_standing_22
  exact J0 s.heap [] ls hH va_S.rf hl

set_option maxRecDepth 100000 in
theorem m_J7_fill_53178_v0 (l : Launch) (D : va_G) (cT : Nat → ClassId) (T : Nat → Option Nat) (q : Nat → Int) (hq : qok q) (a0 : Nat) (t0 : T a0 = some 52) (y1 : Int32) (j1 : IV y1 (-2147483648) 2147483647) : th_Met l D cT T (kd q) yJ7_fill_53178 cJ7_fill_53178 4 none (rmk 0 0) [.ref a0, .int y1] (th_R T none) [52] := by
  refine th_start (by decide) (Nat.le_of_ble_eq_true rfl) ?_
  intro p e s m below meth c ls S hK hH hr hlocks hnm hl
  have hx := S.1
  have hb := S.2.1
  have hl : lv_has ls 4 [(0, .ref a0), (1, .int y1)] := hl
  have J5 : ∀ (n : Nat) (H : Heap) (locs : List Loc) (ls : Array Slot) (v5_2 : Int32) (v5_3 : Int32), IV v5_2 0 8 → IV v5_3 8 8 → th_H D cT T (kd q) H → va_S (th_A T [52]) s.heap H locs → lv_has ls 4 [(0, .ref a0), (1, .int y1), (2, .int v5_2), (3, .int v5_3)] → (8 + 1 - v5_2.toInt).toNat < n → W p l e (rmk 0 0) s m [.ref a0, .int y1].toArray below meth c H locs 0 0 (MQ below (th_Q D cT T (kd q) (th_R T none) [52]) [.ref a0, .int y1].toArray s 0 0 (th_A T [52])) (F0 m 5 ls []) := by
    intro n
    induction n with
    | zero => intro H locs ls v5_2 v5_3 iv5_2 iv5_3 hH hS hl hn; exact absurd hn (Nat.not_lt_zero _)
    | succ n ih5 =>
      intro H locs ls v5_2 v5_3 iv5_2 iv5_3 hH hS hl hn5
      refine lv_iload_n hx hb dJ7_fill_53178_5 rfl (lv_at hl 2 rfl) ?_
      refine lv_iload_n hx hb dJ7_fill_53178_6 rfl (lv_at hl 3 rfl) ?_
      refine lv_icmp_ge (tgt := 20) hx hb dJ7_fill_53178_7 (by decide) (fun c1 => ?_) (fun c1 => ?_)
      · skip
        have ir2 : IV v5_2 8 8 := iv_vR iv5_3 iv5_2 (iv_le c1) (by decide)
        exact th_vret S hK hH hS hr hlocks rfl dJ7_fill_53178_20
      · skip
        have ir3 : IV v5_2 0 7 := iv_uL iv5_2 iv5_3 (iv_nle c1) (by decide)
        refine lv_aload_n hx hb dJ7_fill_53178_10 rfl (lv_at hl 0 rfl) ?_
        refine lv_iload_n hx hb dJ7_fill_53178_11 rfl (lv_at hl 2 rfl) ?_
        refine lv_iload_n hx hb dJ7_fill_53178_12 rfl (lv_at hl 1 rfl) ?_
        refine th_iast S hK hH hS ⟨52, by decide, t0⟩ t0 kd_52 (th_in (hi := 7) ir3 (by decide)) (th_iv j1) dJ7_fill_53178_13 (fun H locs hH hS hq1 => ?_)
        refine th_iinc S dJ7_fill_53178_14 hl (k := 2) rfl (by decide) ir3 (by decide) (fun x4 ls ex4 ix4 hl => ?_)
        have hl : lv_has ls 4 [(2, .int x4), (0, .ref a0), (1, .int y1), (3, .int v5_3)] := hl
        have ix4 : IV x4 1 8 := ix4
        refine lv_goto (tgt := 5) hx hb dJ7_fill_53178_17 (by decide) ?_
        exact ih5 H locs ls x4 v5_3 (iv_w ix4 (by decide)) iv5_3 hH hS (lv_sub hl [1, 2, 0, 3] rfl) (th_up iv5_2 ex4 (by decide) hn5)
  have J0 : ∀ (H : Heap) (locs : List Loc) (ls : Array Slot), th_H D cT T (kd q) H → va_S (th_A T [52]) s.heap H locs → lv_has ls 4 [(0, .ref a0), (1, .int y1)] → W p l e (rmk 0 0) s m [.ref a0, .int y1].toArray below meth c H locs 0 0 (MQ below (th_Q D cT T (kd q) (th_R T none) [52]) [.ref a0, .int y1].toArray s 0 0 (th_A T [52])) (F0 m 0 ls []) := by
    intro H locs ls hH hS hl
    refine lv_iconst (v := 0) hx hb dJ7_fill_53178_0 (by decide) ?_
    refine lv_istore_n (lv' := [(2, .int 0), (0, .ref a0), (1, .int y1)]) hx hb dJ7_fill_53178_1 rfl hl (by decide) rfl (fun ls hl => ?_)
    refine lv_aload_n hx hb dJ7_fill_53178_2 rfl (lv_at hl 1 rfl) ?_
    refine th_alen S hK hH t0 kd_52 rfl (v := 8) (by decide) dJ7_fill_53178_3 ?_
    refine lv_istore_n (lv' := [(3, .int 8), (2, .int 0), (0, .ref a0), (1, .int y1)]) hx hb dJ7_fill_53178_4 rfl hl (by decide) rfl (fun ls hl => ?_)
    exact J5 ((8 + 1 - Int32.toInt 0).toNat + 1) H locs ls 0 8 (iv_w (iv_c (by decide) : IV 0 0 0) (by decide)) (iv_c (by decide) : IV 8 8 8) hH hS (lv_sub hl [2, 3, 1, 0] rfl) (Nat.lt_succ_self _)
  exact J0 s.heap [] ls hH va_S.rf hl

set_option maxRecDepth 100000 in
theorem m_J7_fill_53178_v1 (l : Launch) (D : va_G) (cT : Nat → ClassId) (T : Nat → Option Nat) (q : Nat → Int) (hq : qok q) (a0 : Nat) (t0 : T a0 = some 53) (y1 : Int32) (j1 : IV y1 (-2147483648) 2147483647) : th_Met l D cT T (kd q) yJ7_fill_53178 cJ7_fill_53178 4 none (rmk 0 0) [.ref a0, .int y1] (th_R T none) [53] := by
  refine th_start (by decide) (Nat.le_of_ble_eq_true rfl) ?_
  intro p e s m below meth c ls S hK hH hr hlocks hnm hl
  have hx := S.1
  have hb := S.2.1
  have hl : lv_has ls 4 [(0, .ref a0), (1, .int y1)] := hl
  have J5 : ∀ (n : Nat) (H : Heap) (locs : List Loc) (ls : Array Slot) (v5_2 : Int32) (v5_3 : Int32), IV v5_2 0 4 → IV v5_3 4 4 → th_H D cT T (kd q) H → va_S (th_A T [53]) s.heap H locs → lv_has ls 4 [(0, .ref a0), (1, .int y1), (2, .int v5_2), (3, .int v5_3)] → (4 + 1 - v5_2.toInt).toNat < n → W p l e (rmk 0 0) s m [.ref a0, .int y1].toArray below meth c H locs 0 0 (MQ below (th_Q D cT T (kd q) (th_R T none) [53]) [.ref a0, .int y1].toArray s 0 0 (th_A T [53])) (F0 m 5 ls []) := by
    intro n
    induction n with
    | zero => intro H locs ls v5_2 v5_3 iv5_2 iv5_3 hH hS hl hn; exact absurd hn (Nat.not_lt_zero _)
    | succ n ih5 =>
      intro H locs ls v5_2 v5_3 iv5_2 iv5_3 hH hS hl hn5
      refine lv_iload_n hx hb dJ7_fill_53178_5 rfl (lv_at hl 2 rfl) ?_
      refine lv_iload_n hx hb dJ7_fill_53178_6 rfl (lv_at hl 3 rfl) ?_
      refine lv_icmp_ge (tgt := 20) hx hb dJ7_fill_53178_7 (by decide) (fun c1 => ?_) (fun c1 => ?_)
      · skip
        have ir2 : IV v5_2 4 4 := iv_vR iv5_3 iv5_2 (iv_le c1) (by decide)
        exact th_vret S hK hH hS hr hlocks rfl dJ7_fill_53178_20
      · skip
        have ir3 : IV v5_2 0 3 := iv_uL iv5_2 iv5_3 (iv_nle c1) (by decide)
        refine lv_aload_n hx hb dJ7_fill_53178_10 rfl (lv_at hl 0 rfl) ?_
        refine lv_iload_n hx hb dJ7_fill_53178_11 rfl (lv_at hl 2 rfl) ?_
        refine lv_iload_n hx hb dJ7_fill_53178_12 rfl (lv_at hl 1 rfl) ?_
        refine th_iast S hK hH hS ⟨53, by decide, t0⟩ t0 kd_53 (th_in (hi := 3) ir3 (by decide)) (th_iv j1) dJ7_fill_53178_13 (fun H locs hH hS hq1 => ?_)
        refine th_iinc S dJ7_fill_53178_14 hl (k := 2) rfl (by decide) ir3 (by decide) (fun x4 ls ex4 ix4 hl => ?_)
        have hl : lv_has ls 4 [(2, .int x4), (0, .ref a0), (1, .int y1), (3, .int v5_3)] := hl
        have ix4 : IV x4 1 4 := ix4
        refine lv_goto (tgt := 5) hx hb dJ7_fill_53178_17 (by decide) ?_
        exact ih5 H locs ls x4 v5_3 (iv_w ix4 (by decide)) iv5_3 hH hS (lv_sub hl [1, 2, 0, 3] rfl) (th_up iv5_2 ex4 (by decide) hn5)
  have J0 : ∀ (H : Heap) (locs : List Loc) (ls : Array Slot), th_H D cT T (kd q) H → va_S (th_A T [53]) s.heap H locs → lv_has ls 4 [(0, .ref a0), (1, .int y1)] → W p l e (rmk 0 0) s m [.ref a0, .int y1].toArray below meth c H locs 0 0 (MQ below (th_Q D cT T (kd q) (th_R T none) [53]) [.ref a0, .int y1].toArray s 0 0 (th_A T [53])) (F0 m 0 ls []) := by
    intro H locs ls hH hS hl
    refine lv_iconst (v := 0) hx hb dJ7_fill_53178_0 (by decide) ?_
    refine lv_istore_n (lv' := [(2, .int 0), (0, .ref a0), (1, .int y1)]) hx hb dJ7_fill_53178_1 rfl hl (by decide) rfl (fun ls hl => ?_)
    refine lv_aload_n hx hb dJ7_fill_53178_2 rfl (lv_at hl 1 rfl) ?_
    refine th_alen S hK hH t0 kd_53 rfl (v := 4) (by decide) dJ7_fill_53178_3 ?_
    refine lv_istore_n (lv' := [(3, .int 4), (2, .int 0), (0, .ref a0), (1, .int y1)]) hx hb dJ7_fill_53178_4 rfl hl (by decide) rfl (fun ls hl => ?_)
    exact J5 ((4 + 1 - Int32.toInt 0).toNat + 1) H locs ls 0 4 (iv_w (iv_c (by decide) : IV 0 0 0) (by decide)) (iv_c (by decide) : IV 4 4 4) hH hS (lv_sub hl [2, 3, 1, 0] rfl) (Nat.lt_succ_self _)
  exact J0 s.heap [] ls hH va_S.rf hl

set_option maxRecDepth 100000 in
theorem m_J7_fill_53178_v2 (l : Launch) (D : va_G) (cT : Nat → ClassId) (T : Nat → Option Nat) (q : Nat → Int) (hq : qok q) (a0 : Nat) (t0 : T a0 = some 54) (y1 : Int32) (j1 : IV y1 (-2147483648) 2147483647) : th_Met l D cT T (kd q) yJ7_fill_53178 cJ7_fill_53178 4 none (rmk 0 0) [.ref a0, .int y1] (th_R T none) [54] := by
  refine th_start (by decide) (Nat.le_of_ble_eq_true rfl) ?_
  intro p e s m below meth c ls S hK hH hr hlocks hnm hl
  have hx := S.1
  have hb := S.2.1
  have hl : lv_has ls 4 [(0, .ref a0), (1, .int y1)] := hl
  have J5 : ∀ (n : Nat) (H : Heap) (locs : List Loc) (ls : Array Slot) (v5_2 : Int32) (v5_3 : Int32), IV v5_2 0 4 → IV v5_3 4 4 → th_H D cT T (kd q) H → va_S (th_A T [54]) s.heap H locs → lv_has ls 4 [(0, .ref a0), (1, .int y1), (2, .int v5_2), (3, .int v5_3)] → (4 + 1 - v5_2.toInt).toNat < n → W p l e (rmk 0 0) s m [.ref a0, .int y1].toArray below meth c H locs 0 0 (MQ below (th_Q D cT T (kd q) (th_R T none) [54]) [.ref a0, .int y1].toArray s 0 0 (th_A T [54])) (F0 m 5 ls []) := by
    intro n
    induction n with
    | zero => intro H locs ls v5_2 v5_3 iv5_2 iv5_3 hH hS hl hn; exact absurd hn (Nat.not_lt_zero _)
    | succ n ih5 =>
      intro H locs ls v5_2 v5_3 iv5_2 iv5_3 hH hS hl hn5
      refine lv_iload_n hx hb dJ7_fill_53178_5 rfl (lv_at hl 2 rfl) ?_
      refine lv_iload_n hx hb dJ7_fill_53178_6 rfl (lv_at hl 3 rfl) ?_
      refine lv_icmp_ge (tgt := 20) hx hb dJ7_fill_53178_7 (by decide) (fun c1 => ?_) (fun c1 => ?_)
      · skip
        have ir2 : IV v5_2 4 4 := iv_vR iv5_3 iv5_2 (iv_le c1) (by decide)
        exact th_vret S hK hH hS hr hlocks rfl dJ7_fill_53178_20
      · skip
        have ir3 : IV v5_2 0 3 := iv_uL iv5_2 iv5_3 (iv_nle c1) (by decide)
        refine lv_aload_n hx hb dJ7_fill_53178_10 rfl (lv_at hl 0 rfl) ?_
        refine lv_iload_n hx hb dJ7_fill_53178_11 rfl (lv_at hl 2 rfl) ?_
        refine lv_iload_n hx hb dJ7_fill_53178_12 rfl (lv_at hl 1 rfl) ?_
        refine th_iast S hK hH hS ⟨54, by decide, t0⟩ t0 kd_54 (th_in (hi := 3) ir3 (by decide)) (th_iv j1) dJ7_fill_53178_13 (fun H locs hH hS hq1 => ?_)
        refine th_iinc S dJ7_fill_53178_14 hl (k := 2) rfl (by decide) ir3 (by decide) (fun x4 ls ex4 ix4 hl => ?_)
        have hl : lv_has ls 4 [(2, .int x4), (0, .ref a0), (1, .int y1), (3, .int v5_3)] := hl
        have ix4 : IV x4 1 4 := ix4
        refine lv_goto (tgt := 5) hx hb dJ7_fill_53178_17 (by decide) ?_
        exact ih5 H locs ls x4 v5_3 (iv_w ix4 (by decide)) iv5_3 hH hS (lv_sub hl [1, 2, 0, 3] rfl) (th_up iv5_2 ex4 (by decide) hn5)
  have J0 : ∀ (H : Heap) (locs : List Loc) (ls : Array Slot), th_H D cT T (kd q) H → va_S (th_A T [54]) s.heap H locs → lv_has ls 4 [(0, .ref a0), (1, .int y1)] → W p l e (rmk 0 0) s m [.ref a0, .int y1].toArray below meth c H locs 0 0 (MQ below (th_Q D cT T (kd q) (th_R T none) [54]) [.ref a0, .int y1].toArray s 0 0 (th_A T [54])) (F0 m 0 ls []) := by
    intro H locs ls hH hS hl
    refine lv_iconst (v := 0) hx hb dJ7_fill_53178_0 (by decide) ?_
    refine lv_istore_n (lv' := [(2, .int 0), (0, .ref a0), (1, .int y1)]) hx hb dJ7_fill_53178_1 rfl hl (by decide) rfl (fun ls hl => ?_)
    refine lv_aload_n hx hb dJ7_fill_53178_2 rfl (lv_at hl 1 rfl) ?_
    refine th_alen S hK hH t0 kd_54 rfl (v := 4) (by decide) dJ7_fill_53178_3 ?_
    refine lv_istore_n (lv' := [(3, .int 4), (2, .int 0), (0, .ref a0), (1, .int y1)]) hx hb dJ7_fill_53178_4 rfl hl (by decide) rfl (fun ls hl => ?_)
    exact J5 ((4 + 1 - Int32.toInt 0).toNat + 1) H locs ls 0 4 (iv_w (iv_c (by decide) : IV 0 0 0) (by decide)) (iv_c (by decide) : IV 4 4 4) hH hS (lv_sub hl [2, 3, 1, 0] rfl) (Nat.lt_succ_self _)
  exact J0 s.heap [] ls hH va_S.rf hl

set_option maxRecDepth 100000 in
theorem m_J7_fill_53178_v3 (l : Launch) (D : va_G) (cT : Nat → ClassId) (T : Nat → Option Nat) (q : Nat → Int) (hq : qok q) (a0 : Nat) (t0 : T a0 = some 55) (y1 : Int32) (j1 : IV y1 (-2147483648) 2147483647) : th_Met l D cT T (kd q) yJ7_fill_53178 cJ7_fill_53178 4 none (rmk 0 0) [.ref a0, .int y1] (th_R T none) [55] := by
  refine th_start (by decide) (Nat.le_of_ble_eq_true rfl) ?_
  intro p e s m below meth c ls S hK hH hr hlocks hnm hl
  have hx := S.1
  have hb := S.2.1
  have hl : lv_has ls 4 [(0, .ref a0), (1, .int y1)] := hl
  have J5 : ∀ (n : Nat) (H : Heap) (locs : List Loc) (ls : Array Slot) (v5_2 : Int32) (v5_3 : Int32), IV v5_2 0 12 → IV v5_3 12 12 → th_H D cT T (kd q) H → va_S (th_A T [55]) s.heap H locs → lv_has ls 4 [(0, .ref a0), (1, .int y1), (2, .int v5_2), (3, .int v5_3)] → (12 + 1 - v5_2.toInt).toNat < n → W p l e (rmk 0 0) s m [.ref a0, .int y1].toArray below meth c H locs 0 0 (MQ below (th_Q D cT T (kd q) (th_R T none) [55]) [.ref a0, .int y1].toArray s 0 0 (th_A T [55])) (F0 m 5 ls []) := by
    intro n
    induction n with
    | zero => intro H locs ls v5_2 v5_3 iv5_2 iv5_3 hH hS hl hn; exact absurd hn (Nat.not_lt_zero _)
    | succ n ih5 =>
      intro H locs ls v5_2 v5_3 iv5_2 iv5_3 hH hS hl hn5
      refine lv_iload_n hx hb dJ7_fill_53178_5 rfl (lv_at hl 2 rfl) ?_
      refine lv_iload_n hx hb dJ7_fill_53178_6 rfl (lv_at hl 3 rfl) ?_
      refine lv_icmp_ge (tgt := 20) hx hb dJ7_fill_53178_7 (by decide) (fun c1 => ?_) (fun c1 => ?_)
      · skip
        have ir2 : IV v5_2 12 12 := iv_vR iv5_3 iv5_2 (iv_le c1) (by decide)
        exact th_vret S hK hH hS hr hlocks rfl dJ7_fill_53178_20
      · skip
        have ir3 : IV v5_2 0 11 := iv_uL iv5_2 iv5_3 (iv_nle c1) (by decide)
        refine lv_aload_n hx hb dJ7_fill_53178_10 rfl (lv_at hl 0 rfl) ?_
        refine lv_iload_n hx hb dJ7_fill_53178_11 rfl (lv_at hl 2 rfl) ?_
        refine lv_iload_n hx hb dJ7_fill_53178_12 rfl (lv_at hl 1 rfl) ?_
        refine th_iast S hK hH hS ⟨55, by decide, t0⟩ t0 kd_55 (th_in (hi := 11) ir3 (by decide)) (th_iv j1) dJ7_fill_53178_13 (fun H locs hH hS hq1 => ?_)
        refine th_iinc S dJ7_fill_53178_14 hl (k := 2) rfl (by decide) ir3 (by decide) (fun x4 ls ex4 ix4 hl => ?_)
        have hl : lv_has ls 4 [(2, .int x4), (0, .ref a0), (1, .int y1), (3, .int v5_3)] := hl
        have ix4 : IV x4 1 12 := ix4
        refine lv_goto (tgt := 5) hx hb dJ7_fill_53178_17 (by decide) ?_
        exact ih5 H locs ls x4 v5_3 (iv_w ix4 (by decide)) iv5_3 hH hS (lv_sub hl [1, 2, 0, 3] rfl) (th_up iv5_2 ex4 (by decide) hn5)
  have J0 : ∀ (H : Heap) (locs : List Loc) (ls : Array Slot), th_H D cT T (kd q) H → va_S (th_A T [55]) s.heap H locs → lv_has ls 4 [(0, .ref a0), (1, .int y1)] → W p l e (rmk 0 0) s m [.ref a0, .int y1].toArray below meth c H locs 0 0 (MQ below (th_Q D cT T (kd q) (th_R T none) [55]) [.ref a0, .int y1].toArray s 0 0 (th_A T [55])) (F0 m 0 ls []) := by
    intro H locs ls hH hS hl
    refine lv_iconst (v := 0) hx hb dJ7_fill_53178_0 (by decide) ?_
    refine lv_istore_n (lv' := [(2, .int 0), (0, .ref a0), (1, .int y1)]) hx hb dJ7_fill_53178_1 rfl hl (by decide) rfl (fun ls hl => ?_)
    refine lv_aload_n hx hb dJ7_fill_53178_2 rfl (lv_at hl 1 rfl) ?_
    refine th_alen S hK hH t0 kd_55 rfl (v := 12) (by decide) dJ7_fill_53178_3 ?_
    refine lv_istore_n (lv' := [(3, .int 12), (2, .int 0), (0, .ref a0), (1, .int y1)]) hx hb dJ7_fill_53178_4 rfl hl (by decide) rfl (fun ls hl => ?_)
    exact J5 ((12 + 1 - Int32.toInt 0).toNat + 1) H locs ls 0 12 (iv_w (iv_c (by decide) : IV 0 0 0) (by decide)) (iv_c (by decide) : IV 12 12 12) hH hS (lv_sub hl [2, 3, 1, 0] rfl) (Nat.lt_succ_self _)
  exact J0 s.heap [] ls hH va_S.rf hl

set_option maxRecDepth 100000 in
theorem m_J7_fill_53178_v4 (l : Launch) (D : va_G) (cT : Nat → ClassId) (T : Nat → Option Nat) (q : Nat → Int) (hq : qok q) (a0 : Nat) (t0 : T a0 = some 29) (y1 : Int32) (j1 : IV y1 (-2147483648) 2147483647) : th_Met l D cT T (kd q) yJ7_fill_53178 cJ7_fill_53178 4 none (rmk 0 0) [.ref a0, .int y1] (th_R T none) [29] := by
  refine th_start (by decide) (Nat.le_of_ble_eq_true rfl) ?_
  intro p e s m below meth c ls S hK hH hr hlocks hnm hl
  have hx := S.1
  have hb := S.2.1
  have hl : lv_has ls 4 [(0, .ref a0), (1, .int y1)] := hl
  have J5 : ∀ (n : Nat) (H : Heap) (locs : List Loc) (ls : Array Slot) (v5_2 : Int32) (v5_3 : Int32), IV v5_2 0 43 → IV v5_3 43 43 → th_H D cT T (kd q) H → va_S (th_A T [29]) s.heap H locs → lv_has ls 4 [(0, .ref a0), (1, .int y1), (2, .int v5_2), (3, .int v5_3)] → (43 + 1 - v5_2.toInt).toNat < n → W p l e (rmk 0 0) s m [.ref a0, .int y1].toArray below meth c H locs 0 0 (MQ below (th_Q D cT T (kd q) (th_R T none) [29]) [.ref a0, .int y1].toArray s 0 0 (th_A T [29])) (F0 m 5 ls []) := by
    intro n
    induction n with
    | zero => intro H locs ls v5_2 v5_3 iv5_2 iv5_3 hH hS hl hn; exact absurd hn (Nat.not_lt_zero _)
    | succ n ih5 =>
      intro H locs ls v5_2 v5_3 iv5_2 iv5_3 hH hS hl hn5
      refine lv_iload_n hx hb dJ7_fill_53178_5 rfl (lv_at hl 2 rfl) ?_
      refine lv_iload_n hx hb dJ7_fill_53178_6 rfl (lv_at hl 3 rfl) ?_
      refine lv_icmp_ge (tgt := 20) hx hb dJ7_fill_53178_7 (by decide) (fun c1 => ?_) (fun c1 => ?_)
      · skip
        have ir2 : IV v5_2 43 43 := iv_vR iv5_3 iv5_2 (iv_le c1) (by decide)
        exact th_vret S hK hH hS hr hlocks rfl dJ7_fill_53178_20
      · skip
        have ir3 : IV v5_2 0 42 := iv_uL iv5_2 iv5_3 (iv_nle c1) (by decide)
        refine lv_aload_n hx hb dJ7_fill_53178_10 rfl (lv_at hl 0 rfl) ?_
        refine lv_iload_n hx hb dJ7_fill_53178_11 rfl (lv_at hl 2 rfl) ?_
        refine lv_iload_n hx hb dJ7_fill_53178_12 rfl (lv_at hl 1 rfl) ?_
        refine th_iast S hK hH hS ⟨29, by decide, t0⟩ t0 kd_29 (th_in (hi := 42) ir3 (by decide)) (th_iv j1) dJ7_fill_53178_13 (fun H locs hH hS hq1 => ?_)
        refine th_iinc S dJ7_fill_53178_14 hl (k := 2) rfl (by decide) ir3 (by decide) (fun x4 ls ex4 ix4 hl => ?_)
        have hl : lv_has ls 4 [(2, .int x4), (0, .ref a0), (1, .int y1), (3, .int v5_3)] := hl
        have ix4 : IV x4 1 43 := ix4
        refine lv_goto (tgt := 5) hx hb dJ7_fill_53178_17 (by decide) ?_
        exact ih5 H locs ls x4 v5_3 (iv_w ix4 (by decide)) iv5_3 hH hS (lv_sub hl [1, 2, 0, 3] rfl) (th_up iv5_2 ex4 (by decide) hn5)
  have J0 : ∀ (H : Heap) (locs : List Loc) (ls : Array Slot), th_H D cT T (kd q) H → va_S (th_A T [29]) s.heap H locs → lv_has ls 4 [(0, .ref a0), (1, .int y1)] → W p l e (rmk 0 0) s m [.ref a0, .int y1].toArray below meth c H locs 0 0 (MQ below (th_Q D cT T (kd q) (th_R T none) [29]) [.ref a0, .int y1].toArray s 0 0 (th_A T [29])) (F0 m 0 ls []) := by
    intro H locs ls hH hS hl
    refine lv_iconst (v := 0) hx hb dJ7_fill_53178_0 (by decide) ?_
    refine lv_istore_n (lv' := [(2, .int 0), (0, .ref a0), (1, .int y1)]) hx hb dJ7_fill_53178_1 rfl hl (by decide) rfl (fun ls hl => ?_)
    refine lv_aload_n hx hb dJ7_fill_53178_2 rfl (lv_at hl 1 rfl) ?_
    refine th_alen S hK hH t0 kd_29 rfl (v := 43) (by decide) dJ7_fill_53178_3 ?_
    refine lv_istore_n (lv' := [(3, .int 43), (2, .int 0), (0, .ref a0), (1, .int y1)]) hx hb dJ7_fill_53178_4 rfl hl (by decide) rfl (fun ls hl => ?_)
    exact J5 ((43 + 1 - Int32.toInt 0).toNat + 1) H locs ls 0 43 (iv_w (iv_c (by decide) : IV 0 0 0) (by decide)) (iv_c (by decide) : IV 43 43 43) hH hS (lv_sub hl [2, 3, 1, 0] rfl) (Nat.lt_succ_self _)
  exact J0 s.heap [] ls hH va_S.rf hl

set_option maxRecDepth 100000 in
theorem m_J7_fill_53178_v5 (l : Launch) (D : va_G) (cT : Nat → ClassId) (T : Nat → Option Nat) (q : Nat → Int) (hq : qok q) (a0 : Nat) (t0 : T a0 = some 45) (y1 : Int32) (j1 : IV y1 (-2147483648) 2147483647) : th_Met l D cT T (kd q) yJ7_fill_53178 cJ7_fill_53178 4 none (rmk 0 0) [.ref a0, .int y1] (th_R T none) [45] := by
  refine th_start (by decide) (Nat.le_of_ble_eq_true rfl) ?_
  intro p e s m below meth c ls S hK hH hr hlocks hnm hl
  have hx := S.1
  have hb := S.2.1
  have hl : lv_has ls 4 [(0, .ref a0), (1, .int y1)] := hl
  have J5 : ∀ (n : Nat) (H : Heap) (locs : List Loc) (ls : Array Slot) (v5_2 : Int32) (v5_3 : Int32), IV v5_2 0 18 → IV v5_3 18 18 → th_H D cT T (kd q) H → va_S (th_A T [45]) s.heap H locs → lv_has ls 4 [(0, .ref a0), (1, .int y1), (2, .int v5_2), (3, .int v5_3)] → (18 + 1 - v5_2.toInt).toNat < n → W p l e (rmk 0 0) s m [.ref a0, .int y1].toArray below meth c H locs 0 0 (MQ below (th_Q D cT T (kd q) (th_R T none) [45]) [.ref a0, .int y1].toArray s 0 0 (th_A T [45])) (F0 m 5 ls []) := by
    intro n
    induction n with
    | zero => intro H locs ls v5_2 v5_3 iv5_2 iv5_3 hH hS hl hn; exact absurd hn (Nat.not_lt_zero _)
    | succ n ih5 =>
      intro H locs ls v5_2 v5_3 iv5_2 iv5_3 hH hS hl hn5
      refine lv_iload_n hx hb dJ7_fill_53178_5 rfl (lv_at hl 2 rfl) ?_
      refine lv_iload_n hx hb dJ7_fill_53178_6 rfl (lv_at hl 3 rfl) ?_
      refine lv_icmp_ge (tgt := 20) hx hb dJ7_fill_53178_7 (by decide) (fun c1 => ?_) (fun c1 => ?_)
      · skip
        have ir2 : IV v5_2 18 18 := iv_vR iv5_3 iv5_2 (iv_le c1) (by decide)
        exact th_vret S hK hH hS hr hlocks rfl dJ7_fill_53178_20
      · skip
        have ir3 : IV v5_2 0 17 := iv_uL iv5_2 iv5_3 (iv_nle c1) (by decide)
        refine lv_aload_n hx hb dJ7_fill_53178_10 rfl (lv_at hl 0 rfl) ?_
        refine lv_iload_n hx hb dJ7_fill_53178_11 rfl (lv_at hl 2 rfl) ?_
        refine lv_iload_n hx hb dJ7_fill_53178_12 rfl (lv_at hl 1 rfl) ?_
        refine th_iast S hK hH hS ⟨45, by decide, t0⟩ t0 kd_45 (th_in (hi := 17) ir3 (by decide)) (th_iv j1) dJ7_fill_53178_13 (fun H locs hH hS hq1 => ?_)
        refine th_iinc S dJ7_fill_53178_14 hl (k := 2) rfl (by decide) ir3 (by decide) (fun x4 ls ex4 ix4 hl => ?_)
        have hl : lv_has ls 4 [(2, .int x4), (0, .ref a0), (1, .int y1), (3, .int v5_3)] := hl
        have ix4 : IV x4 1 18 := ix4
        refine lv_goto (tgt := 5) hx hb dJ7_fill_53178_17 (by decide) ?_
        exact ih5 H locs ls x4 v5_3 (iv_w ix4 (by decide)) iv5_3 hH hS (lv_sub hl [1, 2, 0, 3] rfl) (th_up iv5_2 ex4 (by decide) hn5)
  have J0 : ∀ (H : Heap) (locs : List Loc) (ls : Array Slot), th_H D cT T (kd q) H → va_S (th_A T [45]) s.heap H locs → lv_has ls 4 [(0, .ref a0), (1, .int y1)] → W p l e (rmk 0 0) s m [.ref a0, .int y1].toArray below meth c H locs 0 0 (MQ below (th_Q D cT T (kd q) (th_R T none) [45]) [.ref a0, .int y1].toArray s 0 0 (th_A T [45])) (F0 m 0 ls []) := by
    intro H locs ls hH hS hl
    refine lv_iconst (v := 0) hx hb dJ7_fill_53178_0 (by decide) ?_
    refine lv_istore_n (lv' := [(2, .int 0), (0, .ref a0), (1, .int y1)]) hx hb dJ7_fill_53178_1 rfl hl (by decide) rfl (fun ls hl => ?_)
    refine lv_aload_n hx hb dJ7_fill_53178_2 rfl (lv_at hl 1 rfl) ?_
    refine th_alen S hK hH t0 kd_45 rfl (v := 18) (by decide) dJ7_fill_53178_3 ?_
    refine lv_istore_n (lv' := [(3, .int 18), (2, .int 0), (0, .ref a0), (1, .int y1)]) hx hb dJ7_fill_53178_4 rfl hl (by decide) rfl (fun ls hl => ?_)
    exact J5 ((18 + 1 - Int32.toInt 0).toNat + 1) H locs ls 0 18 (iv_w (iv_c (by decide) : IV 0 0 0) (by decide)) (iv_c (by decide) : IV 18 18 18) hH hS (lv_sub hl [2, 3, 1, 0] rfl) (Nat.lt_succ_self _)
  exact J0 s.heap [] ls hH va_S.rf hl

set_option maxRecDepth 100000 in
theorem m_J7_fill_53178_v6 (l : Launch) (D : va_G) (cT : Nat → ClassId) (T : Nat → Option Nat) (q : Nat → Int) (hq : qok q) (a0 : Nat) (t0 : T a0 = some 58) (y1 : Int32) (j1 : IV y1 0 0) : th_Met l D cT T (kd q) yJ7_fill_53178 cJ7_fill_53178 4 none (rmk 0 0) [.ref a0, .int y1] (th_R T none) [58] := by
  refine th_start (by decide) (Nat.le_of_ble_eq_true rfl) ?_
  intro p e s m below meth c ls S hK hH hr hlocks hnm hl
  have hx := S.1
  have hb := S.2.1
  have hl : lv_has ls 4 [(0, .ref a0), (1, .int y1)] := hl
  have J5 : ∀ (n : Nat) (H : Heap) (locs : List Loc) (ls : Array Slot) (v5_2 : Int32) (v5_3 : Int32), IV v5_2 0 5 → IV v5_3 5 5 → th_H D cT T (kd q) H → va_S (th_A T [58]) s.heap H locs → lv_has ls 4 [(0, .ref a0), (1, .int y1), (2, .int v5_2), (3, .int v5_3)] → (5 + 1 - v5_2.toInt).toNat < n → W p l e (rmk 0 0) s m [.ref a0, .int y1].toArray below meth c H locs 0 0 (MQ below (th_Q D cT T (kd q) (th_R T none) [58]) [.ref a0, .int y1].toArray s 0 0 (th_A T [58])) (F0 m 5 ls []) := by
    intro n
    induction n with
    | zero => intro H locs ls v5_2 v5_3 iv5_2 iv5_3 hH hS hl hn; exact absurd hn (Nat.not_lt_zero _)
    | succ n ih5 =>
      intro H locs ls v5_2 v5_3 iv5_2 iv5_3 hH hS hl hn5
      refine lv_iload_n hx hb dJ7_fill_53178_5 rfl (lv_at hl 2 rfl) ?_
      refine lv_iload_n hx hb dJ7_fill_53178_6 rfl (lv_at hl 3 rfl) ?_
      refine lv_icmp_ge (tgt := 20) hx hb dJ7_fill_53178_7 (by decide) (fun c1 => ?_) (fun c1 => ?_)
      · skip
        have ir2 : IV v5_2 5 5 := iv_vR iv5_3 iv5_2 (iv_le c1) (by decide)
        exact th_vret S hK hH hS hr hlocks rfl dJ7_fill_53178_20
      · skip
        have ir3 : IV v5_2 0 4 := iv_uL iv5_2 iv5_3 (iv_nle c1) (by decide)
        refine lv_aload_n hx hb dJ7_fill_53178_10 rfl (lv_at hl 0 rfl) ?_
        refine lv_iload_n hx hb dJ7_fill_53178_11 rfl (lv_at hl 2 rfl) ?_
        refine lv_iload_n hx hb dJ7_fill_53178_12 rfl (lv_at hl 1 rfl) ?_
        refine th_iast S hK hH hS ⟨58, by decide, t0⟩ t0 kd_58 (th_in (hi := 4) ir3 (by decide)) (th_iv (iv_w j1 (by decide))) dJ7_fill_53178_13 (fun H locs hH hS hq1 => ?_)
        refine th_iinc S dJ7_fill_53178_14 hl (k := 2) rfl (by decide) ir3 (by decide) (fun x4 ls ex4 ix4 hl => ?_)
        have hl : lv_has ls 4 [(2, .int x4), (0, .ref a0), (1, .int y1), (3, .int v5_3)] := hl
        have ix4 : IV x4 1 5 := ix4
        refine lv_goto (tgt := 5) hx hb dJ7_fill_53178_17 (by decide) ?_
        exact ih5 H locs ls x4 v5_3 (iv_w ix4 (by decide)) iv5_3 hH hS (lv_sub hl [1, 2, 0, 3] rfl) (th_up iv5_2 ex4 (by decide) hn5)
  have J0 : ∀ (H : Heap) (locs : List Loc) (ls : Array Slot), th_H D cT T (kd q) H → va_S (th_A T [58]) s.heap H locs → lv_has ls 4 [(0, .ref a0), (1, .int y1)] → W p l e (rmk 0 0) s m [.ref a0, .int y1].toArray below meth c H locs 0 0 (MQ below (th_Q D cT T (kd q) (th_R T none) [58]) [.ref a0, .int y1].toArray s 0 0 (th_A T [58])) (F0 m 0 ls []) := by
    intro H locs ls hH hS hl
    refine lv_iconst (v := 0) hx hb dJ7_fill_53178_0 (by decide) ?_
    refine lv_istore_n (lv' := [(2, .int 0), (0, .ref a0), (1, .int y1)]) hx hb dJ7_fill_53178_1 rfl hl (by decide) rfl (fun ls hl => ?_)
    refine lv_aload_n hx hb dJ7_fill_53178_2 rfl (lv_at hl 1 rfl) ?_
    refine th_alen S hK hH t0 kd_58 rfl (v := 5) (by decide) dJ7_fill_53178_3 ?_
    refine lv_istore_n (lv' := [(3, .int 5), (2, .int 0), (0, .ref a0), (1, .int y1)]) hx hb dJ7_fill_53178_4 rfl hl (by decide) rfl (fun ls hl => ?_)
    exact J5 ((5 + 1 - Int32.toInt 0).toNat + 1) H locs ls 0 5 (iv_w (iv_c (by decide) : IV 0 0 0) (by decide)) (iv_c (by decide) : IV 5 5 5) hH hS (lv_sub hl [2, 3, 1, 0] rfl) (Nat.lt_succ_self _)
  exact J0 s.heap [] ls hH va_S.rf hl

set_option maxRecDepth 100000 in
theorem m_J7_fill_53178_v7 (l : Launch) (D : va_G) (cT : Nat → ClassId) (T : Nat → Option Nat) (q : Nat → Int) (hq : qok q) (a0 : Nat) (t0 : T a0 = some 59) (y1 : Int32) (j1 : IV y1 0 0) : th_Met l D cT T (kd q) yJ7_fill_53178 cJ7_fill_53178 4 none (rmk 0 0) [.ref a0, .int y1] (th_R T none) [59] := by
  refine th_start (by decide) (Nat.le_of_ble_eq_true rfl) ?_
  intro p e s m below meth c ls S hK hH hr hlocks hnm hl
  have hx := S.1
  have hb := S.2.1
  have hl : lv_has ls 4 [(0, .ref a0), (1, .int y1)] := hl
  have J5 : ∀ (n : Nat) (H : Heap) (locs : List Loc) (ls : Array Slot) (v5_2 : Int32) (v5_3 : Int32), IV v5_2 0 5 → IV v5_3 5 5 → th_H D cT T (kd q) H → va_S (th_A T [59]) s.heap H locs → lv_has ls 4 [(0, .ref a0), (1, .int y1), (2, .int v5_2), (3, .int v5_3)] → (5 + 1 - v5_2.toInt).toNat < n → W p l e (rmk 0 0) s m [.ref a0, .int y1].toArray below meth c H locs 0 0 (MQ below (th_Q D cT T (kd q) (th_R T none) [59]) [.ref a0, .int y1].toArray s 0 0 (th_A T [59])) (F0 m 5 ls []) := by
    intro n
    induction n with
    | zero => intro H locs ls v5_2 v5_3 iv5_2 iv5_3 hH hS hl hn; exact absurd hn (Nat.not_lt_zero _)
    | succ n ih5 =>
      intro H locs ls v5_2 v5_3 iv5_2 iv5_3 hH hS hl hn5
      refine lv_iload_n hx hb dJ7_fill_53178_5 rfl (lv_at hl 2 rfl) ?_
      refine lv_iload_n hx hb dJ7_fill_53178_6 rfl (lv_at hl 3 rfl) ?_
      refine lv_icmp_ge (tgt := 20) hx hb dJ7_fill_53178_7 (by decide) (fun c1 => ?_) (fun c1 => ?_)
      · skip
        have ir2 : IV v5_2 5 5 := iv_vR iv5_3 iv5_2 (iv_le c1) (by decide)
        exact th_vret S hK hH hS hr hlocks rfl dJ7_fill_53178_20
      · skip
        have ir3 : IV v5_2 0 4 := iv_uL iv5_2 iv5_3 (iv_nle c1) (by decide)
        refine lv_aload_n hx hb dJ7_fill_53178_10 rfl (lv_at hl 0 rfl) ?_
        refine lv_iload_n hx hb dJ7_fill_53178_11 rfl (lv_at hl 2 rfl) ?_
        refine lv_iload_n hx hb dJ7_fill_53178_12 rfl (lv_at hl 1 rfl) ?_
        refine th_iast S hK hH hS ⟨59, by decide, t0⟩ t0 kd_59 (th_in (hi := 4) ir3 (by decide)) (th_iv (iv_w j1 (by decide))) dJ7_fill_53178_13 (fun H locs hH hS hq1 => ?_)
        refine th_iinc S dJ7_fill_53178_14 hl (k := 2) rfl (by decide) ir3 (by decide) (fun x4 ls ex4 ix4 hl => ?_)
        have hl : lv_has ls 4 [(2, .int x4), (0, .ref a0), (1, .int y1), (3, .int v5_3)] := hl
        have ix4 : IV x4 1 5 := ix4
        refine lv_goto (tgt := 5) hx hb dJ7_fill_53178_17 (by decide) ?_
        exact ih5 H locs ls x4 v5_3 (iv_w ix4 (by decide)) iv5_3 hH hS (lv_sub hl [1, 2, 0, 3] rfl) (th_up iv5_2 ex4 (by decide) hn5)
  have J0 : ∀ (H : Heap) (locs : List Loc) (ls : Array Slot), th_H D cT T (kd q) H → va_S (th_A T [59]) s.heap H locs → lv_has ls 4 [(0, .ref a0), (1, .int y1)] → W p l e (rmk 0 0) s m [.ref a0, .int y1].toArray below meth c H locs 0 0 (MQ below (th_Q D cT T (kd q) (th_R T none) [59]) [.ref a0, .int y1].toArray s 0 0 (th_A T [59])) (F0 m 0 ls []) := by
    intro H locs ls hH hS hl
    refine lv_iconst (v := 0) hx hb dJ7_fill_53178_0 (by decide) ?_
    refine lv_istore_n (lv' := [(2, .int 0), (0, .ref a0), (1, .int y1)]) hx hb dJ7_fill_53178_1 rfl hl (by decide) rfl (fun ls hl => ?_)
    refine lv_aload_n hx hb dJ7_fill_53178_2 rfl (lv_at hl 1 rfl) ?_
    refine th_alen S hK hH t0 kd_59 rfl (v := 5) (by decide) dJ7_fill_53178_3 ?_
    refine lv_istore_n (lv' := [(3, .int 5), (2, .int 0), (0, .ref a0), (1, .int y1)]) hx hb dJ7_fill_53178_4 rfl hl (by decide) rfl (fun ls hl => ?_)
    exact J5 ((5 + 1 - Int32.toInt 0).toNat + 1) H locs ls 0 5 (iv_w (iv_c (by decide) : IV 0 0 0) (by decide)) (iv_c (by decide) : IV 5 5 5) hH hS (lv_sub hl [2, 3, 1, 0] rfl) (Nat.lt_succ_self _)
  exact J0 s.heap [] ls hH va_S.rf hl

set_option maxRecDepth 100000 in
theorem m_X2_clear (l : Launch) (D : va_G) (cT : Nat → ClassId) (T : Nat → Option Nat) (q : Nat → Int) (hq : qok q) (a0 : Nat) (t0 : T a0 = some 56) : th_Met l D cT T (kd q) yX2_clear cX2_clear 1 none (rmk 1 23) [.ref a0] (th_R T none) [56, 58, 59] := by
  refine th_start (by decide) (Nat.le_of_ble_eq_true rfl) ?_
  intro p e s m below meth c ls S hK hH hr hlocks hnm hl
  have hx := S.1
  have hb := S.2.1
  have hl : lv_has ls 1 [(0, .ref a0)] := hl
  have J0 : ∀ (H : Heap) (locs : List Loc) (ls : Array Slot), th_H D cT T (kd q) H → va_S (th_A T [56, 58, 59]) s.heap H locs → lv_has ls 1 [(0, .ref a0)] → W p l e (rmk 1 23) s m [.ref a0].toArray below meth c H locs 0 0 (MQ below (th_Q D cT T (kd q) (th_R T none) [56, 58, 59]) [.ref a0].toArray s 0 0 (th_A T [56, 58, 59])) (F0 m 0 ls []) := by
    intro H locs ls hH hS hl
    refine lv_aload_n hx hb dX2_clear_0 rfl (lv_at hl 0 rfl) ?_
    refine lv_iconst (v := 0) hx hb dX2_clear_1 (by decide) ?_
    refine th_put S hK hH hS ⟨56, by decide, t0⟩ inG2 tyX2 tyX2_ok nmX2 t0 kd_56 rfl 5 (by decide) gm_200 rfl rfl rfl rfl (th_iv (iv_w (iv_c (by decide) : IV 0 0 0) (by decide))) (fun _ _ => trivial) (ty := .int) (by decide +kernel) rfl rfl dX2_clear_2 (fun H locs hH hS hq1 hp1 => ?_)
    refine lv_aload_n hx hb dX2_clear_5 rfl (lv_at hl 0 rfl) ?_
    refine lv_iconst (v := 0) hx hb dX2_clear_6 (by decide) ?_
    refine th_put S hK hH hS ⟨56, by decide, t0⟩ inG2 tyX2 tyX2_ok nmX2 t0 kd_56 rfl 6 (by decide) gm_201 rfl rfl rfl rfl (th_iv (iv_top _)) (fun _ _ => trivial) (ty := .int) (by decide +kernel) rfl rfl dX2_clear_7 (fun H locs hH hS hq1 hp1 => ?_)
    refine lv_aload_n hx hb dX2_clear_10 rfl (lv_at hl 0 rfl) ?_
    refine th_get S hK hH inG2 t0 kd_56 rfl 1 (by decide) gm_195 rfl rfl dX2_clear_11 (fun v1 hv1 fv1 => ?_)
    obtain ⟨rf2, rfl, trf2⟩ := th_V.ref hv1
    refine lv_iconst (v := 0) hx hb dX2_clear_14 (by decide) ?_
    refine th_callSv (n := 2) (As := [.ref rf2, .int 0]) S hK hH hS (th_A.sub (by decide)) (m_J7_fill_53178_v6 l D cT T q hq rf2 trf2 (0) (iv_c (by decide) : IV 0 0 0)) gm_699 gm_704 gm_698 gm_131 (by decide +kernel) ⟨rfl, rfl, Nat.le_of_ble_eq_true rfl, Nat.le_of_ble_eq_true rfl⟩ rfl hl.1 rfl (Nat.le_of_ble_eq_true rfl) dX2_clear_15 ⟨Nat.zero_le _, Nat.zero_le _⟩ (fun H locs hH hS hF1 => ?_)
    refine lv_aload_n hx hb dX2_clear_18 rfl (lv_at hl 0 rfl) ?_
    refine th_get S hK hH inG2 t0 kd_56 rfl 2 (by decide) gm_196 rfl rfl dX2_clear_19 (fun v3 hv3 fv3 => ?_)
    obtain ⟨rf4, rfl, trf4⟩ := th_V.ref hv3
    refine lv_iconst (v := 0) hx hb dX2_clear_22 (by decide) ?_
    refine th_callSv (n := 2) (As := [.ref rf4, .int 0]) S hK hH hS (th_A.sub (by decide)) (m_J7_fill_53178_v7 l D cT T q hq rf4 trf4 (0) (iv_c (by decide) : IV 0 0 0)) gm_699 gm_704 gm_698 gm_131 (by decide +kernel) ⟨rfl, rfl, Nat.le_of_ble_eq_true rfl, Nat.le_of_ble_eq_true rfl⟩ rfl hl.1 rfl (Nat.le_of_ble_eq_true rfl) dX2_clear_23 ⟨Nat.zero_le _, Nat.zero_le _⟩ (fun H locs hH hS hF1 => ?_)
    exact th_vret S hK hH hS hr hlocks rfl dX2_clear_26
  exact J0 s.heap [] ls hH va_S.rf hl

set_option maxRecDepth 100000 in
theorem m_X2_open (l : Launch) (D : va_G) (cT : Nat → ClassId) (T : Nat → Option Nat) (q : Nat → Int) (hq : qok q) (a0 : Nat) (t0 : T a0 = some 56) (y1 : Int32) (j1 : IV y1 (-2147483648) 2147483647) : th_Met l D cT T (kd q) yX2_open cX2_open 2 none (rmk 0 0) [.ref a0, .int y1] (th_R T none) [58, 59] := by
  refine th_start (by decide) (Nat.le_of_ble_eq_true rfl) ?_
  intro p e s m below meth c ls S hK hH hr hlocks hnm hl
  have hx := S.1
  have hb := S.2.1
  have hl : lv_has ls 2 [(0, .ref a0), (1, .int y1)] := hl
  have J33 : ∀ (H : Heap) (locs : List Loc) (ls : Array Slot), th_H D cT T (kd q) H → va_S (th_A T [58, 59]) s.heap H locs → lv_has ls 2 [] → W p l e (rmk 0 0) s m [.ref a0, .int y1].toArray below meth c H locs 0 0 (MQ below (th_Q D cT T (kd q) (th_R T none) [58, 59]) [.ref a0, .int y1].toArray s 0 0 (th_A T [58, 59])) (F0 m 33 ls []) := by
    intro H locs ls hH hS hl
    exact th_vret S hK hH hS hr hlocks rfl dX2_open_33
  have J0 : ∀ (H : Heap) (locs : List Loc) (ls : Array Slot), th_H D cT T (kd q) H → va_S (th_A T [58, 59]) s.heap H locs → lv_has ls 2 [(0, .ref a0), (1, .int y1)] → W p l e (rmk 0 0) s m [.ref a0, .int y1].toArray below meth c H locs 0 0 (MQ below (th_Q D cT T (kd q) (th_R T none) [58, 59]) [.ref a0, .int y1].toArray s 0 0 (th_A T [58, 59])) (F0 m 0 ls []) := by
    intro H locs ls hH hS hl
    refine lv_iload_n hx hb dX2_open_0 rfl (lv_at hl 1 rfl) ?_
    refine lv_if_lt (tgt := 33) hx hb dX2_open_1 (by decide) (fun c1 => ?_) (fun c1 => ?_)
    · skip
      have ir2 : IV y1 (-2147483648) (-1) := iv_uL j1 (iv_c (by decide) : IV 0 0 0) (iv_lt c1) (by decide)
      exact J33 H locs ls  hH hS (lv_sub hl [] rfl)
    · skip
      have ir3 : IV y1 0 2147483647 := iv_vR (iv_c (by decide) : IV 0 0 0) j1 (iv_nlt c1) (by decide)
      refine lv_iload_n hx hb dX2_open_4 rfl (lv_at hl 1 rfl) ?_
      refine lv_aload_n hx hb dX2_open_5 rfl (lv_at hl 0 rfl) ?_
      refine th_get S hK hH inG2 t0 kd_56 rfl 1 (by decide) gm_195 rfl rfl dX2_open_6 (fun v4 hv4 fv4 => ?_)
      obtain ⟨rf5, rfl, trf5⟩ := th_V.ref hv4
      refine th_alen S hK hH trf5 kd_58 rfl (v := 5) (by decide) dX2_open_9 ?_
      refine lv_icmp_ge (tgt := 33) hx hb dX2_open_10 (by decide) (fun c6 => ?_) (fun c6 => ?_)
      · skip
        have ir7 : IV y1 5 2147483647 := iv_vR (iv_c (by decide) : IV 5 5 5) ir3 (iv_le c6) (by decide)
        exact J33 H locs ls  hH hS (lv_sub hl [] rfl)
      · skip
        have ir8 : IV y1 0 4 := iv_uL ir3 (iv_c (by decide) : IV 5 5 5) (iv_nle c6) (by decide)
        refine lv_aload_n hx hb dX2_open_13 rfl (lv_at hl 0 rfl) ?_
        refine th_getK S hK fv4 inG2 rfl (by decide) gm_195 rfl dX2_open_14 ?_
        refine lv_iload_n hx hb dX2_open_17 rfl (lv_at hl 1 rfl) ?_
        refine lv_aload_n hx hb dX2_open_18 rfl (lv_at hl 0 rfl) ?_
        refine th_get S hK hH inG2 t0 kd_56 rfl 5 (by decide) gm_200 rfl rfl dX2_open_19 (fun v10 hv10 fv10 => ?_)
        obtain ⟨x11, rfl, ix11⟩ := th_V.int hv10
        refine th_iast S hK hH hS ⟨58, by decide, trf5⟩ trf5 kd_58 (th_in (hi := 4) ir8 (by decide)) (th_iv ix11) dX2_open_22 (fun H locs hH hS hq1 => ?_)
        have f12 := fv4.kept (hq1 _ (th_ne t0 trf5 (by decide)))
        have f13 := fv10.kept (hq1 _ (th_ne t0 trf5 (by decide)))
        refine lv_aload_n hx hb dX2_open_23 rfl (lv_at hl 0 rfl) ?_
        refine th_get S hK hH inG2 t0 kd_56 rfl 2 (by decide) gm_196 rfl rfl dX2_open_24 (fun v14 hv14 fv14 => ?_)
        obtain ⟨rf15, rfl, trf15⟩ := th_V.ref hv14
        refine lv_iload_n hx hb dX2_open_27 rfl (lv_at hl 1 rfl) ?_
        refine lv_aload_n hx hb dX2_open_28 rfl (lv_at hl 0 rfl) ?_
        refine th_getK S hK f13 inG2 rfl (by decide) gm_200 rfl dX2_open_29 ?_
        refine th_iast S hK hH hS ⟨59, by decide, trf15⟩ trf15 kd_59 (th_in (hi := 4) ir8 (by decide)) (th_iv ix11) dX2_open_32 (fun H locs hH hS hq1 => ?_)
        have f17 := f12.kept (hq1 _ (th_ne t0 trf15 (by decide)))
        have f18 := f13.kept (hq1 _ (th_ne t0 trf15 (by decide)))
        exact J33 H locs ls  hH hS (lv_sub hl [] rfl)
  exact J0 s.heap [] ls hH va_S.rf hl

set_option maxRecDepth 100000 in
theorem m_X2_close (l : Launch) (D : va_G) (cT : Nat → ClassId) (T : Nat → Option Nat) (q : Nat → Int) (hq : qok q) (a0 : Nat) (t0 : T a0 = some 56) (y1 : Int32) (j1 : IV y1 (-2147483648) 2147483647) : th_Met l D cT T (kd q) yX2_close cX2_close 2 none (rmk 0 0) [.ref a0, .int y1] (th_R T none) [59] := by
  refine th_start (by decide) (Nat.le_of_ble_eq_true rfl) ?_
  intro p e s m below meth c ls S hK hH hr hlocks hnm hl
  have hx := S.1
  have hb := S.2.1
  have hl : lv_has ls 2 [(0, .ref a0), (1, .int y1)] := hl
  have J23 : ∀ (H : Heap) (locs : List Loc) (ls : Array Slot), th_H D cT T (kd q) H → va_S (th_A T [59]) s.heap H locs → lv_has ls 2 [] → W p l e (rmk 0 0) s m [.ref a0, .int y1].toArray below meth c H locs 0 0 (MQ below (th_Q D cT T (kd q) (th_R T none) [59]) [.ref a0, .int y1].toArray s 0 0 (th_A T [59])) (F0 m 23 ls []) := by
    intro H locs ls hH hS hl
    exact th_vret S hK hH hS hr hlocks rfl dX2_close_23
  have J0 : ∀ (H : Heap) (locs : List Loc) (ls : Array Slot), th_H D cT T (kd q) H → va_S (th_A T [59]) s.heap H locs → lv_has ls 2 [(0, .ref a0), (1, .int y1)] → W p l e (rmk 0 0) s m [.ref a0, .int y1].toArray below meth c H locs 0 0 (MQ below (th_Q D cT T (kd q) (th_R T none) [59]) [.ref a0, .int y1].toArray s 0 0 (th_A T [59])) (F0 m 0 ls []) := by
    intro H locs ls hH hS hl
    refine lv_iload_n hx hb dX2_close_0 rfl (lv_at hl 1 rfl) ?_
    refine lv_if_lt (tgt := 23) hx hb dX2_close_1 (by decide) (fun c1 => ?_) (fun c1 => ?_)
    · skip
      have ir2 : IV y1 (-2147483648) (-1) := iv_uL j1 (iv_c (by decide) : IV 0 0 0) (iv_lt c1) (by decide)
      exact J23 H locs ls  hH hS (lv_sub hl [] rfl)
    · skip
      have ir3 : IV y1 0 2147483647 := iv_vR (iv_c (by decide) : IV 0 0 0) j1 (iv_nlt c1) (by decide)
      refine lv_iload_n hx hb dX2_close_4 rfl (lv_at hl 1 rfl) ?_
      refine lv_aload_n hx hb dX2_close_5 rfl (lv_at hl 0 rfl) ?_
      refine th_get S hK hH inG2 t0 kd_56 rfl 2 (by decide) gm_196 rfl rfl dX2_close_6 (fun v4 hv4 fv4 => ?_)
      obtain ⟨rf5, rfl, trf5⟩ := th_V.ref hv4
      refine th_alen S hK hH trf5 kd_59 rfl (v := 5) (by decide) dX2_close_9 ?_
      refine lv_icmp_ge (tgt := 23) hx hb dX2_close_10 (by decide) (fun c6 => ?_) (fun c6 => ?_)
      · skip
        have ir7 : IV y1 5 2147483647 := iv_vR (iv_c (by decide) : IV 5 5 5) ir3 (iv_le c6) (by decide)
        exact J23 H locs ls  hH hS (lv_sub hl [] rfl)
      · skip
        have ir8 : IV y1 0 4 := iv_uL ir3 (iv_c (by decide) : IV 5 5 5) (iv_nle c6) (by decide)
        refine lv_aload_n hx hb dX2_close_13 rfl (lv_at hl 0 rfl) ?_
        refine th_getK S hK fv4 inG2 rfl (by decide) gm_196 rfl dX2_close_14 ?_
        refine lv_iload_n hx hb dX2_close_17 rfl (lv_at hl 1 rfl) ?_
        refine lv_aload_n hx hb dX2_close_18 rfl (lv_at hl 0 rfl) ?_
        refine th_get S hK hH inG2 t0 kd_56 rfl 5 (by decide) gm_200 rfl rfl dX2_close_19 (fun v10 hv10 fv10 => ?_)
        obtain ⟨x11, rfl, ix11⟩ := th_V.int hv10
        refine th_iast S hK hH hS ⟨59, by decide, trf5⟩ trf5 kd_59 (th_in (hi := 4) ir8 (by decide)) (th_iv ix11) dX2_close_22 (fun H locs hH hS hq1 => ?_)
        have f12 := fv4.kept (hq1 _ (th_ne t0 trf5 (by decide)))
        exact J23 H locs ls  hH hS (lv_sub hl [] rfl)
  exact J0 s.heap [] ls hH va_S.rf hl

set_option maxRecDepth 100000 in
theorem m_X2_add (l : Launch) (D : va_G) (cT : Nat → ClassId) (T : Nat → Option Nat) (q : Nat → Int) (hq : qok q) (a0 : Nat) (t0 : T a0 = some 56) (y1 : Int32) (j1 : IV y1 (-2147483648) 2147483647) : th_Met l D cT T (kd q) yX2_add cX2_add 2 none (rmk 0 0) [.ref a0, .int y1] (th_R T none) [56, 57] := by
  refine th_start (by decide) (Nat.le_of_ble_eq_true rfl) ?_
  intro p e s m below meth c ls S hK hH hr hlocks hnm hl
  have hx := S.1
  have hb := S.2.1
  have hl : lv_has ls 2 [(0, .ref a0), (1, .int y1)] := hl
  have J32 : ∀ (H : Heap) (locs : List Loc) (ls : Array Slot) (u32_a0_5 : Int32), IV u32_a0_5 1 1600 → th_fa D H a0 2 5 (.int u32_a0_5) → th_H D cT T (kd q) H → va_S (th_A T [56, 57]) s.heap H locs → lv_has ls 2 [] → W p l e (rmk 0 0) s m [.ref a0, .int y1].toArray below meth c H locs 0 0 (MQ below (th_Q D cT T (kd q) (th_R T none) [56, 57]) [.ref a0, .int y1].toArray s 0 0 (th_A T [56, 57])) (F0 m 32 ls []) := by
    intro H locs ls u32_a0_5 iu32_a0_5 gu32_a0_5 hH hS hl
    exact th_vret S hK hH hS hr hlocks rfl dX2_add_32
  have J0 : ∀ (H : Heap) (locs : List Loc) (ls : Array Slot), th_H D cT T (kd q) H → va_S (th_A T [56, 57]) s.heap H locs → lv_has ls 2 [(0, .ref a0), (1, .int y1)] → W p l e (rmk 0 0) s m [.ref a0, .int y1].toArray below meth c H locs 0 0 (MQ below (th_Q D cT T (kd q) (th_R T none) [56, 57]) [.ref a0, .int y1].toArray s 0 0 (th_A T [56, 57])) (F0 m 0 ls []) := by
    intro H locs ls hH hS hl
    refine lv_aload_n hx hb dX2_add_0 rfl (lv_at hl 0 rfl) ?_
    refine th_get S hK hH inG2 t0 kd_56 rfl 5 (by decide) gm_200 rfl rfl dX2_add_1 (fun v1 hv1 fv1 => ?_)
    obtain ⟨x2, rfl, ix2⟩ := th_V.int hv1
    refine lv_aload_n hx hb dX2_add_4 rfl (lv_at hl 0 rfl) ?_
    refine th_get S hK hH inG2 t0 kd_56 rfl 0 (by decide) gm_194 rfl rfl dX2_add_5 (fun v3 hv3 fv3 => ?_)
    obtain ⟨rf4, rfl, trf4⟩ := th_V.ref hv3
    refine th_alen S hK hH trf4 kd_57 rfl (v := 1600) (by decide) dX2_add_8 ?_
    refine lv_icmp_ge (tgt := 32) hx hb dX2_add_9 (by decide) (fun c5 => ?_) (fun c5 => ?_)
    · skip
      have ir6 : IV x2 1600 1600 := iv_vR (iv_c (by decide) : IV 1600 1600 1600) ix2 (iv_le c5) (by decide)
      exact J32 H locs ls x2 (iv_w ir6 (by decide)) fv1 hH hS (lv_sub hl [] rfl)
    · skip
      have ir7 : IV x2 0 1599 := iv_uL ix2 (iv_c (by decide) : IV 1600 1600 1600) (iv_nle c5) (by decide)
      refine lv_aload_n hx hb dX2_add_12 rfl (lv_at hl 0 rfl) ?_
      refine th_getK S hK fv3 inG2 rfl (by decide) gm_194 rfl dX2_add_13 ?_
      refine lv_aload_n hx hb dX2_add_16 rfl (lv_at hl 0 rfl) ?_
      refine th_getK S hK fv1 inG2 rfl (by decide) gm_200 rfl dX2_add_17 ?_
      refine lv_iload_n hx hb dX2_add_20 rfl (lv_at hl 1 rfl) ?_
      refine th_iast S hK hH hS ⟨57, by decide, trf4⟩ trf4 kd_57 (th_in (hi := 1599) ir7 (by decide)) (th_iv j1) dX2_add_21 (fun H locs hH hS hq1 => ?_)
      have f10 := fv1.kept (hq1 _ (th_ne t0 trf4 (by decide)))
      have f11 := fv3.kept (hq1 _ (th_ne t0 trf4 (by decide)))
      refine lv_aload_n hx hb dX2_add_22 rfl (lv_at hl 0 rfl) ?_
      refine lv_dup hx hb dX2_add_23 rfl ?_
      refine th_getK S hK f10 inG2 rfl (by decide) gm_200 rfl dX2_add_24 ?_
      refine lv_iconst (v := 1) hx hb dX2_add_27 (by decide) ?_
      refine lv_iadd hx hb dX2_add_28 ?_
      refine lv_topi (fun x13 ex13 => ?_)
      have ix13 : IV x13 1 1600 := by rw [ex13]; exact iv_add ir7 (iv_c (by decide) : IV 1 1 1) (by decide)
      refine th_put S hK hH hS ⟨56, by decide, t0⟩ inG2 tyX2 tyX2_ok nmX2 t0 kd_56 rfl 5 (by decide) gm_200 rfl rfl rfl rfl (th_iv (iv_w ix13 (by decide))) (fun _ _ => trivial) (ty := .int) (by decide +kernel) rfl rfl dX2_add_29 (fun H locs hH hS hq1 hp1 => ?_)
      have f14 := hp1.2 0 _ (by decide) (by decide) f11
      have f15 := hp1.1
      exact J32 H locs ls x13 ix13 f15 hH hS (lv_sub hl [] rfl)
  exact J0 s.heap [] ls hH va_S.rf hl

set_option maxRecDepth 100000 in
theorem m_X3_now (l : Launch) (D : va_G) (cT : Nat → ClassId) (T : Nat → Option Nat) (q : Nat → Int) (hq : qok q) (a0 : Nat) (t0 : T a0 = some 5) : th_Met l D cT T (kd q) yX3_now cX3_now 1 (some (.object "HungryMaps$State")) (rmk 0 0) [.ref a0] (th_R T (some (.inr 11))) [] := by
  refine th_start (by decide) (Nat.le_of_ble_eq_true rfl) ?_
  intro p e s m below meth c ls S hK hH hr hlocks hnm hl
  have hx := S.1
  have hb := S.2.1
  have hl : lv_has ls 1 [(0, .ref a0)] := hl
  have J0 : ∀ (H : Heap) (locs : List Loc) (ls : Array Slot), th_H D cT T (kd q) H → va_S (th_A T []) s.heap H locs → lv_has ls 1 [(0, .ref a0)] → W p l e (rmk 0 0) s m [.ref a0].toArray below meth c H locs 0 0 (MQ below (th_Q D cT T (kd q) (th_R T (some (.inr 11))) []) [.ref a0].toArray s 0 0 (th_A T [])) (F0 m 0 ls []) := by
    intro H locs ls hH hS hl
    refine lv_aload_n hx hb dX3_now_0 rfl (lv_at hl 0 rfl) ?_
    refine th_get S hK hH inG3 t0 kd_5 rfl 0 (by decide) gm_385 rfl rfl dX3_now_1 (fun v1 hv1 fv1 => ?_)
    obtain ⟨rf2, rfl, trf2⟩ := th_V.ref hv1
    refine lv_aload_n hx hb dX3_now_4 rfl (lv_at hl 0 rfl) ?_
    refine th_get S hK hH inG3 t0 kd_5 rfl 1 (by decide) gm_386 rfl rfl dX3_now_5 (fun v3 hv3 fv3 => ?_)
    obtain ⟨x4, rfl, ix4⟩ := th_V.int hv3
    refine lv_aload_n hx hb dX3_now_8 rfl (lv_at hl 0 rfl) ?_
    refine th_get S hK hH inG3 t0 kd_5 rfl 2 (by decide) gm_387 rfl rfl dX3_now_9 (fun v5 hv5 fv5 => ?_)
    obtain ⟨x6, rfl, ix6⟩ := th_V.int hv5
    have ix6 : IV x6 0 40 := iv_w ix6 (qok_1 hq)
    refine lv_iadd hx hb dX3_now_12 ?_
    refine lv_topi (fun x7 ex7 => ?_)
    have ix7 : IV x7 0 80 := by rw [ex7]; exact iv_add ix4 ix6 (by decide)
    refine lv_aload_n hx hb dX3_now_13 rfl (lv_at hl 0 rfl) ?_
    refine th_getK S hK fv1 inG3 rfl (by decide) gm_385 rfl dX3_now_14 ?_
    refine th_alen S hK hH trf2 kd_30 rfl (v := 41) (by decide) dX3_now_17 ?_
    refine lv_irem hx hb dX3_now_18 (iv_n0 (iv_c (by decide) : IV 41 41 41) (by decide)) ?_
    refine lv_topi (fun x9 ex9 => ?_)
    have ix9 : IV x9 0 40 := by rw [ex9]; exact iv_rm (h1 := 80) ix7 (iv_c (by decide) : IV 41 41 41) (by decide)
    refine th_aald S hK hH trf2 kd_30 (th_in (hi := 40) ix9 (by decide)) dX3_now_19 (fun v10 hv10 => ?_)
    obtain ⟨rf11, rfl, trf11⟩ := th_V.ref hv10
    exact th_aret S hK hH hS hr hlocks (th_R.r trf11) dX3_now_20
  exact J0 s.heap [] ls hH va_S.rf hl

set_option maxRecDepth 100000 in
theorem m_X3_advance (l : Launch) (D : va_G) (cT : Nat → ClassId) (T : Nat → Option Nat) (q : Nat → Int) (hT : tok T) (hqr : qokr q) (a0 : Nat) (t0 : T a0 = some 5) : th_MetX l D cT T q yX3_advance cX3_advance 2 (some (.object "HungryMaps$State")) (rmk 2 81) [.ref a0] (th_R T (some (.inr 11))) [5, 29] := by
  refine th_startX (by decide) (Nat.le_of_ble_eq_true rfl) ?_
  have hq := hqr.1
  intro p e s m below meth c ls S hK hH hr hlocks hnm hl
  have hx := S.1
  have hb := S.2.1
  have hl : lv_has ls 2 [(0, .ref a0)] := hl
  have J43 : ∀ (q43 : Nat → Int) (H : Heap) (locs : List Loc) (ls : Array Slot) (v43_1 : Nat), qok q43 → q43 0 = q 0 → T v43_1 = some 10 → th_H D cT T (kd q43) H → va_S (th_A T [5, 29]) s.heap H locs → lv_has ls 2 [(0, .ref a0), (1, .ref v43_1)] → W p l e (rmk 2 81) s m [.ref a0].toArray below meth c H locs 0 0 (MQ below (th_QX D cT T q (th_R T (some (.inr 11))) [5, 29]) [.ref a0].toArray s 0 0 (th_A T [5, 29])) (F0 m 43 ls []) := by
    intro q43 H locs ls v43_1 hq43 h043 tv43_1 hH hS hl
    refine lv_aload_n hx hb dX3_advance_43 rfl (lv_at hl 0 rfl) ?_
    refine lv_iconst (v := 0) hx hb dX3_advance_44 (by decide) ?_
    obtain ⟨n1, en1⟩ : ∃ z : Int, z = Int32.toInt 0 := ⟨_, rfl⟩
    have fn1 : n1 = 0 := by rw [en1]; rfl
    have hzq2 : qok (qup q43 2 n1) := qup_ok2 hq43 (iv_z en1 (iv_w (iv_c (by decide) : IV 0 0 0) (by decide)))
    refine th_putX (Ks2 := kd (qup q43 2 n1)) S hK hH hS ⟨5, by decide, t0⟩ inG3 tyX3 tyX3_ok nmX3 t0 (fun b hb => hT 5 (by decide) _ _ hb t0) kd_5 kd_5 (kd_up2 _ _) rfl 3 (by decide) gm_389 rfl rfl rfl rfl (fun i hi => match i, hi with | 0, _ => rfl | 1, _ => rfl | 2, _ => rfl | 3, h => absurd rfl h | _ + 4, _ => rfl) (Nat.le_of_ble_eq_true rfl) (th_selfE en1) (ty := .int) (by decide +kernel) rfl rfl dX3_advance_45 (fun H locs hH hS hq1 => ?_)
    refine lv_aload_n hx hb dX3_advance_48 rfl (lv_at hl 0 rfl) ?_
    refine th_callVr (n := 0) (As := []) S hK hH hS (th_A.sub (by decide)) (m_X3_now l D cT T (qup q43 2 n1) hzq2 a0 t0) gm_828 gm_892 gm_826 gm_827 gm_120 (by decide +kernel) ⟨rfl, rfl, Nat.le_of_ble_eq_true rfl, Nat.le_of_ble_eq_true rfl⟩ t0 kd_5 rfl rfl hl.1 rfl (Nat.le_of_ble_eq_true rfl) dX3_advance_49 ⟨Nat.zero_le _, Nat.zero_le _⟩ (fun rf3 H locs trf3 hH hS hF1 => ?_)
    refine lv_aload_n hx hb dX3_advance_52 rfl (lv_at hl 1 rfl) ?_
    refine th_callVv (n := 1) (As := [.ref v43_1]) S hK hH hS (th_A.sub (by decide)) (m_X7_copyFrom l D cT T (qup q43 2 n1) hzq2 rf3 trf3 v43_1 tv43_1) gm_809 gm_806 gm_807 gm_808 gm_118 (by decide +kernel) ⟨rfl, rfl, Nat.le_of_ble_eq_true rfl, Nat.le_of_ble_eq_true rfl⟩ trf3 kd_10 rfl rfl hl.1 rfl (Nat.le_of_ble_eq_true rfl) dX3_advance_53 ⟨Nat.zero_le _, Nat.zero_le _⟩ (fun H locs hH hS hF1 => ?_)
    refine lv_aload_n hx hb dX3_advance_56 rfl (lv_at hl 0 rfl) ?_
    refine th_callVr (n := 0) (As := []) S hK hH hS (th_A.sub (by decide)) (m_X3_now l D cT T (qup q43 2 n1) hzq2 a0 t0) gm_828 gm_892 gm_826 gm_827 gm_120 (by decide +kernel) ⟨rfl, rfl, Nat.le_of_ble_eq_true rfl, Nat.le_of_ble_eq_true rfl⟩ t0 kd_5 rfl rfl hl.1 rfl (Nat.le_of_ble_eq_true rfl) dX3_advance_57 ⟨Nat.zero_le _, Nat.zero_le _⟩ (fun rf4 H locs trf4 hH hS hF1 => ?_)
    exact th_aretX S hK hH hS hr hlocks ⟨hzq2, by have w1 := qok_1 hzq2; have w2 := qok_2 hzq2; have w3 := qok_1 hq; have w4 := qok_2 hq; have w5 := hqr.2; simp [qup] at w1 w2 ⊢; omega⟩ h043 (th_R.r trf4) dX3_advance_60
  have J0 : ∀ (H : Heap) (locs : List Loc) (ls : Array Slot), th_H D cT T (kd q) H → va_S (th_A T [5, 29]) s.heap H locs → lv_has ls 2 [(0, .ref a0)] → W p l e (rmk 2 81) s m [.ref a0].toArray below meth c H locs 0 0 (MQ below (th_QX D cT T q (th_R T (some (.inr 11))) [5, 29]) [.ref a0].toArray s 0 0 (th_A T [5, 29])) (F0 m 0 ls []) := by
    intro H locs ls hH hS hl
    refine lv_aload_n hx hb dX3_advance_0 rfl (lv_at hl 0 rfl) ?_
    refine th_callVr (n := 0) (As := []) S hK hH hS (th_A.sub (by decide)) (m_X3_now l D cT T q hq a0 t0) gm_828 gm_892 gm_826 gm_827 gm_120 (by decide +kernel) ⟨rfl, rfl, Nat.le_of_ble_eq_true rfl, Nat.le_of_ble_eq_true rfl⟩ t0 kd_5 rfl rfl hl.1 rfl (Nat.le_of_ble_eq_true rfl) dX3_advance_1 ⟨Nat.zero_le _, Nat.zero_le _⟩ (fun rf5 H locs trf5 hH hS hF1 => ?_)
    refine lv_astore_n (lv' := [(1, .ref rf5), (0, .ref a0)]) hx hb dX3_advance_4 rfl hl (by decide) rfl (fun ls hl => ?_)
    refine lv_aload_n hx hb dX3_advance_5 rfl (lv_at hl 1 rfl) ?_
    refine th_get S hK hH inG3 t0 kd_5 rfl 2 (by decide) gm_387 rfl rfl dX3_advance_6 (fun v6 hv6 fv6 => ?_)
    obtain ⟨x7, rfl, ix7⟩ := th_V.int hv6
    have kx7 : IV x7 (q 1) (q 1) := ix7
    have kx7a := kx7.1
    have kx7b := kx7.2
    have ix7 : IV x7 0 40 := iv_w ix7 (qok_1 hq)
    refine lv_bipush (v := 40) hx hb dX3_advance_9 (by decide) ?_
    refine lv_icmp_ge (tgt := 27) hx hb dX3_advance_11 (by decide) (fun c8 => ?_) (fun c8 => ?_)
    · skip
      have ir9 : IV x7 40 40 := iv_vR (iv_c (by decide) : IV 40 40 40) ix7 (iv_le c8) (by decide)
      have ir9a := ir9.1
      have ir9b := ir9.2
      refine lv_aload_n hx hb dX3_advance_27 rfl (lv_at hl 1 rfl) ?_
      refine lv_aload_n hx hb dX3_advance_28 rfl (lv_at hl 1 rfl) ?_
      refine th_get S hK hH inG3 t0 kd_5 rfl 1 (by decide) gm_386 rfl rfl dX3_advance_29 (fun v10 hv10 fv10 => ?_)
      obtain ⟨x11, rfl, ix11⟩ := th_V.int hv10
      refine lv_iconst (v := 1) hx hb dX3_advance_32 (by decide) ?_
      refine lv_iadd hx hb dX3_advance_33 ?_
      refine lv_topi (fun x12 ex12 => ?_)
      have ix12 : IV x12 1 41 := by rw [ex12]; exact iv_add ix11 (iv_c (by decide) : IV 1 1 1) (by decide)
      have ux12 : x12.toInt = x11.toInt + 1 := by rw [ex12]; have z1 := (ix11).1; have z2 := (ix11).2; have z3 : (1 : Int32).toInt = 1 := rfl; have z4 := iv_addE (x := x11) (y := 1) (by omega); omega
      refine lv_aload_n hx hb dX3_advance_34 rfl (lv_at hl 1 rfl) ?_
      refine th_get S hK hH inG3 t0 kd_5 rfl 0 (by decide) gm_385 rfl rfl dX3_advance_35 (fun v13 hv13 fv13 => ?_)
      obtain ⟨rf14, rfl, trf14⟩ := th_V.ref hv13
      refine th_alen S hK hH trf14 kd_30 rfl (v := 41) (by decide) dX3_advance_38 ?_
      refine lv_irem hx hb dX3_advance_39 (iv_n0 (iv_c (by decide) : IV 41 41 41) (by decide)) ?_
      refine lv_topi (fun x15 ex15 => ?_)
      have ix15 : IV x15 0 40 := by rw [ex15]; exact iv_rm (h1 := 41) (iv_w ix12 (by decide)) (iv_c (by decide) : IV 41 41 41) (by decide)
      refine th_put S hK hH hS ⟨5, by decide, t0⟩ inG3 tyX3 tyX3_ok nmX3 t0 kd_5 rfl 1 (by decide) gm_386 rfl rfl rfl rfl (th_iv ix15) (fun _ _ => trivial) (ty := .int) (by decide +kernel) rfl rfl dX3_advance_40 (fun H locs hH hS hq1 hp1 => ?_)
      have f16 := hp1.2 2 _ (by decide) (by decide) fv6
      have f17 := hp1.1
      exact J43 q H locs ls rf5 hq rfl trf5 hH hS (lv_sub hl [1, 0] rfl)
    · skip
      have ir18 : IV x7 0 39 := iv_uL ix7 (iv_c (by decide) : IV 40 40 40) (iv_nle c8) (by decide)
      have ir18a := ir18.1
      have ir18b := ir18.2
      refine lv_aload_n hx hb dX3_advance_14 rfl (lv_at hl 1 rfl) ?_
      refine lv_dup hx hb dX3_advance_15 rfl ?_
      refine th_getK S hK fv6 inG3 rfl (by decide) gm_387 rfl dX3_advance_16 ?_
      refine lv_iconst (v := 1) hx hb dX3_advance_19 (by decide) ?_
      refine lv_iadd hx hb dX3_advance_20 ?_
      refine lv_topi (fun x20 ex20 => ?_)
      have ix20 : IV x20 1 40 := by rw [ex20]; exact iv_add ir18 (iv_c (by decide) : IV 1 1 1) (by decide)
      have ux20 : x20.toInt = x7.toInt + 1 := by rw [ex20]; have z1 := (ir18).1; have z2 := (ir18).2; have z3 : (1 : Int32).toInt = 1 := rfl; have z4 := iv_addE (x := x7) (y := 1) (by omega); omega
      obtain ⟨n21, en21⟩ : ∃ z : Int, z = Int32.toInt x20 := ⟨_, rfl⟩
      have hzq22 : qok (qup q 1 n21) := qup_ok1 hq (iv_z en21 (iv_w ix20 (by decide)))
      refine th_putX (Ks2 := kd (qup q 1 n21)) S hK hH hS ⟨5, by decide, t0⟩ inG3 tyX3 tyX3_ok nmX3 t0 (fun b hb => hT 5 (by decide) _ _ hb t0) kd_5 kd_5 (kd_up1 _ _) rfl 2 (by decide) gm_387 rfl rfl rfl rfl (fun i hi => match i, hi with | 0, _ => rfl | 1, _ => rfl | 2, h => absurd rfl h | 3, _ => rfl | _ + 4, _ => rfl) (Nat.le_of_ble_eq_true rfl) (th_selfE en21) (ty := .int) (by decide +kernel) rfl rfl dX3_advance_21 (fun H locs hH hS hq1 => ?_)
      refine lv_goto (tgt := 43) hx hb dX3_advance_24 (by decide) ?_
      exact J43 (qup q 1 n21) H locs ls rf5 hzq22 rfl trf5 hH hS (lv_sub hl [1, 0] rfl)
  exact J0 s.heap [] ls hH va_S.rf hl

set_option maxRecDepth 100000 in
theorem m_X3_stepBack (l : Launch) (D : va_G) (cT : Nat → ClassId) (T : Nat → Option Nat) (q : Nat → Int) (hT : tok T) (hqr : qokr q) (a0 : Nat) (t0 : T a0 = some 5) : th_MetX l D cT T q yX3_stepBack cX3_stepBack 1 (some .boolean) (rmk 0 0) [.ref a0] (th_R T (some (.inl (0, 1)))) [5] := by
  refine th_startX (by decide) (Nat.le_of_ble_eq_true rfl) ?_
  have hq := hqr.1
  intro p e s m below meth c ls S hK hH hr hlocks hnm hl
  have hx := S.1
  have hb := S.2.1
  have hl : lv_has ls 1 [(0, .ref a0)] := hl
  have J0 : ∀ (H : Heap) (locs : List Loc) (ls : Array Slot), th_H D cT T (kd q) H → va_S (th_A T [5]) s.heap H locs → lv_has ls 1 [(0, .ref a0)] → W p l e (rmk 0 0) s m [.ref a0].toArray below meth c H locs 0 0 (MQ below (th_QX D cT T q (th_R T (some (.inl (0, 1)))) [5]) [.ref a0].toArray s 0 0 (th_A T [5])) (F0 m 0 ls []) := by
    intro H locs ls hH hS hl
    refine lv_aload_n hx hb dX3_stepBack_0 rfl (lv_at hl 0 rfl) ?_
    refine th_get S hK hH inG3 t0 kd_5 rfl 2 (by decide) gm_387 rfl rfl dX3_stepBack_1 (fun v1 hv1 fv1 => ?_)
    obtain ⟨x2, rfl, ix2⟩ := th_V.int hv1
    have kx2 : IV x2 (q 1) (q 1) := ix2
    have kx2a := kx2.1
    have kx2b := kx2.2
    have ix2 : IV x2 0 40 := iv_w ix2 (qok_1 hq)
    refine lv_if_ne (tgt := 9) hx hb dX3_stepBack_4 (by decide) (fun c3 => ?_) (fun c3 => ?_)
    · skip
      have ir4 : IV x2 1 40 := iv_cutL ix2 (iv_c (by decide) : IV 0 0 0) c3 (by decide)
      have ir4a := ir4.1
      have ir4b := ir4.2
      refine lv_aload_n hx hb dX3_stepBack_9 rfl (lv_at hl 0 rfl) ?_
      refine lv_dup hx hb dX3_stepBack_10 rfl ?_
      refine th_getK S hK fv1 inG3 rfl (by decide) gm_387 rfl dX3_stepBack_11 ?_
      refine lv_iconst (v := 1) hx hb dX3_stepBack_14 (by decide) ?_
      refine lv_isub hx hb dX3_stepBack_15 ?_
      refine lv_topi (fun x6 ex6 => ?_)
      have ix6 : IV x6 0 39 := by rw [ex6]; exact iv_sub ir4 (iv_c (by decide) : IV 1 1 1) (by decide)
      have ux6 : x6.toInt = x2.toInt - 1 := by rw [ex6]; have z1 := (ir4).1; have z2 := (ir4).2; have z3 : (1 : Int32).toInt = 1 := rfl; have z4 := iv_subE (x := x2) (y := 1) (by omega); omega
      obtain ⟨n7, en7⟩ : ∃ z : Int, z = Int32.toInt x6 := ⟨_, rfl⟩
      have hzq8 : qok (qup q 1 n7) := qup_ok1 hq (iv_z en7 (iv_w ix6 (by decide)))
      refine th_putX (Ks2 := kd (qup q 1 n7)) S hK hH hS ⟨5, by decide, t0⟩ inG3 tyX3 tyX3_ok nmX3 t0 (fun b hb => hT 5 (by decide) _ _ hb t0) kd_5 kd_5 (kd_up1 _ _) rfl 2 (by decide) gm_387 rfl rfl rfl rfl (fun i hi => match i, hi with | 0, _ => rfl | 1, _ => rfl | 2, h => absurd rfl h | 3, _ => rfl | _ + 4, _ => rfl) (Nat.le_of_ble_eq_true rfl) (th_selfE en7) (ty := .int) (by decide +kernel) rfl rfl dX3_stepBack_16 (fun H locs hH hS hq1 => ?_)
      refine lv_aload_n hx hb dX3_stepBack_19 rfl (lv_at hl 0 rfl) ?_
      refine lv_dup hx hb dX3_stepBack_20 rfl ?_
      refine th_get S hK hH inG3 t0 kd_5 rfl 3 (by decide) gm_389 rfl rfl dX3_stepBack_21 (fun v9 hv9 fv9 => ?_)
      obtain ⟨x10, rfl, ix10⟩ := th_V.int hv9
      have kx10 : IV x10 (q 2) (q 2) := ix10
      have kx10a := kx10.1
      have kx10b := kx10.2
      have ix10 : IV x10 0 40 := iv_w ix10 (qok_2 hzq8)
      refine lv_iconst (v := 1) hx hb dX3_stepBack_24 (by decide) ?_
      refine lv_iadd hx hb dX3_stepBack_25 ?_
      refine lv_topi (fun x11 ex11 => ?_)
      have ix11 : IV x11 1 41 := by rw [ex11]; exact iv_add ix10 (iv_c (by decide) : IV 1 1 1) (by decide)
      have ux11 : x11.toInt = x10.toInt + 1 := by rw [ex11]; have z1 := (ix10).1; have z2 := (ix10).2; have z3 : (1 : Int32).toInt = 1 := rfl; have z4 := iv_addE (x := x10) (y := 1) (by omega); omega
      obtain ⟨n12, en12⟩ : ∃ z : Int, z = Int32.toInt x11 := ⟨_, rfl⟩
      have hzq13 : qok (qup (qup q 1 n7) 2 n12) := qup_ok2 hzq8 (iv_z en12 (show IV x11 0 40 from (by have w5 := hqr.2; have w3 := qok_1 hq; have w4 := qok_2 hq; have w6 := (ix11).1; have w7 := (ix11).2; exact ⟨by omega, by omega⟩)))
      refine th_putX (Ks2 := kd (qup (qup q 1 n7) 2 n12)) S hK hH hS ⟨5, by decide, t0⟩ inG3 tyX3 tyX3_ok nmX3 t0 (fun b hb => hT 5 (by decide) _ _ hb t0) kd_5 kd_5 (kd_up2 _ _) rfl 3 (by decide) gm_389 rfl rfl rfl rfl (fun i hi => match i, hi with | 0, _ => rfl | 1, _ => rfl | 2, _ => rfl | 3, h => absurd rfl h | _ + 4, _ => rfl) (Nat.le_of_ble_eq_true rfl) (th_selfE en12) (ty := .int) (by decide +kernel) rfl rfl dX3_stepBack_26 (fun H locs hH hS hq1 => ?_)
      refine lv_iconst (v := 1) hx hb dX3_stepBack_29 (by decide) ?_
      exact th_zretX S hK hH hS hr hlocks ⟨hzq13, by have w1 := qok_1 hzq13; have w2 := qok_2 hzq13; have w3 := qok_1 hq; have w4 := qok_2 hq; have w5 := hqr.2; simp [qup] at w1 w2 ⊢; omega⟩ rfl (iv_w (iv_c (by decide) : IV 1 1 1) (by decide)) (th_R.i (iv_w (iv_c (by decide) : IV 1 1 1) (by decide))) dX3_stepBack_30
    · skip
      have ir14 : IV x2 0 0 := iv_eL c3 (iv_c (by decide) : IV 0 0 0)
      have ir14a := ir14.1
      have ir14b := ir14.2
      refine lv_iconst (v := 0) hx hb dX3_stepBack_7 (by decide) ?_
      exact th_zretX S hK hH hS hr hlocks hqr rfl (iv_w (iv_c (by decide) : IV 0 0 0) (by decide)) (th_R.i (iv_w (iv_c (by decide) : IV 0 0 0) (by decide))) dX3_stepBack_8
  exact J0 s.heap [] ls hH va_S.rf hl

set_option maxRecDepth 100000 in
theorem m_X3_stepOn (l : Launch) (D : va_G) (cT : Nat → ClassId) (T : Nat → Option Nat) (q : Nat → Int) (hT : tok T) (hqr : qokr q) (a0 : Nat) (t0 : T a0 = some 5) : th_MetX l D cT T q yX3_stepOn cX3_stepOn 1 (some .boolean) (rmk 0 0) [.ref a0] (th_R T (some (.inl (0, 1)))) [5] := by
  refine th_startX (by decide) (Nat.le_of_ble_eq_true rfl) ?_
  have hq := hqr.1
  intro p e s m below meth c ls S hK hH hr hlocks hnm hl
  have hx := S.1
  have hb := S.2.1
  have hl : lv_has ls 1 [(0, .ref a0)] := hl
  have J0 : ∀ (H : Heap) (locs : List Loc) (ls : Array Slot), th_H D cT T (kd q) H → va_S (th_A T [5]) s.heap H locs → lv_has ls 1 [(0, .ref a0)] → W p l e (rmk 0 0) s m [.ref a0].toArray below meth c H locs 0 0 (MQ below (th_QX D cT T q (th_R T (some (.inl (0, 1)))) [5]) [.ref a0].toArray s 0 0 (th_A T [5])) (F0 m 0 ls []) := by
    intro H locs ls hH hS hl
    refine lv_aload_n hx hb dX3_stepOn_0 rfl (lv_at hl 0 rfl) ?_
    refine th_get S hK hH inG3 t0 kd_5 rfl 3 (by decide) gm_389 rfl rfl dX3_stepOn_1 (fun v1 hv1 fv1 => ?_)
    obtain ⟨x2, rfl, ix2⟩ := th_V.int hv1
    have kx2 : IV x2 (q 2) (q 2) := ix2
    have kx2a := kx2.1
    have kx2b := kx2.2
    have ix2 : IV x2 0 40 := iv_w ix2 (qok_2 hq)
    refine lv_if_ne (tgt := 9) hx hb dX3_stepOn_4 (by decide) (fun c3 => ?_) (fun c3 => ?_)
    · skip
      have ir4 : IV x2 1 40 := iv_cutL ix2 (iv_c (by decide) : IV 0 0 0) c3 (by decide)
      have ir4a := ir4.1
      have ir4b := ir4.2
      refine lv_aload_n hx hb dX3_stepOn_9 rfl (lv_at hl 0 rfl) ?_
      refine lv_dup hx hb dX3_stepOn_10 rfl ?_
      refine th_get S hK hH inG3 t0 kd_5 rfl 2 (by decide) gm_387 rfl rfl dX3_stepOn_11 (fun v5 hv5 fv5 => ?_)
      obtain ⟨x6, rfl, ix6⟩ := th_V.int hv5
      have kx6 : IV x6 (q 1) (q 1) := ix6
      have kx6a := kx6.1
      have kx6b := kx6.2
      have ix6 : IV x6 0 40 := iv_w ix6 (qok_1 hq)
      refine lv_iconst (v := 1) hx hb dX3_stepOn_14 (by decide) ?_
      refine lv_iadd hx hb dX3_stepOn_15 ?_
      refine lv_topi (fun x7 ex7 => ?_)
      have ix7 : IV x7 1 41 := by rw [ex7]; exact iv_add ix6 (iv_c (by decide) : IV 1 1 1) (by decide)
      have ux7 : x7.toInt = x6.toInt + 1 := by rw [ex7]; have z1 := (ix6).1; have z2 := (ix6).2; have z3 : (1 : Int32).toInt = 1 := rfl; have z4 := iv_addE (x := x6) (y := 1) (by omega); omega
      obtain ⟨n8, en8⟩ : ∃ z : Int, z = Int32.toInt x7 := ⟨_, rfl⟩
      have hzq9 : qok (qup q 1 n8) := qup_ok1 hq (iv_z en8 (show IV x7 0 40 from (by have w5 := hqr.2; have w3 := qok_1 hq; have w4 := qok_2 hq; have w6 := (ix7).1; have w7 := (ix7).2; exact ⟨by omega, by omega⟩)))
      refine th_putX (Ks2 := kd (qup q 1 n8)) S hK hH hS ⟨5, by decide, t0⟩ inG3 tyX3 tyX3_ok nmX3 t0 (fun b hb => hT 5 (by decide) _ _ hb t0) kd_5 kd_5 (kd_up1 _ _) rfl 2 (by decide) gm_387 rfl rfl rfl rfl (fun i hi => match i, hi with | 0, _ => rfl | 1, _ => rfl | 2, h => absurd rfl h | 3, _ => rfl | _ + 4, _ => rfl) (Nat.le_of_ble_eq_true rfl) (th_selfE en8) (ty := .int) (by decide +kernel) rfl rfl dX3_stepOn_16 (fun H locs hH hS hq1 => ?_)
      refine lv_aload_n hx hb dX3_stepOn_19 rfl (lv_at hl 0 rfl) ?_
      refine lv_dup hx hb dX3_stepOn_20 rfl ?_
      refine th_get S hK hH inG3 t0 kd_5 rfl 3 (by decide) gm_389 rfl rfl dX3_stepOn_21 (fun v10 hv10 fv10 => ?_)
      obtain ⟨x11, rfl, ix11⟩ := th_V.int hv10
      have kx11 : IV x11 (q 2) (q 2) := ix11
      have kx11a := kx11.1
      have kx11b := kx11.2
      have ix11 : IV x11 0 40 := iv_w ix11 (qok_2 hzq9)
      refine lv_iconst (v := 1) hx hb dX3_stepOn_24 (by decide) ?_
      refine lv_isub hx hb dX3_stepOn_25 ?_
      refine lv_topi (fun x12 ex12 => ?_)
      have ix12 : IV x12 (-1) 39 := by rw [ex12]; exact iv_sub ix11 (iv_c (by decide) : IV 1 1 1) (by decide)
      have ux12 : x12.toInt = x11.toInt - 1 := by rw [ex12]; have z1 := (ix11).1; have z2 := (ix11).2; have z3 : (1 : Int32).toInt = 1 := rfl; have z4 := iv_subE (x := x11) (y := 1) (by omega); omega
      obtain ⟨n13, en13⟩ : ∃ z : Int, z = Int32.toInt x12 := ⟨_, rfl⟩
      have hzq14 : qok (qup (qup q 1 n8) 2 n13) := qup_ok2 hzq9 (iv_z en13 (show IV x12 0 40 from (by have w5 := hqr.2; have w3 := qok_1 hq; have w4 := qok_2 hq; have w6 := (ix12).1; have w7 := (ix12).2; exact ⟨by omega, by omega⟩)))
      refine th_putX (Ks2 := kd (qup (qup q 1 n8) 2 n13)) S hK hH hS ⟨5, by decide, t0⟩ inG3 tyX3 tyX3_ok nmX3 t0 (fun b hb => hT 5 (by decide) _ _ hb t0) kd_5 kd_5 (kd_up2 _ _) rfl 3 (by decide) gm_389 rfl rfl rfl rfl (fun i hi => match i, hi with | 0, _ => rfl | 1, _ => rfl | 2, _ => rfl | 3, h => absurd rfl h | _ + 4, _ => rfl) (Nat.le_of_ble_eq_true rfl) (th_selfE en13) (ty := .int) (by decide +kernel) rfl rfl dX3_stepOn_26 (fun H locs hH hS hq1 => ?_)
      refine lv_iconst (v := 1) hx hb dX3_stepOn_29 (by decide) ?_
      exact th_zretX S hK hH hS hr hlocks ⟨hzq14, by have w1 := qok_1 hzq14; have w2 := qok_2 hzq14; have w3 := qok_1 hq; have w4 := qok_2 hq; have w5 := hqr.2; simp [qup] at w1 w2 ⊢; omega⟩ rfl (iv_w (iv_c (by decide) : IV 1 1 1) (by decide)) (th_R.i (iv_w (iv_c (by decide) : IV 1 1 1) (by decide))) dX3_stepOn_30
    · skip
      have ir15 : IV x2 0 0 := iv_eL c3 (iv_c (by decide) : IV 0 0 0)
      have ir15a := ir15.1
      have ir15b := ir15.2
      refine lv_iconst (v := 0) hx hb dX3_stepOn_7 (by decide) ?_
      exact th_zretX S hK hH hS hr hlocks hqr rfl (iv_w (iv_c (by decide) : IV 0 0 0) (by decide)) (th_R.i (iv_w (iv_c (by decide) : IV 0 0 0) (by decide))) dX3_stepOn_8
  exact J0 s.heap [] ls hH va_S.rf hl

set_option maxRecDepth 100000 in
theorem m_X3_restart (l : Launch) (D : va_G) (cT : Nat → ClassId) (T : Nat → Option Nat) (q : Nat → Int) (hT : tok T) (hqr : qokr q) (a0 : Nat) (t0 : T a0 = some 5) (a1 : Nat) (t1 : T a1 = some 10) : th_MetX l D cT T q yX3_restart cX3_restart 2 none (rmk 2 81) [.ref a0, .ref a1] (th_R T none) [5, 29] := by
  refine th_startX (by decide) (Nat.le_of_ble_eq_true rfl) ?_
  have hq := hqr.1
  intro p e s m below meth c ls S hK hH hr hlocks hnm hl
  have hx := S.1
  have hb := S.2.1
  have hl : lv_has ls 2 [(0, .ref a0), (1, .ref a1)] := hl
  have J0 : ∀ (H : Heap) (locs : List Loc) (ls : Array Slot), th_H D cT T (kd q) H → va_S (th_A T [5, 29]) s.heap H locs → lv_has ls 2 [(0, .ref a0), (1, .ref a1)] → W p l e (rmk 2 81) s m [.ref a0, .ref a1].toArray below meth c H locs 0 0 (MQ below (th_QX D cT T q (th_R T none) [5, 29]) [.ref a0, .ref a1].toArray s 0 0 (th_A T [5, 29])) (F0 m 0 ls []) := by
    intro H locs ls hH hS hl
    refine lv_aload_n hx hb dX3_restart_0 rfl (lv_at hl 0 rfl) ?_
    refine lv_iconst (v := 0) hx hb dX3_restart_1 (by decide) ?_
    refine th_put S hK hH hS ⟨5, by decide, t0⟩ inG3 tyX3 tyX3_ok nmX3 t0 kd_5 rfl 1 (by decide) gm_386 rfl rfl rfl rfl (th_iv (iv_w (iv_c (by decide) : IV 0 0 0) (by decide))) (fun _ _ => trivial) (ty := .int) (by decide +kernel) rfl rfl dX3_restart_2 (fun H locs hH hS hq1 hp1 => ?_)
    refine lv_aload_n hx hb dX3_restart_5 rfl (lv_at hl 0 rfl) ?_
    refine lv_iconst (v := 0) hx hb dX3_restart_6 (by decide) ?_
    obtain ⟨n1, en1⟩ : ∃ z : Int, z = Int32.toInt 0 := ⟨_, rfl⟩
    have fn1 : n1 = 0 := by rw [en1]; rfl
    have hzq2 : qok (qup q 1 n1) := qup_ok1 hq (iv_z en1 (iv_w (iv_c (by decide) : IV 0 0 0) (by decide)))
    refine th_putX (Ks2 := kd (qup q 1 n1)) S hK hH hS ⟨5, by decide, t0⟩ inG3 tyX3 tyX3_ok nmX3 t0 (fun b hb => hT 5 (by decide) _ _ hb t0) kd_5 kd_5 (kd_up1 _ _) rfl 2 (by decide) gm_387 rfl rfl rfl rfl (fun i hi => match i, hi with | 0, _ => rfl | 1, _ => rfl | 2, h => absurd rfl h | 3, _ => rfl | _ + 4, _ => rfl) (Nat.le_of_ble_eq_true rfl) (th_selfE en1) (ty := .int) (by decide +kernel) rfl rfl dX3_restart_7 (fun H locs hH hS hq1 => ?_)
    refine lv_aload_n hx hb dX3_restart_10 rfl (lv_at hl 0 rfl) ?_
    refine lv_iconst (v := 0) hx hb dX3_restart_11 (by decide) ?_
    obtain ⟨n3, en3⟩ : ∃ z : Int, z = Int32.toInt 0 := ⟨_, rfl⟩
    have fn3 : n3 = 0 := by rw [en3]; rfl
    have hzq4 : qok (qup (qup q 1 n1) 2 n3) := qup_ok2 hzq2 (iv_z en3 (iv_w (iv_c (by decide) : IV 0 0 0) (by decide)))
    refine th_putX (Ks2 := kd (qup (qup q 1 n1) 2 n3)) S hK hH hS ⟨5, by decide, t0⟩ inG3 tyX3 tyX3_ok nmX3 t0 (fun b hb => hT 5 (by decide) _ _ hb t0) kd_5 kd_5 (kd_up2 _ _) rfl 3 (by decide) gm_389 rfl rfl rfl rfl (fun i hi => match i, hi with | 0, _ => rfl | 1, _ => rfl | 2, _ => rfl | 3, h => absurd rfl h | _ + 4, _ => rfl) (Nat.le_of_ble_eq_true rfl) (th_selfE en3) (ty := .int) (by decide +kernel) rfl rfl dX3_restart_12 (fun H locs hH hS hq1 => ?_)
    refine lv_aload_n hx hb dX3_restart_15 rfl (lv_at hl 0 rfl) ?_
    refine th_get S hK hH inG3 t0 kd_5 rfl 0 (by decide) gm_385 rfl rfl dX3_restart_16 (fun v5 hv5 fv5 => ?_)
    obtain ⟨rf6, rfl, trf6⟩ := th_V.ref hv5
    refine lv_iconst (v := 0) hx hb dX3_restart_19 (by decide) ?_
    refine th_aald S hK hH trf6 kd_30 (th_in (hi := 0) (iv_c (by decide) : IV 0 0 0) (by decide)) dX3_restart_20 (fun v7 hv7 => ?_)
    obtain ⟨rf8, rfl, trf8⟩ := th_V.ref hv7
    refine lv_aload_n hx hb dX3_restart_21 rfl (lv_at hl 1 rfl) ?_
    refine th_callVv (n := 1) (As := [.ref a1]) S hK hH hS (th_A.sub (by decide)) (m_X7_copyFrom l D cT T (qup (qup q 1 n1) 2 n3) hzq4 rf8 trf8 a1 t1) gm_809 gm_806 gm_807 gm_808 gm_118 (by decide +kernel) ⟨rfl, rfl, Nat.le_of_ble_eq_true rfl, Nat.le_of_ble_eq_true rfl⟩ trf8 kd_10 rfl rfl hl.1 rfl (Nat.le_of_ble_eq_true rfl) dX3_restart_22 ⟨Nat.zero_le _, Nat.zero_le _⟩ (fun H locs hH hS hF1 => ?_)
    exact th_vretX S hK hH hS hr hlocks ⟨hzq4, by have w1 := qok_1 hzq4; have w2 := qok_2 hzq4; have w3 := qok_1 hq; have w4 := qok_2 hq; have w5 := hqr.2; simp [qup] at w1 w2 ⊢; omega⟩ rfl rfl dX3_restart_25
  exact J0 s.heap [] ls hH va_S.rf hl

set_option maxRecDepth 100000 in
theorem m_X4_clear (l : Launch) (D : va_G) (cT : Nat → ClassId) (T : Nat → Option Nat) (q : Nat → Int) (hT : tok T) (hqr : qokr q) (a0 : Nat) (t0 : T a0 = some 46) : th_MetX l D cT T q yX4_clear cX4_clear 1 none (rmk 2 43) [.ref a0] (th_R T none) [29, 46, 52, 53, 54, 55, 56, 58, 59] := by
  refine th_startX (by decide) (Nat.le_of_ble_eq_true rfl) ?_
  have hq := hqr.1
  intro p e s m below meth c ls S hK hH hr hlocks hnm hl
  have hx := S.1
  have hb := S.2.1
  have hl : lv_has ls 1 [(0, .ref a0)] := hl
  have J0 : ∀ (H : Heap) (locs : List Loc) (ls : Array Slot), th_H D cT T (kd q) H → va_S (th_A T [29, 46, 52, 53, 54, 55, 56, 58, 59]) s.heap H locs → lv_has ls 1 [(0, .ref a0)] → W p l e (rmk 2 43) s m [.ref a0].toArray below meth c H locs 0 0 (MQ below (th_QX D cT T q (th_R T none) [29, 46, 52, 53, 54, 55, 56, 58, 59]) [.ref a0].toArray s 0 0 (th_A T [29, 46, 52, 53, 54, 55, 56, 58, 59])) (F0 m 0 ls []) := by
    intro H locs ls hH hS hl
    refine lv_aload_n hx hb dX4_clear_0 rfl (lv_at hl 0 rfl) ?_
    refine th_get S hK hH inG4 t0 kd_46 rfl 5 (by decide) gm_249 rfl rfl dX4_clear_1 (fun v1 hv1 fv1 => ?_)
    obtain ⟨rf2, rfl, trf2⟩ := th_V.ref hv1
    refine lv_iconst (v := 0) hx hb dX4_clear_4 (by decide) ?_
    refine th_callSv (n := 2) (As := [.ref rf2, .int 0]) S hK hH hS (th_A.sub (by decide)) (m_J7_fill_53178_v0 l D cT T q hq rf2 trf2 (0) (iv_top _)) gm_699 gm_697 gm_698 gm_131 (by decide +kernel) ⟨rfl, rfl, Nat.le_of_ble_eq_true rfl, Nat.le_of_ble_eq_true rfl⟩ rfl hl.1 rfl (Nat.le_of_ble_eq_true rfl) dX4_clear_5 ⟨Nat.zero_le _, Nat.zero_le _⟩ (fun H locs hH hS hF1 => ?_)
    refine lv_aload_n hx hb dX4_clear_8 rfl (lv_at hl 0 rfl) ?_
    refine th_get S hK hH inG4 t0 kd_46 rfl 6 (by decide) gm_252 rfl rfl dX4_clear_9 (fun v3 hv3 fv3 => ?_)
    obtain ⟨rf4, rfl, trf4⟩ := th_V.ref hv3
    refine lv_iconst (v := 0) hx hb dX4_clear_12 (by decide) ?_
    refine th_callSv (n := 2) (As := [.ref rf4, .int 0]) S hK hH hS (th_A.sub (by decide)) (m_J7_fill_53178_v1 l D cT T q hq rf4 trf4 (0) (iv_top _)) gm_699 gm_697 gm_698 gm_131 (by decide +kernel) ⟨rfl, rfl, Nat.le_of_ble_eq_true rfl, Nat.le_of_ble_eq_true rfl⟩ rfl hl.1 rfl (Nat.le_of_ble_eq_true rfl) dX4_clear_13 ⟨Nat.zero_le _, Nat.zero_le _⟩ (fun H locs hH hS hF1 => ?_)
    refine lv_aload_n hx hb dX4_clear_16 rfl (lv_at hl 0 rfl) ?_
    refine th_get S hK hH inG4 t0 kd_46 rfl 7 (by decide) gm_257 rfl rfl dX4_clear_17 (fun v5 hv5 fv5 => ?_)
    obtain ⟨rf6, rfl, trf6⟩ := th_V.ref hv5
    refine lv_iconst (v := 0) hx hb dX4_clear_20 (by decide) ?_
    refine th_callSv (n := 2) (As := [.ref rf6, .int 0]) S hK hH hS (th_A.sub (by decide)) (m_J7_fill_53178_v2 l D cT T q hq rf6 trf6 (0) (iv_top _)) gm_699 gm_697 gm_698 gm_131 (by decide +kernel) ⟨rfl, rfl, Nat.le_of_ble_eq_true rfl, Nat.le_of_ble_eq_true rfl⟩ rfl hl.1 rfl (Nat.le_of_ble_eq_true rfl) dX4_clear_21 ⟨Nat.zero_le _, Nat.zero_le _⟩ (fun H locs hH hS hF1 => ?_)
    refine lv_aload_n hx hb dX4_clear_24 rfl (lv_at hl 0 rfl) ?_
    refine th_get S hK hH inG4 t0 kd_46 rfl 8 (by decide) gm_262 rfl rfl dX4_clear_25 (fun v7 hv7 fv7 => ?_)
    obtain ⟨rf8, rfl, trf8⟩ := th_V.ref hv7
    refine lv_iconst (v := 1) hx hb dX4_clear_28 (by decide) ?_
    refine th_callSv (n := 2) (As := [.ref rf8, .int 1]) S hK hH hS (th_A.sub (by decide)) (m_J7_fill_53178_v3 l D cT T q hq rf8 trf8 (1) (iv_top _)) gm_699 gm_697 gm_698 gm_131 (by decide +kernel) ⟨rfl, rfl, Nat.le_of_ble_eq_true rfl, Nat.le_of_ble_eq_true rfl⟩ rfl hl.1 rfl (Nat.le_of_ble_eq_true rfl) dX4_clear_29 ⟨Nat.zero_le _, Nat.zero_le _⟩ (fun H locs hH hS hF1 => ?_)
    refine lv_aload_n hx hb dX4_clear_32 rfl (lv_at hl 0 rfl) ?_
    refine th_get S hK hH inG4 t0 kd_46 rfl 10 (by decide) gm_271 rfl rfl dX4_clear_33 (fun v9 hv9 fv9 => ?_)
    obtain ⟨rf10, rfl, trf10⟩ := th_V.ref hv9
    refine th_get S hK hH inG7 trf10 kd_10 rfl 0 (by decide) gm_228 rfl rfl dX4_clear_36 (fun v11 hv11 fv11 => ?_)
    obtain ⟨rf12, rfl, trf12⟩ := th_V.ref hv11
    refine lv_iconst (v := 0) hx hb dX4_clear_39 (by decide) ?_
    refine th_callSv (n := 2) (As := [.ref rf12, .int 0]) S hK hH hS (th_A.sub (by decide)) (m_J7_fill_53178_v4 l D cT T q hq rf12 trf12 (0) (iv_top _)) gm_699 gm_697 gm_698 gm_131 (by decide +kernel) ⟨rfl, rfl, Nat.le_of_ble_eq_true rfl, Nat.le_of_ble_eq_true rfl⟩ rfl hl.1 rfl (Nat.le_of_ble_eq_true rfl) dX4_clear_40 ⟨Nat.zero_le _, Nat.zero_le _⟩ (fun H locs hH hS hF1 => ?_)
    refine lv_aload_n hx hb dX4_clear_43 rfl (lv_at hl 0 rfl) ?_
    refine th_get S hK hH inG4 t0 kd_46 rfl 9 (by decide) gm_267 rfl rfl dX4_clear_44 (fun v13 hv13 fv13 => ?_)
    obtain ⟨rf14, rfl, trf14⟩ := th_V.ref hv13
    refine th_callVv (n := 0) (As := []) S hK hH hS (th_A.sub (by decide)) (m_X2_clear l D cT T q hq rf14 trf14) gm_703 gm_700 gm_701 gm_702 gm_117 (by decide +kernel) ⟨rfl, rfl, Nat.le_of_ble_eq_true rfl, Nat.le_of_ble_eq_true rfl⟩ trf14 kd_56 rfl rfl hl.1 rfl (Nat.le_of_ble_eq_true rfl) dX4_clear_47 ⟨Nat.zero_le _, Nat.zero_le _⟩ (fun H locs hH hS hF1 => ?_)
    refine lv_aload_n hx hb dX4_clear_50 rfl (lv_at hl 0 rfl) ?_
    refine lv_iconst (v := 0) hx hb dX4_clear_51 (by decide) ?_
    obtain ⟨n15, en15⟩ : ∃ z : Int, z = Int32.toInt 0 := ⟨_, rfl⟩
    have fn15 : n15 = 0 := by rw [en15]; rfl
    have hzq16 : qok (qup q 3 n15) := qup_ok3 hq (iv_z en15 (iv_w (iv_c (by decide) : IV 0 0 0) (by decide)))
    refine th_putX (Ks2 := kd (qup q 3 n15)) S hK hH hS ⟨46, by decide, t0⟩ inG4 tyX4 tyX4_ok nmX4 t0 (fun b hb => hT 46 (by decide) _ _ hb t0) kd_46 kd_46 (kd_up3 _ _) rfl 11 (by decide) gm_274 rfl rfl rfl rfl (fun i hi => match i, hi with | 0, _ => rfl | 1, _ => rfl | 2, _ => rfl | 3, _ => rfl | 4, _ => rfl | 5, _ => rfl | 6, _ => rfl | 7, _ => rfl | 8, _ => rfl | 9, _ => rfl | 10, _ => rfl | 11, h => absurd rfl h | 12, _ => rfl | 13, _ => rfl | 14, _ => rfl | 15, _ => rfl | 16, _ => rfl | 17, _ => rfl | 18, _ => rfl | _ + 19, _ => rfl) (Nat.le_of_ble_eq_true rfl) (th_selfE en15) (ty := .int) (by decide +kernel) rfl rfl dX4_clear_52 (fun H locs hH hS hq1 => ?_)
    refine lv_aload_n hx hb dX4_clear_55 rfl (lv_at hl 0 rfl) ?_
    refine lv_iconst (v := 0) hx hb dX4_clear_56 (by decide) ?_
    obtain ⟨n17, en17⟩ : ∃ z : Int, z = Int32.toInt 0 := ⟨_, rfl⟩
    have fn17 : n17 = 0 := by rw [en17]; rfl
    have hzq18 : qok (qup (qup q 3 n15) 4 n17) := qup_ok4 hzq16 (iv_z en17 (iv_w (iv_c (by decide) : IV 0 0 0) (by decide)))
    refine th_putX (Ks2 := kd (qup (qup q 3 n15) 4 n17)) S hK hH hS ⟨46, by decide, t0⟩ inG4 tyX4 tyX4_ok nmX4 t0 (fun b hb => hT 46 (by decide) _ _ hb t0) kd_46 kd_46 (kd_up4 _ _) rfl 12 (by decide) gm_278 rfl rfl rfl rfl (fun i hi => match i, hi with | 0, _ => rfl | 1, _ => rfl | 2, _ => rfl | 3, _ => rfl | 4, _ => rfl | 5, _ => rfl | 6, _ => rfl | 7, _ => rfl | 8, _ => rfl | 9, _ => rfl | 10, _ => rfl | 11, _ => rfl | 12, h => absurd rfl h | 13, _ => rfl | 14, _ => rfl | 15, _ => rfl | 16, _ => rfl | 17, _ => rfl | 18, _ => rfl | _ + 19, _ => rfl) (Nat.le_of_ble_eq_true rfl) (th_selfE en17) (ty := .int) (by decide +kernel) rfl rfl dX4_clear_57 (fun H locs hH hS hq1 => ?_)
    refine lv_aload_n hx hb dX4_clear_60 rfl (lv_at hl 0 rfl) ?_
    refine lv_iconst (v := 0) hx hb dX4_clear_61 (by decide) ?_
    obtain ⟨n19, en19⟩ : ∃ z : Int, z = Int32.toInt 0 := ⟨_, rfl⟩
    have fn19 : n19 = 0 := by rw [en19]; rfl
    have hzq20 : qok (qup (qup (qup q 3 n15) 4 n17) 5 n19) := qup_ok5 hzq18 (iv_z en19 (iv_w (iv_c (by decide) : IV 0 0 0) (by decide)))
    refine th_putX (Ks2 := kd (qup (qup (qup q 3 n15) 4 n17) 5 n19)) S hK hH hS ⟨46, by decide, t0⟩ inG4 tyX4 tyX4_ok nmX4 t0 (fun b hb => hT 46 (by decide) _ _ hb t0) kd_46 kd_46 (kd_up5 _ _) rfl 13 (by decide) gm_284 rfl rfl rfl rfl (fun i hi => match i, hi with | 0, _ => rfl | 1, _ => rfl | 2, _ => rfl | 3, _ => rfl | 4, _ => rfl | 5, _ => rfl | 6, _ => rfl | 7, _ => rfl | 8, _ => rfl | 9, _ => rfl | 10, _ => rfl | 11, _ => rfl | 12, _ => rfl | 13, h => absurd rfl h | 14, _ => rfl | 15, _ => rfl | 16, _ => rfl | 17, _ => rfl | 18, _ => rfl | _ + 19, _ => rfl) (Nat.le_of_ble_eq_true rfl) (th_selfE en19) (ty := .int) (by decide +kernel) rfl rfl dX4_clear_62 (fun H locs hH hS hq1 => ?_)
    refine lv_aload_n hx hb dX4_clear_65 rfl (lv_at hl 0 rfl) ?_
    refine lv_iconst (v := 0) hx hb dX4_clear_66 (by decide) ?_
    refine th_put S hK hH hS ⟨46, by decide, t0⟩ inG4 tyX4 tyX4_ok nmX4 t0 kd_46 rfl 14 (by decide) gm_288 rfl rfl rfl rfl (th_iv (iv_top _)) (fun _ _ => trivial) (ty := .int) (by decide +kernel) rfl rfl dX4_clear_67 (fun H locs hH hS hq1 hp1 => ?_)
    refine lv_aload_n hx hb dX4_clear_70 rfl (lv_at hl 0 rfl) ?_
    refine lv_iconst (v := 0) hx hb dX4_clear_71 (by decide) ?_
    refine th_put S hK hH hS ⟨46, by decide, t0⟩ inG4 tyX4 tyX4_ok nmX4 t0 kd_46 rfl 15 (by decide) gm_291 rfl rfl rfl rfl (th_iv (iv_top _)) (fun _ _ => trivial) (ty := .int) (by decide +kernel) rfl rfl dX4_clear_72 (fun H locs hH hS hq1 hp1 => ?_)
    refine lv_aload_n hx hb dX4_clear_75 rfl (lv_at hl 0 rfl) ?_
    refine lv_iconst (v := 0) hx hb dX4_clear_76 (by decide) ?_
    refine th_put S hK hH hS ⟨46, by decide, t0⟩ inG4 tyX4 tyX4_ok nmX4 t0 kd_46 rfl 16 (by decide) gm_293 rfl rfl rfl rfl (th_iv (iv_w (iv_c (by decide) : IV 0 0 0) (by decide))) (fun _ _ => trivial) (ty := .boolean) (by decide +kernel) (th_nbool (iv_w (iv_c (by decide) : IV 0 0 0) (by decide))) rfl dX4_clear_77 (fun H locs hH hS hq1 hp1 => ?_)
    refine lv_aload_n hx hb dX4_clear_80 rfl (lv_at hl 0 rfl) ?_
    refine lv_iconst (v := 0) hx hb dX4_clear_81 (by decide) ?_
    refine th_put S hK hH hS ⟨46, by decide, t0⟩ inG4 tyX4 tyX4_ok nmX4 t0 kd_46 rfl 17 (by decide) gm_296 rfl rfl rfl rfl (th_iv (iv_w (iv_c (by decide) : IV 0 0 0) (by decide))) (fun _ _ => trivial) (ty := .boolean) (by decide +kernel) (th_nbool (iv_w (iv_c (by decide) : IV 0 0 0) (by decide))) rfl dX4_clear_82 (fun H locs hH hS hq1 hp1 => ?_)
    refine lv_aload_n hx hb dX4_clear_85 rfl (lv_at hl 0 rfl) ?_
    refine lv_iconst (v := 0) hx hb dX4_clear_86 (by decide) ?_
    refine th_put S hK hH hS ⟨46, by decide, t0⟩ inG4 tyX4 tyX4_ok nmX4 t0 kd_46 rfl 18 (by decide) gm_298 rfl rfl rfl rfl (th_iv (iv_w (iv_c (by decide) : IV 0 0 0) (by decide))) (fun _ _ => trivial) (ty := .boolean) (by decide +kernel) (th_nbool (iv_w (iv_c (by decide) : IV 0 0 0) (by decide))) rfl dX4_clear_87 (fun H locs hH hS hq1 hp1 => ?_)
    exact th_vretX S hK hH hS hr hlocks ⟨hzq20, by have w1 := qok_1 hzq20; have w2 := qok_2 hzq20; have w3 := qok_1 hq; have w4 := qok_2 hq; have w5 := hqr.2; simp [qup] at w1 w2 ⊢; omega⟩ rfl rfl dX4_clear_90
  exact J0 s.heap [] ls hH va_S.rf hl

set_option maxRecDepth 100000 in
theorem m_X4_hasRoomFor (l : Launch) (D : va_G) (cT : Nat → ClassId) (T : Nat → Option Nat) (q : Nat → Int) (hq : qok q) (a0 : Nat) (t0 : T a0 = some 46) (y1 : Int32) (j1 : IV y1 (-2147483648) 2147483647) : th_Met l D cT T (kd q) yX4_hasRoomFor cX4_hasRoomFor 2 (some .boolean) (rmk 1 20) [.ref a0, .int y1] (th_RH q y1) [] := by
  refine th_start (by decide) (Nat.le_of_ble_eq_true rfl) ?_
  intro p e s m below meth c ls S hK hH hr hlocks hnm hl
  have hx := S.1
  have hb := S.2.1
  have hl : lv_has ls 2 [(0, .ref a0), (1, .int y1)] := hl
  have J162_s0_0 : ∀ (H : Heap) (locs : List Loc) (ls : Array Slot), th_H D cT T (kd q) H → va_S (th_A T []) s.heap H locs → lv_has ls 2 [] → W p l e (rmk 1 20) s m [.ref a0, .int y1].toArray below meth c H locs 0 0 (MQ below (th_Q D cT T (kd q) (th_RH q y1) []) [.ref a0, .int y1].toArray s 0 0 (th_A T [])) (F0 m 162 ls [.int 0]) := by
    intro H locs ls hH hS hl
    exact th_zret S hK hH hS hr hlocks (iv_w (iv_c (by decide) : IV 0 0 0) (by decide)) (th_RH.i (iv_w (iv_c (by decide) : IV 0 0 0) (by decide)) (fun z => absurd rfl z)) dX4_hasRoomFor_162
  have J162_s0_1 : ∀ (H : Heap) (locs : List Loc) (ls : Array Slot), roomP q y1 → th_H D cT T (kd q) H → va_S (th_A T []) s.heap H locs → lv_has ls 2 [] → W p l e (rmk 1 20) s m [.ref a0, .int y1].toArray below meth c H locs 0 0 (MQ below (th_Q D cT T (kd q) (th_RH q y1) []) [.ref a0, .int y1].toArray s 0 0 (th_A T [])) (F0 m 162 ls [.int 1]) := by
    intro H locs ls hroom hH hS hl
    exact th_zret S hK hH hS hr hlocks (iv_w (iv_c (by decide) : IV 1 1 1) (by decide)) (th_RH.i (iv_w (iv_c (by decide) : IV 1 1 1) (by decide)) (fun _ => hroom)) dX4_hasRoomFor_162
  have J149_s0_0 : ∀ (H : Heap) (locs : List Loc) (ls : Array Slot), th_H D cT T (kd q) H → va_S (th_A T []) s.heap H locs → lv_has ls 2 [] → W p l e (rmk 1 20) s m [.ref a0, .int y1].toArray below meth c H locs 0 0 (MQ below (th_Q D cT T (kd q) (th_RH q y1) []) [.ref a0, .int y1].toArray s 0 0 (th_A T [])) (F0 m 149 ls [.int 0]) := by
    intro H locs ls hH hS hl
    exact th_zret S hK hH hS hr hlocks (iv_w (iv_c (by decide) : IV 0 0 0) (by decide)) (th_RH.i (iv_w (iv_c (by decide) : IV 0 0 0) (by decide)) (fun z => absurd rfl z)) dX4_hasRoomFor_149
  have J149_s0_1 : ∀ (H : Heap) (locs : List Loc) (ls : Array Slot), roomP q y1 → th_H D cT T (kd q) H → va_S (th_A T []) s.heap H locs → lv_has ls 2 [] → W p l e (rmk 1 20) s m [.ref a0, .int y1].toArray below meth c H locs 0 0 (MQ below (th_Q D cT T (kd q) (th_RH q y1) []) [.ref a0, .int y1].toArray s 0 0 (th_A T [])) (F0 m 149 ls [.int 1]) := by
    intro H locs ls hroom hH hS hl
    exact th_zret S hK hH hS hr hlocks (iv_w (iv_c (by decide) : IV 1 1 1) (by decide)) (th_RH.i (iv_w (iv_c (by decide) : IV 1 1 1) (by decide)) (fun _ => hroom)) dX4_hasRoomFor_149
  have J136_s0_0 : ∀ (H : Heap) (locs : List Loc) (ls : Array Slot), th_H D cT T (kd q) H → va_S (th_A T []) s.heap H locs → lv_has ls 2 [] → W p l e (rmk 1 20) s m [.ref a0, .int y1].toArray below meth c H locs 0 0 (MQ below (th_Q D cT T (kd q) (th_RH q y1) []) [.ref a0, .int y1].toArray s 0 0 (th_A T [])) (F0 m 136 ls [.int 0]) := by
    intro H locs ls hH hS hl
    exact th_zret S hK hH hS hr hlocks (iv_w (iv_c (by decide) : IV 0 0 0) (by decide)) (th_RH.i (iv_w (iv_c (by decide) : IV 0 0 0) (by decide)) (fun z => absurd rfl z)) dX4_hasRoomFor_136
  have J136_s0_1 : ∀ (H : Heap) (locs : List Loc) (ls : Array Slot), roomP q y1 → th_H D cT T (kd q) H → va_S (th_A T []) s.heap H locs → lv_has ls 2 [] → W p l e (rmk 1 20) s m [.ref a0, .int y1].toArray below meth c H locs 0 0 (MQ below (th_Q D cT T (kd q) (th_RH q y1) []) [.ref a0, .int y1].toArray s 0 0 (th_A T [])) (F0 m 136 ls [.int 1]) := by
    intro H locs ls hroom hH hS hl
    exact th_zret S hK hH hS hr hlocks (iv_w (iv_c (by decide) : IV 1 1 1) (by decide)) (th_RH.i (iv_w (iv_c (by decide) : IV 1 1 1) (by decide)) (fun _ => hroom)) dX4_hasRoomFor_136
  have J123_s0_0 : ∀ (H : Heap) (locs : List Loc) (ls : Array Slot), th_H D cT T (kd q) H → va_S (th_A T []) s.heap H locs → lv_has ls 2 [] → W p l e (rmk 1 20) s m [.ref a0, .int y1].toArray below meth c H locs 0 0 (MQ below (th_Q D cT T (kd q) (th_RH q y1) []) [.ref a0, .int y1].toArray s 0 0 (th_A T [])) (F0 m 123 ls [.int 0]) := by
    intro H locs ls hH hS hl
    exact th_zret S hK hH hS hr hlocks (iv_w (iv_c (by decide) : IV 0 0 0) (by decide)) (th_RH.i (iv_w (iv_c (by decide) : IV 0 0 0) (by decide)) (fun z => absurd rfl z)) dX4_hasRoomFor_123
  have J123_s0_1 : ∀ (H : Heap) (locs : List Loc) (ls : Array Slot), roomP q y1 → th_H D cT T (kd q) H → va_S (th_A T []) s.heap H locs → lv_has ls 2 [] → W p l e (rmk 1 20) s m [.ref a0, .int y1].toArray below meth c H locs 0 0 (MQ below (th_Q D cT T (kd q) (th_RH q y1) []) [.ref a0, .int y1].toArray s 0 0 (th_A T [])) (F0 m 123 ls [.int 1]) := by
    intro H locs ls hroom hH hS hl
    exact th_zret S hK hH hS hr hlocks (iv_w (iv_c (by decide) : IV 1 1 1) (by decide)) (th_RH.i (iv_w (iv_c (by decide) : IV 1 1 1) (by decide)) (fun _ => hroom)) dX4_hasRoomFor_123
  have J108_s0_0 : ∀ (H : Heap) (locs : List Loc) (ls : Array Slot), th_H D cT T (kd q) H → va_S (th_A T []) s.heap H locs → lv_has ls 2 [] → W p l e (rmk 1 20) s m [.ref a0, .int y1].toArray below meth c H locs 0 0 (MQ below (th_Q D cT T (kd q) (th_RH q y1) []) [.ref a0, .int y1].toArray s 0 0 (th_A T [])) (F0 m 108 ls [.int 0]) := by
    intro H locs ls hH hS hl
    exact th_zret S hK hH hS hr hlocks (iv_w (iv_c (by decide) : IV 0 0 0) (by decide)) (th_RH.i (iv_w (iv_c (by decide) : IV 0 0 0) (by decide)) (fun z => absurd rfl z)) dX4_hasRoomFor_108
  have J108_s0_1 : ∀ (H : Heap) (locs : List Loc) (ls : Array Slot), roomP q y1 → th_H D cT T (kd q) H → va_S (th_A T []) s.heap H locs → lv_has ls 2 [] → W p l e (rmk 1 20) s m [.ref a0, .int y1].toArray below meth c H locs 0 0 (MQ below (th_Q D cT T (kd q) (th_RH q y1) []) [.ref a0, .int y1].toArray s 0 0 (th_A T [])) (F0 m 108 ls [.int 1]) := by
    intro H locs ls hroom hH hS hl
    exact th_zret S hK hH hS hr hlocks (iv_w (iv_c (by decide) : IV 1 1 1) (by decide)) (th_RH.i (iv_w (iv_c (by decide) : IV 1 1 1) (by decide)) (fun _ => hroom)) dX4_hasRoomFor_108
  have J90_s0_0 : ∀ (H : Heap) (locs : List Loc) (ls : Array Slot), th_H D cT T (kd q) H → va_S (th_A T []) s.heap H locs → lv_has ls 2 [] → W p l e (rmk 1 20) s m [.ref a0, .int y1].toArray below meth c H locs 0 0 (MQ below (th_Q D cT T (kd q) (th_RH q y1) []) [.ref a0, .int y1].toArray s 0 0 (th_A T [])) (F0 m 90 ls [.int 0]) := by
    intro H locs ls hH hS hl
    exact th_zret S hK hH hS hr hlocks (iv_w (iv_c (by decide) : IV 0 0 0) (by decide)) (th_RH.i (iv_w (iv_c (by decide) : IV 0 0 0) (by decide)) (fun z => absurd rfl z)) dX4_hasRoomFor_90
  have J90_s0_1 : ∀ (H : Heap) (locs : List Loc) (ls : Array Slot), roomP q y1 → th_H D cT T (kd q) H → va_S (th_A T []) s.heap H locs → lv_has ls 2 [] → W p l e (rmk 1 20) s m [.ref a0, .int y1].toArray below meth c H locs 0 0 (MQ below (th_Q D cT T (kd q) (th_RH q y1) []) [.ref a0, .int y1].toArray s 0 0 (th_A T [])) (F0 m 90 ls [.int 1]) := by
    intro H locs ls hroom hH hS hl
    exact th_zret S hK hH hS hr hlocks (iv_w (iv_c (by decide) : IV 1 1 1) (by decide)) (th_RH.i (iv_w (iv_c (by decide) : IV 1 1 1) (by decide)) (fun _ => hroom)) dX4_hasRoomFor_90
  have J75_s0_0 : ∀ (H : Heap) (locs : List Loc) (ls : Array Slot), th_H D cT T (kd q) H → va_S (th_A T []) s.heap H locs → lv_has ls 2 [] → W p l e (rmk 1 20) s m [.ref a0, .int y1].toArray below meth c H locs 0 0 (MQ below (th_Q D cT T (kd q) (th_RH q y1) []) [.ref a0, .int y1].toArray s 0 0 (th_A T [])) (F0 m 75 ls [.int 0]) := by
    intro H locs ls hH hS hl
    exact th_zret S hK hH hS hr hlocks (iv_w (iv_c (by decide) : IV 0 0 0) (by decide)) (th_RH.i (iv_w (iv_c (by decide) : IV 0 0 0) (by decide)) (fun z => absurd rfl z)) dX4_hasRoomFor_75
  have J75_s0_1 : ∀ (H : Heap) (locs : List Loc) (ls : Array Slot), roomP q y1 → th_H D cT T (kd q) H → va_S (th_A T []) s.heap H locs → lv_has ls 2 [] → W p l e (rmk 1 20) s m [.ref a0, .int y1].toArray below meth c H locs 0 0 (MQ below (th_Q D cT T (kd q) (th_RH q y1) []) [.ref a0, .int y1].toArray s 0 0 (th_A T [])) (F0 m 75 ls [.int 1]) := by
    intro H locs ls hroom hH hS hl
    exact th_zret S hK hH hS hr hlocks (iv_w (iv_c (by decide) : IV 1 1 1) (by decide)) (th_RH.i (iv_w (iv_c (by decide) : IV 1 1 1) (by decide)) (fun _ => hroom)) dX4_hasRoomFor_75
  have J61_s0_0 : ∀ (H : Heap) (locs : List Loc) (ls : Array Slot), th_H D cT T (kd q) H → va_S (th_A T []) s.heap H locs → lv_has ls 2 [] → W p l e (rmk 1 20) s m [.ref a0, .int y1].toArray below meth c H locs 0 0 (MQ below (th_Q D cT T (kd q) (th_RH q y1) []) [.ref a0, .int y1].toArray s 0 0 (th_A T [])) (F0 m 61 ls [.int 0]) := by
    intro H locs ls hH hS hl
    exact th_zret S hK hH hS hr hlocks (iv_w (iv_c (by decide) : IV 0 0 0) (by decide)) (th_RH.i (iv_w (iv_c (by decide) : IV 0 0 0) (by decide)) (fun z => absurd rfl z)) dX4_hasRoomFor_61
  have J61_s0_1 : ∀ (H : Heap) (locs : List Loc) (ls : Array Slot), roomP q y1 → th_H D cT T (kd q) H → va_S (th_A T []) s.heap H locs → lv_has ls 2 [] → W p l e (rmk 1 20) s m [.ref a0, .int y1].toArray below meth c H locs 0 0 (MQ below (th_Q D cT T (kd q) (th_RH q y1) []) [.ref a0, .int y1].toArray s 0 0 (th_A T [])) (F0 m 61 ls [.int 1]) := by
    intro H locs ls hroom hH hS hl
    exact th_zret S hK hH hS hr hlocks (iv_w (iv_c (by decide) : IV 1 1 1) (by decide)) (th_RH.i (iv_w (iv_c (by decide) : IV 1 1 1) (by decide)) (fun _ => hroom)) dX4_hasRoomFor_61
  have J0 : ∀ (H : Heap) (locs : List Loc) (ls : Array Slot), th_H D cT T (kd q) H → va_S (th_A T []) s.heap H locs → lv_has ls 2 [(0, .ref a0), (1, .int y1)] → W p l e (rmk 1 20) s m [.ref a0, .int y1].toArray below meth c H locs 0 0 (MQ below (th_Q D cT T (kd q) (th_RH q y1) []) [.ref a0, .int y1].toArray s 0 0 (th_A T [])) (F0 m 0 ls []) := by
    intro H locs ls hH hS hl
    refine lv_iload_n hx hb dX4_hasRoomFor_0 rfl (lv_at hl 1 rfl) ?_
    by_cases c1 : y1.toInt < 128 ∨ 135 < y1.toInt
    · refine lv_tableOut (tgt := 163) hx hb dX4_hasRoomFor_1 c1 (by decide) ?_
      refine lv_iconst (v := 0) hx hb dX4_hasRoomFor_163 (by decide) ?_
      exact th_zret S hK hH hS hr hlocks (iv_w (iv_c (by decide) : IV 0 0 0) (by decide)) (th_RH.i (iv_w (iv_c (by decide) : IV 0 0 0) (by decide)) (fun z => absurd rfl z)) dX4_hasRoomFor_164
    · rcases (show y1.toInt = 128 ∨ y1.toInt = 129 ∨ y1.toInt = 130 ∨ y1.toInt = 131 ∨ y1.toInt = 132 ∨ y1.toInt = 133 ∨ y1.toInt = 134 ∨ y1.toInt = 135 by omega) with c1b | c1b | c1b | c1b | c1b | c1b | c1b | c1b
      · refine lv_tableIn (tgt := 48) (off := 47) hx hb dX4_hasRoomFor_1 (by omega) (by omega) (by rw [c1b]; rfl) (by decide) ?_
        refine lv_aload_n hx hb dX4_hasRoomFor_48 rfl (lv_at hl 0 rfl) ?_
        refine th_get S hK hH inG4 t0 kd_46 rfl 11 (by decide) gm_274 rfl rfl dX4_hasRoomFor_49 (fun v2 hv2 fv2 => ?_)
        obtain ⟨x3, rfl, ix3⟩ := th_V.int hv2
        have kx3 : IV x3 (q 3) (q 3) := ix3
        have kx3a := kx3.1
        have kx3b := kx3.2
        have ix3 : IV x3 0 3 := iv_w ix3 (qok_3 hq)
        refine lv_iconst (v := 3) hx hb dX4_hasRoomFor_52 (by decide) ?_
        refine lv_icmp_ge (tgt := 60) hx hb dX4_hasRoomFor_53 (by decide) (fun c4 => ?_) (fun c4 => ?_)
        · skip
          have ir5 : IV x3 3 3 := iv_vR (iv_c (by decide) : IV 3 3 3) ix3 (iv_le c4) (by decide)
          refine lv_iconst (v := 0) hx hb dX4_hasRoomFor_60 (by decide) ?_
          exact J61_s0_0 H locs ls  hH hS (lv_sub hl [] rfl)
        · skip
          have ir6 : IV x3 0 2 := iv_uL ix3 (iv_c (by decide) : IV 3 3 3) (iv_nle c4) (by decide)
          refine lv_iconst (v := 1) hx hb dX4_hasRoomFor_56 (by decide) ?_
          refine lv_goto (tgt := 61) hx hb dX4_hasRoomFor_57 (by decide) ?_
          exact J61_s0_1 H locs ls (by have w0a := ((⟨Int.le_of_eq c1b.symm, Int.le_of_eq c1b⟩ : IV y1 128 128)).1; have w0b := ((⟨Int.le_of_eq c1b.symm, Int.le_of_eq c1b⟩ : IV y1 128 128)).2; have w1a := (ir6).1; have w1b := (ir6).2; exact ⟨fun h => by omega, fun h => by omega, fun h => by omega⟩) hH hS (lv_sub hl [] rfl)
      · refine lv_tableIn (tgt := 62) (off := 61) hx hb dX4_hasRoomFor_1 (by omega) (by omega) (by rw [c1b]; rfl) (by decide) ?_
        refine lv_aload_n hx hb dX4_hasRoomFor_62 rfl (lv_at hl 0 rfl) ?_
        refine th_get S hK hH inG4 t0 kd_46 rfl 12 (by decide) gm_278 rfl rfl dX4_hasRoomFor_63 (fun v7 hv7 fv7 => ?_)
        obtain ⟨x8, rfl, ix8⟩ := th_V.int hv7
        have kx8 : IV x8 (q 4) (q 4) := ix8
        have kx8a := kx8.1
        have kx8b := kx8.2
        have ix8 : IV x8 0 4 := iv_w ix8 (qok_4 hq)
        refine lv_iconst (v := 4) hx hb dX4_hasRoomFor_66 (by decide) ?_
        refine lv_icmp_ge (tgt := 74) hx hb dX4_hasRoomFor_67 (by decide) (fun c9 => ?_) (fun c9 => ?_)
        · skip
          have ir10 : IV x8 4 4 := iv_vR (iv_c (by decide) : IV 4 4 4) ix8 (iv_le c9) (by decide)
          refine lv_iconst (v := 0) hx hb dX4_hasRoomFor_74 (by decide) ?_
          exact J75_s0_0 H locs ls  hH hS (lv_sub hl [] rfl)
        · skip
          have ir11 : IV x8 0 3 := iv_uL ix8 (iv_c (by decide) : IV 4 4 4) (iv_nle c9) (by decide)
          refine lv_iconst (v := 1) hx hb dX4_hasRoomFor_70 (by decide) ?_
          refine lv_goto (tgt := 75) hx hb dX4_hasRoomFor_71 (by decide) ?_
          exact J75_s0_1 H locs ls (by have w0a := ((⟨Int.le_of_eq c1b.symm, Int.le_of_eq c1b⟩ : IV y1 129 129)).1; have w0b := ((⟨Int.le_of_eq c1b.symm, Int.le_of_eq c1b⟩ : IV y1 129 129)).2; have w1a := (ir11).1; have w1b := (ir11).2; exact ⟨fun h => by omega, fun h => by omega, fun h => by omega⟩) hH hS (lv_sub hl [] rfl)
      · refine lv_tableIn (tgt := 76) (off := 75) hx hb dX4_hasRoomFor_1 (by omega) (by omega) (by rw [c1b]; rfl) (by decide) ?_
        refine lv_aload_n hx hb dX4_hasRoomFor_76 rfl (lv_at hl 0 rfl) ?_
        refine th_get S hK hH inG4 t0 kd_46 rfl 13 (by decide) gm_284 rfl rfl dX4_hasRoomFor_77 (fun v12 hv12 fv12 => ?_)
        obtain ⟨x13, rfl, ix13⟩ := th_V.int hv12
        have kx13 : IV x13 (q 5) (q 5) := ix13
        have kx13a := kx13.1
        have kx13b := kx13.2
        have ix13 : IV x13 0 8 := iv_w ix13 (qok_5 hq)
        refine lv_bipush (v := 8) hx hb dX4_hasRoomFor_80 (by decide) ?_
        refine lv_icmp_ge (tgt := 89) hx hb dX4_hasRoomFor_82 (by decide) (fun c14 => ?_) (fun c14 => ?_)
        · skip
          have ir15 : IV x13 8 8 := iv_vR (iv_c (by decide) : IV 8 8 8) ix13 (iv_le c14) (by decide)
          refine lv_iconst (v := 0) hx hb dX4_hasRoomFor_89 (by decide) ?_
          exact J90_s0_0 H locs ls  hH hS (lv_sub hl [] rfl)
        · skip
          have ir16 : IV x13 0 7 := iv_uL ix13 (iv_c (by decide) : IV 8 8 8) (iv_nle c14) (by decide)
          refine lv_iconst (v := 1) hx hb dX4_hasRoomFor_85 (by decide) ?_
          refine lv_goto (tgt := 90) hx hb dX4_hasRoomFor_86 (by decide) ?_
          exact J90_s0_1 H locs ls (by have w0a := ((⟨Int.le_of_eq c1b.symm, Int.le_of_eq c1b⟩ : IV y1 130 130)).1; have w0b := ((⟨Int.le_of_eq c1b.symm, Int.le_of_eq c1b⟩ : IV y1 130 130)).2; have w1a := (ir16).1; have w1b := (ir16).2; exact ⟨fun h => by omega, fun h => by omega, fun h => by omega⟩) hH hS (lv_sub hl [] rfl)
      · refine lv_tableIn (tgt := 91) (off := 90) hx hb dX4_hasRoomFor_1 (by omega) (by omega) (by rw [c1b]; rfl) (by decide) ?_
        refine lv_aload_n hx hb dX4_hasRoomFor_91 rfl (lv_at hl 0 rfl) ?_
        refine th_get S hK hH inG4 t0 kd_46 rfl 15 (by decide) gm_291 rfl rfl dX4_hasRoomFor_92 (fun v17 hv17 fv17 => ?_)
        obtain ⟨x18, rfl, ix18⟩ := th_V.int hv17
        refine th_callSi (n := 1) (As := [.int x18]) S hK hH hS (th_A.sub (by decide)) (m_J6_bitCount_0f7a4 l D cT T q hq (x18) ix18) gm_715 gm_713 gm_714 gm_132 (by decide +kernel) ⟨rfl, rfl, Nat.le_of_ble_eq_true rfl, Nat.le_of_ble_eq_true rfl⟩ rfl hl.1 rfl (Nat.le_of_ble_eq_true rfl) dX4_hasRoomFor_95 ⟨Nat.zero_le _, Nat.zero_le _⟩ (fun x19 H locs ix19 hH hS hF1 => ?_)
        refine lv_bipush (v := 12) hx hb dX4_hasRoomFor_98 (by decide) ?_
        refine lv_icmp_ge (tgt := 107) hx hb dX4_hasRoomFor_100 (by decide) (fun c20 => ?_) (fun c20 => ?_)
        · skip
          have ir21 : IV x19 12 63 := iv_vR (iv_c (by decide) : IV 12 12 12) ix19 (iv_le c20) (by decide)
          refine lv_iconst (v := 0) hx hb dX4_hasRoomFor_107 (by decide) ?_
          exact J108_s0_0 H locs ls  hH hS (lv_sub hl [] rfl)
        · skip
          have ir22 : IV x19 0 11 := iv_uL ix19 (iv_c (by decide) : IV 12 12 12) (iv_nle c20) (by decide)
          refine lv_iconst (v := 1) hx hb dX4_hasRoomFor_103 (by decide) ?_
          refine lv_goto (tgt := 108) hx hb dX4_hasRoomFor_104 (by decide) ?_
          exact J108_s0_1 H locs ls (by have w0a := ((⟨Int.le_of_eq c1b.symm, Int.le_of_eq c1b⟩ : IV y1 131 131)).1; have w0b := ((⟨Int.le_of_eq c1b.symm, Int.le_of_eq c1b⟩ : IV y1 131 131)).2; have w2a := (ir22).1; have w2b := (ir22).2; exact ⟨fun h => by omega, fun h => by omega, fun h => by omega⟩) hH hS (lv_sub hl [] rfl)
      · refine lv_tableIn (tgt := 109) (off := 108) hx hb dX4_hasRoomFor_1 (by omega) (by omega) (by rw [c1b]; rfl) (by decide) ?_
        refine lv_aload_n hx hb dX4_hasRoomFor_109 rfl (lv_at hl 0 rfl) ?_
        refine th_get S hK hH inG4 t0 kd_46 rfl 14 (by decide) gm_288 rfl rfl dX4_hasRoomFor_110 (fun v23 hv23 fv23 => ?_)
        obtain ⟨x24, rfl, ix24⟩ := th_V.int hv23
        refine lv_bipush (v := 6) hx hb dX4_hasRoomFor_113 (by decide) ?_
        refine lv_icmp_ge (tgt := 122) hx hb dX4_hasRoomFor_115 (by decide) (fun c25 => ?_) (fun c25 => ?_)
        · skip
          have ir26 : IV x24 6 2147483647 := iv_vR (iv_c (by decide) : IV 6 6 6) ix24 (iv_le c25) (by decide)
          refine lv_iconst (v := 0) hx hb dX4_hasRoomFor_122 (by decide) ?_
          exact J123_s0_0 H locs ls  hH hS (lv_sub hl [] rfl)
        · skip
          have ir27 : IV x24 (-2147483648) 5 := iv_uL ix24 (iv_c (by decide) : IV 6 6 6) (iv_nle c25) (by decide)
          refine lv_iconst (v := 1) hx hb dX4_hasRoomFor_118 (by decide) ?_
          refine lv_goto (tgt := 123) hx hb dX4_hasRoomFor_119 (by decide) ?_
          exact J123_s0_1 H locs ls (by have w0a := ((⟨Int.le_of_eq c1b.symm, Int.le_of_eq c1b⟩ : IV y1 132 132)).1; have w0b := ((⟨Int.le_of_eq c1b.symm, Int.le_of_eq c1b⟩ : IV y1 132 132)).2; have w1a := (ir27).1; have w1b := (ir27).2; exact ⟨fun h => by omega, fun h => by omega, fun h => by omega⟩) hH hS (lv_sub hl [] rfl)
      · refine lv_tableIn (tgt := 124) (off := 123) hx hb dX4_hasRoomFor_1 (by omega) (by omega) (by rw [c1b]; rfl) (by decide) ?_
        refine lv_aload_n hx hb dX4_hasRoomFor_124 rfl (lv_at hl 0 rfl) ?_
        refine th_get S hK hH inG4 t0 kd_46 rfl 16 (by decide) gm_293 rfl rfl dX4_hasRoomFor_125 (fun v28 hv28 fv28 => ?_)
        obtain ⟨x29, rfl, ix29⟩ := th_V.int hv28
        refine lv_if_ne (tgt := 135) hx hb dX4_hasRoomFor_128 (by decide) (fun c30 => ?_) (fun c30 => ?_)
        · skip
          have ir31 : IV x29 1 1 := iv_cutL ix29 (iv_c (by decide) : IV 0 0 0) c30 (by decide)
          refine lv_iconst (v := 0) hx hb dX4_hasRoomFor_135 (by decide) ?_
          exact J136_s0_0 H locs ls  hH hS (lv_sub hl [] rfl)
        · skip
          have ir32 : IV x29 0 0 := iv_eL c30 (iv_c (by decide) : IV 0 0 0)
          refine lv_iconst (v := 1) hx hb dX4_hasRoomFor_131 (by decide) ?_
          refine lv_goto (tgt := 136) hx hb dX4_hasRoomFor_132 (by decide) ?_
          exact J136_s0_1 H locs ls (by have w0a := ((⟨Int.le_of_eq c1b.symm, Int.le_of_eq c1b⟩ : IV y1 133 133)).1; have w0b := ((⟨Int.le_of_eq c1b.symm, Int.le_of_eq c1b⟩ : IV y1 133 133)).2; have w1a := (ir32).1; have w1b := (ir32).2; exact ⟨fun h => by omega, fun h => by omega, fun h => by omega⟩) hH hS (lv_sub hl [] rfl)
      · refine lv_tableIn (tgt := 137) (off := 136) hx hb dX4_hasRoomFor_1 (by omega) (by omega) (by rw [c1b]; rfl) (by decide) ?_
        refine lv_aload_n hx hb dX4_hasRoomFor_137 rfl (lv_at hl 0 rfl) ?_
        refine th_get S hK hH inG4 t0 kd_46 rfl 17 (by decide) gm_296 rfl rfl dX4_hasRoomFor_138 (fun v33 hv33 fv33 => ?_)
        obtain ⟨x34, rfl, ix34⟩ := th_V.int hv33
        refine lv_if_ne (tgt := 148) hx hb dX4_hasRoomFor_141 (by decide) (fun c35 => ?_) (fun c35 => ?_)
        · skip
          have ir36 : IV x34 1 1 := iv_cutL ix34 (iv_c (by decide) : IV 0 0 0) c35 (by decide)
          refine lv_iconst (v := 0) hx hb dX4_hasRoomFor_148 (by decide) ?_
          exact J149_s0_0 H locs ls  hH hS (lv_sub hl [] rfl)
        · skip
          have ir37 : IV x34 0 0 := iv_eL c35 (iv_c (by decide) : IV 0 0 0)
          refine lv_iconst (v := 1) hx hb dX4_hasRoomFor_144 (by decide) ?_
          refine lv_goto (tgt := 149) hx hb dX4_hasRoomFor_145 (by decide) ?_
          exact J149_s0_1 H locs ls (by have w0a := ((⟨Int.le_of_eq c1b.symm, Int.le_of_eq c1b⟩ : IV y1 134 134)).1; have w0b := ((⟨Int.le_of_eq c1b.symm, Int.le_of_eq c1b⟩ : IV y1 134 134)).2; have w1a := (ir37).1; have w1b := (ir37).2; exact ⟨fun h => by omega, fun h => by omega, fun h => by omega⟩) hH hS (lv_sub hl [] rfl)
      · refine lv_tableIn (tgt := 150) (off := 149) hx hb dX4_hasRoomFor_1 (by omega) (by omega) (by rw [c1b]; rfl) (by decide) ?_
        refine lv_aload_n hx hb dX4_hasRoomFor_150 rfl (lv_at hl 0 rfl) ?_
        refine th_get S hK hH inG4 t0 kd_46 rfl 18 (by decide) gm_298 rfl rfl dX4_hasRoomFor_151 (fun v38 hv38 fv38 => ?_)
        obtain ⟨x39, rfl, ix39⟩ := th_V.int hv38
        refine lv_if_ne (tgt := 161) hx hb dX4_hasRoomFor_154 (by decide) (fun c40 => ?_) (fun c40 => ?_)
        · skip
          have ir41 : IV x39 1 1 := iv_cutL ix39 (iv_c (by decide) : IV 0 0 0) c40 (by decide)
          refine lv_iconst (v := 0) hx hb dX4_hasRoomFor_161 (by decide) ?_
          exact J162_s0_0 H locs ls  hH hS (lv_sub hl [] rfl)
        · skip
          have ir42 : IV x39 0 0 := iv_eL c40 (iv_c (by decide) : IV 0 0 0)
          refine lv_iconst (v := 1) hx hb dX4_hasRoomFor_157 (by decide) ?_
          refine lv_goto (tgt := 162) hx hb dX4_hasRoomFor_158 (by decide) ?_
          exact J162_s0_1 H locs ls (by have w0a := ((⟨Int.le_of_eq c1b.symm, Int.le_of_eq c1b⟩ : IV y1 135 135)).1; have w0b := ((⟨Int.le_of_eq c1b.symm, Int.le_of_eq c1b⟩ : IV y1 135 135)).2; have w1a := (ir42).1; have w1b := (ir42).2; exact ⟨fun h => by omega, fun h => by omega, fun h => by omega⟩) hH hS (lv_sub hl [] rfl)
  exact J0 s.heap [] ls hH va_S.rf hl

set_option maxRecDepth 100000 in
theorem m_X5_prepare (l : Launch) (D : va_G) (cT : Nat → ClassId) (T : Nat → Option Nat) (q : Nat → Int) (hq : qok q) (a0 : Nat) (t0 : T a0 = some 7) (a1 : Nat) (t1 : T a1 = some 10) (y2 : Int32) (j2 : IV y2 0 2) : th_Met l D cT T (kd q) yX5_prepare cX5_prepare 4 none (rmk 2 81) [.ref a0, .ref a1, .int y2] (th_R T none) [7, 18, 19, 29, 35] := by
  refine th_start (by decide) (Nat.le_of_ble_eq_true rfl) ?_
  intro p e s m below meth c ls S hK hH hr hlocks hnm hl
  have hx := S.1
  have hb := S.2.1
  have hl : lv_has ls 4 [(0, .ref a0), (1, .ref a1), (2, .int y2)] := hl
  have J17 : ∀ (n : Nat) (H : Heap) (locs : List Loc) (ls : Array Slot) (v17_3 : Int32), IV v17_3 0 4 → th_H D cT T (kd q) H → va_S (th_A T [7, 18, 19, 29, 35]) s.heap H locs → lv_has ls 4 [(0, .ref a0), (1, .ref a1), (3, .int v17_3)] → (4 + 1 - v17_3.toInt).toNat < n → W p l e (rmk 2 81) s m [.ref a0, .ref a1, .int y2].toArray below meth c H locs 0 0 (MQ below (th_Q D cT T (kd q) (th_R T none) [7, 18, 19, 29, 35]) [.ref a0, .ref a1, .int y2].toArray s 0 0 (th_A T [7, 18, 19, 29, 35])) (F0 m 17 ls []) := by
    intro n
    induction n with
    | zero => intro H locs ls v17_3 iv17_3 hH hS hl hn; exact absurd hn (Nat.not_lt_zero _)
    | succ n ih17 =>
      intro H locs ls v17_3 iv17_3 hH hS hl hn17
      refine lv_iload_n hx hb dX5_prepare_17 rfl (lv_at hl 2 rfl) ?_
      refine lv_aload_n hx hb dX5_prepare_18 rfl (lv_at hl 0 rfl) ?_
      refine th_get S hK hH inG5 t0 kd_7 rfl 0 (by decide) gm_427 rfl rfl dX5_prepare_19 (fun v1 hv1 fv1 => ?_)
      obtain ⟨rf2, rfl, trf2⟩ := th_V.ref hv1
      refine th_get S hK hH inG0 trf2 kd_4 rfl 0 (by decide) gm_370 rfl rfl dX5_prepare_22 (fun v3 hv3 fv3 => ?_)
      obtain ⟨rf4, rfl, trf4⟩ := th_V.ref hv3
      refine th_get S hK hH inG4 trf4 kd_3 rfl 12 (by decide) gm_281 rfl rfl dX5_prepare_25 (fun v5 hv5 fv5 => ?_)
      obtain ⟨x6, rfl, ix6⟩ := th_V.int hv5
      refine lv_icmp_ge (tgt := 52) hx hb dX5_prepare_28 (by decide) (fun c7 => ?_) (fun c7 => ?_)
      · skip
        exact th_vret S hK hH hS hr hlocks rfl dX5_prepare_52
      · skip
        have ir8 : IV v17_3 0 3 := iv_uL iv17_3 ix6 (iv_nle c7) (by decide)
        have ir9 : IV x6 1 4 := iv_uR iv17_3 ix6 (iv_nle c7) (by decide)
        refine lv_aload_n hx hb dX5_prepare_31 rfl (lv_at hl 0 rfl) ?_
        refine th_get S hK hH inG5 t0 kd_7 rfl 4 (by decide) gm_433 rfl rfl dX5_prepare_32 (fun v10 hv10 fv10 => ?_)
        obtain ⟨rf11, rfl, trf11⟩ := th_V.ref hv10
        refine lv_iload_n hx hb dX5_prepare_35 rfl (lv_at hl 2 rfl) ?_
        refine lv_aload_n hx hb dX5_prepare_36 rfl (lv_at hl 0 rfl) ?_
        refine th_getK S hK fv1 inG5 rfl (by decide) gm_427 rfl dX5_prepare_37 ?_
        refine lv_aload_n hx hb dX5_prepare_40 rfl (lv_at hl 1 rfl) ?_
        refine lv_iload_n hx hb dX5_prepare_41 rfl (lv_at hl 2 rfl) ?_
        refine th_callVi (n := 2) (As := [.ref a1, .int v17_3]) S hK hH hS (th_A.sub (by decide)) (m_X0_hungerOf l D cT T q hq rf2 trf2 a1 t1 (v17_3) ir8) gm_840 gm_1033 gm_838 gm_839 gm_119 (by decide +kernel) ⟨rfl, rfl, Nat.le_of_ble_eq_true rfl, Nat.le_of_ble_eq_true rfl⟩ trf2 kd_4 rfl rfl hl.1 rfl (Nat.le_of_ble_eq_true rfl) dX5_prepare_42 ⟨Nat.zero_le _, Nat.zero_le _⟩ (fun x13 H locs ix13 hH hS hF1 => ?_)
        have f14 := fv1.kept (hF1 _ fv1.lt (th_off t0 (by decide)))
        refine th_iast S hK hH hS ⟨35, by decide, trf11⟩ trf11 kd_35 (th_in (hi := 3) ir8 (by decide)) (th_iv (iv_top _)) dX5_prepare_45 (fun H locs hH hS hq1 => ?_)
        have f15 := f14.kept (hq1 _ (th_ne t0 trf11 (by decide)))
        refine th_iinc S dX5_prepare_46 hl (k := 2) rfl (by decide) ir8 (by decide) (fun x16 ls ex16 ix16 hl => ?_)
        have hl : lv_has ls 4 [(3, .int x16), (0, .ref a0), (1, .ref a1)] := hl
        have ix16 : IV x16 1 4 := ix16
        refine lv_goto (tgt := 17) hx hb dX5_prepare_49 (by decide) ?_
        exact ih17 H locs ls x16 (iv_w ix16 (by decide)) hH hS (lv_sub hl [1, 2, 0] rfl) (th_up iv17_3 ex16 (by decide) hn17)
  have J0 : ∀ (H : Heap) (locs : List Loc) (ls : Array Slot), th_H D cT T (kd q) H → va_S (th_A T [7, 18, 19, 29, 35]) s.heap H locs → lv_has ls 4 [(0, .ref a0), (1, .ref a1), (2, .int y2)] → W p l e (rmk 2 81) s m [.ref a0, .ref a1, .int y2].toArray below meth c H locs 0 0 (MQ below (th_Q D cT T (kd q) (th_R T none) [7, 18, 19, 29, 35]) [.ref a0, .ref a1, .int y2].toArray s 0 0 (th_A T [7, 18, 19, 29, 35])) (F0 m 0 ls []) := by
    intro H locs ls hH hS hl
    refine lv_aload_n hx hb dX5_prepare_0 rfl (lv_at hl 0 rfl) ?_
    refine lv_iload_n hx hb dX5_prepare_1 rfl (lv_at hl 2 rfl) ?_
    refine th_put S hK hH hS ⟨7, by decide, t0⟩ inG5 tyX5 tyX5_ok nmX5 t0 kd_7 rfl 9 (by decide) gm_438 rfl rfl rfl rfl (th_iv j2) (fun _ _ => trivial) (ty := .int) (by decide +kernel) rfl rfl dX5_prepare_2 (fun H locs hH hS hq1 hp1 => ?_)
    refine lv_aload_n hx hb dX5_prepare_5 rfl (lv_at hl 0 rfl) ?_
    refine th_get S hK hH inG5 t0 kd_7 rfl 3 (by decide) gm_432 rfl rfl dX5_prepare_6 (fun v17 hv17 fv17 => ?_)
    obtain ⟨rf18, rfl, trf18⟩ := th_V.ref hv17
    refine lv_iconst (v := 0) hx hb dX5_prepare_9 (by decide) ?_
    refine th_aald S hK hH trf18 kd_32 (th_in (hi := 0) (iv_c (by decide) : IV 0 0 0) (by decide)) dX5_prepare_10 (fun v19 hv19 => ?_)
    obtain ⟨rf20, rfl, trf20⟩ := th_V.ref hv19
    refine lv_aload_n hx hb dX5_prepare_11 rfl (lv_at hl 1 rfl) ?_
    refine th_callVv (n := 1) (As := [.ref a1]) S hK hH hS (th_A.sub (by decide)) (m_X7_copyFrom l D cT T q hq rf20 trf20 a1 t1) gm_809 gm_1032 gm_807 gm_808 gm_118 (by decide +kernel) ⟨rfl, rfl, Nat.le_of_ble_eq_true rfl, Nat.le_of_ble_eq_true rfl⟩ trf20 kd_10 rfl rfl hl.1 rfl (Nat.le_of_ble_eq_true rfl) dX5_prepare_12 ⟨Nat.zero_le _, Nat.zero_le _⟩ (fun H locs hH hS hF1 => ?_)
    refine lv_iconst (v := 0) hx hb dX5_prepare_15 (by decide) ?_
    refine lv_istore_n (lv' := [(3, .int 0), (0, .ref a0), (1, .ref a1), (2, .int y2)]) hx hb dX5_prepare_16 rfl hl (by decide) rfl (fun ls hl => ?_)
    exact J17 ((4 + 1 - Int32.toInt 0).toNat + 1) H locs ls 0 (iv_w (iv_c (by decide) : IV 0 0 0) (by decide)) hH hS (lv_sub hl [1, 2, 0] rfl) (Nat.lt_succ_self _)
  exact J0 s.heap [] ls hH va_S.rf hl
