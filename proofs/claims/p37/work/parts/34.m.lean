theorem dX10_undo_0 : decode cX10_undo 0 = .ok (.aload_n 0, 1) := by decide +kernel
theorem dX10_undo_1 : decode cX10_undo 1 = .ok (.getfield 44, 3) := by decide +kernel
theorem dX10_undo_4 : decode cX10_undo 4 = .ok (.invokevirtual 187, 3) := by decide +kernel
theorem dX10_undo_7 : decode cX10_undo 7 = .ok (.ireturn, 1) := by decide +kernel
theorem dX10_redo_0 : decode cX10_redo 0 = .ok (.aload_n 0, 1) := by decide +kernel
theorem dX10_redo_1 : decode cX10_redo 1 = .ok (.getfield 44, 3) := by decide +kernel
theorem dX10_redo_4 : decode cX10_redo 4 = .ok (.invokevirtual 190, 3) := by decide +kernel
theorem dX10_redo_7 : decode cX10_redo 7 = .ok (.ireturn, 1) := by decide +kernel
theorem dX10_hungry_0 : decode cX10_hungry 0 = .ok (.aload_n 0, 1) := by decide +kernel
theorem dX10_hungry_1 : decode cX10_hungry 1 = .ok (.getfield 44, 3) := by decide +kernel
theorem dX10_hungry_4 : decode cX10_hungry 4 = .ok (.invokevirtual 127, 3) := by decide +kernel
theorem dX10_hungry_7 : decode cX10_hungry 7 = .ok (.astore_n 1, 1) := by decide +kernel
theorem dX10_hungry_8 : decode cX10_hungry 8 = .ok (.iconst 0, 1) := by decide +kernel
theorem dX10_hungry_9 : decode cX10_hungry 9 = .ok (.istore_n 2, 1) := by decide +kernel
theorem dX10_hungry_10 : decode cX10_hungry 10 = .ok (.iconst 0, 1) := by decide +kernel
theorem dX10_hungry_11 : decode cX10_hungry 11 = .ok (.istore_n 3, 1) := by decide +kernel
theorem dX10_hungry_12 : decode cX10_hungry 12 = .ok (.iload_n 3, 1) := by decide +kernel
theorem dX10_hungry_13 : decode cX10_hungry 13 = .ok (.aload_n 0, 1) := by decide +kernel
theorem dX10_hungry_14 : decode cX10_hungry 14 = .ok (.getfield 28, 3) := by decide +kernel
theorem dX10_hungry_17 : decode cX10_hungry 17 = .ok (.getfield 114, 3) := by decide +kernel
theorem dX10_hungry_20 : decode cX10_hungry 20 = .ok (.if_icmp .ge 36, 3) := by decide +kernel
theorem dX10_hungry_23 : decode cX10_hungry 23 = .ok (.aload_n 0, 1) := by decide +kernel
theorem dX10_hungry_24 : decode cX10_hungry 24 = .ok (.getfield 37, 3) := by decide +kernel
theorem dX10_hungry_27 : decode cX10_hungry 27 = .ok (.aload_n 1, 1) := by decide +kernel
theorem dX10_hungry_28 : decode cX10_hungry 28 = .ok (.iload_n 3, 1) := by decide +kernel
theorem dX10_hungry_29 : decode cX10_hungry 29 = .ok (.invokevirtual 145, 3) := by decide +kernel
theorem dX10_hungry_32 : decode cX10_hungry 32 = .ok (.aload_n 0, 1) := by decide +kernel
theorem dX10_hungry_33 : decode cX10_hungry 33 = .ok (.getfield 37, 3) := by decide +kernel
theorem dX10_hungry_36 : decode cX10_hungry 36 = .ok (.aload_n 1, 1) := by decide +kernel
theorem dX10_hungry_37 : decode cX10_hungry 37 = .ok (.iload_n 3, 1) := by decide +kernel
theorem dX10_hungry_38 : decode cX10_hungry 38 = .ok (.invokevirtual 141, 3) := by decide +kernel
theorem dX10_hungry_41 : decode cX10_hungry 41 = .ok (.if_icmp .ge 9, 3) := by decide +kernel
theorem dX10_hungry_44 : decode cX10_hungry 44 = .ok (.iload_n 2, 1) := by decide +kernel
theorem dX10_hungry_45 : decode cX10_hungry 45 = .ok (.iconst 1, 1) := by decide +kernel
theorem dX10_hungry_46 : decode cX10_hungry 46 = .ok (.iload_n 3, 1) := by decide +kernel
theorem dX10_hungry_47 : decode cX10_hungry 47 = .ok (.ishl, 1) := by decide +kernel
theorem dX10_hungry_48 : decode cX10_hungry 48 = .ok (.ior, 1) := by decide +kernel
theorem dX10_hungry_49 : decode cX10_hungry 49 = .ok (.istore_n 2, 1) := by decide +kernel
theorem dX10_hungry_50 : decode cX10_hungry 50 = .ok (.iinc 3 1, 3) := by decide +kernel
theorem dX10_hungry_53 : decode cX10_hungry 53 = .ok (.goto (-41), 3) := by decide +kernel
theorem dX10_hungry_56 : decode cX10_hungry 56 = .ok (.iload_n 2, 1) := by decide +kernel
theorem dX10_hungry_57 : decode cX10_hungry 57 = .ok (.ireturn, 1) := by decide +kernel
theorem dX10_needs_0 : decode cX10_needs 0 = .ok (.aload_n 0, 1) := by decide +kernel
theorem dX10_needs_1 : decode cX10_needs 1 = .ok (.iload_n 1, 1) := by decide +kernel
theorem dX10_needs_2 : decode cX10_needs 2 = .ok (.invokevirtual 135, 3) := by decide +kernel
theorem dX10_needs_5 : decode cX10_needs 5 = .ok (.ifCond .eq 11, 3) := by decide +kernel
theorem dX10_needs_8 : decode cX10_needs 8 = .ok (.aload_n 0, 1) := by decide +kernel
theorem dX10_needs_9 : decode cX10_needs 9 = .ok (.iload_n 2, 1) := by decide +kernel
theorem dX10_needs_10 : decode cX10_needs 10 = .ok (.invokevirtual 123, 3) := by decide +kernel
theorem dX10_needs_13 : decode cX10_needs 13 = .ok (.ifCond .ne 5, 3) := by decide +kernel
theorem dX10_needs_16 : decode cX10_needs 16 = .ok (.iconst (-1), 1) := by decide +kernel
theorem dX10_needs_17 : decode cX10_needs 17 = .ok (.ireturn, 1) := by decide +kernel
theorem dX10_needs_18 : decode cX10_needs 18 = .ok (.aload_n 0, 1) := by decide +kernel
theorem dX10_needs_19 : decode cX10_needs 19 = .ok (.getfield 37, 3) := by decide +kernel
theorem dX10_needs_22 : decode cX10_needs 22 = .ok (.aload_n 0, 1) := by decide +kernel
theorem dX10_needs_23 : decode cX10_needs 23 = .ok (.getfield 44, 3) := by decide +kernel
theorem dX10_needs_26 : decode cX10_needs 26 = .ok (.invokevirtual 127, 3) := by decide +kernel
theorem dX10_needs_29 : decode cX10_needs 29 = .ok (.iload_n 1, 1) := by decide +kernel
theorem dX10_needs_30 : decode cX10_needs 30 = .ok (.invokevirtual 141, 3) := by decide +kernel
theorem dX10_needs_33 : decode cX10_needs 33 = .ok (.aload_n 0, 1) := by decide +kernel
theorem dX10_needs_34 : decode cX10_needs 34 = .ok (.getfield 37, 3) := by decide +kernel
theorem dX10_needs_37 : decode cX10_needs 37 = .ok (.aload_n 0, 1) := by decide +kernel
theorem dX10_needs_38 : decode cX10_needs 38 = .ok (.getfield 44, 3) := by decide +kernel
theorem dX10_needs_41 : decode cX10_needs 41 = .ok (.invokevirtual 127, 3) := by decide +kernel
theorem dX10_needs_44 : decode cX10_needs 44 = .ok (.iload_n 1, 1) := by decide +kernel
theorem dX10_needs_45 : decode cX10_needs 45 = .ok (.invokevirtual 145, 3) := by decide +kernel
theorem dX10_needs_48 : decode cX10_needs 48 = .ok (.isub, 1) := by decide +kernel
theorem dX10_needs_49 : decode cX10_needs 49 = .ok (.istore_n 3, 1) := by decide +kernel
theorem dX10_needs_50 : decode cX10_needs 50 = .ok (.iload_n 3, 1) := by decide +kernel
theorem dX10_needs_51 : decode cX10_needs 51 = .ok (.ifCond .gt 5, 3) := by decide +kernel
theorem dX10_needs_54 : decode cX10_needs 54 = .ok (.iconst 0, 1) := by decide +kernel
theorem dX10_needs_55 : decode cX10_needs 55 = .ok (.ireturn, 1) := by decide +kernel
theorem dX10_needs_56 : decode cX10_needs 56 = .ok (.aload_n 0, 1) := by decide +kernel
theorem dX10_needs_57 : decode cX10_needs 57 = .ok (.getfield 28, 3) := by decide +kernel
theorem dX10_needs_60 : decode cX10_needs 60 = .ok (.getfield 168, 3) := by decide +kernel
theorem dX10_needs_63 : decode cX10_needs 63 = .ok (.iload_n 1, 1) := by decide +kernel
theorem dX10_needs_64 : decode cX10_needs 64 = .ok (.iconst 3, 1) := by decide +kernel
theorem dX10_needs_65 : decode cX10_needs 65 = .ok (.imul, 1) := by decide +kernel
theorem dX10_needs_66 : decode cX10_needs 66 = .ok (.iload_n 2, 1) := by decide +kernel
theorem dX10_needs_67 : decode cX10_needs 67 = .ok (.iadd, 1) := by decide +kernel
theorem dX10_needs_68 : decode cX10_needs 68 = .ok (.iaload, 1) := by decide +kernel
theorem dX10_needs_69 : decode cX10_needs 69 = .ok (.istore 4, 2) := by decide +kernel
theorem dX10_needs_71 : decode cX10_needs 71 = .ok (.iload 4, 2) := by decide +kernel
theorem dX10_needs_73 : decode cX10_needs 73 = .ok (.ifCond .gt 7, 3) := by decide +kernel
theorem dX10_needs_76 : decode cX10_needs 76 = .ok (.iconst (-1), 1) := by decide +kernel
theorem dX10_needs_77 : decode cX10_needs 77 = .ok (.goto 12, 3) := by decide +kernel
theorem dX10_needs_80 : decode cX10_needs 80 = .ok (.iload_n 3, 1) := by decide +kernel
theorem dX10_needs_81 : decode cX10_needs 81 = .ok (.iload 4, 2) := by decide +kernel
theorem dX10_needs_83 : decode cX10_needs 83 = .ok (.iadd, 1) := by decide +kernel
theorem dX10_needs_84 : decode cX10_needs 84 = .ok (.iconst 1, 1) := by decide +kernel
theorem dX10_needs_85 : decode cX10_needs 85 = .ok (.isub, 1) := by decide +kernel
theorem dX10_needs_86 : decode cX10_needs 86 = .ok (.iload 4, 2) := by decide +kernel
theorem dX10_needs_88 : decode cX10_needs 88 = .ok (.idiv, 1) := by decide +kernel
theorem dX10_needs_89 : decode cX10_needs 89 = .ok (.ireturn, 1) := by decide +kernel
theorem dX10_over_0 : decode cX10_over 0 = .ok (.aload_n 0, 1) := by decide +kernel
theorem dX10_over_1 : decode cX10_over 1 = .ok (.iload_n 1, 1) := by decide +kernel
theorem dX10_over_2 : decode cX10_over 2 = .ok (.invokevirtual 135, 3) := by decide +kernel
theorem dX10_over_5 : decode cX10_over 5 = .ok (.ifCond .ne 5, 3) := by decide +kernel
theorem dX10_over_8 : decode cX10_over 8 = .ok (.iconst (-1), 1) := by decide +kernel
theorem dX10_over_9 : decode cX10_over 9 = .ok (.ireturn, 1) := by decide +kernel
theorem dX10_over_10 : decode cX10_over 10 = .ok (.iconst 0, 1) := by decide +kernel
theorem dX10_over_11 : decode cX10_over 11 = .ok (.aload_n 0, 1) := by decide +kernel
theorem dX10_over_12 : decode cX10_over 12 = .ok (.getfield 37, 3) := by decide +kernel
theorem dX10_over_15 : decode cX10_over 15 = .ok (.aload_n 0, 1) := by decide +kernel
theorem dX10_over_16 : decode cX10_over 16 = .ok (.getfield 44, 3) := by decide +kernel
theorem dX10_over_19 : decode cX10_over 19 = .ok (.invokevirtual 127, 3) := by decide +kernel
theorem dX10_over_22 : decode cX10_over 22 = .ok (.iload_n 1, 1) := by decide +kernel
theorem dX10_over_23 : decode cX10_over 23 = .ok (.invokevirtual 145, 3) := by decide +kernel
theorem dX10_over_26 : decode cX10_over 26 = .ok (.aload_n 0, 1) := by decide +kernel
theorem dX10_over_27 : decode cX10_over 27 = .ok (.getfield 37, 3) := by decide +kernel
theorem dX10_over_30 : decode cX10_over 30 = .ok (.aload_n 0, 1) := by decide +kernel
theorem dX10_over_31 : decode cX10_over 31 = .ok (.getfield 44, 3) := by decide +kernel
theorem dX10_over_34 : decode cX10_over 34 = .ok (.invokevirtual 127, 3) := by decide +kernel
theorem dX10_over_37 : decode cX10_over 37 = .ok (.iload_n 1, 1) := by decide +kernel
theorem dX10_over_38 : decode cX10_over 38 = .ok (.invokevirtual 141, 3) := by decide +kernel
theorem dX10_over_41 : decode cX10_over 41 = .ok (.isub, 1) := by decide +kernel
theorem dX10_over_42 : decode cX10_over 42 = .ok (.invokestatic 193, 3) := by decide +kernel
theorem dX10_over_45 : decode cX10_over 45 = .ok (.ireturn, 1) := by decide +kernel
theorem dX10_bitesIn_0 : decode cX10_bitesIn 0 = .ok (.aload_n 0, 1) := by decide +kernel
theorem dX10_bitesIn_1 : decode cX10_bitesIn 1 = .ok (.iload_n 1, 1) := by decide +kernel
theorem dX10_bitesIn_2 : decode cX10_bitesIn 2 = .ok (.invokevirtual 135, 3) := by decide +kernel
theorem dX10_bitesIn_5 : decode cX10_bitesIn 5 = .ok (.ifCond .eq 21, 3) := by decide +kernel
theorem dX10_bitesIn_8 : decode cX10_bitesIn 8 = .ok (.aload_n 0, 1) := by decide +kernel
theorem dX10_bitesIn_9 : decode cX10_bitesIn 9 = .ok (.getfield 53, 3) := by decide +kernel
theorem dX10_bitesIn_12 : decode cX10_bitesIn 12 = .ok (.aload_n 0, 1) := by decide +kernel
theorem dX10_bitesIn_13 : decode cX10_bitesIn 13 = .ok (.getfield 44, 3) := by decide +kernel
theorem dX10_bitesIn_16 : decode cX10_bitesIn 16 = .ok (.invokevirtual 127, 3) := by decide +kernel
theorem dX10_bitesIn_19 : decode cX10_bitesIn 19 = .ok (.iload_n 1, 1) := by decide +kernel
theorem dX10_bitesIn_20 : decode cX10_bitesIn 20 = .ok (.invokevirtual 199, 3) := by decide +kernel
theorem dX10_bitesIn_23 : decode cX10_bitesIn 23 = .ok (.goto 4, 3) := by decide +kernel
theorem dX10_bitesIn_26 : decode cX10_bitesIn 26 = .ok (.iconst (-1), 1) := by decide +kernel
theorem dX10_bitesIn_27 : decode cX10_bitesIn 27 = .ok (.ireturn, 1) := by decide +kernel
theorem dX10_will_0 : decode cX10_will 0 = .ok (.aload_n 0, 1) := by decide +kernel
theorem dX10_will_1 : decode cX10_will 1 = .ok (.iload_n 1, 1) := by decide +kernel
theorem dX10_will_2 : decode cX10_will 2 = .ok (.invokevirtual 154, 3) := by decide +kernel
theorem dX10_will_5 : decode cX10_will 5 = .ok (.ifCond .eq 13, 3) := by decide +kernel
theorem dX10_will_8 : decode cX10_will 8 = .ok (.iload_n 2, 1) := by decide +kernel
theorem dX10_will_9 : decode cX10_will 9 = .ok (.ifCond .lt 9, 3) := by decide +kernel
theorem dX10_will_12 : decode cX10_will 12 = .ok (.iload_n 2, 1) := by decide +kernel
theorem dX10_will_13 : decode cX10_will 13 = .ok (.bipush 40, 2) := by decide +kernel
theorem dX10_will_15 : decode cX10_will 15 = .ok (.if_icmp .le 5, 3) := by decide +kernel
theorem dX10_will_18 : decode cX10_will 18 = .ok (.iconst (-1), 1) := by decide +kernel
theorem dX10_will_19 : decode cX10_will 19 = .ok (.ireturn, 1) := by decide +kernel
theorem dX10_will_20 : decode cX10_will 20 = .ok (.aload_n 0, 1) := by decide +kernel
theorem dX10_will_21 : decode cX10_will 21 = .ok (.getfield 53, 3) := by decide +kernel
theorem dX10_will_24 : decode cX10_will 24 = .ok (.aload_n 0, 1) := by decide +kernel
theorem dX10_will_25 : decode cX10_will 25 = .ok (.getfield 44, 3) := by decide +kernel
theorem dX10_will_28 : decode cX10_will 28 = .ok (.invokevirtual 127, 3) := by decide +kernel
theorem dX10_will_31 : decode cX10_will 31 = .ok (.iload_n 2, 1) := by decide +kernel
theorem dX10_will_32 : decode cX10_will 32 = .ok (.invokevirtual 202, 3) := by decide +kernel
theorem dX10_will_35 : decode cX10_will 35 = .ok (.getfield 131, 3) := by decide +kernel
theorem dX10_will_38 : decode cX10_will 38 = .ok (.bipush 15, 2) := by decide +kernel
theorem dX10_will_40 : decode cX10_will 40 = .ok (.iload_n 1, 1) := by decide +kernel
theorem dX10_will_41 : decode cX10_will 41 = .ok (.iadd, 1) := by decide +kernel
theorem dX10_will_42 : decode cX10_will 42 = .ok (.iaload, 1) := by decide +kernel
theorem dX10_will_43 : decode cX10_will 43 = .ok (.ireturn, 1) := by decide +kernel
theorem dX10_doom_0 : decode cX10_doom 0 = .ok (.iload_n 1, 1) := by decide +kernel
theorem dX10_doom_1 : decode cX10_doom 1 = .ok (.ifCond .eq 10, 3) := by decide +kernel
theorem dX10_doom_4 : decode cX10_doom 4 = .ok (.iload_n 1, 1) := by decide +kernel
theorem dX10_doom_5 : decode cX10_doom 5 = .ok (.iconst 1, 1) := by decide +kernel
theorem dX10_doom_6 : decode cX10_doom 6 = .ok (.if_icmp .eq 5, 3) := by decide +kernel
theorem dX10_doom_9 : decode cX10_doom 9 = .ok (.iconst (-1), 1) := by decide +kernel
theorem dX10_doom_10 : decode cX10_doom 10 = .ok (.ireturn, 1) := by decide +kernel
theorem dX10_doom_11 : decode cX10_doom 11 = .ok (.aload_n 0, 1) := by decide +kernel
theorem dX10_doom_12 : decode cX10_doom 12 = .ok (.getfield 53, 3) := by decide +kernel
theorem dX10_doom_15 : decode cX10_doom 15 = .ok (.aload_n 0, 1) := by decide +kernel
theorem dX10_doom_16 : decode cX10_doom 16 = .ok (.getfield 44, 3) := by decide +kernel
theorem dX10_doom_19 : decode cX10_doom 19 = .ok (.invokevirtual 127, 3) := by decide +kernel
theorem dX10_doom_22 : decode cX10_doom 22 = .ok (.invokevirtual 206, 3) := by decide +kernel
theorem dX10_doom_25 : decode cX10_doom 25 = .ok (.istore_n 2, 1) := by decide +kernel
theorem dX10_doom_26 : decode cX10_doom 26 = .ok (.iload_n 1, 1) := by decide +kernel
theorem dX10_doom_27 : decode cX10_doom 27 = .ok (.ifCond .ne 7, 3) := by decide +kernel
theorem dX10_doom_30 : decode cX10_doom 30 = .ok (.iload_n 2, 1) := by decide +kernel
theorem dX10_doom_31 : decode cX10_doom 31 = .ok (.goto 10, 3) := by decide +kernel
theorem dX10_doom_34 : decode cX10_doom 34 = .ok (.aload_n 0, 1) := by decide +kernel
theorem dX10_doom_35 : decode cX10_doom 35 = .ok (.getfield 53, 3) := by decide +kernel
theorem dX10_doom_38 : decode cX10_doom 38 = .ok (.getfield 210, 3) := by decide +kernel
theorem dX10_doom_41 : decode cX10_doom 41 = .ok (.ireturn, 1) := by decide +kernel
theorem dX10_bitten_0 : decode cX10_bitten 0 = .ok (.aload_n 0, 1) := by decide +kernel
theorem dX10_bitten_1 : decode cX10_bitten 1 = .ok (.getfield 37, 3) := by decide +kernel
theorem dX10_bitten_4 : decode cX10_bitten 4 = .ok (.aload_n 0, 1) := by decide +kernel
theorem dX10_bitten_5 : decode cX10_bitten 5 = .ok (.getfield 44, 3) := by decide +kernel
theorem dX10_bitten_8 : decode cX10_bitten 8 = .ok (.invokevirtual 127, 3) := by decide +kernel
theorem dX10_bitten_11 : decode cX10_bitten 11 = .ok (.aload_n 0, 1) := by decide +kernel
theorem dX10_bitten_12 : decode cX10_bitten 12 = .ok (.getfield 53, 3) := by decide +kernel
theorem dX10_bitten_15 : decode cX10_bitten 15 = .ok (.aload_n 0, 1) := by decide +kernel
theorem dX10_bitten_16 : decode cX10_bitten 16 = .ok (.getfield 44, 3) := by decide +kernel
theorem dX10_bitten_19 : decode cX10_bitten 19 = .ok (.invokevirtual 127, 3) := by decide +kernel
theorem dX10_bitten_22 : decode cX10_bitten 22 = .ok (.iconst 1, 1) := by decide +kernel
theorem dX10_bitten_23 : decode cX10_bitten 23 = .ok (.invokevirtual 202, 3) := by decide +kernel
theorem dX10_bitten_26 : decode cX10_bitten 26 = .ok (.invokevirtual 177, 3) := by decide +kernel
theorem dX10_bitten_29 : decode cX10_bitten 29 = .ok (.ireturn, 1) := by decide +kernel
theorem dX10_gone_0 : decode cX10_gone 0 = .ok (.aload_n 0, 1) := by decide +kernel
theorem dX10_gone_1 : decode cX10_gone 1 = .ok (.getfield 37, 3) := by decide +kernel
theorem dX10_gone_4 : decode cX10_gone 4 = .ok (.aload_n 0, 1) := by decide +kernel
theorem dX10_gone_5 : decode cX10_gone 5 = .ok (.getfield 44, 3) := by decide +kernel
theorem dX10_gone_8 : decode cX10_gone 8 = .ok (.invokevirtual 127, 3) := by decide +kernel
theorem dX10_gone_11 : decode cX10_gone 11 = .ok (.invokevirtual 213, 3) := by decide +kernel
theorem dX10_gone_14 : decode cX10_gone 14 = .ok (.ireturn, 1) := by decide +kernel
theorem dX10_land_0 : decode cX10_land 0 = .ok (.iload_n 1, 1) := by decide +kernel
theorem dX10_land_1 : decode cX10_land 1 = .ok (.ifCond .lt 9, 3) := by decide +kernel
theorem dX10_land_4 : decode cX10_land 4 = .ok (.iload_n 1, 1) := by decide +kernel
theorem dX10_land_5 : decode cX10_land 5 = .ok (.bipush 40, 2) := by decide +kernel
theorem dX10_land_7 : decode cX10_land 7 = .ok (.if_icmp .le 7, 3) := by decide +kernel
theorem dX10_land_10 : decode cX10_land 10 = .ok (.iconst (-1), 1) := by decide +kernel
theorem dX10_land_11 : decode cX10_land 11 = .ok (.goto 25, 3) := by decide +kernel
theorem dX10_land_14 : decode cX10_land 14 = .ok (.aload_n 0, 1) := by decide +kernel
theorem dX10_land_15 : decode cX10_land 15 = .ok (.getfield 37, 3) := by decide +kernel
theorem dX10_land_18 : decode cX10_land 18 = .ok (.aload_n 0, 1) := by decide +kernel
theorem dX10_land_19 : decode cX10_land 19 = .ok (.getfield 53, 3) := by decide +kernel
theorem dX10_land_22 : decode cX10_land 22 = .ok (.aload_n 0, 1) := by decide +kernel
theorem dX10_land_23 : decode cX10_land 23 = .ok (.getfield 44, 3) := by decide +kernel
theorem dX10_land_26 : decode cX10_land 26 = .ok (.invokevirtual 127, 3) := by decide +kernel
theorem dX10_land_29 : decode cX10_land 29 = .ok (.iload_n 1, 1) := by decide +kernel
theorem dX10_land_30 : decode cX10_land 30 = .ok (.invokevirtual 202, 3) := by decide +kernel
theorem dX10_land_33 : decode cX10_land 33 = .ok (.invokevirtual 216, 3) := by decide +kernel
theorem dX10_land_36 : decode cX10_land 36 = .ok (.ireturn, 1) := by decide +kernel
theorem dX10_ration_0 : decode cX10_ration 0 = .ok (.aload_n 0, 1) := by decide +kernel
theorem dX10_ration_1 : decode cX10_ration 1 = .ok (.getfield 60, 3) := by decide +kernel
theorem dX10_ration_4 : decode cX10_ration 4 = .ok (.iconst 0, 1) := by decide +kernel
theorem dX10_ration_5 : decode cX10_ration 5 = .ok (.putfield 108, 3) := by decide +kernel
theorem dX10_ration_8 : decode cX10_ration 8 = .ok (.aload_n 0, 1) := by decide +kernel
theorem dX10_ration_9 : decode cX10_ration 9 = .ok (.iload_n 1, 1) := by decide +kernel
theorem dX10_ration_10 : decode cX10_ration 10 = .ok (.invokevirtual 123, 3) := by decide +kernel
theorem dX10_ration_13 : decode cX10_ration 13 = .ok (.ifCond .eq 19, 3) := by decide +kernel
theorem dX10_ration_16 : decode cX10_ration 16 = .ok (.iload_n 2, 1) := by decide +kernel
theorem dX10_ration_17 : decode cX10_ration 17 = .ok (.ifCond .lt 15, 3) := by decide +kernel
theorem dX10_ration_20 : decode cX10_ration 20 = .ok (.iload_n 2, 1) := by decide +kernel
theorem dX10_ration_21 : decode cX10_ration 21 = .ok (.aload_n 0, 1) := by decide +kernel
theorem dX10_ration_22 : decode cX10_ration 22 = .ok (.getfield 28, 3) := by decide +kernel
theorem dX10_ration_25 : decode cX10_ration 25 = .ok (.getfield 219, 3) := by decide +kernel
theorem dX10_ration_28 : decode cX10_ration 28 = .ok (.ishr, 1) := by decide +kernel
theorem dX10_ration_29 : decode cX10_ration 29 = .ok (.ifCond .eq 5, 3) := by decide +kernel
theorem dX10_ration_32 : decode cX10_ration 32 = .ok (.iconst (-1), 1) := by decide +kernel
theorem dX10_ration_33 : decode cX10_ration 33 = .ok (.ireturn, 1) := by decide +kernel
theorem dX10_ration_34 : decode cX10_ration 34 = .ok (.aload_n 0, 1) := by decide +kernel
theorem dX10_ration_35 : decode cX10_ration 35 = .ok (.getfield 60, 3) := by decide +kernel
theorem dX10_ration_38 : decode cX10_ration 38 = .ok (.aload_n 0, 1) := by decide +kernel
theorem dX10_ration_39 : decode cX10_ration 39 = .ok (.getfield 44, 3) := by decide +kernel
theorem dX10_ration_42 : decode cX10_ration 42 = .ok (.invokevirtual 127, 3) := by decide +kernel
theorem dX10_ration_45 : decode cX10_ration 45 = .ok (.iload_n 1, 1) := by decide +kernel
theorem dX10_ration_46 : decode cX10_ration 46 = .ok (.iload_n 2, 1) := by decide +kernel
theorem dX10_ration_47 : decode cX10_ration 47 = .ok (.invokevirtual 222, 3) := by decide +kernel
theorem dX10_ration_50 : decode cX10_ration 50 = .ok (.ireturn, 1) := by decide +kernel
theorem dX10_keep_0 : decode cX10_keep 0 = .ok (.aload_n 0, 1) := by decide +kernel
theorem dX10_keep_1 : decode cX10_keep 1 = .ok (.getfield 60, 3) := by decide +kernel
theorem dX10_keep_4 : decode cX10_keep 4 = .ok (.iconst 0, 1) := by decide +kernel
theorem dX10_keep_5 : decode cX10_keep 5 = .ok (.putfield 108, 3) := by decide +kernel
theorem dX10_keep_8 : decode cX10_keep 8 = .ok (.aload_n 0, 1) := by decide +kernel
theorem dX10_keep_9 : decode cX10_keep 9 = .ok (.iload_n 1, 1) := by decide +kernel
theorem dX10_keep_10 : decode cX10_keep 10 = .ok (.invokevirtual 123, 3) := by decide +kernel
theorem dX10_keep_13 : decode cX10_keep 13 = .ok (.ifCond .eq 41, 3) := by decide +kernel
theorem dX10_keep_16 : decode cX10_keep 16 = .ok (.aload_n 0, 1) := by decide +kernel
theorem dX10_keep_17 : decode cX10_keep 17 = .ok (.getfield 28, 3) := by decide +kernel
theorem dX10_keep_20 : decode cX10_keep 20 = .ok (.getfield 114, 3) := by decide +kernel
theorem dX10_keep_23 : decode cX10_keep 23 = .ok (.ifCond .eq 31, 3) := by decide +kernel
theorem dX10_keep_26 : decode cX10_keep 26 = .ok (.iload_n 2, 1) := by decide +kernel
theorem dX10_keep_27 : decode cX10_keep 27 = .ok (.ifCond .lt 27, 3) := by decide +kernel
theorem dX10_keep_30 : decode cX10_keep 30 = .ok (.iload_n 2, 1) := by decide +kernel
theorem dX10_keep_31 : decode cX10_keep 31 = .ok (.bipush 12, 2) := by decide +kernel
theorem dX10_keep_33 : decode cX10_keep 33 = .ok (.if_icmp .gt 21, 3) := by decide +kernel
theorem dX10_keep_36 : decode cX10_keep 36 = .ok (.iload_n 2, 1) := by decide +kernel
theorem dX10_keep_37 : decode cX10_keep 37 = .ok (.aload_n 0, 1) := by decide +kernel
theorem dX10_keep_38 : decode cX10_keep 38 = .ok (.getfield 44, 3) := by decide +kernel
theorem dX10_keep_41 : decode cX10_keep 41 = .ok (.invokevirtual 127, 3) := by decide +kernel
theorem dX10_keep_44 : decode cX10_keep 44 = .ok (.getfield 131, 3) := by decide +kernel
theorem dX10_keep_47 : decode cX10_keep 47 = .ok (.iconst 0, 1) := by decide +kernel
theorem dX10_keep_48 : decode cX10_keep 48 = .ok (.iload_n 1, 1) := by decide +kernel
theorem dX10_keep_49 : decode cX10_keep 49 = .ok (.iadd, 1) := by decide +kernel
theorem dX10_keep_50 : decode cX10_keep 50 = .ok (.iaload, 1) := by decide +kernel
theorem dX10_keep_51 : decode cX10_keep 51 = .ok (.if_icmp .le 5, 3) := by decide +kernel
theorem dX10_keep_54 : decode cX10_keep 54 = .ok (.iconst (-1), 1) := by decide +kernel
theorem dX10_keep_55 : decode cX10_keep 55 = .ok (.ireturn, 1) := by decide +kernel
theorem dX10_keep_56 : decode cX10_keep 56 = .ok (.aload_n 0, 1) := by decide +kernel
theorem dX10_keep_57 : decode cX10_keep 57 = .ok (.getfield 60, 3) := by decide +kernel
theorem dX10_keep_60 : decode cX10_keep 60 = .ok (.aload_n 0, 1) := by decide +kernel
theorem dX10_keep_61 : decode cX10_keep 61 = .ok (.getfield 44, 3) := by decide +kernel
theorem dX10_keep_64 : decode cX10_keep 64 = .ok (.invokevirtual 127, 3) := by decide +kernel
theorem dX10_keep_67 : decode cX10_keep 67 = .ok (.iload_n 1, 1) := by decide +kernel
theorem dX10_keep_68 : decode cX10_keep 68 = .ok (.iload_n 2, 1) := by decide +kernel
theorem dX10_keep_69 : decode cX10_keep 69 = .ok (.invokevirtual 225, 3) := by decide +kernel
theorem dX10_keep_72 : decode cX10_keep 72 = .ok (.ireturn, 1) := by decide +kernel
theorem dX10_folds_0 : decode cX10_folds 0 = .ok (.iload_n 1, 1) := by decide +kernel
theorem dX10_folds_1 : decode cX10_folds 1 = .ok (.iconst 1, 1) := by decide +kernel
theorem dX10_folds_2 : decode cX10_folds 2 = .ok (.if_icmp .lt 18, 3) := by decide +kernel
theorem dX10_folds_5 : decode cX10_folds 5 = .ok (.iload_n 1, 1) := by decide +kernel
theorem dX10_folds_6 : decode cX10_folds 6 = .ok (.bipush 20, 2) := by decide +kernel
theorem dX10_folds_8 : decode cX10_folds 8 = .ok (.if_icmp .gt 12, 3) := by decide +kernel
theorem dX10_folds_11 : decode cX10_folds 11 = .ok (.iload_n 2, 1) := by decide +kernel
theorem dX10_folds_12 : decode cX10_folds 12 = .ok (.ifCond .lt 8, 3) := by decide +kernel
theorem dX10_folds_15 : decode cX10_folds 15 = .ok (.iload_n 2, 1) := by decide +kernel
theorem dX10_folds_16 : decode cX10_folds 16 = .ok (.iconst 1, 1) := by decide +kernel
theorem dX10_folds_17 : decode cX10_folds 17 = .ok (.if_icmp .le 5, 3) := by decide +kernel
theorem dX10_folds_20 : decode cX10_folds 20 = .ok (.iconst (-1), 1) := by decide +kernel
theorem dX10_folds_21 : decode cX10_folds 21 = .ok (.ireturn, 1) := by decide +kernel
theorem dX10_folds_22 : decode cX10_folds 22 = .ok (.aload_n 0, 1) := by decide +kernel
theorem dX10_folds_23 : decode cX10_folds 23 = .ok (.getfield 53, 3) := by decide +kernel
theorem dX10_folds_26 : decode cX10_folds 26 = .ok (.aload_n 0, 1) := by decide +kernel
theorem dX10_folds_27 : decode cX10_folds 27 = .ok (.getfield 44, 3) := by decide +kernel
theorem dX10_folds_30 : decode cX10_folds 30 = .ok (.invokevirtual 127, 3) := by decide +kernel
theorem dX10_folds_33 : decode cX10_folds 33 = .ok (.iload_n 1, 1) := by decide +kernel
theorem dX10_folds_34 : decode cX10_folds 34 = .ok (.invokevirtual 228, 3) := by decide +kernel
theorem dX10_folds_37 : decode cX10_folds 37 = .ok (.istore_n 3, 1) := by decide +kernel
theorem dX10_folds_38 : decode cX10_folds 38 = .ok (.iload_n 3, 1) := by decide +kernel
theorem dX10_folds_39 : decode cX10_folds 39 = .ok (.iconst (-1), 1) := by decide +kernel
theorem dX10_folds_40 : decode cX10_folds 40 = .ok (.if_icmp .eq 8, 3) := by decide +kernel
theorem dX10_folds_43 : decode cX10_folds 43 = .ok (.iload_n 2, 1) := by decide +kernel
theorem dX10_folds_44 : decode cX10_folds 44 = .ok (.iconst 1, 1) := by decide +kernel
theorem dX10_folds_45 : decode cX10_folds 45 = .ok (.if_icmp .ne 7, 3) := by decide +kernel
theorem dX10_folds_48 : decode cX10_folds 48 = .ok (.iload_n 3, 1) := by decide +kernel
theorem dX10_folds_49 : decode cX10_folds 49 = .ok (.goto 7, 3) := by decide +kernel
theorem dX10_folds_52 : decode cX10_folds 52 = .ok (.iload_n 3, 1) := by decide +kernel
theorem dX10_folds_53 : decode cX10_folds 53 = .ok (.invokestatic 181, 3) := by decide +kernel
theorem dX10_folds_56 : decode cX10_folds 56 = .ok (.ireturn, 1) := by decide +kernel
theorem dX10_drawers_0 : decode cX10_drawers 0 = .ok (.iload_n 1, 1) := by decide +kernel
theorem dX10_drawers_1 : decode cX10_drawers 1 = .ok (.iconst 1, 1) := by decide +kernel
theorem dX10_drawers_2 : decode cX10_drawers 2 = .ok (.if_icmp .lt 8, 3) := by decide +kernel
theorem dX10_drawers_5 : decode cX10_drawers 5 = .ok (.iload_n 1, 1) := by decide +kernel
theorem dX10_drawers_6 : decode cX10_drawers 6 = .ok (.iconst 4, 1) := by decide +kernel
theorem dX10_drawers_7 : decode cX10_drawers 7 = .ok (.if_icmp .le 7, 3) := by decide +kernel
theorem dX10_drawers_10 : decode cX10_drawers 10 = .ok (.iconst (-1), 1) := by decide +kernel
theorem dX10_drawers_11 : decode cX10_drawers 11 = .ok (.goto 11, 3) := by decide +kernel
theorem dX10_drawers_14 : decode cX10_drawers 14 = .ok (.aload_n 0, 1) := by decide +kernel
theorem dX10_drawers_15 : decode cX10_drawers 15 = .ok (.getfield 60, 3) := by decide +kernel
theorem dX10_drawers_18 : decode cX10_drawers 18 = .ok (.iload_n 1, 1) := by decide +kernel
theorem dX10_drawers_19 : decode cX10_drawers 19 = .ok (.invokevirtual 231, 3) := by decide +kernel
theorem dX10_drawers_22 : decode cX10_drawers 22 = .ok (.ireturn, 1) := by decide +kernel
theorem dX10_least_0 : decode cX10_least 0 = .ok (.aload_n 0, 1) := by decide +kernel
theorem dX10_least_1 : decode cX10_least 1 = .ok (.getfield 28, 3) := by decide +kernel
theorem dX10_least_4 : decode cX10_least 4 = .ok (.getfield 114, 3) := by decide +kernel
theorem dX10_least_7 : decode cX10_least 7 = .ok (.ifCond .ne 5, 3) := by decide +kernel
theorem dX10_least_10 : decode cX10_least 10 = .ok (.iconst 0, 1) := by decide +kernel
theorem dX10_least_11 : decode cX10_least 11 = .ok (.ireturn, 1) := by decide +kernel
theorem dX10_least_12 : decode cX10_least 12 = .ok (.iconst 1, 1) := by decide +kernel
theorem dX10_least_13 : decode cX10_least 13 = .ok (.istore_n 1, 1) := by decide +kernel
theorem dX10_least_14 : decode cX10_least 14 = .ok (.iload_n 1, 1) := by decide +kernel
theorem dX10_least_15 : decode cX10_least 15 = .ok (.iconst 4, 1) := by decide +kernel
theorem dX10_least_16 : decode cX10_least 16 = .ok (.if_icmp .gt 22, 3) := by decide +kernel
theorem dX10_least_19 : decode cX10_least 19 = .ok (.aload_n 0, 1) := by decide +kernel
theorem dX10_least_20 : decode cX10_least 20 = .ok (.getfield 60, 3) := by decide +kernel
theorem dX10_least_23 : decode cX10_least 23 = .ok (.iload_n 1, 1) := by decide +kernel
theorem dX10_least_24 : decode cX10_least 24 = .ok (.invokevirtual 234, 3) := by decide +kernel
theorem dX10_least_27 : decode cX10_least 27 = .ok (.ifCond .le 5, 3) := by decide +kernel
theorem dX10_least_30 : decode cX10_least 30 = .ok (.iload_n 1, 1) := by decide +kernel
theorem dX10_least_31 : decode cX10_least 31 = .ok (.ireturn, 1) := by decide +kernel
theorem dX10_least_32 : decode cX10_least 32 = .ok (.iinc 1 1, 3) := by decide +kernel
theorem dX10_least_35 : decode cX10_least 35 = .ok (.goto (-21), 3) := by decide +kernel
theorem dX10_least_38 : decode cX10_least 38 = .ok (.iconst (-1), 1) := by decide +kernel
theorem dX10_least_39 : decode cX10_least 39 = .ok (.ireturn, 1) := by decide +kernel
theorem dX10_bites_0 : decode cX10_bites 0 = .ok (.iconst 0, 1) := by decide +kernel
theorem dX10_bites_1 : decode cX10_bites 1 = .ok (.istore_n 1, 1) := by decide +kernel
theorem dX10_bites_2 : decode cX10_bites 2 = .ok (.iconst 0, 1) := by decide +kernel
theorem dX10_bites_3 : decode cX10_bites 3 = .ok (.istore_n 2, 1) := by decide +kernel
theorem dX10_bites_4 : decode cX10_bites 4 = .ok (.iload_n 2, 1) := by decide +kernel
theorem dX10_bites_5 : decode cX10_bites 5 = .ok (.aload_n 0, 1) := by decide +kernel
theorem dX10_bites_6 : decode cX10_bites 6 = .ok (.getfield 28, 3) := by decide +kernel
theorem dX10_bites_9 : decode cX10_bites 9 = .ok (.getfield 114, 3) := by decide +kernel
theorem dX10_bites_12 : decode cX10_bites 12 = .ok (.if_icmp .ge 27, 3) := by decide +kernel
theorem dX10_bites_15 : decode cX10_bites 15 = .ok (.iload_n 1, 1) := by decide +kernel
theorem dX10_bites_16 : decode cX10_bites 16 = .ok (.aload_n 0, 1) := by decide +kernel
theorem dX10_bites_17 : decode cX10_bites 17 = .ok (.getfield 37, 3) := by decide +kernel
theorem dX10_bites_20 : decode cX10_bites 20 = .ok (.aload_n 0, 1) := by decide +kernel
theorem dX10_bites_21 : decode cX10_bites 21 = .ok (.getfield 44, 3) := by decide +kernel
theorem dX10_bites_24 : decode cX10_bites 24 = .ok (.invokevirtual 127, 3) := by decide +kernel
theorem dX10_bites_27 : decode cX10_bites 27 = .ok (.iload_n 2, 1) := by decide +kernel
theorem dX10_bites_28 : decode cX10_bites 28 = .ok (.invokevirtual 237, 3) := by decide +kernel
theorem dX10_bites_31 : decode cX10_bites 31 = .ok (.iadd, 1) := by decide +kernel
theorem dX10_bites_32 : decode cX10_bites 32 = .ok (.istore_n 1, 1) := by decide +kernel
theorem dX10_bites_33 : decode cX10_bites 33 = .ok (.iinc 2 1, 3) := by decide +kernel
theorem dX10_bites_36 : decode cX10_bites 36 = .ok (.goto (-32), 3) := by decide +kernel
theorem dX10_bites_39 : decode cX10_bites 39 = .ok (.iload_n 1, 1) := by decide +kernel
theorem dX10_bites_40 : decode cX10_bites 40 = .ok (.iconst 2, 1) := by decide +kernel
theorem dX10_bites_41 : decode cX10_bites 41 = .ok (.idiv, 1) := by decide +kernel
theorem dX10_bites_42 : decode cX10_bites 42 = .ok (.ireturn, 1) := by decide +kernel
theorem dX10_odds_0 : decode cX10_odds 0 = .ok (.aload_n 0, 1) := by decide +kernel
theorem dX10_odds_1 : decode cX10_odds 1 = .ok (.iload_n 1, 1) := by decide +kernel
theorem dX10_odds_2 : decode cX10_odds 2 = .ok (.invokevirtual 154, 3) := by decide +kernel
theorem dX10_odds_5 : decode cX10_odds 5 = .ok (.ifCond .eq 22, 3) := by decide +kernel
theorem dX10_odds_8 : decode cX10_odds 8 = .ok (.iload_n 2, 1) := by decide +kernel
theorem dX10_odds_9 : decode cX10_odds 9 = .ok (.ifCond .lt 18, 3) := by decide +kernel
theorem dX10_odds_12 : decode cX10_odds 12 = .ok (.iload_n 2, 1) := by decide +kernel
theorem dX10_odds_13 : decode cX10_odds 13 = .ok (.bipush 7, 2) := by decide +kernel
theorem dX10_odds_15 : decode cX10_odds 15 = .ok (.if_icmp .gt 12, 3) := by decide +kernel
theorem dX10_odds_18 : decode cX10_odds 18 = .ok (.iload_n 3, 1) := by decide +kernel
theorem dX10_odds_19 : decode cX10_odds 19 = .ok (.ifCond .lt 8, 3) := by decide +kernel
theorem dX10_odds_22 : decode cX10_odds 22 = .ok (.iload_n 3, 1) := by decide +kernel
theorem dX10_odds_23 : decode cX10_odds 23 = .ok (.iconst 1, 1) := by decide +kernel
theorem dX10_odds_24 : decode cX10_odds 24 = .ok (.if_icmp .le 5, 3) := by decide +kernel
theorem dX10_odds_27 : decode cX10_odds 27 = .ok (.iconst (-1), 1) := by decide +kernel
theorem dX10_odds_28 : decode cX10_odds 28 = .ok (.ireturn, 1) := by decide +kernel
theorem dX10_odds_29 : decode cX10_odds 29 = .ok (.aload_n 0, 1) := by decide +kernel
theorem dX10_odds_30 : decode cX10_odds 30 = .ok (.getfield 53, 3) := by decide +kernel
theorem dX10_odds_33 : decode cX10_odds 33 = .ok (.aload_n 0, 1) := by decide +kernel
theorem dX10_odds_34 : decode cX10_odds 34 = .ok (.getfield 44, 3) := by decide +kernel
theorem dX10_odds_37 : decode cX10_odds 37 = .ok (.invokevirtual 127, 3) := by decide +kernel
theorem dX10_odds_40 : decode cX10_odds 40 = .ok (.iload_n 1, 1) := by decide +kernel
theorem dX10_odds_41 : decode cX10_odds 41 = .ok (.iload_n 2, 1) := by decide +kernel
theorem dX10_odds_42 : decode cX10_odds 42 = .ok (.invokevirtual 240, 3) := by decide +kernel
theorem dX10_odds_45 : decode cX10_odds 45 = .ok (.istore 4, 2) := by decide +kernel
theorem dX10_odds_47 : decode cX10_odds 47 = .ok (.iconst 1, 1) := by decide +kernel
theorem dX10_odds_48 : decode cX10_odds 48 = .ok (.iconst 0, 1) := by decide +kernel
theorem dX10_odds_49 : decode cX10_odds 49 = .ok (.iload_n 2, 1) := by decide +kernel
theorem dX10_odds_50 : decode cX10_odds 50 = .ok (.iconst 1, 1) := by decide +kernel
theorem dX10_odds_51 : decode cX10_odds 51 = .ok (.isub, 1) := by decide +kernel
theorem dX10_odds_52 : decode cX10_odds 52 = .ok (.invokestatic 193, 3) := by decide +kernel
theorem dX10_odds_55 : decode cX10_odds 55 = .ok (.ishl, 1) := by decide +kernel
theorem dX10_odds_56 : decode cX10_odds 56 = .ok (.istore 5, 2) := by decide +kernel
theorem dX10_odds_58 : decode cX10_odds 58 = .ok (.iconst 0, 1) := by decide +kernel
theorem dX10_odds_59 : decode cX10_odds 59 = .ok (.istore 6, 2) := by decide +kernel
theorem dX10_odds_61 : decode cX10_odds 61 = .ok (.iload 6, 2) := by decide +kernel
theorem dX10_odds_63 : decode cX10_odds 63 = .ok (.bipush 7, 2) := by decide +kernel
theorem dX10_odds_65 : decode cX10_odds 65 = .ok (.if_icmp .ge 34, 3) := by decide +kernel
theorem dX10_odds_68 : decode cX10_odds 68 = .ok (.iload 5, 2) := by decide +kernel
theorem dX10_odds_70 : decode cX10_odds 70 = .ok (.iconst 1, 1) := by decide +kernel
theorem dX10_odds_71 : decode cX10_odds 71 = .ok (.if_icmp .le 28, 3) := by decide +kernel
theorem dX10_odds_74 : decode cX10_odds 74 = .ok (.iload 4, 2) := by decide +kernel
theorem dX10_odds_76 : decode cX10_odds 76 = .ok (.iconst 2, 1) := by decide +kernel
theorem dX10_odds_77 : decode cX10_odds 77 = .ok (.irem, 1) := by decide +kernel
theorem dX10_odds_78 : decode cX10_odds 78 = .ok (.ifCond .ne 21, 3) := by decide +kernel
theorem dX10_odds_81 : decode cX10_odds 81 = .ok (.iload 4, 2) := by decide +kernel
theorem dX10_odds_83 : decode cX10_odds 83 = .ok (.iconst 2, 1) := by decide +kernel
theorem dX10_odds_84 : decode cX10_odds 84 = .ok (.idiv, 1) := by decide +kernel
theorem dX10_odds_85 : decode cX10_odds 85 = .ok (.istore 4, 2) := by decide +kernel
theorem dX10_odds_87 : decode cX10_odds 87 = .ok (.iload 5, 2) := by decide +kernel
theorem dX10_odds_89 : decode cX10_odds 89 = .ok (.iconst 2, 1) := by decide +kernel
theorem dX10_odds_90 : decode cX10_odds 90 = .ok (.idiv, 1) := by decide +kernel
theorem dX10_odds_91 : decode cX10_odds 91 = .ok (.istore 5, 2) := by decide +kernel
theorem dX10_odds_93 : decode cX10_odds 93 = .ok (.iinc 6 1, 3) := by decide +kernel
theorem dX10_odds_96 : decode cX10_odds 96 = .ok (.goto (-35), 3) := by decide +kernel
theorem dX10_odds_99 : decode cX10_odds 99 = .ok (.iload_n 3, 1) := by decide +kernel
theorem dX10_odds_100 : decode cX10_odds 100 = .ok (.ifCond .ne 8, 3) := by decide +kernel
theorem dX10_odds_103 : decode cX10_odds 103 = .ok (.iload 4, 2) := by decide +kernel
theorem dX10_odds_105 : decode cX10_odds 105 = .ok (.goto 5, 3) := by decide +kernel
theorem dX10_odds_108 : decode cX10_odds 108 = .ok (.iload 5, 2) := by decide +kernel
theorem dX10_odds_110 : decode cX10_odds 110 = .ok (.ireturn, 1) := by decide +kernel
theorem dX10_lies_0 : decode cX10_lies 0 = .ok (.iload_n 1, 1) := by decide +kernel
theorem dX10_lies_1 : decode cX10_lies 1 = .ok (.ifCond .lt 19, 3) := by decide +kernel
theorem dX10_lies_4 : decode cX10_lies 4 = .ok (.iload_n 1, 1) := by decide +kernel
theorem dX10_lies_5 : decode cX10_lies 5 = .ok (.aload_n 0, 1) := by decide +kernel
theorem dX10_lies_6 : decode cX10_lies 6 = .ok (.getfield 60, 3) := by decide +kernel
theorem dX10_lies_9 : decode cX10_lies 9 = .ok (.getfield 108, 3) := by decide +kernel
theorem dX10_lies_12 : decode cX10_lies 12 = .ok (.if_icmp .ge 8, 3) := by decide +kernel
theorem dX10_lies_15 : decode cX10_lies 15 = .ok (.iload_n 1, 1) := by decide +kernel
theorem dX10_lies_16 : decode cX10_lies 16 = .ok (.iconst 4, 1) := by decide +kernel
theorem dX10_lies_17 : decode cX10_lies 17 = .ok (.if_icmp .lt 7, 3) := by decide +kernel
theorem dX10_lies_20 : decode cX10_lies 20 = .ok (.iconst (-1), 1) := by decide +kernel
theorem dX10_lies_21 : decode cX10_lies 21 = .ok (.goto 12, 3) := by decide +kernel
theorem dX10_lies_24 : decode cX10_lies 24 = .ok (.aload_n 0, 1) := by decide +kernel
theorem dX10_lies_25 : decode cX10_lies 25 = .ok (.getfield 60, 3) := by decide +kernel
theorem dX10_lies_28 : decode cX10_lies 28 = .ok (.getfield 243, 3) := by decide +kernel
theorem dX10_lies_31 : decode cX10_lies 31 = .ok (.iload_n 1, 1) := by decide +kernel
theorem dX10_lies_32 : decode cX10_lies 32 = .ok (.iaload, 1) := by decide +kernel
theorem dX10_lies_33 : decode cX10_lies 33 = .ok (.ireturn, 1) := by decide +kernel
theorem dX10_isAmount_0 : decode cX10_isAmount 0 = .ok (.iload_n 0, 1) := by decide +kernel
theorem dX10_isAmount_1 : decode cX10_isAmount 1 = .ok (.ifCond .lt 13, 3) := by decide +kernel
theorem dX10_isAmount_4 : decode cX10_isAmount 4 = .ok (.iload_n 0, 1) := by decide +kernel
theorem dX10_isAmount_5 : decode cX10_isAmount 5 = .ok (.bipush 9, 2) := by decide +kernel
theorem dX10_isAmount_7 : decode cX10_isAmount 7 = .ok (.if_icmp .gt 7, 3) := by decide +kernel
theorem dX10_isAmount_10 : decode cX10_isAmount 10 = .ok (.iconst 1, 1) := by decide +kernel
theorem dX10_isAmount_11 : decode cX10_isAmount 11 = .ok (.goto 4, 3) := by decide +kernel
theorem dX10_isAmount_14 : decode cX10_isAmount 14 = .ok (.iconst 0, 1) := by decide +kernel
theorem dX10_isAmount_15 : decode cX10_isAmount 15 = .ok (.ireturn, 1) := by decide +kernel
theorem dX10_isTrialHunger_0 : decode cX10_isTrialHunger 0 = .ok (.iload_n 0, 1) := by decide +kernel
theorem dX10_isTrialHunger_1 : decode cX10_isTrialHunger 1 = .ok (.iconst 1, 1) := by decide +kernel
theorem dX10_isTrialHunger_2 : decode cX10_isTrialHunger 2 = .ok (.if_icmp .lt 13, 3) := by decide +kernel
theorem dX10_isTrialHunger_5 : decode cX10_isTrialHunger 5 = .ok (.iload_n 0, 1) := by decide +kernel
theorem dX10_isTrialHunger_6 : decode cX10_isTrialHunger 6 = .ok (.bipush 99, 2) := by decide +kernel
theorem dX10_isTrialHunger_8 : decode cX10_isTrialHunger 8 = .ok (.if_icmp .gt 7, 3) := by decide +kernel
theorem dX10_isTrialHunger_11 : decode cX10_isTrialHunger 11 = .ok (.iconst 1, 1) := by decide +kernel
theorem dX10_isTrialHunger_12 : decode cX10_isTrialHunger 12 = .ok (.goto 4, 3) := by decide +kernel
theorem dX10_isTrialHunger_15 : decode cX10_isTrialHunger 15 = .ok (.iconst 0, 1) := by decide +kernel
theorem dX10_isTrialHunger_16 : decode cX10_isTrialHunger 16 = .ok (.ireturn, 1) := by decide +kernel
theorem dX10_trial_0 : decode cX10_trial 0 = .ok (.iload_n 1, 1) := by decide +kernel
theorem dX10_trial_1 : decode cX10_trial 1 = .ok (.invokestatic 246, 3) := by decide +kernel
theorem dX10_trial_4 : decode cX10_trial 4 = .ok (.ifCond .eq 25, 3) := by decide +kernel
theorem dX10_trial_7 : decode cX10_trial 7 = .ok (.iload_n 2, 1) := by decide +kernel
theorem dX10_trial_8 : decode cX10_trial 8 = .ok (.invokestatic 246, 3) := by decide +kernel
theorem dX10_trial_11 : decode cX10_trial 11 = .ok (.ifCond .eq 18, 3) := by decide +kernel
theorem dX10_trial_14 : decode cX10_trial 14 = .ok (.iload_n 3, 1) := by decide +kernel
theorem dX10_trial_15 : decode cX10_trial 15 = .ok (.invokestatic 246, 3) := by decide +kernel
theorem dX10_trial_18 : decode cX10_trial 18 = .ok (.ifCond .eq 11, 3) := by decide +kernel
theorem dX10_trial_21 : decode cX10_trial 21 = .ok (.iload 4, 2) := by decide +kernel
theorem dX10_trial_23 : decode cX10_trial 23 = .ok (.invokestatic 249, 3) := by decide +kernel
theorem dX10_trial_26 : decode cX10_trial 26 = .ok (.ifCond .ne 5, 3) := by decide +kernel
theorem dX10_trial_29 : decode cX10_trial 29 = .ok (.iconst (-1), 1) := by decide +kernel
theorem dX10_trial_30 : decode cX10_trial 30 = .ok (.ireturn, 1) := by decide +kernel
theorem dX10_trial_31 : decode cX10_trial 31 = .ok (.aload_n 0, 1) := by decide +kernel
theorem dX10_trial_32 : decode cX10_trial 32 = .ok (.getfield 67, 3) := by decide +kernel
theorem dX10_trial_35 : decode cX10_trial 35 = .ok (.iload_n 1, 1) := by decide +kernel
theorem dX10_trial_36 : decode cX10_trial 36 = .ok (.iload_n 2, 1) := by decide +kernel
theorem dX10_trial_37 : decode cX10_trial 37 = .ok (.iload_n 3, 1) := by decide +kernel
theorem dX10_trial_38 : decode cX10_trial 38 = .ok (.iload 4, 2) := by decide +kernel
theorem dX10_trial_40 : decode cX10_trial 40 = .ok (.iload 5, 2) := by decide +kernel
theorem dX10_trial_42 : decode cX10_trial 42 = .ok (.invokevirtual 252, 3) := by decide +kernel
theorem dX10_trial_45 : decode cX10_trial 45 = .ok (.ireturn, 1) := by decide +kernel
theorem dX10_untell_0 : decode cX10_untell 0 = .ok (.aload_n 0, 1) := by decide +kernel
theorem dX10_untell_1 : decode cX10_untell 1 = .ok (.getfield 67, 3) := by decide +kernel
theorem dX10_untell_4 : decode cX10_untell 4 = .ok (.iload_n 1, 1) := by decide +kernel
theorem dX10_untell_5 : decode cX10_untell 5 = .ok (.invokevirtual 256, 3) := by decide +kernel
theorem dX10_untell_8 : decode cX10_untell 8 = .ok (.ireturn, 1) := by decide +kernel
theorem dX10_fit_0 : decode cX10_fit 0 = .ok (.aload_n 0, 1) := by decide +kernel
theorem dX10_fit_1 : decode cX10_fit 1 = .ok (.getfield 67, 3) := by decide +kernel
theorem dX10_fit_4 : decode cX10_fit 4 = .ok (.aload_n 0, 1) := by decide +kernel
theorem dX10_fit_5 : decode cX10_fit 5 = .ok (.getfield 28, 3) := by decide +kernel
theorem dX10_fit_8 : decode cX10_fit 8 = .ok (.getfield 263, 3) := by decide +kernel
theorem dX10_fit_11 : decode cX10_fit 11 = .ok (.iload_n 1, 1) := by decide +kernel
theorem dX10_fit_12 : decode cX10_fit 12 = .ok (.invokevirtual 266, 3) := by decide +kernel
theorem dX10_fit_15 : decode cX10_fit 15 = .ok (.ireturn, 1) := by decide +kernel
theorem dX10_sure_0 : decode cX10_sure 0 = .ok (.aload_n 0, 1) := by decide +kernel
theorem dX10_sure_1 : decode cX10_sure 1 = .ok (.iload_n 1, 1) := by decide +kernel
theorem dX10_sure_2 : decode cX10_sure 2 = .ok (.invokevirtual 123, 3) := by decide +kernel
theorem dX10_sure_5 : decode cX10_sure 5 = .ok (.ifCond .eq 22, 3) := by decide +kernel
theorem dX10_sure_8 : decode cX10_sure 8 = .ok (.aload_n 0, 1) := by decide +kernel
theorem dX10_sure_9 : decode cX10_sure 9 = .ok (.getfield 67, 3) := by decide +kernel
theorem dX10_sure_12 : decode cX10_sure 12 = .ok (.aload_n 0, 1) := by decide +kernel
theorem dX10_sure_13 : decode cX10_sure 13 = .ok (.getfield 28, 3) := by decide +kernel
theorem dX10_sure_16 : decode cX10_sure 16 = .ok (.getfield 263, 3) := by decide +kernel
theorem dX10_sure_19 : decode cX10_sure 19 = .ok (.iload_n 1, 1) := by decide +kernel
theorem dX10_sure_20 : decode cX10_sure 20 = .ok (.iload_n 2, 1) := by decide +kernel
theorem dX10_sure_21 : decode cX10_sure 21 = .ok (.invokevirtual 269, 3) := by decide +kernel
theorem dX10_sure_24 : decode cX10_sure 24 = .ok (.goto 4, 3) := by decide +kernel
theorem dX10_sure_27 : decode cX10_sure 27 = .ok (.iconst (-1), 1) := by decide +kernel
theorem dX10_sure_28 : decode cX10_sure 28 = .ok (.ireturn, 1) := by decide +kernel
theorem dX10_ask_0 : decode cX10_ask 0 = .ok (.iload_n 1, 1) := by decide +kernel
theorem dX10_ask_1 : decode cX10_ask 1 = .ok (.invokestatic 249, 3) := by decide +kernel
theorem dX10_ask_4 : decode cX10_ask 4 = .ok (.ifCond .eq 22, 3) := by decide +kernel
theorem dX10_ask_7 : decode cX10_ask 7 = .ok (.iload_n 2, 1) := by decide +kernel
theorem dX10_ask_8 : decode cX10_ask 8 = .ok (.ifCond .lt 18, 3) := by decide +kernel
theorem dX10_ask_11 : decode cX10_ask 11 = .ok (.iload_n 2, 1) := by decide +kernel
theorem dX10_ask_12 : decode cX10_ask 12 = .ok (.iconst 1, 1) := by decide +kernel
theorem dX10_ask_13 : decode cX10_ask 13 = .ok (.if_icmp .gt 13, 3) := by decide +kernel
theorem dX10_ask_16 : decode cX10_ask 16 = .ok (.aload_n 0, 1) := by decide +kernel
theorem dX10_ask_17 : decode cX10_ask 17 = .ok (.getfield 28, 3) := by decide +kernel
theorem dX10_ask_20 : decode cX10_ask 20 = .ok (.getfield 263, 3) := by decide +kernel
theorem dX10_ask_23 : decode cX10_ask 23 = .ok (.ifCond .ne 5, 3) := by decide +kernel
theorem dX10_ask_26 : decode cX10_ask 26 = .ok (.iconst (-1), 1) := by decide +kernel
theorem dX10_ask_27 : decode cX10_ask 27 = .ok (.ireturn, 1) := by decide +kernel
theorem dX10_ask_28 : decode cX10_ask 28 = .ok (.aload_n 0, 1) := by decide +kernel
theorem dX10_ask_29 : decode cX10_ask 29 = .ok (.getfield 67, 3) := by decide +kernel
theorem dX10_ask_32 : decode cX10_ask 32 = .ok (.aload_n 0, 1) := by decide +kernel
theorem dX10_ask_33 : decode cX10_ask 33 = .ok (.getfield 28, 3) := by decide +kernel
theorem dX10_ask_36 : decode cX10_ask 36 = .ok (.getfield 263, 3) := by decide +kernel
theorem dX10_ask_39 : decode cX10_ask 39 = .ok (.iload_n 1, 1) := by decide +kernel
theorem dX10_ask_40 : decode cX10_ask 40 = .ok (.iload_n 2, 1) := by decide +kernel
theorem dX10_ask_41 : decode cX10_ask 41 = .ok (.iload_n 3, 1) := by decide +kernel
theorem dX10_ask_42 : decode cX10_ask 42 = .ok (.invokevirtual 273, 3) := by decide +kernel
theorem dX10_ask_45 : decode cX10_ask 45 = .ok (.ireturn, 1) := by decide +kernel
theorem dX10_image_0 : decode cX10_image 0 = .ok (.iload_n 1, 1) := by decide +kernel
theorem dX10_image_1 : decode cX10_image 1 = .ok (.ifCond .lt 8, 3) := by decide +kernel
theorem dX10_image_4 : decode cX10_image 4 = .ok (.iload_n 1, 1) := by decide +kernel
theorem dX10_image_5 : decode cX10_image 5 = .ok (.iconst 3, 1) := by decide +kernel
theorem dX10_image_6 : decode cX10_image 6 = .ok (.if_icmp .lt 5, 3) := by decide +kernel
theorem dX10_image_9 : decode cX10_image 9 = .ok (.iconst (-1), 1) := by decide +kernel
theorem dX10_image_10 : decode cX10_image 10 = .ok (.ireturn, 1) := by decide +kernel
theorem dX10_image_11 : decode cX10_image 11 = .ok (.aload_n 0, 1) := by decide +kernel
theorem dX10_image_12 : decode cX10_image 12 = .ok (.getfield 73, 3) := by decide +kernel
theorem dX10_image_15 : decode cX10_image 15 = .ok (.iload_n 1, 1) := by decide +kernel
theorem dX10_image_16 : decode cX10_image 16 = .ok (.aaload, 1) := by decide +kernel
theorem dX10_image_17 : decode cX10_image 17 = .ok (.aload_n 0, 1) := by decide +kernel
theorem dX10_image_18 : decode cX10_image 18 = .ok (.getfield 44, 3) := by decide +kernel
theorem dX10_image_21 : decode cX10_image 21 = .ok (.invokevirtual 127, 3) := by decide +kernel
theorem dX10_image_24 : decode cX10_image 24 = .ok (.invokevirtual 277, 3) := by decide +kernel
theorem dX10_image_27 : decode cX10_image 27 = .ok (.aload_n 0, 1) := by decide +kernel
theorem dX10_image_28 : decode cX10_image 28 = .ok (.dup, 1) := by decide +kernel
theorem dX10_image_29 : decode cX10_image 29 = .ok (.getfield 77, 3) := by decide +kernel
theorem dX10_image_32 : decode cX10_image 32 = .ok (.iconst 1, 1) := by decide +kernel
theorem dX10_image_33 : decode cX10_image 33 = .ok (.iload_n 1, 1) := by decide +kernel
theorem dX10_image_34 : decode cX10_image 34 = .ok (.ishl, 1) := by decide +kernel
theorem dX10_image_35 : decode cX10_image 35 = .ok (.ior, 1) := by decide +kernel
theorem dX10_image_36 : decode cX10_image 36 = .ok (.putfield 77, 3) := by decide +kernel
theorem dX10_image_39 : decode cX10_image 39 = .ok (.aload_n 0, 1) := by decide +kernel
theorem dX10_image_40 : decode cX10_image 40 = .ok (.getfield 73, 3) := by decide +kernel
theorem dX10_image_43 : decode cX10_image 43 = .ok (.iload_n 1, 1) := by decide +kernel
theorem dX10_image_44 : decode cX10_image 44 = .ok (.aaload, 1) := by decide +kernel
theorem dX10_image_45 : decode cX10_image 45 = .ok (.getfield 131, 3) := by decide +kernel
theorem dX10_image_48 : decode cX10_image 48 = .ok (.bipush 40, 2) := by decide +kernel
theorem dX10_image_50 : decode cX10_image 50 = .ok (.iaload, 1) := by decide +kernel
theorem dX10_image_51 : decode cX10_image 51 = .ok (.ireturn, 1) := by decide +kernel
theorem dX10_back_0 : decode cX10_back 0 = .ok (.iload_n 1, 1) := by decide +kernel
theorem dX10_back_1 : decode cX10_back 1 = .ok (.ifCond .lt 19, 3) := by decide +kernel
theorem dX10_back_4 : decode cX10_back 4 = .ok (.iload_n 1, 1) := by decide +kernel
theorem dX10_back_5 : decode cX10_back 5 = .ok (.iconst 3, 1) := by decide +kernel
theorem dX10_back_6 : decode cX10_back 6 = .ok (.if_icmp .ge 14, 3) := by decide +kernel
theorem dX10_back_9 : decode cX10_back 9 = .ok (.aload_n 0, 1) := by decide +kernel
theorem dX10_back_10 : decode cX10_back 10 = .ok (.getfield 77, 3) := by decide +kernel
theorem dX10_back_13 : decode cX10_back 13 = .ok (.iload_n 1, 1) := by decide +kernel
theorem dX10_back_14 : decode cX10_back 14 = .ok (.ishr, 1) := by decide +kernel
theorem dX10_back_15 : decode cX10_back 15 = .ok (.iconst 1, 1) := by decide +kernel
theorem dX10_back_16 : decode cX10_back 16 = .ok (.iand, 1) := by decide +kernel
theorem dX10_back_17 : decode cX10_back 17 = .ok (.ifCond .ne 5, 3) := by decide +kernel
theorem dX10_back_20 : decode cX10_back 20 = .ok (.iconst (-1), 1) := by decide +kernel
theorem dX10_back_21 : decode cX10_back 21 = .ok (.ireturn, 1) := by decide +kernel
theorem dX10_back_22 : decode cX10_back 22 = .ok (.aload_n 0, 1) := by decide +kernel
theorem dX10_back_23 : decode cX10_back 23 = .ok (.getfield 44, 3) := by decide +kernel
theorem dX10_back_26 : decode cX10_back 26 = .ok (.aload_n 0, 1) := by decide +kernel
theorem dX10_back_27 : decode cX10_back 27 = .ok (.getfield 73, 3) := by decide +kernel
theorem dX10_back_30 : decode cX10_back 30 = .ok (.iload_n 1, 1) := by decide +kernel
theorem dX10_back_31 : decode cX10_back 31 = .ok (.aaload, 1) := by decide +kernel
theorem dX10_back_32 : decode cX10_back 32 = .ok (.invokevirtual 104, 3) := by decide +kernel
theorem dX10_back_35 : decode cX10_back 35 = .ok (.aload_n 0, 1) := by decide +kernel
theorem dX10_back_36 : decode cX10_back 36 = .ok (.getfield 73, 3) := by decide +kernel
theorem dX10_back_39 : decode cX10_back 39 = .ok (.iload_n 1, 1) := by decide +kernel
theorem dX10_back_40 : decode cX10_back 40 = .ok (.aaload, 1) := by decide +kernel
theorem dX10_back_41 : decode cX10_back 41 = .ok (.getfield 131, 3) := by decide +kernel
theorem dX10_back_44 : decode cX10_back 44 = .ok (.bipush 40, 2) := by decide +kernel
theorem dX10_back_46 : decode cX10_back 46 = .ok (.iaload, 1) := by decide +kernel
theorem dX10_back_47 : decode cX10_back 47 = .ok (.ireturn, 1) := by decide +kernel
set_option maxRecDepth 100000 in
theorem m_X10_undo (l : Launch) (D : va_G) (cT : Nat → ClassId) (T : Nat → Option Nat) (q : Nat → Int) (hT : tok T) (hqr : qokr q) (a0 : Nat) (t0 : T a0 = some 0) : th_MetX l D cT T q yX10_undo cX10_undo 1 (some .boolean) (rmk 1 20) [.ref a0] (th_R T (some (.inl (0, 1)))) [5] := by
  refine th_startX (by decide) (Nat.le_of_ble_eq_true rfl) ?_
  have hq := hqr.1
  intro p e s m below meth c ls S hK hH hr hlocks hnm hl
  have hx := S.1
  have hb := S.2.1
  have hl : lv_has ls 1 [(0, .ref a0)] := hl
  have J0 : ∀ (H : Heap) (locs : List Loc) (ls : Array Slot), th_H D cT T (kd q) H → va_S (th_A T [5]) s.heap H locs → lv_has ls 1 [(0, .ref a0)] → W p l e (rmk 1 20) s m [.ref a0].toArray below meth c H locs 0 0 (MQ below (th_QX D cT T q (th_R T (some (.inl (0, 1)))) [5]) [.ref a0].toArray s 0 0 (th_A T [5])) (F0 m 0 ls []) := by
    intro H locs ls hH hS hl
    refine lv_aload_n hx hb dX10_undo_0 rfl (lv_at hl 0 rfl) ?_
    refine th_get S hK hH inG10 t0 kd_0 rfl 4 (by decide) gm_509 rfl rfl dX10_undo_1 (fun v1 hv1 fv1 => ?_)
    obtain ⟨rf2, rfl, trf2⟩ := th_V.ref hv1
    refine th_callVX (n := 0) (As := []) S hK hH hS (th_A.sub (by decide)) (m_X3_stepBack l D cT T q hT hqr rf2 trf2) gm_946 gm_943 gm_944 gm_945 gm_120 (by decide +kernel) ⟨rfl, rfl, Nat.le_of_ble_eq_true rfl, Nat.le_of_ble_eq_true rfl⟩ trf2 kd_5 rfl rfl hl.1 rfl (Nat.le_of_ble_eq_true rfl) dX10_undo_4 ⟨Nat.zero_le _, Nat.zero_le _⟩ (fun wq4 q4 H locs hvq4 hrq4 h0q4 hH hS hF1 => ?_)
    obtain ⟨_, rfl, x3, rfl, ix3⟩ := hvq4
    have hqq4 := hrq4.1
    show W p l e (rmk 1 20) s m [.ref a0].toArray below meth c H locs 0 0 (MQ below (th_QX D cT T q (th_R T (some (.inl (0, 1)))) [5]) [.ref a0].toArray s 0 0 (th_A T [5])) (F0 m 7 ls [.int x3])
    exact th_zretX S hK hH hS hr hlocks hrq4 h0q4 ix3 (th_R.i ix3) dX10_undo_7
  exact J0 s.heap [] ls hH va_S.rf hl

set_option maxRecDepth 100000 in
theorem m_X10_redo (l : Launch) (D : va_G) (cT : Nat → ClassId) (T : Nat → Option Nat) (q : Nat → Int) (hT : tok T) (hqr : qokr q) (a0 : Nat) (t0 : T a0 = some 0) : th_MetX l D cT T q yX10_redo cX10_redo 1 (some .boolean) (rmk 1 20) [.ref a0] (th_R T (some (.inl (0, 1)))) [5] := by
  refine th_startX (by decide) (Nat.le_of_ble_eq_true rfl) ?_
  have hq := hqr.1
  intro p e s m below meth c ls S hK hH hr hlocks hnm hl
  have hx := S.1
  have hb := S.2.1
  have hl : lv_has ls 1 [(0, .ref a0)] := hl
  have J0 : ∀ (H : Heap) (locs : List Loc) (ls : Array Slot), th_H D cT T (kd q) H → va_S (th_A T [5]) s.heap H locs → lv_has ls 1 [(0, .ref a0)] → W p l e (rmk 1 20) s m [.ref a0].toArray below meth c H locs 0 0 (MQ below (th_QX D cT T q (th_R T (some (.inl (0, 1)))) [5]) [.ref a0].toArray s 0 0 (th_A T [5])) (F0 m 0 ls []) := by
    intro H locs ls hH hS hl
    refine lv_aload_n hx hb dX10_redo_0 rfl (lv_at hl 0 rfl) ?_
    refine th_get S hK hH inG10 t0 kd_0 rfl 4 (by decide) gm_509 rfl rfl dX10_redo_1 (fun v1 hv1 fv1 => ?_)
    obtain ⟨rf2, rfl, trf2⟩ := th_V.ref hv1
    refine th_callVX (n := 0) (As := []) S hK hH hS (th_A.sub (by decide)) (m_X3_stepOn l D cT T q hT hqr rf2 trf2) gm_954 gm_951 gm_952 gm_953 gm_120 (by decide +kernel) ⟨rfl, rfl, Nat.le_of_ble_eq_true rfl, Nat.le_of_ble_eq_true rfl⟩ trf2 kd_5 rfl rfl hl.1 rfl (Nat.le_of_ble_eq_true rfl) dX10_redo_4 ⟨Nat.zero_le _, Nat.zero_le _⟩ (fun wq4 q4 H locs hvq4 hrq4 h0q4 hH hS hF1 => ?_)
    obtain ⟨_, rfl, x3, rfl, ix3⟩ := hvq4
    have hqq4 := hrq4.1
    show W p l e (rmk 1 20) s m [.ref a0].toArray below meth c H locs 0 0 (MQ below (th_QX D cT T q (th_R T (some (.inl (0, 1)))) [5]) [.ref a0].toArray s 0 0 (th_A T [5])) (F0 m 7 ls [.int x3])
    exact th_zretX S hK hH hS hr hlocks hrq4 h0q4 ix3 (th_R.i ix3) dX10_redo_7
  exact J0 s.heap [] ls hH va_S.rf hl

set_option maxRecDepth 100000 in
theorem m_X10_hungry (l : Launch) (D : va_G) (cT : Nat → ClassId) (T : Nat → Option Nat) (q : Nat → Int) (hq : qok q) (a0 : Nat) (t0 : T a0 = some 0) : th_Met l D cT T (kd q) yX10_hungry cX10_hungry 4 (some .int) (rmk 2 51) [.ref a0] (th_R T (some (.inl (-2147483648, 2147483647)))) [18, 19] := by
  refine th_start (by decide) (Nat.le_of_ble_eq_true rfl) ?_
  intro p e s m below meth c ls S hK hH hr hlocks hnm hl
  have hx := S.1
  have hb := S.2.1
  have hl : lv_has ls 4 [(0, .ref a0)] := hl
  have J12 : ∀ (n : Nat) (H : Heap) (locs : List Loc) (ls : Array Slot) (v12_1 : Nat) (v12_2 : Int32) (v12_3 : Int32), T v12_1 = some 10 → IV v12_2 (-2147483648) 2147483647 → IV v12_3 0 4 → th_H D cT T (kd q) H → va_S (th_A T [18, 19]) s.heap H locs → lv_has ls 4 [(0, .ref a0), (1, .ref v12_1), (2, .int v12_2), (3, .int v12_3)] → (4 + 1 - v12_3.toInt).toNat < n → W p l e (rmk 2 51) s m [.ref a0].toArray below meth c H locs 0 0 (MQ below (th_Q D cT T (kd q) (th_R T (some (.inl (-2147483648, 2147483647)))) [18, 19]) [.ref a0].toArray s 0 0 (th_A T [18, 19])) (F0 m 12 ls []) := by
    intro n
    induction n with
    | zero => intro H locs ls v12_1 v12_2 v12_3 tv12_1 iv12_2 iv12_3 hH hS hl hn; exact absurd hn (Nat.not_lt_zero _)
    | succ n ih12 =>
      intro H locs ls v12_1 v12_2 v12_3 tv12_1 iv12_2 iv12_3 hH hS hl hn12
      have J50 : ∀ (H : Heap) (locs : List Loc) (ls : Array Slot) (v50_2 : Int32), IV v50_2 (-2147483648) 2147483647 → IV v12_3 0 3 → th_H D cT T (kd q) H → va_S (th_A T [18, 19]) s.heap H locs → lv_has ls 4 [(0, .ref a0), (1, .ref v12_1), (2, .int v50_2), (3, .int v12_3)] → W p l e (rmk 2 51) s m [.ref a0].toArray below meth c H locs 0 0 (MQ below (th_Q D cT T (kd q) (th_R T (some (.inl (-2147483648, 2147483647)))) [18, 19]) [.ref a0].toArray s 0 0 (th_A T [18, 19])) (F0 m 50 ls []) := by
        intro H locs ls v50_2 iv50_2 f50_v12_3 hH hS hl
        refine th_iinc S dX10_hungry_50 hl (k := 3) rfl (by decide) f50_v12_3 (by decide) (fun x1 ls ex1 ix1 hl => ?_)
        have hl : lv_has ls 4 [(3, .int x1), (0, .ref a0), (1, .ref v12_1), (2, .int v50_2)] := hl
        have ix1 : IV x1 1 4 := ix1
        refine lv_goto (tgt := 12) hx hb dX10_hungry_53 (by decide) ?_
        exact ih12 H locs ls v12_1 v50_2 x1 tv12_1 iv50_2 (iv_w ix1 (by decide)) hH hS (lv_sub hl [1, 2, 3, 0] rfl) (th_up iv12_3 ex1 (by decide) hn12)
      refine lv_iload_n hx hb dX10_hungry_12 rfl (lv_at hl 3 rfl) ?_
      refine lv_aload_n hx hb dX10_hungry_13 rfl (lv_at hl 0 rfl) ?_
      refine th_get S hK hH inG10 t0 kd_0 rfl 2 (by decide) gm_507 rfl rfl dX10_hungry_14 (fun v2 hv2 fv2 => ?_)
      obtain ⟨rf3, rfl, trf3⟩ := th_V.ref hv2
      refine th_get S hK hH inG4 trf3 kd_3 rfl 12 (by decide) gm_282 rfl rfl dX10_hungry_17 (fun v4 hv4 fv4 => ?_)
      obtain ⟨x5, rfl, ix5⟩ := th_V.int hv4
      refine lv_icmp_ge (tgt := 56) hx hb dX10_hungry_20 (by decide) (fun c6 => ?_) (fun c6 => ?_)
      · skip
        refine lv_iload_n hx hb dX10_hungry_56 rfl (lv_at hl 2 rfl) ?_
        exact th_iret S hK hH hS hr hlocks (th_R.i iv12_2) dX10_hungry_57
      · skip
        have ir7 : IV v12_3 0 3 := iv_uL iv12_3 ix5 (iv_nle c6) (by decide)
        have ir8 : IV x5 1 4 := iv_uR iv12_3 ix5 (iv_nle c6) (by decide)
        refine lv_aload_n hx hb dX10_hungry_23 rfl (lv_at hl 0 rfl) ?_
        refine th_get S hK hH inG10 t0 kd_0 rfl 3 (by decide) gm_508 rfl rfl dX10_hungry_24 (fun v9 hv9 fv9 => ?_)
        obtain ⟨rf10, rfl, trf10⟩ := th_V.ref hv9
        refine lv_aload_n hx hb dX10_hungry_27 rfl (lv_at hl 1 rfl) ?_
        refine lv_iload_n hx hb dX10_hungry_28 rfl (lv_at hl 3 rfl) ?_
        refine th_callVi (n := 2) (As := [.ref v12_1, .int v12_3]) S hK hH hS (th_A.sub (by decide)) (m_X0_givenTo l D cT T q hq rf10 trf10 v12_1 tv12_1 (v12_3) ir7) gm_858 gm_855 gm_856 gm_857 gm_119 (by decide +kernel) ⟨rfl, rfl, Nat.le_of_ble_eq_true rfl, Nat.le_of_ble_eq_true rfl⟩ trf10 kd_4 rfl rfl hl.1 rfl (Nat.le_of_ble_eq_true rfl) dX10_hungry_29 ⟨Nat.zero_le _, Nat.zero_le _⟩ (fun x11 H locs ix11 hH hS hF1 => ?_)
        have f12 := fv9.kept (hF1 _ fv9.lt (th_off t0 (by decide)))
        refine lv_aload_n hx hb dX10_hungry_32 rfl (lv_at hl 0 rfl) ?_
        refine th_getK S hK f12 inG10 rfl (by decide) gm_508 rfl dX10_hungry_33 ?_
        refine lv_aload_n hx hb dX10_hungry_36 rfl (lv_at hl 1 rfl) ?_
        refine lv_iload_n hx hb dX10_hungry_37 rfl (lv_at hl 3 rfl) ?_
        refine th_callVi (n := 2) (As := [.ref v12_1, .int v12_3]) S hK hH hS (th_A.sub (by decide)) (m_X0_hungerOf l D cT T q hq rf10 trf10 v12_1 tv12_1 (v12_3) ir7) gm_840 gm_837 gm_838 gm_839 gm_119 (by decide +kernel) ⟨rfl, rfl, Nat.le_of_ble_eq_true rfl, Nat.le_of_ble_eq_true rfl⟩ trf10 kd_4 rfl rfl hl.1 rfl (Nat.le_of_ble_eq_true rfl) dX10_hungry_38 ⟨Nat.zero_le _, Nat.zero_le _⟩ (fun x14 H locs ix14 hH hS hF1 => ?_)
        have f15 := f12.kept (hF1 _ f12.lt (th_off t0 (by decide)))
        refine lv_icmp_ge (tgt := 50) hx hb dX10_hungry_41 (by decide) (fun c16 => ?_) (fun c16 => ?_)
        · skip
          exact J50 H locs ls v12_2 iv12_2 ir7 hH hS (lv_sub hl [0, 1, 2, 3] rfl)
        · skip
          have ir17 : IV x11 (-2147483648) 98 := iv_uL ix11 ix14 (iv_nle c16) (by decide)
          have ir18 : IV x14 (-2147483647) 99 := iv_uR ix11 ix14 (iv_nle c16) (by decide)
          refine lv_iload_n hx hb dX10_hungry_44 rfl (lv_at hl 2 rfl) ?_
          refine lv_iconst (v := 1) hx hb dX10_hungry_45 (by decide) ?_
          refine lv_iload_n hx hb dX10_hungry_46 rfl (lv_at hl 3 rfl) ?_
          refine lv_ishl hx hb dX10_hungry_47 ?_
          refine lv_topi (fun x19 ex19 => ?_)
          have ix19 := iv_top x19
          refine lv_ior hx hb dX10_hungry_48 ?_
          refine lv_topi (fun x20 ex20 => ?_)
          have ix20 := iv_top x20
          refine lv_istore_n (lv' := [(2, .int x20), (0, .ref a0), (1, .ref v12_1), (3, .int v12_3)]) hx hb dX10_hungry_49 rfl hl (by decide) rfl (fun ls hl => ?_)
          exact J50 H locs ls x20 ix20 ir7 hH hS (lv_sub hl [1, 2, 0, 3] rfl)
  have J0 : ∀ (H : Heap) (locs : List Loc) (ls : Array Slot), th_H D cT T (kd q) H → va_S (th_A T [18, 19]) s.heap H locs → lv_has ls 4 [(0, .ref a0)] → W p l e (rmk 2 51) s m [.ref a0].toArray below meth c H locs 0 0 (MQ below (th_Q D cT T (kd q) (th_R T (some (.inl (-2147483648, 2147483647)))) [18, 19]) [.ref a0].toArray s 0 0 (th_A T [18, 19])) (F0 m 0 ls []) := by
    intro H locs ls hH hS hl
    refine lv_aload_n hx hb dX10_hungry_0 rfl (lv_at hl 0 rfl) ?_
    refine th_get S hK hH inG10 t0 kd_0 rfl 4 (by decide) gm_509 rfl rfl dX10_hungry_1 (fun v21 hv21 fv21 => ?_)
    obtain ⟨rf22, rfl, trf22⟩ := th_V.ref hv21
    refine th_callVr (n := 0) (As := []) S hK hH hS (th_A.sub (by decide)) (m_X3_now l D cT T q hq rf22 trf22) gm_828 gm_825 gm_826 gm_827 gm_120 (by decide +kernel) ⟨rfl, rfl, Nat.le_of_ble_eq_true rfl, Nat.le_of_ble_eq_true rfl⟩ trf22 kd_5 rfl rfl hl.1 rfl (Nat.le_of_ble_eq_true rfl) dX10_hungry_4 ⟨Nat.zero_le _, Nat.zero_le _⟩ (fun rf23 H locs trf23 hH hS hF1 => ?_)
    refine lv_astore_n (lv' := [(1, .ref rf23), (0, .ref a0)]) hx hb dX10_hungry_7 rfl hl (by decide) rfl (fun ls hl => ?_)
    refine lv_iconst (v := 0) hx hb dX10_hungry_8 (by decide) ?_
    refine lv_istore_n (lv' := [(2, .int 0), (1, .ref rf23), (0, .ref a0)]) hx hb dX10_hungry_9 rfl hl (by decide) rfl (fun ls hl => ?_)
    refine lv_iconst (v := 0) hx hb dX10_hungry_10 (by decide) ?_
    refine lv_istore_n (lv' := [(3, .int 0), (2, .int 0), (1, .ref rf23), (0, .ref a0)]) hx hb dX10_hungry_11 rfl hl (by decide) rfl (fun ls hl => ?_)
    exact J12 ((4 + 1 - Int32.toInt 0).toNat + 1) H locs ls rf23 0 0 trf23 (iv_top _) (iv_w (iv_c (by decide) : IV 0 0 0) (by decide)) hH hS (lv_sub hl [3, 2, 1, 0] rfl) (Nat.lt_succ_self _)
  exact J0 s.heap [] ls hH va_S.rf hl

set_option maxRecDepth 100000 in
theorem m_X10_needs (l : Launch) (D : va_G) (cT : Nat → ClassId) (T : Nat → Option Nat) (q : Nat → Int) (hq : qok q) (a0 : Nat) (t0 : T a0 = some 0) (y1 : Int32) (j1 : IV y1 (-2147483648) 2147483647) (y2 : Int32) (j2 : IV y2 (-2147483648) 2147483647) : th_Met l D cT T (kd q) yX10_needs cX10_needs 5 (some .int) (rmk 2 51) [.ref a0, .int y1, .int y2] (th_R T (some (.inl (-2147483648, 2147483647)))) [18, 19] := by
  refine th_start (by decide) (Nat.le_of_ble_eq_true rfl) ?_
  intro p e s m below meth c ls S hK hH hr hlocks hnm hl
  have hx := S.1
  have hb := S.2.1
  have hl : lv_has ls 5 [(0, .ref a0), (1, .int y1), (2, .int y2)] := hl
  have J89 : ∀ (H : Heap) (locs : List Loc) (ls : Array Slot) (w89_0 : Int32), IV w89_0 (-2147483648) 2147483647 → th_H D cT T (kd q) H → va_S (th_A T [18, 19]) s.heap H locs → lv_has ls 5 [] → W p l e (rmk 2 51) s m [.ref a0, .int y1, .int y2].toArray below meth c H locs 0 0 (MQ below (th_Q D cT T (kd q) (th_R T (some (.inl (-2147483648, 2147483647)))) [18, 19]) [.ref a0, .int y1, .int y2].toArray s 0 0 (th_A T [18, 19])) (F0 m 89 ls [.int w89_0]) := by
    intro H locs ls w89_0 iw89_0 hH hS hl
    exact th_iret S hK hH hS hr hlocks (th_R.i iw89_0) dX10_needs_89
  have J89_s0_m1 : ∀ (H : Heap) (locs : List Loc) (ls : Array Slot), th_H D cT T (kd q) H → va_S (th_A T [18, 19]) s.heap H locs → lv_has ls 5 [] → W p l e (rmk 2 51) s m [.ref a0, .int y1, .int y2].toArray below meth c H locs 0 0 (MQ below (th_Q D cT T (kd q) (th_R T (some (.inl (-2147483648, 2147483647)))) [18, 19]) [.ref a0, .int y1, .int y2].toArray s 0 0 (th_A T [18, 19])) (F0 m 89 ls [.int (-1)]) := by
    intro H locs ls hH hS hl
    exact th_iret S hK hH hS hr hlocks (th_R.i (iv_top _)) dX10_needs_89
  have J16 : ∀ (H : Heap) (locs : List Loc) (ls : Array Slot), th_H D cT T (kd q) H → va_S (th_A T [18, 19]) s.heap H locs → lv_has ls 5 [] → W p l e (rmk 2 51) s m [.ref a0, .int y1, .int y2].toArray below meth c H locs 0 0 (MQ below (th_Q D cT T (kd q) (th_R T (some (.inl (-2147483648, 2147483647)))) [18, 19]) [.ref a0, .int y1, .int y2].toArray s 0 0 (th_A T [18, 19])) (F0 m 16 ls []) := by
    intro H locs ls hH hS hl
    refine lv_iconst (v := (-1)) hx hb dX10_needs_16 (by decide) ?_
    exact th_iret S hK hH hS hr hlocks (th_R.i (iv_top _)) dX10_needs_17
  have J0 : ∀ (H : Heap) (locs : List Loc) (ls : Array Slot), th_H D cT T (kd q) H → va_S (th_A T [18, 19]) s.heap H locs → lv_has ls 5 [(0, .ref a0), (1, .int y1), (2, .int y2)] → W p l e (rmk 2 51) s m [.ref a0, .int y1, .int y2].toArray below meth c H locs 0 0 (MQ below (th_Q D cT T (kd q) (th_R T (some (.inl (-2147483648, 2147483647)))) [18, 19]) [.ref a0, .int y1, .int y2].toArray s 0 0 (th_A T [18, 19])) (F0 m 0 ls []) := by
    intro H locs ls hH hS hl
    refine lv_aload_n hx hb dX10_needs_0 rfl (lv_at hl 0 rfl) ?_
    refine lv_iload_n hx hb dX10_needs_1 rfl (lv_at hl 1 rfl) ?_
    refine th_callVg (n := 1) (As := [.int y1]) S hK hH hS (th_A.sub (by decide)) (m_X10_isMap l D cT T q hq a0 t0 (y1) j1) gm_836 gm_833 gm_835 gm_24 gm_113 (by decide +kernel) ⟨rfl, rfl, Nat.le_of_ble_eq_true rfl, Nat.le_of_ble_eq_true rfl⟩ t0 kd_0 rfl rfl hl.1 rfl (Nat.le_of_ble_eq_true rfl) dX10_needs_2 ⟨Nat.zero_le _, Nat.zero_le _⟩ (fun x1 H locs ix1 ox1 hH hS hF1 => ?_)
    refine lv_if_eq (tgt := 16) hx hb dX10_needs_5 (by decide) (fun c2 => ?_) (fun c2 => ?_)
    · skip
      have ir3 : IV x1 0 0 := iv_eL c2 (iv_c (by decide) : IV 0 0 0)
      exact J16 H locs ls  hH hS (lv_sub hl [] rfl)
    · skip
      have ir4 : IV x1 1 1 := iv_cutL ix1 (iv_c (by decide) : IV 0 0 0) c2 (by decide)
      have ir5 : IV y1 0 3 := ox1 c2
      refine lv_aload_n hx hb dX10_needs_8 rfl (lv_at hl 0 rfl) ?_
      refine lv_iload_n hx hb dX10_needs_9 rfl (lv_at hl 2 rfl) ?_
      refine th_callVg (n := 1) (As := [.int y2]) S hK hH hS (th_A.sub (by decide)) (m_X10_isFood l D cT T q hq a0 t0 (y2) j2) gm_824 gm_821 gm_823 gm_23 gm_113 (by decide +kernel) ⟨rfl, rfl, Nat.le_of_ble_eq_true rfl, Nat.le_of_ble_eq_true rfl⟩ t0 kd_0 rfl rfl hl.1 rfl (Nat.le_of_ble_eq_true rfl) dX10_needs_10 ⟨Nat.zero_le _, Nat.zero_le _⟩ (fun x6 H locs ix6 ox6 hH hS hF1 => ?_)
      refine lv_if_ne (tgt := 18) hx hb dX10_needs_13 (by decide) (fun c7 => ?_) (fun c7 => ?_)
      · skip
        have ir8 : IV x6 1 1 := iv_cutL ix6 (iv_c (by decide) : IV 0 0 0) c7 (by decide)
        have ir9 : IV y2 0 2 := ox6 c7
        refine lv_aload_n hx hb dX10_needs_18 rfl (lv_at hl 0 rfl) ?_
        refine th_get S hK hH inG10 t0 kd_0 rfl 3 (by decide) gm_508 rfl rfl dX10_needs_19 (fun v10 hv10 fv10 => ?_)
        obtain ⟨rf11, rfl, trf11⟩ := th_V.ref hv10
        refine lv_aload_n hx hb dX10_needs_22 rfl (lv_at hl 0 rfl) ?_
        refine th_get S hK hH inG10 t0 kd_0 rfl 4 (by decide) gm_509 rfl rfl dX10_needs_23 (fun v12 hv12 fv12 => ?_)
        obtain ⟨rf13, rfl, trf13⟩ := th_V.ref hv12
        refine th_callVr (n := 0) (As := []) S hK hH hS (th_A.sub (by decide)) (m_X3_now l D cT T q hq rf13 trf13) gm_828 gm_825 gm_826 gm_827 gm_120 (by decide +kernel) ⟨rfl, rfl, Nat.le_of_ble_eq_true rfl, Nat.le_of_ble_eq_true rfl⟩ trf13 kd_5 rfl rfl hl.1 rfl (Nat.le_of_ble_eq_true rfl) dX10_needs_26 ⟨Nat.zero_le _, Nat.zero_le _⟩ (fun rf14 H locs trf14 hH hS hF1 => ?_)
        have f15 := fv10.kept (hF1 _ fv10.lt (th_off t0 (by decide)))
        have f16 := fv12.kept (hF1 _ fv12.lt (th_off t0 (by decide)))
        refine lv_iload_n hx hb dX10_needs_29 rfl (lv_at hl 1 rfl) ?_
        refine th_callVi (n := 2) (As := [.ref rf14, .int y1]) S hK hH hS (th_A.sub (by decide)) (m_X0_hungerOf l D cT T q hq rf11 trf11 rf14 trf14 (y1) ir5) gm_840 gm_837 gm_838 gm_839 gm_119 (by decide +kernel) ⟨rfl, rfl, Nat.le_of_ble_eq_true rfl, Nat.le_of_ble_eq_true rfl⟩ trf11 kd_4 rfl rfl hl.1 rfl (Nat.le_of_ble_eq_true rfl) dX10_needs_30 ⟨Nat.zero_le _, Nat.zero_le _⟩ (fun x17 H locs ix17 hH hS hF1 => ?_)
        have f18 := f15.kept (hF1 _ f15.lt (th_off t0 (by decide)))
        have f19 := f16.kept (hF1 _ f16.lt (th_off t0 (by decide)))
        refine lv_aload_n hx hb dX10_needs_33 rfl (lv_at hl 0 rfl) ?_
        refine th_getK S hK f18 inG10 rfl (by decide) gm_508 rfl dX10_needs_34 ?_
        refine lv_aload_n hx hb dX10_needs_37 rfl (lv_at hl 0 rfl) ?_
        refine th_getK S hK f19 inG10 rfl (by decide) gm_509 rfl dX10_needs_38 ?_
        refine th_callVr (n := 0) (As := []) S hK hH hS (th_A.sub (by decide)) (m_X3_now l D cT T q hq rf13 trf13) gm_828 gm_825 gm_826 gm_827 gm_120 (by decide +kernel) ⟨rfl, rfl, Nat.le_of_ble_eq_true rfl, Nat.le_of_ble_eq_true rfl⟩ trf13 kd_5 rfl rfl hl.1 rfl (Nat.le_of_ble_eq_true rfl) dX10_needs_41 ⟨Nat.zero_le _, Nat.zero_le _⟩ (fun rf22 H locs trf22 hH hS hF1 => ?_)
        have f23 := f18.kept (hF1 _ f18.lt (th_off t0 (by decide)))
        have f24 := f19.kept (hF1 _ f19.lt (th_off t0 (by decide)))
        refine lv_iload_n hx hb dX10_needs_44 rfl (lv_at hl 1 rfl) ?_
        refine th_callVi (n := 2) (As := [.ref rf22, .int y1]) S hK hH hS (th_A.sub (by decide)) (m_X0_givenTo l D cT T q hq rf11 trf11 rf22 trf22 (y1) ir5) gm_858 gm_855 gm_856 gm_857 gm_119 (by decide +kernel) ⟨rfl, rfl, Nat.le_of_ble_eq_true rfl, Nat.le_of_ble_eq_true rfl⟩ trf11 kd_4 rfl rfl hl.1 rfl (Nat.le_of_ble_eq_true rfl) dX10_needs_45 ⟨Nat.zero_le _, Nat.zero_le _⟩ (fun x25 H locs ix25 hH hS hF1 => ?_)
        have f26 := f23.kept (hF1 _ f23.lt (th_off t0 (by decide)))
        have f27 := f24.kept (hF1 _ f24.lt (th_off t0 (by decide)))
        refine lv_isub hx hb dX10_needs_48 ?_
        refine lv_topi (fun x28 ex28 => ?_)
        have ix28 := iv_top x28
        refine lv_istore_n (lv' := [(3, .int x28), (0, .ref a0), (1, .int y1), (2, .int y2)]) hx hb dX10_needs_49 rfl hl (by decide) rfl (fun ls hl => ?_)
        refine lv_iload_n hx hb dX10_needs_50 rfl (lv_at hl 0 rfl) ?_
        refine lv_if_gt (tgt := 56) hx hb dX10_needs_51 (by decide) (fun c29 => ?_) (fun c29 => ?_)
        · skip
          have ir30 : IV x28 1 2147483647 := iv_uR (iv_c (by decide) : IV 0 0 0) ix28 (iv_lt c29) (by decide)
          refine lv_aload_n hx hb dX10_needs_56 rfl (lv_at hl 1 rfl) ?_
          refine th_get S hK hH inG10 t0 kd_0 rfl 2 (by decide) gm_507 rfl rfl dX10_needs_57 (fun v31 hv31 fv31 => ?_)
          obtain ⟨rf32, rfl, trf32⟩ := th_V.ref hv31
          refine th_get S hK hH inG4 trf32 kd_3 rfl 8 (by decide) gm_266 rfl rfl dX10_needs_60 (fun v33 hv33 fv33 => ?_)
          obtain ⟨rf34, rfl, trf34⟩ := th_V.ref hv33
          refine lv_iload_n hx hb dX10_needs_63 rfl (lv_at hl 2 rfl) ?_
          refine lv_iconst (v := 3) hx hb dX10_needs_64 (by decide) ?_
          refine lv_imul hx hb dX10_needs_65 ?_
          refine lv_topi (fun x35 ex35 => ?_)
          have ix35 : IV x35 0 9 := by rw [ex35]; exact iv_mul ir5 (iv_c (by decide) : IV 3 3 3) (by decide) (by decide)
          refine lv_iload_n hx hb dX10_needs_66 rfl (lv_at hl 3 rfl) ?_
          refine lv_iadd hx hb dX10_needs_67 ?_
          refine lv_topi (fun x36 ex36 => ?_)
          have ix36 : IV x36 0 11 := by rw [ex36]; exact iv_add ix35 ir9 (by decide)
          refine th_iald S hK hH trf34 kd_28 (th_in (hi := 11) ix36 (by decide)) dX10_needs_68 (fun v37 hv37 => ?_)
          obtain ⟨x38, rfl, ix38⟩ := th_V.int hv37
          refine lv_istore (lv' := [(4, .int x38), (3, .int x28), (0, .ref a0), (1, .int y1), (2, .int y2)]) hx hb dX10_needs_69 hl (by decide) rfl (fun ls hl => ?_)
          refine lv_iload hx hb dX10_needs_71 (lv_at hl 0 rfl) ?_
          refine lv_if_gt (tgt := 80) hx hb dX10_needs_73 (by decide) (fun c39 => ?_) (fun c39 => ?_)
          · skip
            have ir40 : IV x38 1 2147483647 := iv_uR (iv_c (by decide) : IV 0 0 0) ix38 (iv_lt c39) (by decide)
            refine lv_iload_n hx hb dX10_needs_80 rfl (lv_at hl 1 rfl) ?_
            refine lv_iload hx hb dX10_needs_81 (lv_at hl 0 rfl) ?_
            refine lv_iadd hx hb dX10_needs_83 ?_
            refine lv_topi (fun x41 ex41 => ?_)
            have ix41 := iv_top x41
            refine lv_iconst (v := 1) hx hb dX10_needs_84 (by decide) ?_
            refine lv_isub hx hb dX10_needs_85 ?_
            refine lv_topi (fun x42 ex42 => ?_)
            have ix42 := iv_top x42
            refine lv_iload hx hb dX10_needs_86 (lv_at hl 0 rfl) ?_
            refine lv_idiv hx hb dX10_needs_88 (iv_n0 ir40 (by decide)) ?_
            refine lv_topi (fun x43 ex43 => ?_)
            have ix43 := iv_top x43
            exact J89 H locs ls x43 ix43 hH hS (lv_sub hl [] rfl)
          · skip
            have ir44 : IV x38 (-2147483648) 0 := iv_vL ix38 (iv_c (by decide) : IV 0 0 0) (iv_nlt c39) (by decide)
            refine lv_iconst (v := (-1)) hx hb dX10_needs_76 (by decide) ?_
            refine lv_goto (tgt := 89) hx hb dX10_needs_77 (by decide) ?_
            exact J89_s0_m1 H locs ls  hH hS (lv_sub hl [] rfl)
        · skip
          have ir45 : IV x28 (-2147483648) 0 := iv_vL ix28 (iv_c (by decide) : IV 0 0 0) (iv_nlt c29) (by decide)
          refine lv_iconst (v := 0) hx hb dX10_needs_54 (by decide) ?_
          exact th_iret S hK hH hS hr hlocks (th_R.i (iv_top _)) dX10_needs_55
      · skip
        have ir46 : IV x6 0 0 := iv_eL c7 (iv_c (by decide) : IV 0 0 0)
        exact J16 H locs ls  hH hS (lv_sub hl [] rfl)
  exact J0 s.heap [] ls hH va_S.rf hl

set_option maxRecDepth 100000 in
theorem m_X10_over (l : Launch) (D : va_G) (cT : Nat → ClassId) (T : Nat → Option Nat) (q : Nat → Int) (hq : qok q) (a0 : Nat) (t0 : T a0 = some 0) (y1 : Int32) (j1 : IV y1 (-2147483648) 2147483647) : th_Met l D cT T (kd q) yX10_over cX10_over 2 (some .int) (rmk 2 51) [.ref a0, .int y1] (th_R T (some (.inl (-1, 2147483647)))) [18, 19] := by
  refine th_start (by decide) (Nat.le_of_ble_eq_true rfl) ?_
  intro p e s m below meth c ls S hK hH hr hlocks hnm hl
  have hx := S.1
  have hb := S.2.1
  have hl : lv_has ls 2 [(0, .ref a0), (1, .int y1)] := hl
  have J0 : ∀ (H : Heap) (locs : List Loc) (ls : Array Slot), th_H D cT T (kd q) H → va_S (th_A T [18, 19]) s.heap H locs → lv_has ls 2 [(0, .ref a0), (1, .int y1)] → W p l e (rmk 2 51) s m [.ref a0, .int y1].toArray below meth c H locs 0 0 (MQ below (th_Q D cT T (kd q) (th_R T (some (.inl (-1, 2147483647)))) [18, 19]) [.ref a0, .int y1].toArray s 0 0 (th_A T [18, 19])) (F0 m 0 ls []) := by
    intro H locs ls hH hS hl
    refine lv_aload_n hx hb dX10_over_0 rfl (lv_at hl 0 rfl) ?_
    refine lv_iload_n hx hb dX10_over_1 rfl (lv_at hl 1 rfl) ?_
    refine th_callVg (n := 1) (As := [.int y1]) S hK hH hS (th_A.sub (by decide)) (m_X10_isMap l D cT T q hq a0 t0 (y1) j1) gm_836 gm_833 gm_835 gm_24 gm_113 (by decide +kernel) ⟨rfl, rfl, Nat.le_of_ble_eq_true rfl, Nat.le_of_ble_eq_true rfl⟩ t0 kd_0 rfl rfl hl.1 rfl (Nat.le_of_ble_eq_true rfl) dX10_over_2 ⟨Nat.zero_le _, Nat.zero_le _⟩ (fun x1 H locs ix1 ox1 hH hS hF1 => ?_)
    refine lv_if_ne (tgt := 10) hx hb dX10_over_5 (by decide) (fun c2 => ?_) (fun c2 => ?_)
    · skip
      have ir3 : IV x1 1 1 := iv_cutL ix1 (iv_c (by decide) : IV 0 0 0) c2 (by decide)
      have ir4 : IV y1 0 3 := ox1 c2
      refine lv_iconst (v := 0) hx hb dX10_over_10 (by decide) ?_
      refine lv_aload_n hx hb dX10_over_11 rfl (lv_at hl 0 rfl) ?_
      refine th_get S hK hH inG10 t0 kd_0 rfl 3 (by decide) gm_508 rfl rfl dX10_over_12 (fun v5 hv5 fv5 => ?_)
      obtain ⟨rf6, rfl, trf6⟩ := th_V.ref hv5
      refine lv_aload_n hx hb dX10_over_15 rfl (lv_at hl 0 rfl) ?_
      refine th_get S hK hH inG10 t0 kd_0 rfl 4 (by decide) gm_509 rfl rfl dX10_over_16 (fun v7 hv7 fv7 => ?_)
      obtain ⟨rf8, rfl, trf8⟩ := th_V.ref hv7
      refine th_callVr (n := 0) (As := []) S hK hH hS (th_A.sub (by decide)) (m_X3_now l D cT T q hq rf8 trf8) gm_828 gm_825 gm_826 gm_827 gm_120 (by decide +kernel) ⟨rfl, rfl, Nat.le_of_ble_eq_true rfl, Nat.le_of_ble_eq_true rfl⟩ trf8 kd_5 rfl rfl hl.1 rfl (Nat.le_of_ble_eq_true rfl) dX10_over_19 ⟨Nat.zero_le _, Nat.zero_le _⟩ (fun rf9 H locs trf9 hH hS hF1 => ?_)
      have f10 := fv5.kept (hF1 _ fv5.lt (th_off t0 (by decide)))
      have f11 := fv7.kept (hF1 _ fv7.lt (th_off t0 (by decide)))
      refine lv_iload_n hx hb dX10_over_22 rfl (lv_at hl 1 rfl) ?_
      refine th_callVi (n := 2) (As := [.ref rf9, .int y1]) S hK hH hS (th_A.sub (by decide)) (m_X0_givenTo l D cT T q hq rf6 trf6 rf9 trf9 (y1) ir4) gm_858 gm_855 gm_856 gm_857 gm_119 (by decide +kernel) ⟨rfl, rfl, Nat.le_of_ble_eq_true rfl, Nat.le_of_ble_eq_true rfl⟩ trf6 kd_4 rfl rfl hl.1 rfl (Nat.le_of_ble_eq_true rfl) dX10_over_23 ⟨Nat.zero_le _, Nat.zero_le _⟩ (fun x12 H locs ix12 hH hS hF1 => ?_)
      have f13 := f10.kept (hF1 _ f10.lt (th_off t0 (by decide)))
      have f14 := f11.kept (hF1 _ f11.lt (th_off t0 (by decide)))
      refine lv_aload_n hx hb dX10_over_26 rfl (lv_at hl 0 rfl) ?_
      refine th_getK S hK f13 inG10 rfl (by decide) gm_508 rfl dX10_over_27 ?_
      refine lv_aload_n hx hb dX10_over_30 rfl (lv_at hl 0 rfl) ?_
      refine th_getK S hK f14 inG10 rfl (by decide) gm_509 rfl dX10_over_31 ?_
      refine th_callVr (n := 0) (As := []) S hK hH hS (th_A.sub (by decide)) (m_X3_now l D cT T q hq rf8 trf8) gm_828 gm_825 gm_826 gm_827 gm_120 (by decide +kernel) ⟨rfl, rfl, Nat.le_of_ble_eq_true rfl, Nat.le_of_ble_eq_true rfl⟩ trf8 kd_5 rfl rfl hl.1 rfl (Nat.le_of_ble_eq_true rfl) dX10_over_34 ⟨Nat.zero_le _, Nat.zero_le _⟩ (fun rf17 H locs trf17 hH hS hF1 => ?_)
      have f18 := f13.kept (hF1 _ f13.lt (th_off t0 (by decide)))
      have f19 := f14.kept (hF1 _ f14.lt (th_off t0 (by decide)))
      refine lv_iload_n hx hb dX10_over_37 rfl (lv_at hl 1 rfl) ?_
      refine th_callVi (n := 2) (As := [.ref rf17, .int y1]) S hK hH hS (th_A.sub (by decide)) (m_X0_hungerOf l D cT T q hq rf6 trf6 rf17 trf17 (y1) ir4) gm_840 gm_837 gm_838 gm_839 gm_119 (by decide +kernel) ⟨rfl, rfl, Nat.le_of_ble_eq_true rfl, Nat.le_of_ble_eq_true rfl⟩ trf6 kd_4 rfl rfl hl.1 rfl (Nat.le_of_ble_eq_true rfl) dX10_over_38 ⟨Nat.zero_le _, Nat.zero_le _⟩ (fun x20 H locs ix20 hH hS hF1 => ?_)
      have f21 := f18.kept (hF1 _ f18.lt (th_off t0 (by decide)))
      have f22 := f19.kept (hF1 _ f19.lt (th_off t0 (by decide)))
      refine lv_isub hx hb dX10_over_41 ?_
      refine lv_topi (fun x23 ex23 => ?_)
      have ix23 := iv_top x23
      refine va_mmax hx hb (S.2.2.1.trans hl.1.symm) S.2.2.2.1 (S.2.2.2.2 _ gm_967) (S.2.2.2.2 _ gm_625) (S.2.2.2.2 _ gm_129) (S.2.2.2.2 _ gm_626) (Nat.le_of_ble_eq_true rfl) (Nat.le_of_ble_eq_true rfl) (Nat.zero_le _) (Nat.zero_le _) dX10_over_42 ?_
      refine lv_topi (fun x24 ex24 => ?_)
      have ix24 : IV x24 0 2147483647 := by rw [ex24]; exact iv_max (iv_c (by decide) : IV 0 0 0) ix23 (by decide)
      exact th_iret S hK hH hS hr hlocks (th_R.i (iv_w ix24 (by decide))) dX10_over_45
    · skip
      have ir25 : IV x1 0 0 := iv_eL c2 (iv_c (by decide) : IV 0 0 0)
      refine lv_iconst (v := (-1)) hx hb dX10_over_8 (by decide) ?_
      exact th_iret S hK hH hS hr hlocks (th_R.i (iv_w (iv_c (by decide) : IV (-1) (-1) (-1)) (by decide))) dX10_over_9
  exact J0 s.heap [] ls hH va_S.rf hl

set_option maxRecDepth 100000 in
theorem m_X10_bitesIn (l : Launch) (D : va_G) (cT : Nat → ClassId) (T : Nat → Option Nat) (q : Nat → Int) (hq : qok q) (a0 : Nat) (t0 : T a0 = some 0) (y1 : Int32) (j1 : IV y1 (-2147483648) 2147483647) : th_Met l D cT T (kd q) yX10_bitesIn cX10_bitesIn 2 (some .int) (rmk 7 174) [.ref a0, .int y1] (th_R T (some (.inl (-1, 29)))) [18, 19, 29] := by
  refine th_start (by decide) (Nat.le_of_ble_eq_true rfl) ?_
  intro p e s m below meth c ls S hK hH hr hlocks hnm hl
  have hx := S.1
  have hb := S.2.1
  have hl : lv_has ls 2 [(0, .ref a0), (1, .int y1)] := hl
  have J27 : ∀ (H : Heap) (locs : List Loc) (ls : Array Slot) (w27_0 : Int32), IV w27_0 (-1) 29 → th_H D cT T (kd q) H → va_S (th_A T [18, 19, 29]) s.heap H locs → lv_has ls 2 [] → W p l e (rmk 7 174) s m [.ref a0, .int y1].toArray below meth c H locs 0 0 (MQ below (th_Q D cT T (kd q) (th_R T (some (.inl (-1, 29)))) [18, 19, 29]) [.ref a0, .int y1].toArray s 0 0 (th_A T [18, 19, 29])) (F0 m 27 ls [.int w27_0]) := by
    intro H locs ls w27_0 iw27_0 hH hS hl
    exact th_iret S hK hH hS hr hlocks (th_R.i iw27_0) dX10_bitesIn_27
  have J27_s0_m1 : ∀ (H : Heap) (locs : List Loc) (ls : Array Slot), th_H D cT T (kd q) H → va_S (th_A T [18, 19, 29]) s.heap H locs → lv_has ls 2 [] → W p l e (rmk 7 174) s m [.ref a0, .int y1].toArray below meth c H locs 0 0 (MQ below (th_Q D cT T (kd q) (th_R T (some (.inl (-1, 29)))) [18, 19, 29]) [.ref a0, .int y1].toArray s 0 0 (th_A T [18, 19, 29])) (F0 m 27 ls [.int (-1)]) := by
    intro H locs ls hH hS hl
    exact th_iret S hK hH hS hr hlocks (th_R.i (iv_w (iv_c (by decide) : IV (-1) (-1) (-1)) (by decide))) dX10_bitesIn_27
  have J0 : ∀ (H : Heap) (locs : List Loc) (ls : Array Slot), th_H D cT T (kd q) H → va_S (th_A T [18, 19, 29]) s.heap H locs → lv_has ls 2 [(0, .ref a0), (1, .int y1)] → W p l e (rmk 7 174) s m [.ref a0, .int y1].toArray below meth c H locs 0 0 (MQ below (th_Q D cT T (kd q) (th_R T (some (.inl (-1, 29)))) [18, 19, 29]) [.ref a0, .int y1].toArray s 0 0 (th_A T [18, 19, 29])) (F0 m 0 ls []) := by
    intro H locs ls hH hS hl
    refine lv_aload_n hx hb dX10_bitesIn_0 rfl (lv_at hl 0 rfl) ?_
    refine lv_iload_n hx hb dX10_bitesIn_1 rfl (lv_at hl 1 rfl) ?_
    refine th_callVg (n := 1) (As := [.int y1]) S hK hH hS (th_A.sub (by decide)) (m_X10_isMap l D cT T q hq a0 t0 (y1) j1) gm_836 gm_833 gm_835 gm_24 gm_113 (by decide +kernel) ⟨rfl, rfl, Nat.le_of_ble_eq_true rfl, Nat.le_of_ble_eq_true rfl⟩ t0 kd_0 rfl rfl hl.1 rfl (Nat.le_of_ble_eq_true rfl) dX10_bitesIn_2 ⟨Nat.zero_le _, Nat.zero_le _⟩ (fun x1 H locs ix1 ox1 hH hS hF1 => ?_)
    refine lv_if_eq (tgt := 26) hx hb dX10_bitesIn_5 (by decide) (fun c2 => ?_) (fun c2 => ?_)
    · skip
      have ir3 : IV x1 0 0 := iv_eL c2 (iv_c (by decide) : IV 0 0 0)
      refine lv_iconst (v := (-1)) hx hb dX10_bitesIn_26 (by decide) ?_
      exact J27_s0_m1 H locs ls  hH hS (lv_sub hl [] rfl)
    · skip
      have ir4 : IV x1 1 1 := iv_cutL ix1 (iv_c (by decide) : IV 0 0 0) c2 (by decide)
      have ir5 : IV y1 0 3 := ox1 c2
      refine lv_aload_n hx hb dX10_bitesIn_8 rfl (lv_at hl 0 rfl) ?_
      refine th_get S hK hH inG10 t0 kd_0 rfl 5 (by decide) gm_510 rfl rfl dX10_bitesIn_9 (fun v6 hv6 fv6 => ?_)
      obtain ⟨rf7, rfl, trf7⟩ := th_V.ref hv6
      refine lv_aload_n hx hb dX10_bitesIn_12 rfl (lv_at hl 0 rfl) ?_
      refine th_get S hK hH inG10 t0 kd_0 rfl 4 (by decide) gm_509 rfl rfl dX10_bitesIn_13 (fun v8 hv8 fv8 => ?_)
      obtain ⟨rf9, rfl, trf9⟩ := th_V.ref hv8
      refine th_callVr (n := 0) (As := []) S hK hH hS (th_A.sub (by decide)) (m_X3_now l D cT T q hq rf9 trf9) gm_828 gm_825 gm_826 gm_827 gm_120 (by decide +kernel) ⟨rfl, rfl, Nat.le_of_ble_eq_true rfl, Nat.le_of_ble_eq_true rfl⟩ trf9 kd_5 rfl rfl hl.1 rfl (Nat.le_of_ble_eq_true rfl) dX10_bitesIn_16 ⟨Nat.zero_le _, Nat.zero_le _⟩ (fun rf10 H locs trf10 hH hS hF1 => ?_)
      refine lv_iload_n hx hb dX10_bitesIn_19 rfl (lv_at hl 1 rfl) ?_
      refine th_callVi (n := 2) (As := [.ref rf10, .int y1]) S hK hH hS (th_A.sub (by decide)) (m_X1_firstBite l D cT T q hq rf7 trf7 rf10 trf10 (y1) ir5) gm_975 gm_972 gm_973 gm_974 gm_121 (by decide +kernel) ⟨rfl, rfl, Nat.le_of_ble_eq_true rfl, Nat.le_of_ble_eq_true rfl⟩ trf7 kd_6 rfl rfl hl.1 rfl (Nat.le_of_ble_eq_true rfl) dX10_bitesIn_20 ⟨Nat.zero_le _, Nat.zero_le _⟩ (fun x11 H locs ix11 hH hS hF1 => ?_)
      refine lv_goto (tgt := 27) hx hb dX10_bitesIn_23 (by decide) ?_
      exact J27 H locs ls x11 ix11 hH hS (lv_sub hl [] rfl)
  exact J0 s.heap [] ls hH va_S.rf hl

set_option maxRecDepth 100000 in
theorem m_X10_will (l : Launch) (D : va_G) (cT : Nat → ClassId) (T : Nat → Option Nat) (q : Nat → Int) (hq : qok q) (a0 : Nat) (t0 : T a0 = some 0) (y1 : Int32) (j1 : IV y1 (-2147483648) 2147483647) (y2 : Int32) (j2 : IV y2 (-2147483648) 2147483647) : th_Met l D cT T (kd q) yX10_will cX10_will 3 (some .int) (rmk 6 150) [.ref a0, .int y1, .int y2] (th_R T (some (.inl (-2147483648, 2147483647)))) [18, 19, 29] := by
  refine th_start (by decide) (Nat.le_of_ble_eq_true rfl) ?_
  intro p e s m below meth c ls S hK hH hr hlocks hnm hl
  have hx := S.1
  have hb := S.2.1
  have hl : lv_has ls 3 [(0, .ref a0), (1, .int y1), (2, .int y2)] := hl
  have J18 : ∀ (H : Heap) (locs : List Loc) (ls : Array Slot), th_H D cT T (kd q) H → va_S (th_A T [18, 19, 29]) s.heap H locs → lv_has ls 3 [] → W p l e (rmk 6 150) s m [.ref a0, .int y1, .int y2].toArray below meth c H locs 0 0 (MQ below (th_Q D cT T (kd q) (th_R T (some (.inl (-2147483648, 2147483647)))) [18, 19, 29]) [.ref a0, .int y1, .int y2].toArray s 0 0 (th_A T [18, 19, 29])) (F0 m 18 ls []) := by
    intro H locs ls hH hS hl
    refine lv_iconst (v := (-1)) hx hb dX10_will_18 (by decide) ?_
    exact th_iret S hK hH hS hr hlocks (th_R.i (iv_top _)) dX10_will_19
  have J0 : ∀ (H : Heap) (locs : List Loc) (ls : Array Slot), th_H D cT T (kd q) H → va_S (th_A T [18, 19, 29]) s.heap H locs → lv_has ls 3 [(0, .ref a0), (1, .int y1), (2, .int y2)] → W p l e (rmk 6 150) s m [.ref a0, .int y1, .int y2].toArray below meth c H locs 0 0 (MQ below (th_Q D cT T (kd q) (th_R T (some (.inl (-2147483648, 2147483647)))) [18, 19, 29]) [.ref a0, .int y1, .int y2].toArray s 0 0 (th_A T [18, 19, 29])) (F0 m 0 ls []) := by
    intro H locs ls hH hS hl
    refine lv_aload_n hx hb dX10_will_0 rfl (lv_at hl 0 rfl) ?_
    refine lv_iload_n hx hb dX10_will_1 rfl (lv_at hl 1 rfl) ?_
    refine th_callVg (n := 1) (As := [.int y1]) S hK hH hS (th_A.sub (by decide)) (m_X10_isPlace l D cT T q hq a0 t0 (y1) j1) gm_866 gm_863 gm_865 gm_26 gm_113 (by decide +kernel) ⟨rfl, rfl, Nat.le_of_ble_eq_true rfl, Nat.le_of_ble_eq_true rfl⟩ t0 kd_0 rfl rfl hl.1 rfl (Nat.le_of_ble_eq_true rfl) dX10_will_2 ⟨Nat.zero_le _, Nat.zero_le _⟩ (fun x1 H locs ix1 ox1 hH hS hF1 => ?_)
    refine lv_if_eq (tgt := 18) hx hb dX10_will_5 (by decide) (fun c2 => ?_) (fun c2 => ?_)
    · skip
      have ir3 : IV x1 0 0 := iv_eL c2 (iv_c (by decide) : IV 0 0 0)
      exact J18 H locs ls  hH hS (lv_sub hl [] rfl)
    · skip
      have ir4 : IV x1 1 1 := iv_cutL ix1 (iv_c (by decide) : IV 0 0 0) c2 (by decide)
      have ir5 : IV y1 0 7 := ox1 c2
      refine lv_iload_n hx hb dX10_will_8 rfl (lv_at hl 2 rfl) ?_
      refine lv_if_lt (tgt := 18) hx hb dX10_will_9 (by decide) (fun c6 => ?_) (fun c6 => ?_)
      · skip
        have ir7 : IV y2 (-2147483648) (-1) := iv_uL j2 (iv_c (by decide) : IV 0 0 0) (iv_lt c6) (by decide)
        exact J18 H locs ls  hH hS (lv_sub hl [] rfl)
      · skip
        have ir8 : IV y2 0 2147483647 := iv_vR (iv_c (by decide) : IV 0 0 0) j2 (iv_nlt c6) (by decide)
        refine lv_iload_n hx hb dX10_will_12 rfl (lv_at hl 2 rfl) ?_
        refine lv_bipush (v := 40) hx hb dX10_will_13 (by decide) ?_
        refine lv_icmp_le (tgt := 20) hx hb dX10_will_15 (by decide) (fun c9 => ?_) (fun c9 => ?_)
        · skip
          have ir10 : IV y2 0 40 := iv_vL ir8 (iv_c (by decide) : IV 40 40 40) (iv_le c9) (by decide)
          refine lv_aload_n hx hb dX10_will_20 rfl (lv_at hl 0 rfl) ?_
          refine th_get S hK hH inG10 t0 kd_0 rfl 5 (by decide) gm_510 rfl rfl dX10_will_21 (fun v11 hv11 fv11 => ?_)
          obtain ⟨rf12, rfl, trf12⟩ := th_V.ref hv11
          refine lv_aload_n hx hb dX10_will_24 rfl (lv_at hl 0 rfl) ?_
          refine th_get S hK hH inG10 t0 kd_0 rfl 4 (by decide) gm_509 rfl rfl dX10_will_25 (fun v13 hv13 fv13 => ?_)
          obtain ⟨rf14, rfl, trf14⟩ := th_V.ref hv13
          refine th_callVr (n := 0) (As := []) S hK hH hS (th_A.sub (by decide)) (m_X3_now l D cT T q hq rf14 trf14) gm_828 gm_825 gm_826 gm_827 gm_120 (by decide +kernel) ⟨rfl, rfl, Nat.le_of_ble_eq_true rfl, Nat.le_of_ble_eq_true rfl⟩ trf14 kd_5 rfl rfl hl.1 rfl (Nat.le_of_ble_eq_true rfl) dX10_will_28 ⟨Nat.zero_le _, Nat.zero_le _⟩ (fun rf15 H locs trf15 hH hS hF1 => ?_)
          refine lv_iload_n hx hb dX10_will_31 rfl (lv_at hl 2 rfl) ?_
          refine th_callVr (n := 2) (As := [.ref rf15, .int y2]) S hK hH hS (th_A.sub (by decide)) (m_X1_after l D cT T q hq rf12 trf12 rf15 trf15 (y2) ir10) gm_979 gm_986 gm_977 gm_978 gm_121 (by decide +kernel) ⟨rfl, rfl, Nat.le_of_ble_eq_true rfl, Nat.le_of_ble_eq_true rfl⟩ trf12 kd_6 rfl rfl hl.1 rfl (Nat.le_of_ble_eq_true rfl) dX10_will_32 ⟨Nat.zero_le _, Nat.zero_le _⟩ (fun rf16 H locs trf16 hH hS hF1 => ?_)
          refine th_get S hK hH inG7 trf16 kd_10 rfl 0 (by decide) gm_231 rfl rfl dX10_will_35 (fun v17 hv17 fv17 => ?_)
          obtain ⟨rf18, rfl, trf18⟩ := th_V.ref hv17
          refine lv_bipush (v := 15) hx hb dX10_will_38 (by decide) ?_
          refine lv_iload_n hx hb dX10_will_40 rfl (lv_at hl 1 rfl) ?_
          refine lv_iadd hx hb dX10_will_41 ?_
          refine lv_topi (fun x19 ex19 => ?_)
          have ix19 : IV x19 15 22 := by rw [ex19]; exact iv_add (iv_c (by decide) : IV 15 15 15) ir5 (by decide)
          refine th_iald S hK hH trf18 kd_29 (th_in (hi := 22) (iv_w ix19 (by decide)) (by decide)) dX10_will_42 (fun v20 hv20 => ?_)
          obtain ⟨x21, rfl, ix21⟩ := th_V.int hv20
          exact th_iret S hK hH hS hr hlocks (th_R.i ix21) dX10_will_43
        · skip
          have ir22 : IV y2 41 2147483647 := iv_uR (iv_c (by decide) : IV 40 40 40) ir8 (iv_nle c9) (by decide)
          exact J18 H locs ls  hH hS (lv_sub hl [] rfl)
  exact J0 s.heap [] ls hH va_S.rf hl

set_option maxRecDepth 100000 in
theorem m_X10_doom (l : Launch) (D : va_G) (cT : Nat → ClassId) (T : Nat → Option Nat) (q : Nat → Int) (hq : qok q) (a0 : Nat) (t0 : T a0 = some 0) (y1 : Int32) (j1 : IV y1 (-2147483648) 2147483647) : th_Met l D cT T (kd q) yX10_doom cX10_doom 3 (some .int) (rmk 7 175) [.ref a0, .int y1] (th_R T (some (.inl (-2147483648, 2147483647)))) [6, 18, 19, 29] := by
  refine th_start (by decide) (Nat.le_of_ble_eq_true rfl) ?_
  intro p e s m below meth c ls S hK hH hr hlocks hnm hl
  have hx := S.1
  have hb := S.2.1
  have hl : lv_has ls 3 [(0, .ref a0), (1, .int y1)] := hl
  have J41 : ∀ (H : Heap) (locs : List Loc) (ls : Array Slot) (w41_0 : Int32), IV w41_0 (-2147483648) 2147483647 → th_H D cT T (kd q) H → va_S (th_A T [6, 18, 19, 29]) s.heap H locs → lv_has ls 3 [] → W p l e (rmk 7 175) s m [.ref a0, .int y1].toArray below meth c H locs 0 0 (MQ below (th_Q D cT T (kd q) (th_R T (some (.inl (-2147483648, 2147483647)))) [6, 18, 19, 29]) [.ref a0, .int y1].toArray s 0 0 (th_A T [6, 18, 19, 29])) (F0 m 41 ls [.int w41_0]) := by
    intro H locs ls w41_0 iw41_0 hH hS hl
    exact th_iret S hK hH hS hr hlocks (th_R.i iw41_0) dX10_doom_41
  have J11 : ∀ (H : Heap) (locs : List Loc) (ls : Array Slot), IV y1 0 1 → th_H D cT T (kd q) H → va_S (th_A T [6, 18, 19, 29]) s.heap H locs → lv_has ls 3 [(0, .ref a0), (1, .int y1)] → W p l e (rmk 7 175) s m [.ref a0, .int y1].toArray below meth c H locs 0 0 (MQ below (th_Q D cT T (kd q) (th_R T (some (.inl (-2147483648, 2147483647)))) [6, 18, 19, 29]) [.ref a0, .int y1].toArray s 0 0 (th_A T [6, 18, 19, 29])) (F0 m 11 ls []) := by
    intro H locs ls f11_y1 hH hS hl
    refine lv_aload_n hx hb dX10_doom_11 rfl (lv_at hl 0 rfl) ?_
    refine th_get S hK hH inG10 t0 kd_0 rfl 5 (by decide) gm_510 rfl rfl dX10_doom_12 (fun v1 hv1 fv1 => ?_)
    obtain ⟨rf2, rfl, trf2⟩ := th_V.ref hv1
    refine lv_aload_n hx hb dX10_doom_15 rfl (lv_at hl 0 rfl) ?_
    refine th_get S hK hH inG10 t0 kd_0 rfl 4 (by decide) gm_509 rfl rfl dX10_doom_16 (fun v3 hv3 fv3 => ?_)
    obtain ⟨rf4, rfl, trf4⟩ := th_V.ref hv3
    refine th_callVr (n := 0) (As := []) S hK hH hS (th_A.sub (by decide)) (m_X3_now l D cT T q hq rf4 trf4) gm_828 gm_825 gm_826 gm_827 gm_120 (by decide +kernel) ⟨rfl, rfl, Nat.le_of_ble_eq_true rfl, Nat.le_of_ble_eq_true rfl⟩ trf4 kd_5 rfl rfl hl.1 rfl (Nat.le_of_ble_eq_true rfl) dX10_doom_19 ⟨Nat.zero_le _, Nat.zero_le _⟩ (fun rf5 H locs trf5 hH hS hF1 => ?_)
    have f6 := fv1.kept (hF1 _ fv1.lt (th_off t0 (by decide)))
    refine th_callVi (n := 1) (As := [.ref rf5]) S hK hH hS (th_A.sub (by decide)) (m_X1_yearsToLoss l D cT T q hq rf2 trf2 rf5 trf5) gm_994 gm_991 gm_992 gm_993 gm_121 (by decide +kernel) ⟨rfl, rfl, Nat.le_of_ble_eq_true rfl, Nat.le_of_ble_eq_true rfl⟩ trf2 kd_6 rfl rfl hl.1 rfl (Nat.le_of_ble_eq_true rfl) dX10_doom_22 ⟨Nat.zero_le _, Nat.zero_le _⟩ (fun x7 H locs ix7 hH hS hF1 => ?_)
    have f8 := f6.kept (hF1 _ f6.lt (th_off t0 (by decide)))
    refine lv_istore_n (lv' := [(2, .int x7), (0, .ref a0), (1, .int y1)]) hx hb dX10_doom_25 rfl hl (by decide) rfl (fun ls hl => ?_)
    refine lv_iload_n hx hb dX10_doom_26 rfl (lv_at hl 2 rfl) ?_
    refine lv_if_ne (tgt := 34) hx hb dX10_doom_27 (by decide) (fun c9 => ?_) (fun c9 => ?_)
    · skip
      have ir10 : IV y1 1 1 := iv_cutL f11_y1 (iv_c (by decide) : IV 0 0 0) c9 (by decide)
      refine lv_aload_n hx hb dX10_doom_34 rfl (lv_at hl 1 rfl) ?_
      refine th_getK S hK f8 inG10 rfl (by decide) gm_510 rfl dX10_doom_35 ?_
      refine th_get S hK hH inG1 trf2 kd_6 rfl 2 (by decide) gm_411 rfl rfl dX10_doom_38 (fun v12 hv12 fv12 => ?_)
      obtain ⟨x13, rfl, ix13⟩ := th_V.int hv12
      exact J41 H locs ls x13 ix13 hH hS (lv_sub hl [] rfl)
    · skip
      have ir14 : IV y1 0 0 := iv_eL c9 (iv_c (by decide) : IV 0 0 0)
      refine lv_iload_n hx hb dX10_doom_30 rfl (lv_at hl 0 rfl) ?_
      refine lv_goto (tgt := 41) hx hb dX10_doom_31 (by decide) ?_
      exact J41 H locs ls x7 (iv_top _) hH hS (lv_sub hl [] rfl)
  have J0 : ∀ (H : Heap) (locs : List Loc) (ls : Array Slot), th_H D cT T (kd q) H → va_S (th_A T [6, 18, 19, 29]) s.heap H locs → lv_has ls 3 [(0, .ref a0), (1, .int y1)] → W p l e (rmk 7 175) s m [.ref a0, .int y1].toArray below meth c H locs 0 0 (MQ below (th_Q D cT T (kd q) (th_R T (some (.inl (-2147483648, 2147483647)))) [6, 18, 19, 29]) [.ref a0, .int y1].toArray s 0 0 (th_A T [6, 18, 19, 29])) (F0 m 0 ls []) := by
    intro H locs ls hH hS hl
    refine lv_iload_n hx hb dX10_doom_0 rfl (lv_at hl 1 rfl) ?_
    refine lv_if_eq (tgt := 11) hx hb dX10_doom_1 (by decide) (fun c15 => ?_) (fun c15 => ?_)
    · skip
      have ir16 : IV y1 0 0 := iv_eL c15 (iv_c (by decide) : IV 0 0 0)
      exact J11 H locs ls (iv_w ir16 (by decide)) hH hS (lv_sub hl [0, 1] rfl)
    · skip
      refine lv_iload_n hx hb dX10_doom_4 rfl (lv_at hl 1 rfl) ?_
      refine lv_iconst (v := 1) hx hb dX10_doom_5 (by decide) ?_
      refine lv_icmp_eq (tgt := 11) hx hb dX10_doom_6 (by decide) (fun c17 => ?_) (fun c17 => ?_)
      · skip
        have ir18 : IV y1 1 1 := iv_eL c17 (iv_c (by decide) : IV 1 1 1)
        exact J11 H locs ls (iv_w ir18 (by decide)) hH hS (lv_sub hl [0, 1] rfl)
      · skip
        refine lv_iconst (v := (-1)) hx hb dX10_doom_9 (by decide) ?_
        exact th_iret S hK hH hS hr hlocks (th_R.i (iv_top _)) dX10_doom_10
  exact J0 s.heap [] ls hH va_S.rf hl

set_option maxRecDepth 100000 in
theorem m_X10_bitten (l : Launch) (D : va_G) (cT : Nat → ClassId) (T : Nat → Option Nat) (q : Nat → Int) (hq : qok q) (a0 : Nat) (t0 : T a0 = some 0) : th_Met l D cT T (kd q) yX10_bitten cX10_bitten 1 (some .int) (rmk 6 150) [.ref a0] (th_R T (some (.inl (-2147483648, 2147483647)))) [18, 19, 29] := by
  refine th_start (by decide) (Nat.le_of_ble_eq_true rfl) ?_
  intro p e s m below meth c ls S hK hH hr hlocks hnm hl
  have hx := S.1
  have hb := S.2.1
  have hl : lv_has ls 1 [(0, .ref a0)] := hl
  have J0 : ∀ (H : Heap) (locs : List Loc) (ls : Array Slot), th_H D cT T (kd q) H → va_S (th_A T [18, 19, 29]) s.heap H locs → lv_has ls 1 [(0, .ref a0)] → W p l e (rmk 6 150) s m [.ref a0].toArray below meth c H locs 0 0 (MQ below (th_Q D cT T (kd q) (th_R T (some (.inl (-2147483648, 2147483647)))) [18, 19, 29]) [.ref a0].toArray s 0 0 (th_A T [18, 19, 29])) (F0 m 0 ls []) := by
    intro H locs ls hH hS hl
    refine lv_aload_n hx hb dX10_bitten_0 rfl (lv_at hl 0 rfl) ?_
    refine th_get S hK hH inG10 t0 kd_0 rfl 3 (by decide) gm_508 rfl rfl dX10_bitten_1 (fun v1 hv1 fv1 => ?_)
    obtain ⟨rf2, rfl, trf2⟩ := th_V.ref hv1
    refine lv_aload_n hx hb dX10_bitten_4 rfl (lv_at hl 0 rfl) ?_
    refine th_get S hK hH inG10 t0 kd_0 rfl 4 (by decide) gm_509 rfl rfl dX10_bitten_5 (fun v3 hv3 fv3 => ?_)
    obtain ⟨rf4, rfl, trf4⟩ := th_V.ref hv3
    refine th_callVr (n := 0) (As := []) S hK hH hS (th_A.sub (by decide)) (m_X3_now l D cT T q hq rf4 trf4) gm_828 gm_825 gm_826 gm_827 gm_120 (by decide +kernel) ⟨rfl, rfl, Nat.le_of_ble_eq_true rfl, Nat.le_of_ble_eq_true rfl⟩ trf4 kd_5 rfl rfl hl.1 rfl (Nat.le_of_ble_eq_true rfl) dX10_bitten_8 ⟨Nat.zero_le _, Nat.zero_le _⟩ (fun rf5 H locs trf5 hH hS hF1 => ?_)
    have f6 := fv3.kept (hF1 _ fv3.lt (th_off t0 (by decide)))
    refine lv_aload_n hx hb dX10_bitten_11 rfl (lv_at hl 0 rfl) ?_
    refine th_get S hK hH inG10 t0 kd_0 rfl 5 (by decide) gm_510 rfl rfl dX10_bitten_12 (fun v7 hv7 fv7 => ?_)
    obtain ⟨rf8, rfl, trf8⟩ := th_V.ref hv7
    refine lv_aload_n hx hb dX10_bitten_15 rfl (lv_at hl 0 rfl) ?_
    refine th_getK S hK f6 inG10 rfl (by decide) gm_509 rfl dX10_bitten_16 ?_
    refine th_callVr (n := 0) (As := []) S hK hH hS (th_A.sub (by decide)) (m_X3_now l D cT T q hq rf4 trf4) gm_828 gm_825 gm_826 gm_827 gm_120 (by decide +kernel) ⟨rfl, rfl, Nat.le_of_ble_eq_true rfl, Nat.le_of_ble_eq_true rfl⟩ trf4 kd_5 rfl rfl hl.1 rfl (Nat.le_of_ble_eq_true rfl) dX10_bitten_19 ⟨Nat.zero_le _, Nat.zero_le _⟩ (fun rf10 H locs trf10 hH hS hF1 => ?_)
    have f11 := f6.kept (hF1 _ f6.lt (th_off t0 (by decide)))
    refine lv_iconst (v := 1) hx hb dX10_bitten_22 (by decide) ?_
    refine th_callVr (n := 2) (As := [.ref rf10, .int 1]) S hK hH hS (th_A.sub (by decide)) (m_X1_after l D cT T q hq rf8 trf8 rf10 trf10 (1) (iv_w (iv_c (by decide) : IV 1 1 1) (by decide))) gm_979 gm_986 gm_977 gm_978 gm_121 (by decide +kernel) ⟨rfl, rfl, Nat.le_of_ble_eq_true rfl, Nat.le_of_ble_eq_true rfl⟩ trf8 kd_6 rfl rfl hl.1 rfl (Nat.le_of_ble_eq_true rfl) dX10_bitten_23 ⟨Nat.zero_le _, Nat.zero_le _⟩ (fun rf12 H locs trf12 hH hS hF1 => ?_)
    have f13 := f11.kept (hF1 _ f11.lt (th_off t0 (by decide)))
    refine th_callVi (n := 2) (As := [.ref rf5, .ref rf12]) S hK hH hS (th_A.sub (by decide)) (m_X0_smaller l D cT T q hq rf2 trf2 rf5 trf5 rf12 trf12) gm_937 gm_934 gm_935 gm_936 gm_119 (by decide +kernel) ⟨rfl, rfl, Nat.le_of_ble_eq_true rfl, Nat.le_of_ble_eq_true rfl⟩ trf2 kd_4 rfl rfl hl.1 rfl (Nat.le_of_ble_eq_true rfl) dX10_bitten_26 ⟨Nat.zero_le _, Nat.zero_le _⟩ (fun x14 H locs ix14 hH hS hF1 => ?_)
    have f15 := f13.kept (hF1 _ f13.lt (th_off t0 (by decide)))
    exact th_iret S hK hH hS hr hlocks (th_R.i ix14) dX10_bitten_29
  exact J0 s.heap [] ls hH va_S.rf hl

set_option maxRecDepth 100000 in
theorem m_X10_gone (l : Launch) (D : va_G) (cT : Nat → ClassId) (T : Nat → Option Nat) (q : Nat → Int) (hq : qok q) (a0 : Nat) (t0 : T a0 = some 0) : th_Met l D cT T (kd q) yX10_gone cX10_gone 1 (some .int) (rmk 1 23) [.ref a0] (th_R T (some (.inl (-2147483648, 2147483647)))) [] := by
  refine th_start (by decide) (Nat.le_of_ble_eq_true rfl) ?_
  intro p e s m below meth c ls S hK hH hr hlocks hnm hl
  have hx := S.1
  have hb := S.2.1
  have hl : lv_has ls 1 [(0, .ref a0)] := hl
  have J0 : ∀ (H : Heap) (locs : List Loc) (ls : Array Slot), th_H D cT T (kd q) H → va_S (th_A T []) s.heap H locs → lv_has ls 1 [(0, .ref a0)] → W p l e (rmk 1 23) s m [.ref a0].toArray below meth c H locs 0 0 (MQ below (th_Q D cT T (kd q) (th_R T (some (.inl (-2147483648, 2147483647)))) []) [.ref a0].toArray s 0 0 (th_A T [])) (F0 m 0 ls []) := by
    intro H locs ls hH hS hl
    refine lv_aload_n hx hb dX10_gone_0 rfl (lv_at hl 0 rfl) ?_
    refine th_get S hK hH inG10 t0 kd_0 rfl 3 (by decide) gm_508 rfl rfl dX10_gone_1 (fun v1 hv1 fv1 => ?_)
    obtain ⟨rf2, rfl, trf2⟩ := th_V.ref hv1
    refine lv_aload_n hx hb dX10_gone_4 rfl (lv_at hl 0 rfl) ?_
    refine th_get S hK hH inG10 t0 kd_0 rfl 4 (by decide) gm_509 rfl rfl dX10_gone_5 (fun v3 hv3 fv3 => ?_)
    obtain ⟨rf4, rfl, trf4⟩ := th_V.ref hv3
    refine th_callVr (n := 0) (As := []) S hK hH hS (th_A.sub (by decide)) (m_X3_now l D cT T q hq rf4 trf4) gm_828 gm_825 gm_826 gm_827 gm_120 (by decide +kernel) ⟨rfl, rfl, Nat.le_of_ble_eq_true rfl, Nat.le_of_ble_eq_true rfl⟩ trf4 kd_5 rfl rfl hl.1 rfl (Nat.le_of_ble_eq_true rfl) dX10_gone_8 ⟨Nat.zero_le _, Nat.zero_le _⟩ (fun rf5 H locs trf5 hH hS hF1 => ?_)
    refine th_callVi (n := 1) (As := [.ref rf5]) S hK hH hS (th_A.sub (by decide)) (m_X0_goneIn l D cT T q hq rf2 trf2 rf5 trf5) gm_998 gm_1011 gm_996 gm_997 gm_119 (by decide +kernel) ⟨rfl, rfl, Nat.le_of_ble_eq_true rfl, Nat.le_of_ble_eq_true rfl⟩ trf2 kd_4 rfl rfl hl.1 rfl (Nat.le_of_ble_eq_true rfl) dX10_gone_11 ⟨Nat.zero_le _, Nat.zero_le _⟩ (fun x6 H locs ix6 hH hS hF1 => ?_)
    exact th_iret S hK hH hS hr hlocks (th_R.i ix6) dX10_gone_14
  exact J0 s.heap [] ls hH va_S.rf hl

set_option maxRecDepth 100000 in
theorem m_X10_land (l : Launch) (D : va_G) (cT : Nat → ClassId) (T : Nat → Option Nat) (q : Nat → Int) (hq : qok q) (a0 : Nat) (t0 : T a0 = some 0) (y1 : Int32) (j1 : IV y1 (-2147483648) 2147483647) : th_Met l D cT T (kd q) yX10_land cX10_land 2 (some .int) (rmk 6 150) [.ref a0, .int y1] (th_R T (some (.inl (-2147483648, 2147483647)))) [18, 19, 29] := by
  refine th_start (by decide) (Nat.le_of_ble_eq_true rfl) ?_
  intro p e s m below meth c ls S hK hH hr hlocks hnm hl
  have hx := S.1
  have hb := S.2.1
  have hl : lv_has ls 2 [(0, .ref a0), (1, .int y1)] := hl
  have J36 : ∀ (H : Heap) (locs : List Loc) (ls : Array Slot) (w36_0 : Int32), IV w36_0 (-2147483648) 2147483647 → th_H D cT T (kd q) H → va_S (th_A T [18, 19, 29]) s.heap H locs → lv_has ls 2 [] → W p l e (rmk 6 150) s m [.ref a0, .int y1].toArray below meth c H locs 0 0 (MQ below (th_Q D cT T (kd q) (th_R T (some (.inl (-2147483648, 2147483647)))) [18, 19, 29]) [.ref a0, .int y1].toArray s 0 0 (th_A T [18, 19, 29])) (F0 m 36 ls [.int w36_0]) := by
    intro H locs ls w36_0 iw36_0 hH hS hl
    exact th_iret S hK hH hS hr hlocks (th_R.i iw36_0) dX10_land_36
  have J36_s0_m1 : ∀ (H : Heap) (locs : List Loc) (ls : Array Slot), th_H D cT T (kd q) H → va_S (th_A T [18, 19, 29]) s.heap H locs → lv_has ls 2 [] → W p l e (rmk 6 150) s m [.ref a0, .int y1].toArray below meth c H locs 0 0 (MQ below (th_Q D cT T (kd q) (th_R T (some (.inl (-2147483648, 2147483647)))) [18, 19, 29]) [.ref a0, .int y1].toArray s 0 0 (th_A T [18, 19, 29])) (F0 m 36 ls [.int (-1)]) := by
    intro H locs ls hH hS hl
    exact th_iret S hK hH hS hr hlocks (th_R.i (iv_top _)) dX10_land_36
  have J10 : ∀ (H : Heap) (locs : List Loc) (ls : Array Slot), th_H D cT T (kd q) H → va_S (th_A T [18, 19, 29]) s.heap H locs → lv_has ls 2 [] → W p l e (rmk 6 150) s m [.ref a0, .int y1].toArray below meth c H locs 0 0 (MQ below (th_Q D cT T (kd q) (th_R T (some (.inl (-2147483648, 2147483647)))) [18, 19, 29]) [.ref a0, .int y1].toArray s 0 0 (th_A T [18, 19, 29])) (F0 m 10 ls []) := by
    intro H locs ls hH hS hl
    refine lv_iconst (v := (-1)) hx hb dX10_land_10 (by decide) ?_
    refine lv_goto (tgt := 36) hx hb dX10_land_11 (by decide) ?_
    exact J36_s0_m1 H locs ls  hH hS (lv_sub hl [] rfl)
  have J0 : ∀ (H : Heap) (locs : List Loc) (ls : Array Slot), th_H D cT T (kd q) H → va_S (th_A T [18, 19, 29]) s.heap H locs → lv_has ls 2 [(0, .ref a0), (1, .int y1)] → W p l e (rmk 6 150) s m [.ref a0, .int y1].toArray below meth c H locs 0 0 (MQ below (th_Q D cT T (kd q) (th_R T (some (.inl (-2147483648, 2147483647)))) [18, 19, 29]) [.ref a0, .int y1].toArray s 0 0 (th_A T [18, 19, 29])) (F0 m 0 ls []) := by
    intro H locs ls hH hS hl
    refine lv_iload_n hx hb dX10_land_0 rfl (lv_at hl 1 rfl) ?_
    refine lv_if_lt (tgt := 10) hx hb dX10_land_1 (by decide) (fun c1 => ?_) (fun c1 => ?_)
    · skip
      have ir2 : IV y1 (-2147483648) (-1) := iv_uL j1 (iv_c (by decide) : IV 0 0 0) (iv_lt c1) (by decide)
      exact J10 H locs ls  hH hS (lv_sub hl [] rfl)
    · skip
      have ir3 : IV y1 0 2147483647 := iv_vR (iv_c (by decide) : IV 0 0 0) j1 (iv_nlt c1) (by decide)
      refine lv_iload_n hx hb dX10_land_4 rfl (lv_at hl 1 rfl) ?_
      refine lv_bipush (v := 40) hx hb dX10_land_5 (by decide) ?_
      refine lv_icmp_le (tgt := 14) hx hb dX10_land_7 (by decide) (fun c4 => ?_) (fun c4 => ?_)
      · skip
        have ir5 : IV y1 0 40 := iv_vL ir3 (iv_c (by decide) : IV 40 40 40) (iv_le c4) (by decide)
        refine lv_aload_n hx hb dX10_land_14 rfl (lv_at hl 0 rfl) ?_
        refine th_get S hK hH inG10 t0 kd_0 rfl 3 (by decide) gm_508 rfl rfl dX10_land_15 (fun v6 hv6 fv6 => ?_)
        obtain ⟨rf7, rfl, trf7⟩ := th_V.ref hv6
        refine lv_aload_n hx hb dX10_land_18 rfl (lv_at hl 0 rfl) ?_
        refine th_get S hK hH inG10 t0 kd_0 rfl 5 (by decide) gm_510 rfl rfl dX10_land_19 (fun v8 hv8 fv8 => ?_)
        obtain ⟨rf9, rfl, trf9⟩ := th_V.ref hv8
        refine lv_aload_n hx hb dX10_land_22 rfl (lv_at hl 0 rfl) ?_
        refine th_get S hK hH inG10 t0 kd_0 rfl 4 (by decide) gm_509 rfl rfl dX10_land_23 (fun v10 hv10 fv10 => ?_)
        obtain ⟨rf11, rfl, trf11⟩ := th_V.ref hv10
        refine th_callVr (n := 0) (As := []) S hK hH hS (th_A.sub (by decide)) (m_X3_now l D cT T q hq rf11 trf11) gm_828 gm_825 gm_826 gm_827 gm_120 (by decide +kernel) ⟨rfl, rfl, Nat.le_of_ble_eq_true rfl, Nat.le_of_ble_eq_true rfl⟩ trf11 kd_5 rfl rfl hl.1 rfl (Nat.le_of_ble_eq_true rfl) dX10_land_26 ⟨Nat.zero_le _, Nat.zero_le _⟩ (fun rf12 H locs trf12 hH hS hF1 => ?_)
        refine lv_iload_n hx hb dX10_land_29 rfl (lv_at hl 1 rfl) ?_
        refine th_callVr (n := 2) (As := [.ref rf12, .int y1]) S hK hH hS (th_A.sub (by decide)) (m_X1_after l D cT T q hq rf9 trf9 rf12 trf12 (y1) ir5) gm_979 gm_986 gm_977 gm_978 gm_121 (by decide +kernel) ⟨rfl, rfl, Nat.le_of_ble_eq_true rfl, Nat.le_of_ble_eq_true rfl⟩ trf9 kd_6 rfl rfl hl.1 rfl (Nat.le_of_ble_eq_true rfl) dX10_land_30 ⟨Nat.zero_le _, Nat.zero_le _⟩ (fun rf13 H locs trf13 hH hS hF1 => ?_)
        refine th_callVi (n := 1) (As := [.ref rf13]) S hK hH hS (th_A.sub (by decide)) (m_X0_landIn l D cT T q hq rf7 trf7 rf13 trf13) gm_1019 gm_1016 gm_1017 gm_1018 gm_119 (by decide +kernel) ⟨rfl, rfl, Nat.le_of_ble_eq_true rfl, Nat.le_of_ble_eq_true rfl⟩ trf7 kd_4 rfl rfl hl.1 rfl (Nat.le_of_ble_eq_true rfl) dX10_land_33 ⟨Nat.zero_le _, Nat.zero_le _⟩ (fun x14 H locs ix14 hH hS hF1 => ?_)
        exact J36 H locs ls x14 ix14 hH hS (lv_sub hl [] rfl)
      · skip
        have ir15 : IV y1 41 2147483647 := iv_uR (iv_c (by decide) : IV 40 40 40) ir3 (iv_nle c4) (by decide)
        exact J10 H locs ls  hH hS (lv_sub hl [] rfl)
  exact J0 s.heap [] ls hH va_S.rf hl

set_option maxRecDepth 100000 in
theorem m_X10_ration (l : Launch) (D : va_G) (cT : Nat → ClassId) (T : Nat → Option Nat) (q : Nat → Int) (hq : qok q) (hT : tok T) (hlow : q 6 = -2147483647) (a0 : Nat) (t0 : T a0 = some 0) (y1 : Int32) (j1 : IV y1 (-2147483648) 2147483647) (y2 : Int32) (j2 : IV y2 (-2147483648) 2147483647) : th_Met l D cT T (kd q) yX10_ration cX10_ration 3 (some .int) (rmk 10 263) [.ref a0, .int y1, .int y2] (th_R T (some (.inl (-2147483647, 24)))) [7, 18, 19, 29, 34, 35, 36, 37, 38] := by
  refine th_start (by decide) (Nat.le_of_ble_eq_true rfl) ?_
  intro p e s m below meth c ls S hK hH hr hlocks hnm hl
  have hx := S.1
  have hb := S.2.1
  have hl : lv_has ls 3 [(0, .ref a0), (1, .int y1), (2, .int y2)] := hl
  have J32 : ∀ (H : Heap) (locs : List Loc) (ls : Array Slot), th_H D cT T (kd q) H → va_S (th_A T [7, 18, 19, 29, 34, 35, 36, 37, 38]) s.heap H locs → lv_has ls 3 [] → W p l e (rmk 10 263) s m [.ref a0, .int y1, .int y2].toArray below meth c H locs 0 0 (MQ below (th_Q D cT T (kd q) (th_R T (some (.inl (-2147483647, 24)))) [7, 18, 19, 29, 34, 35, 36, 37, 38]) [.ref a0, .int y1, .int y2].toArray s 0 0 (th_A T [7, 18, 19, 29, 34, 35, 36, 37, 38])) (F0 m 32 ls []) := by
    intro H locs ls hH hS hl
    refine lv_iconst (v := (-1)) hx hb dX10_ration_32 (by decide) ?_
    exact th_iret S hK hH hS hr hlocks (th_R.i (iv_w (iv_c (by decide) : IV (-1) (-1) (-1)) (by decide))) dX10_ration_33
  have J0 : ∀ (H : Heap) (locs : List Loc) (ls : Array Slot), th_H D cT T (kd q) H → va_S (th_A T [7, 18, 19, 29, 34, 35, 36, 37, 38]) s.heap H locs → lv_has ls 3 [(0, .ref a0), (1, .int y1), (2, .int y2)] → W p l e (rmk 10 263) s m [.ref a0, .int y1, .int y2].toArray below meth c H locs 0 0 (MQ below (th_Q D cT T (kd q) (th_R T (some (.inl (-2147483647, 24)))) [7, 18, 19, 29, 34, 35, 36, 37, 38]) [.ref a0, .int y1, .int y2].toArray s 0 0 (th_A T [7, 18, 19, 29, 34, 35, 36, 37, 38])) (F0 m 0 ls []) := by
    intro H locs ls hH hS hl
    refine lv_aload_n hx hb dX10_ration_0 rfl (lv_at hl 0 rfl) ?_
    refine th_get S hK hH inG10 t0 kd_0 rfl 6 (by decide) gm_511 rfl rfl dX10_ration_1 (fun v1 hv1 fv1 => ?_)
    obtain ⟨rf2, rfl, trf2⟩ := th_V.ref hv1
    refine lv_iconst (v := 0) hx hb dX10_ration_4 (by decide) ?_
    refine th_put S hK hH hS ⟨7, by decide, trf2⟩ inG5 tyX5 tyX5_ok nmX5 trf2 kd_7 rfl 2 (by decide) gm_431 rfl rfl rfl rfl (th_iv (iv_top _)) (fun _ _ => trivial) (ty := .int) (by decide +kernel) rfl rfl dX10_ration_5 (fun H locs hH hS hq1 hp1 => ?_)
    have f3 := fv1.kept (hq1 _ (th_ne t0 trf2 (by decide)))
    refine lv_aload_n hx hb dX10_ration_8 rfl (lv_at hl 0 rfl) ?_
    refine lv_iload_n hx hb dX10_ration_9 rfl (lv_at hl 1 rfl) ?_
    refine th_callVg (n := 1) (As := [.int y1]) S hK hH hS (th_A.sub (by decide)) (m_X10_isFood l D cT T q hq a0 t0 (y1) j1) gm_824 gm_821 gm_823 gm_23 gm_113 (by decide +kernel) ⟨rfl, rfl, Nat.le_of_ble_eq_true rfl, Nat.le_of_ble_eq_true rfl⟩ t0 kd_0 rfl rfl hl.1 rfl (Nat.le_of_ble_eq_true rfl) dX10_ration_10 ⟨Nat.zero_le _, Nat.zero_le _⟩ (fun x4 H locs ix4 ox4 hH hS hF1 => ?_)
    have f5 := f3.kept (hF1 _ f3.lt (th_off t0 (by decide)))
    refine lv_if_eq (tgt := 32) hx hb dX10_ration_13 (by decide) (fun c6 => ?_) (fun c6 => ?_)
    · skip
      have ir7 : IV x4 0 0 := iv_eL c6 (iv_c (by decide) : IV 0 0 0)
      exact J32 H locs ls  hH hS (lv_sub hl [] rfl)
    · skip
      have ir8 : IV x4 1 1 := iv_cutL ix4 (iv_c (by decide) : IV 0 0 0) c6 (by decide)
      have ir9 : IV y1 0 2 := ox4 c6
      refine lv_iload_n hx hb dX10_ration_16 rfl (lv_at hl 2 rfl) ?_
      refine lv_if_lt (tgt := 32) hx hb dX10_ration_17 (by decide) (fun c10 => ?_) (fun c10 => ?_)
      · skip
        have ir11 : IV y2 (-2147483648) (-1) := iv_uL j2 (iv_c (by decide) : IV 0 0 0) (iv_lt c10) (by decide)
        exact J32 H locs ls  hH hS (lv_sub hl [] rfl)
      · skip
        have ir12 : IV y2 0 2147483647 := iv_vR (iv_c (by decide) : IV 0 0 0) j2 (iv_nlt c10) (by decide)
        refine lv_iload_n hx hb dX10_ration_20 rfl (lv_at hl 2 rfl) ?_
        refine lv_aload_n hx hb dX10_ration_21 rfl (lv_at hl 0 rfl) ?_
        refine th_get S hK hH inG10 t0 kd_0 rfl 2 (by decide) gm_507 rfl rfl dX10_ration_22 (fun v13 hv13 fv13 => ?_)
        obtain ⟨rf14, rfl, trf14⟩ := th_V.ref hv13
        refine th_get S hK hH inG4 trf14 kd_3 rfl 13 (by decide) gm_287 rfl rfl dX10_ration_25 (fun v15 hv15 fv15 => ?_)
        obtain ⟨x16, rfl, ix16⟩ := th_V.int hv15
        refine lv_ishr hx hb dX10_ration_28 ?_
        refine lv_topi (fun x17 ex17 => ?_)
        have ix17 := iv_top x17
        refine lv_if_eq (tgt := 34) hx hb dX10_ration_29 (by decide) (fun c18 => ?_) (fun c18 => ?_)
        · skip
          have ir19 : IV x17 0 0 := iv_eL c18 (iv_c (by decide) : IV 0 0 0)
          refine lv_aload_n hx hb dX10_ration_34 rfl (lv_at hl 0 rfl) ?_
          refine th_getK S hK f5 inG10 rfl (by decide) gm_511 rfl dX10_ration_35 ?_
          refine lv_aload_n hx hb dX10_ration_38 rfl (lv_at hl 0 rfl) ?_
          refine th_get S hK hH inG10 t0 kd_0 rfl 4 (by decide) gm_509 rfl rfl dX10_ration_39 (fun v21 hv21 fv21 => ?_)
          obtain ⟨rf22, rfl, trf22⟩ := th_V.ref hv21
          refine th_callVr (n := 0) (As := []) S hK hH hS (th_A.sub (by decide)) (m_X3_now l D cT T q hq rf22 trf22) gm_828 gm_825 gm_826 gm_827 gm_120 (by decide +kernel) ⟨rfl, rfl, Nat.le_of_ble_eq_true rfl, Nat.le_of_ble_eq_true rfl⟩ trf22 kd_5 rfl rfl hl.1 rfl (Nat.le_of_ble_eq_true rfl) dX10_ration_42 ⟨Nat.zero_le _, Nat.zero_le _⟩ (fun rf23 H locs trf23 hH hS hF1 => ?_)
          have f24 := f5.kept (hF1 _ f5.lt (th_off t0 (by decide)))
          refine lv_iload_n hx hb dX10_ration_45 rfl (lv_at hl 1 rfl) ?_
          refine lv_iload_n hx hb dX10_ration_46 rfl (lv_at hl 2 rfl) ?_
          refine th_callVi (n := 3) (As := [.ref rf23, .int y1, .int y2]) S hK hH hS (th_A.sub (by decide)) (m_X5_fewest l D cT T q hq hT hlow rf2 trf2 rf23 trf23 (y1) ir9 (y2) (iv_top _)) gm_1027 gm_1024 gm_1025 gm_1026 gm_122 (by decide +kernel) ⟨rfl, rfl, Nat.le_of_ble_eq_true rfl, Nat.le_of_ble_eq_true rfl⟩ trf2 kd_7 rfl rfl hl.1 rfl (Nat.le_of_ble_eq_true rfl) dX10_ration_47 ⟨Nat.zero_le _, Nat.zero_le _⟩ (fun x25 H locs ix25 hH hS hF1 => ?_)
          have f26 := f24.kept (hF1 _ f24.lt (th_off t0 (by decide)))
          exact th_iret S hK hH hS hr hlocks (th_R.i ix25) dX10_ration_50
        · skip
          exact J32 H locs ls  hH hS (lv_sub hl [] rfl)
  exact J0 s.heap [] ls hH va_S.rf hl

set_option maxRecDepth 100000 in
theorem m_X10_keep (l : Launch) (D : va_G) (cT : Nat → ClassId) (T : Nat → Option Nat) (q : Nat → Int) (hq : qok q) (a0 : Nat) (t0 : T a0 = some 0) (y1 : Int32) (j1 : IV y1 (-2147483648) 2147483647) (y2 : Int32) (j2 : IV y2 (-2147483648) 2147483647) : th_Met l D cT T (kd q) yX10_keep cX10_keep 3 (some .int) (rmk 10 242) [.ref a0, .int y1, .int y2] (th_R T (some (.inl (-2147483648, 2147483647)))) [7, 18, 19, 29, 34, 35, 38] := by
  refine th_start (by decide) (Nat.le_of_ble_eq_true rfl) ?_
  intro p e s m below meth c ls S hK hH hr hlocks hnm hl
  have hx := S.1
  have hb := S.2.1
  have hl : lv_has ls 3 [(0, .ref a0), (1, .int y1), (2, .int y2)] := hl
  have J54 : ∀ (H : Heap) (locs : List Loc) (ls : Array Slot), th_H D cT T (kd q) H → va_S (th_A T [7, 18, 19, 29, 34, 35, 38]) s.heap H locs → lv_has ls 3 [] → W p l e (rmk 10 242) s m [.ref a0, .int y1, .int y2].toArray below meth c H locs 0 0 (MQ below (th_Q D cT T (kd q) (th_R T (some (.inl (-2147483648, 2147483647)))) [7, 18, 19, 29, 34, 35, 38]) [.ref a0, .int y1, .int y2].toArray s 0 0 (th_A T [7, 18, 19, 29, 34, 35, 38])) (F0 m 54 ls []) := by
    intro H locs ls hH hS hl
    refine lv_iconst (v := (-1)) hx hb dX10_keep_54 (by decide) ?_
    exact th_iret S hK hH hS hr hlocks (th_R.i (iv_top _)) dX10_keep_55
  have J0 : ∀ (H : Heap) (locs : List Loc) (ls : Array Slot), th_H D cT T (kd q) H → va_S (th_A T [7, 18, 19, 29, 34, 35, 38]) s.heap H locs → lv_has ls 3 [(0, .ref a0), (1, .int y1), (2, .int y2)] → W p l e (rmk 10 242) s m [.ref a0, .int y1, .int y2].toArray below meth c H locs 0 0 (MQ below (th_Q D cT T (kd q) (th_R T (some (.inl (-2147483648, 2147483647)))) [7, 18, 19, 29, 34, 35, 38]) [.ref a0, .int y1, .int y2].toArray s 0 0 (th_A T [7, 18, 19, 29, 34, 35, 38])) (F0 m 0 ls []) := by
    intro H locs ls hH hS hl
    refine lv_aload_n hx hb dX10_keep_0 rfl (lv_at hl 0 rfl) ?_
    refine th_get S hK hH inG10 t0 kd_0 rfl 6 (by decide) gm_511 rfl rfl dX10_keep_1 (fun v1 hv1 fv1 => ?_)
    obtain ⟨rf2, rfl, trf2⟩ := th_V.ref hv1
    refine lv_iconst (v := 0) hx hb dX10_keep_4 (by decide) ?_
    refine th_put S hK hH hS ⟨7, by decide, trf2⟩ inG5 tyX5 tyX5_ok nmX5 trf2 kd_7 rfl 2 (by decide) gm_431 rfl rfl rfl rfl (th_iv (iv_top _)) (fun _ _ => trivial) (ty := .int) (by decide +kernel) rfl rfl dX10_keep_5 (fun H locs hH hS hq1 hp1 => ?_)
    have f3 := fv1.kept (hq1 _ (th_ne t0 trf2 (by decide)))
    refine lv_aload_n hx hb dX10_keep_8 rfl (lv_at hl 0 rfl) ?_
    refine lv_iload_n hx hb dX10_keep_9 rfl (lv_at hl 1 rfl) ?_
    refine th_callVg (n := 1) (As := [.int y1]) S hK hH hS (th_A.sub (by decide)) (m_X10_isFood l D cT T q hq a0 t0 (y1) j1) gm_824 gm_821 gm_823 gm_23 gm_113 (by decide +kernel) ⟨rfl, rfl, Nat.le_of_ble_eq_true rfl, Nat.le_of_ble_eq_true rfl⟩ t0 kd_0 rfl rfl hl.1 rfl (Nat.le_of_ble_eq_true rfl) dX10_keep_10 ⟨Nat.zero_le _, Nat.zero_le _⟩ (fun x4 H locs ix4 ox4 hH hS hF1 => ?_)
    have f5 := f3.kept (hF1 _ f3.lt (th_off t0 (by decide)))
    refine lv_if_eq (tgt := 54) hx hb dX10_keep_13 (by decide) (fun c6 => ?_) (fun c6 => ?_)
    · skip
      have ir7 : IV x4 0 0 := iv_eL c6 (iv_c (by decide) : IV 0 0 0)
      exact J54 H locs ls  hH hS (lv_sub hl [] rfl)
    · skip
      have ir8 : IV x4 1 1 := iv_cutL ix4 (iv_c (by decide) : IV 0 0 0) c6 (by decide)
      have ir9 : IV y1 0 2 := ox4 c6
      refine lv_aload_n hx hb dX10_keep_16 rfl (lv_at hl 0 rfl) ?_
      refine th_get S hK hH inG10 t0 kd_0 rfl 2 (by decide) gm_507 rfl rfl dX10_keep_17 (fun v10 hv10 fv10 => ?_)
      obtain ⟨rf11, rfl, trf11⟩ := th_V.ref hv10
      refine th_get S hK hH inG4 trf11 kd_3 rfl 12 (by decide) gm_282 rfl rfl dX10_keep_20 (fun v12 hv12 fv12 => ?_)
      obtain ⟨x13, rfl, ix13⟩ := th_V.int hv12
      refine lv_if_eq (tgt := 54) hx hb dX10_keep_23 (by decide) (fun c14 => ?_) (fun c14 => ?_)
      · skip
        have ir15 : IV x13 0 0 := iv_eL c14 (iv_c (by decide) : IV 0 0 0)
        exact J54 H locs ls  hH hS (lv_sub hl [] rfl)
      · skip
        have ir16 : IV x13 1 4 := iv_cutL ix13 (iv_c (by decide) : IV 0 0 0) c14 (by decide)
        refine lv_iload_n hx hb dX10_keep_26 rfl (lv_at hl 2 rfl) ?_
        refine lv_if_lt (tgt := 54) hx hb dX10_keep_27 (by decide) (fun c17 => ?_) (fun c17 => ?_)
        · skip
          have ir18 : IV y2 (-2147483648) (-1) := iv_uL j2 (iv_c (by decide) : IV 0 0 0) (iv_lt c17) (by decide)
          exact J54 H locs ls  hH hS (lv_sub hl [] rfl)
        · skip
          have ir19 : IV y2 0 2147483647 := iv_vR (iv_c (by decide) : IV 0 0 0) j2 (iv_nlt c17) (by decide)
          refine lv_iload_n hx hb dX10_keep_30 rfl (lv_at hl 2 rfl) ?_
          refine lv_bipush (v := 12) hx hb dX10_keep_31 (by decide) ?_
          refine lv_icmp_gt (tgt := 54) hx hb dX10_keep_33 (by decide) (fun c20 => ?_) (fun c20 => ?_)
          · skip
            have ir21 : IV y2 13 2147483647 := iv_uR (iv_c (by decide) : IV 12 12 12) ir19 (iv_lt c20) (by decide)
            exact J54 H locs ls  hH hS (lv_sub hl [] rfl)
          · skip
            have ir22 : IV y2 0 12 := iv_vL ir19 (iv_c (by decide) : IV 12 12 12) (iv_nlt c20) (by decide)
            refine lv_iload_n hx hb dX10_keep_36 rfl (lv_at hl 2 rfl) ?_
            refine lv_aload_n hx hb dX10_keep_37 rfl (lv_at hl 0 rfl) ?_
            refine th_get S hK hH inG10 t0 kd_0 rfl 4 (by decide) gm_509 rfl rfl dX10_keep_38 (fun v23 hv23 fv23 => ?_)
            obtain ⟨rf24, rfl, trf24⟩ := th_V.ref hv23
            refine th_callVr (n := 0) (As := []) S hK hH hS (th_A.sub (by decide)) (m_X3_now l D cT T q hq rf24 trf24) gm_828 gm_825 gm_826 gm_827 gm_120 (by decide +kernel) ⟨rfl, rfl, Nat.le_of_ble_eq_true rfl, Nat.le_of_ble_eq_true rfl⟩ trf24 kd_5 rfl rfl hl.1 rfl (Nat.le_of_ble_eq_true rfl) dX10_keep_41 ⟨Nat.zero_le _, Nat.zero_le _⟩ (fun rf25 H locs trf25 hH hS hF1 => ?_)
            have f26 := f5.kept (hF1 _ f5.lt (th_off t0 (by decide)))
            have f27 := fv23.kept (hF1 _ fv23.lt (th_off t0 (by decide)))
            refine th_get S hK hH inG7 trf25 kd_10 rfl 0 (by decide) gm_231 rfl rfl dX10_keep_44 (fun v28 hv28 fv28 => ?_)
            obtain ⟨rf29, rfl, trf29⟩ := th_V.ref hv28
            refine lv_iconst (v := 0) hx hb dX10_keep_47 (by decide) ?_
            refine lv_iload_n hx hb dX10_keep_48 rfl (lv_at hl 1 rfl) ?_
            refine lv_iadd hx hb dX10_keep_49 ?_
            refine lv_topi (fun x30 ex30 => ?_)
            have ix30 : IV x30 0 2 := by rw [ex30]; exact iv_add (iv_c (by decide) : IV 0 0 0) ir9 (by decide)
            refine th_iald S hK hH trf29 kd_29 (th_in (hi := 2) ix30 (by decide)) dX10_keep_50 (fun v31 hv31 => ?_)
            obtain ⟨x32, rfl, ix32⟩ := th_V.int hv31
            refine lv_icmp_le (tgt := 56) hx hb dX10_keep_51 (by decide) (fun c33 => ?_) (fun c33 => ?_)
            · skip
              have ir34 : IV x32 0 2147483647 := iv_vR ir22 ix32 (iv_le c33) (by decide)
              refine lv_aload_n hx hb dX10_keep_56 rfl (lv_at hl 0 rfl) ?_
              refine th_getK S hK f26 inG10 rfl (by decide) gm_511 rfl dX10_keep_57 ?_
              refine lv_aload_n hx hb dX10_keep_60 rfl (lv_at hl 0 rfl) ?_
              refine th_getK S hK f27 inG10 rfl (by decide) gm_509 rfl dX10_keep_61 ?_
              refine th_callVr (n := 0) (As := []) S hK hH hS (th_A.sub (by decide)) (m_X3_now l D cT T q hq rf24 trf24) gm_828 gm_825 gm_826 gm_827 gm_120 (by decide +kernel) ⟨rfl, rfl, Nat.le_of_ble_eq_true rfl, Nat.le_of_ble_eq_true rfl⟩ trf24 kd_5 rfl rfl hl.1 rfl (Nat.le_of_ble_eq_true rfl) dX10_keep_64 ⟨Nat.zero_le _, Nat.zero_le _⟩ (fun rf37 H locs trf37 hH hS hF1 => ?_)
              have f38 := f26.kept (hF1 _ f26.lt (th_off t0 (by decide)))
              have f39 := f27.kept (hF1 _ f27.lt (th_off t0 (by decide)))
              refine lv_iload_n hx hb dX10_keep_67 rfl (lv_at hl 1 rfl) ?_
              refine lv_iload_n hx hb dX10_keep_68 rfl (lv_at hl 2 rfl) ?_
              refine th_callVi (n := 3) (As := [.ref rf37, .int y1, .int y2]) S hK hH hS (th_A.sub (by decide)) (m_X5_mostKept l D cT T q hq rf2 trf2 rf37 trf37 (y1) ir9 (y2) ir22) gm_1067 gm_1064 gm_1065 gm_1066 gm_122 (by decide +kernel) ⟨rfl, rfl, Nat.le_of_ble_eq_true rfl, Nat.le_of_ble_eq_true rfl⟩ trf2 kd_7 rfl rfl hl.1 rfl (Nat.le_of_ble_eq_true rfl) dX10_keep_69 ⟨Nat.zero_le _, Nat.zero_le _⟩ (fun x40 H locs ix40 hH hS hF1 => ?_)
              have f41 := f38.kept (hF1 _ f38.lt (th_off t0 (by decide)))
              have f42 := f39.kept (hF1 _ f39.lt (th_off t0 (by decide)))
              exact th_iret S hK hH hS hr hlocks (th_R.i ix40) dX10_keep_72
            · skip
              have ir43 : IV x32 (-2147483648) 11 := iv_uL ix32 ir22 (iv_nle c33) (by decide)
              exact J54 H locs ls  hH hS (lv_sub hl [] rfl)
  exact J0 s.heap [] ls hH va_S.rf hl

set_option maxRecDepth 100000 in
theorem m_X10_folds (l : Launch) (D : va_G) (cT : Nat → ClassId) (T : Nat → Option Nat) (q : Nat → Int) (hq : qok q) (a0 : Nat) (t0 : T a0 = some 0) (y1 : Int32) (j1 : IV y1 (-2147483648) 2147483647) (y2 : Int32) (j2 : IV y2 (-2147483648) 2147483647) : th_Met l D cT T (kd q) yX10_folds cX10_folds 4 (some .int) (rmk 7 178) [.ref a0, .int y1, .int y2] (th_R T (some (.inl (-1, 2147483646)))) [18, 19, 29] := by
  refine th_start (by decide) (Nat.le_of_ble_eq_true rfl) ?_
  intro p e s m below meth c ls S hK hH hr hlocks hnm hl
  have hx := S.1
  have hb := S.2.1
  have hl : lv_has ls 4 [(0, .ref a0), (1, .int y1), (2, .int y2)] := hl
  have J56 : ∀ (H : Heap) (locs : List Loc) (ls : Array Slot) (w56_0 : Int32), IV w56_0 (-1) 2147483646 → th_H D cT T (kd q) H → va_S (th_A T [18, 19, 29]) s.heap H locs → lv_has ls 4 [] → W p l e (rmk 7 178) s m [.ref a0, .int y1, .int y2].toArray below meth c H locs 0 0 (MQ below (th_Q D cT T (kd q) (th_R T (some (.inl (-1, 2147483646)))) [18, 19, 29]) [.ref a0, .int y1, .int y2].toArray s 0 0 (th_A T [18, 19, 29])) (F0 m 56 ls [.int w56_0]) := by
    intro H locs ls w56_0 iw56_0 hH hS hl
    exact th_iret S hK hH hS hr hlocks (th_R.i iw56_0) dX10_folds_56
  have J48 : ∀ (H : Heap) (locs : List Loc) (ls : Array Slot) (v48_3 : Int32), IV v48_3 (-1) 2147483646 → th_H D cT T (kd q) H → va_S (th_A T [18, 19, 29]) s.heap H locs → lv_has ls 4 [(3, .int v48_3)] → W p l e (rmk 7 178) s m [.ref a0, .int y1, .int y2].toArray below meth c H locs 0 0 (MQ below (th_Q D cT T (kd q) (th_R T (some (.inl (-1, 2147483646)))) [18, 19, 29]) [.ref a0, .int y1, .int y2].toArray s 0 0 (th_A T [18, 19, 29])) (F0 m 48 ls []) := by
    intro H locs ls v48_3 iv48_3 hH hS hl
    refine lv_iload_n hx hb dX10_folds_48 rfl (lv_at hl 0 rfl) ?_
    refine lv_goto (tgt := 56) hx hb dX10_folds_49 (by decide) ?_
    exact J56 H locs ls v48_3 iv48_3 hH hS (lv_sub hl [] rfl)
  have J20 : ∀ (H : Heap) (locs : List Loc) (ls : Array Slot), th_H D cT T (kd q) H → va_S (th_A T [18, 19, 29]) s.heap H locs → lv_has ls 4 [] → W p l e (rmk 7 178) s m [.ref a0, .int y1, .int y2].toArray below meth c H locs 0 0 (MQ below (th_Q D cT T (kd q) (th_R T (some (.inl (-1, 2147483646)))) [18, 19, 29]) [.ref a0, .int y1, .int y2].toArray s 0 0 (th_A T [18, 19, 29])) (F0 m 20 ls []) := by
    intro H locs ls hH hS hl
    refine lv_iconst (v := (-1)) hx hb dX10_folds_20 (by decide) ?_
    exact th_iret S hK hH hS hr hlocks (th_R.i (iv_w (iv_c (by decide) : IV (-1) (-1) (-1)) (by decide))) dX10_folds_21
  have J0 : ∀ (H : Heap) (locs : List Loc) (ls : Array Slot), th_H D cT T (kd q) H → va_S (th_A T [18, 19, 29]) s.heap H locs → lv_has ls 4 [(0, .ref a0), (1, .int y1), (2, .int y2)] → W p l e (rmk 7 178) s m [.ref a0, .int y1, .int y2].toArray below meth c H locs 0 0 (MQ below (th_Q D cT T (kd q) (th_R T (some (.inl (-1, 2147483646)))) [18, 19, 29]) [.ref a0, .int y1, .int y2].toArray s 0 0 (th_A T [18, 19, 29])) (F0 m 0 ls []) := by
    intro H locs ls hH hS hl
    refine lv_iload_n hx hb dX10_folds_0 rfl (lv_at hl 1 rfl) ?_
    refine lv_iconst (v := 1) hx hb dX10_folds_1 (by decide) ?_
    refine lv_icmp_lt (tgt := 20) hx hb dX10_folds_2 (by decide) (fun c1 => ?_) (fun c1 => ?_)
    · skip
      have ir2 : IV y1 (-2147483648) 0 := iv_uL j1 (iv_c (by decide) : IV 1 1 1) (iv_lt c1) (by decide)
      exact J20 H locs ls  hH hS (lv_sub hl [] rfl)
    · skip
      have ir3 : IV y1 1 2147483647 := iv_vR (iv_c (by decide) : IV 1 1 1) j1 (iv_nlt c1) (by decide)
      refine lv_iload_n hx hb dX10_folds_5 rfl (lv_at hl 1 rfl) ?_
      refine lv_bipush (v := 20) hx hb dX10_folds_6 (by decide) ?_
      refine lv_icmp_gt (tgt := 20) hx hb dX10_folds_8 (by decide) (fun c4 => ?_) (fun c4 => ?_)
      · skip
        have ir5 : IV y1 21 2147483647 := iv_uR (iv_c (by decide) : IV 20 20 20) ir3 (iv_lt c4) (by decide)
        exact J20 H locs ls  hH hS (lv_sub hl [] rfl)
      · skip
        have ir6 : IV y1 1 20 := iv_vL ir3 (iv_c (by decide) : IV 20 20 20) (iv_nlt c4) (by decide)
        refine lv_iload_n hx hb dX10_folds_11 rfl (lv_at hl 2 rfl) ?_
        refine lv_if_lt (tgt := 20) hx hb dX10_folds_12 (by decide) (fun c7 => ?_) (fun c7 => ?_)
        · skip
          have ir8 : IV y2 (-2147483648) (-1) := iv_uL j2 (iv_c (by decide) : IV 0 0 0) (iv_lt c7) (by decide)
          exact J20 H locs ls  hH hS (lv_sub hl [] rfl)
        · skip
          have ir9 : IV y2 0 2147483647 := iv_vR (iv_c (by decide) : IV 0 0 0) j2 (iv_nlt c7) (by decide)
          refine lv_iload_n hx hb dX10_folds_15 rfl (lv_at hl 2 rfl) ?_
          refine lv_iconst (v := 1) hx hb dX10_folds_16 (by decide) ?_
          refine lv_icmp_le (tgt := 22) hx hb dX10_folds_17 (by decide) (fun c10 => ?_) (fun c10 => ?_)
          · skip
            have ir11 : IV y2 0 1 := iv_vL ir9 (iv_c (by decide) : IV 1 1 1) (iv_le c10) (by decide)
            refine lv_aload_n hx hb dX10_folds_22 rfl (lv_at hl 0 rfl) ?_
            refine th_get S hK hH inG10 t0 kd_0 rfl 5 (by decide) gm_510 rfl rfl dX10_folds_23 (fun v12 hv12 fv12 => ?_)
            obtain ⟨rf13, rfl, trf13⟩ := th_V.ref hv12
            refine lv_aload_n hx hb dX10_folds_26 rfl (lv_at hl 0 rfl) ?_
            refine th_get S hK hH inG10 t0 kd_0 rfl 4 (by decide) gm_509 rfl rfl dX10_folds_27 (fun v14 hv14 fv14 => ?_)
            obtain ⟨rf15, rfl, trf15⟩ := th_V.ref hv14
            refine th_callVr (n := 0) (As := []) S hK hH hS (th_A.sub (by decide)) (m_X3_now l D cT T q hq rf15 trf15) gm_828 gm_825 gm_826 gm_827 gm_120 (by decide +kernel) ⟨rfl, rfl, Nat.le_of_ble_eq_true rfl, Nat.le_of_ble_eq_true rfl⟩ trf15 kd_5 rfl rfl hl.1 rfl (Nat.le_of_ble_eq_true rfl) dX10_folds_30 ⟨Nat.zero_le _, Nat.zero_le _⟩ (fun rf16 H locs trf16 hH hS hF1 => ?_)
            refine lv_iload_n hx hb dX10_folds_33 rfl (lv_at hl 1 rfl) ?_
            refine th_callVi (n := 2) (As := [.ref rf16, .int y1]) S hK hH hS (th_A.sub (by decide)) (m_X1_mapsToFold l D cT T q hq rf13 trf13 rf16 trf16 (y1) ir6) gm_1084 gm_1081 gm_1082 gm_1083 gm_121 (by decide +kernel) ⟨rfl, rfl, Nat.le_of_ble_eq_true rfl, Nat.le_of_ble_eq_true rfl⟩ trf13 kd_6 rfl rfl hl.1 rfl (Nat.le_of_ble_eq_true rfl) dX10_folds_34 ⟨Nat.zero_le _, Nat.zero_le _⟩ (fun x17 H locs ix17 hH hS hF1 => ?_)
            refine lv_istore_n (lv' := [(3, .int x17), (0, .ref a0), (1, .int y1), (2, .int y2)]) hx hb dX10_folds_37 rfl hl (by decide) rfl (fun ls hl => ?_)
            refine lv_iload_n hx hb dX10_folds_38 rfl (lv_at hl 0 rfl) ?_
            refine lv_iconst (v := (-1)) hx hb dX10_folds_39 (by decide) ?_
            refine lv_icmp_eq (tgt := 48) hx hb dX10_folds_40 (by decide) (fun c18 => ?_) (fun c18 => ?_)
            · skip
              have ir19 : IV x17 (-1) (-1) := iv_eL c18 (iv_c (by decide) : IV (-1) (-1) (-1))
              exact J48 H locs ls x17 (iv_w ir19 (by decide)) hH hS (lv_sub hl [0] rfl)
            · skip
              have ir20 : IV x17 0 2147483646 := iv_cutL ix17 (iv_c (by decide) : IV (-1) (-1) (-1)) c18 (by decide)
              refine lv_iload_n hx hb dX10_folds_43 rfl (lv_at hl 3 rfl) ?_
              refine lv_iconst (v := 1) hx hb dX10_folds_44 (by decide) ?_
              refine lv_icmp_ne (tgt := 52) hx hb dX10_folds_45 (by decide) (fun c21 => ?_) (fun c21 => ?_)
              · skip
                have ir22 : IV y2 0 0 := iv_cutH ir11 (iv_c (by decide) : IV 1 1 1) c21 (by decide)
                refine lv_iload_n hx hb dX10_folds_52 rfl (lv_at hl 0 rfl) ?_
                refine th_callSi (n := 1) (As := [.int x17]) S hK hH hS (th_A.sub (by decide)) (m_J6_bitCount_0f7a4 l D cT T q hq (x17) (iv_top _)) gm_715 gm_938 gm_714 gm_132 (by decide +kernel) ⟨rfl, rfl, Nat.le_of_ble_eq_true rfl, Nat.le_of_ble_eq_true rfl⟩ rfl hl.1 rfl (Nat.le_of_ble_eq_true rfl) dX10_folds_53 ⟨Nat.zero_le _, Nat.zero_le _⟩ (fun x23 H locs ix23 hH hS hF1 => ?_)
                exact J56 H locs ls x23 (iv_w ix23 (by decide)) hH hS (lv_sub hl [] rfl)
              · skip
                have ir24 : IV y2 1 1 := ⟨(iv_eL c21 (iv_c (by decide) : IV 1 1 1)).1, ir11.2⟩
                exact J48 H locs ls x17 (iv_w ir20 (by decide)) hH hS (lv_sub hl [0] rfl)
          · skip
            have ir25 : IV y2 2 2147483647 := iv_uR (iv_c (by decide) : IV 1 1 1) ir9 (iv_nle c10) (by decide)
            exact J20 H locs ls  hH hS (lv_sub hl [] rfl)
  exact J0 s.heap [] ls hH va_S.rf hl

set_option maxRecDepth 100000 in
theorem m_X10_drawers (l : Launch) (D : va_G) (cT : Nat → ClassId) (T : Nat → Option Nat) (q : Nat → Int) (hq : qok q) (a0 : Nat) (t0 : T a0 = some 0) (y1 : Int32) (j1 : IV y1 (-2147483648) 2147483647) : th_Met l D cT T (kd q) yX10_drawers cX10_drawers 2 (some .int) (rmk 4 102) [.ref a0, .int y1] (th_R T (some (.inl (-2147483648, 2147483647)))) [7, 34, 38] := by
  refine th_start (by decide) (Nat.le_of_ble_eq_true rfl) ?_
  intro p e s m below meth c ls S hK hH hr hlocks hnm hl
  have hx := S.1
  have hb := S.2.1
  have hl : lv_has ls 2 [(0, .ref a0), (1, .int y1)] := hl
  have J22 : ∀ (H : Heap) (locs : List Loc) (ls : Array Slot) (w22_0 : Int32), IV w22_0 (-2147483648) 2147483647 → th_H D cT T (kd q) H → va_S (th_A T [7, 34, 38]) s.heap H locs → lv_has ls 2 [] → W p l e (rmk 4 102) s m [.ref a0, .int y1].toArray below meth c H locs 0 0 (MQ below (th_Q D cT T (kd q) (th_R T (some (.inl (-2147483648, 2147483647)))) [7, 34, 38]) [.ref a0, .int y1].toArray s 0 0 (th_A T [7, 34, 38])) (F0 m 22 ls [.int w22_0]) := by
    intro H locs ls w22_0 iw22_0 hH hS hl
    exact th_iret S hK hH hS hr hlocks (th_R.i iw22_0) dX10_drawers_22
  have J22_s0_m1 : ∀ (H : Heap) (locs : List Loc) (ls : Array Slot), th_H D cT T (kd q) H → va_S (th_A T [7, 34, 38]) s.heap H locs → lv_has ls 2 [] → W p l e (rmk 4 102) s m [.ref a0, .int y1].toArray below meth c H locs 0 0 (MQ below (th_Q D cT T (kd q) (th_R T (some (.inl (-2147483648, 2147483647)))) [7, 34, 38]) [.ref a0, .int y1].toArray s 0 0 (th_A T [7, 34, 38])) (F0 m 22 ls [.int (-1)]) := by
    intro H locs ls hH hS hl
    exact th_iret S hK hH hS hr hlocks (th_R.i (iv_top _)) dX10_drawers_22
  have J10 : ∀ (H : Heap) (locs : List Loc) (ls : Array Slot), th_H D cT T (kd q) H → va_S (th_A T [7, 34, 38]) s.heap H locs → lv_has ls 2 [] → W p l e (rmk 4 102) s m [.ref a0, .int y1].toArray below meth c H locs 0 0 (MQ below (th_Q D cT T (kd q) (th_R T (some (.inl (-2147483648, 2147483647)))) [7, 34, 38]) [.ref a0, .int y1].toArray s 0 0 (th_A T [7, 34, 38])) (F0 m 10 ls []) := by
    intro H locs ls hH hS hl
    refine lv_iconst (v := (-1)) hx hb dX10_drawers_10 (by decide) ?_
    refine lv_goto (tgt := 22) hx hb dX10_drawers_11 (by decide) ?_
    exact J22_s0_m1 H locs ls  hH hS (lv_sub hl [] rfl)
  have J0 : ∀ (H : Heap) (locs : List Loc) (ls : Array Slot), th_H D cT T (kd q) H → va_S (th_A T [7, 34, 38]) s.heap H locs → lv_has ls 2 [(0, .ref a0), (1, .int y1)] → W p l e (rmk 4 102) s m [.ref a0, .int y1].toArray below meth c H locs 0 0 (MQ below (th_Q D cT T (kd q) (th_R T (some (.inl (-2147483648, 2147483647)))) [7, 34, 38]) [.ref a0, .int y1].toArray s 0 0 (th_A T [7, 34, 38])) (F0 m 0 ls []) := by
    intro H locs ls hH hS hl
    refine lv_iload_n hx hb dX10_drawers_0 rfl (lv_at hl 1 rfl) ?_
    refine lv_iconst (v := 1) hx hb dX10_drawers_1 (by decide) ?_
    refine lv_icmp_lt (tgt := 10) hx hb dX10_drawers_2 (by decide) (fun c1 => ?_) (fun c1 => ?_)
    · skip
      have ir2 : IV y1 (-2147483648) 0 := iv_uL j1 (iv_c (by decide) : IV 1 1 1) (iv_lt c1) (by decide)
      exact J10 H locs ls  hH hS (lv_sub hl [] rfl)
    · skip
      have ir3 : IV y1 1 2147483647 := iv_vR (iv_c (by decide) : IV 1 1 1) j1 (iv_nlt c1) (by decide)
      refine lv_iload_n hx hb dX10_drawers_5 rfl (lv_at hl 1 rfl) ?_
      refine lv_iconst (v := 4) hx hb dX10_drawers_6 (by decide) ?_
      refine lv_icmp_le (tgt := 14) hx hb dX10_drawers_7 (by decide) (fun c4 => ?_) (fun c4 => ?_)
      · skip
        have ir5 : IV y1 1 4 := iv_vL ir3 (iv_c (by decide) : IV 4 4 4) (iv_le c4) (by decide)
        refine lv_aload_n hx hb dX10_drawers_14 rfl (lv_at hl 0 rfl) ?_
        refine th_get S hK hH inG10 t0 kd_0 rfl 6 (by decide) gm_511 rfl rfl dX10_drawers_15 (fun v6 hv6 fv6 => ?_)
        obtain ⟨rf7, rfl, trf7⟩ := th_V.ref hv6
        refine lv_iload_n hx hb dX10_drawers_18 rfl (lv_at hl 1 rfl) ?_
        refine th_callVi (n := 1) (As := [.int y1]) S hK hH hS (th_A.sub (by decide)) (m_X5_layDrawers l D cT T q hq rf7 trf7 (y1) ir5) gm_1093 gm_1090 gm_1091 gm_1092 gm_122 (by decide +kernel) ⟨rfl, rfl, Nat.le_of_ble_eq_true rfl, Nat.le_of_ble_eq_true rfl⟩ trf7 kd_7 rfl rfl hl.1 rfl (Nat.le_of_ble_eq_true rfl) dX10_drawers_19 ⟨Nat.zero_le _, Nat.zero_le _⟩ (fun x8 H locs ix8 hH hS hF1 => ?_)
        exact J22 H locs ls x8 ix8 hH hS (lv_sub hl [] rfl)
      · skip
        have ir9 : IV y1 5 2147483647 := iv_uR (iv_c (by decide) : IV 4 4 4) ir3 (iv_nle c4) (by decide)
        exact J10 H locs ls  hH hS (lv_sub hl [] rfl)
  exact J0 s.heap [] ls hH va_S.rf hl

set_option maxRecDepth 100000 in
theorem m_X10_least (l : Launch) (D : va_G) (cT : Nat → ClassId) (T : Nat → Option Nat) (q : Nat → Int) (hq : qok q) (a0 : Nat) (t0 : T a0 = some 0) : th_Met l D cT T (kd q) yX10_least cX10_least 2 (some .int) (rmk 3 75) [.ref a0] (th_R T (some (.inl (-1, 4)))) [38] := by
  refine th_start (by decide) (Nat.le_of_ble_eq_true rfl) ?_
  intro p e s m below meth c ls S hK hH hr hlocks hnm hl
  have hx := S.1
  have hb := S.2.1
  have hl : lv_has ls 2 [(0, .ref a0)] := hl
  have J14 : ∀ (n : Nat) (H : Heap) (locs : List Loc) (ls : Array Slot) (v14_1 : Int32), IV v14_1 1 5 → th_H D cT T (kd q) H → va_S (th_A T [38]) s.heap H locs → lv_has ls 2 [(0, .ref a0), (1, .int v14_1)] → (5 + 1 - v14_1.toInt).toNat < n → W p l e (rmk 3 75) s m [.ref a0].toArray below meth c H locs 0 0 (MQ below (th_Q D cT T (kd q) (th_R T (some (.inl (-1, 4)))) [38]) [.ref a0].toArray s 0 0 (th_A T [38])) (F0 m 14 ls []) := by
    intro n
    induction n with
    | zero => intro H locs ls v14_1 iv14_1 hH hS hl hn; exact absurd hn (Nat.not_lt_zero _)
    | succ n ih14 =>
      intro H locs ls v14_1 iv14_1 hH hS hl hn14
      refine lv_iload_n hx hb dX10_least_14 rfl (lv_at hl 1 rfl) ?_
      refine lv_iconst (v := 4) hx hb dX10_least_15 (by decide) ?_
      refine lv_icmp_gt (tgt := 38) hx hb dX10_least_16 (by decide) (fun c1 => ?_) (fun c1 => ?_)
      · skip
        have ir2 : IV v14_1 5 5 := iv_uR (iv_c (by decide) : IV 4 4 4) iv14_1 (iv_lt c1) (by decide)
        refine lv_iconst (v := (-1)) hx hb dX10_least_38 (by decide) ?_
        exact th_iret S hK hH hS hr hlocks (th_R.i (iv_w (iv_c (by decide) : IV (-1) (-1) (-1)) (by decide))) dX10_least_39
      · skip
        have ir3 : IV v14_1 1 4 := iv_vL iv14_1 (iv_c (by decide) : IV 4 4 4) (iv_nlt c1) (by decide)
        refine lv_aload_n hx hb dX10_least_19 rfl (lv_at hl 0 rfl) ?_
        refine th_get S hK hH inG10 t0 kd_0 rfl 6 (by decide) gm_511 rfl rfl dX10_least_20 (fun v4 hv4 fv4 => ?_)
        obtain ⟨rf5, rfl, trf5⟩ := th_V.ref hv4
        refine lv_iload_n hx hb dX10_least_23 rfl (lv_at hl 1 rfl) ?_
        refine th_callVi (n := 1) (As := [.int v14_1]) S hK hH hS (th_A.sub (by decide)) (m_X5_waysInto l D cT T q hq rf5 trf5 (v14_1) ir3) gm_1097 gm_1110 gm_1095 gm_1096 gm_122 (by decide +kernel) ⟨rfl, rfl, Nat.le_of_ble_eq_true rfl, Nat.le_of_ble_eq_true rfl⟩ trf5 kd_7 rfl rfl hl.1 rfl (Nat.le_of_ble_eq_true rfl) dX10_least_24 ⟨Nat.zero_le _, Nat.zero_le _⟩ (fun x6 H locs ix6 hH hS hF1 => ?_)
        refine lv_if_le (tgt := 32) hx hb dX10_least_27 (by decide) (fun c7 => ?_) (fun c7 => ?_)
        · skip
          have ir8 : IV x6 (-2147483648) 0 := iv_vL ix6 (iv_c (by decide) : IV 0 0 0) (iv_le c7) (by decide)
          refine th_iinc S dX10_least_32 hl (k := 1) rfl (by decide) ir3 (by decide) (fun x9 ls ex9 ix9 hl => ?_)
          have hl : lv_has ls 2 [(1, .int x9), (0, .ref a0)] := hl
          have ix9 : IV x9 2 5 := ix9
          refine lv_goto (tgt := 14) hx hb dX10_least_35 (by decide) ?_
          exact ih14 H locs ls x9 (iv_w ix9 (by decide)) hH hS (lv_sub hl [1, 0] rfl) (th_up iv14_1 ex9 (by decide) hn14)
        · skip
          have ir10 : IV x6 1 2147483647 := iv_uR (iv_c (by decide) : IV 0 0 0) ix6 (iv_nle c7) (by decide)
          refine lv_iload_n hx hb dX10_least_30 rfl (lv_at hl 1 rfl) ?_
          exact th_iret S hK hH hS hr hlocks (th_R.i (iv_w ir3 (by decide))) dX10_least_31
  have J0 : ∀ (H : Heap) (locs : List Loc) (ls : Array Slot), th_H D cT T (kd q) H → va_S (th_A T [38]) s.heap H locs → lv_has ls 2 [(0, .ref a0)] → W p l e (rmk 3 75) s m [.ref a0].toArray below meth c H locs 0 0 (MQ below (th_Q D cT T (kd q) (th_R T (some (.inl (-1, 4)))) [38]) [.ref a0].toArray s 0 0 (th_A T [38])) (F0 m 0 ls []) := by
    intro H locs ls hH hS hl
    refine lv_aload_n hx hb dX10_least_0 rfl (lv_at hl 0 rfl) ?_
    refine th_get S hK hH inG10 t0 kd_0 rfl 2 (by decide) gm_507 rfl rfl dX10_least_1 (fun v11 hv11 fv11 => ?_)
    obtain ⟨rf12, rfl, trf12⟩ := th_V.ref hv11
    refine th_get S hK hH inG4 trf12 kd_3 rfl 12 (by decide) gm_282 rfl rfl dX10_least_4 (fun v13 hv13 fv13 => ?_)
    obtain ⟨x14, rfl, ix14⟩ := th_V.int hv13
    refine lv_if_ne (tgt := 12) hx hb dX10_least_7 (by decide) (fun c15 => ?_) (fun c15 => ?_)
    · skip
      have ir16 : IV x14 1 4 := iv_cutL ix14 (iv_c (by decide) : IV 0 0 0) c15 (by decide)
      refine lv_iconst (v := 1) hx hb dX10_least_12 (by decide) ?_
      refine lv_istore_n (lv' := [(1, .int 1), (0, .ref a0)]) hx hb dX10_least_13 rfl hl (by decide) rfl (fun ls hl => ?_)
      exact J14 ((5 + 1 - Int32.toInt 1).toNat + 1) H locs ls 1 (iv_w (iv_c (by decide) : IV 1 1 1) (by decide)) hH hS (lv_sub hl [1, 0] rfl) (Nat.lt_succ_self _)
    · skip
      have ir17 : IV x14 0 0 := iv_eL c15 (iv_c (by decide) : IV 0 0 0)
      refine lv_iconst (v := 0) hx hb dX10_least_10 (by decide) ?_
      exact th_iret S hK hH hS hr hlocks (th_R.i (iv_w (iv_c (by decide) : IV 0 0 0) (by decide))) dX10_least_11
  exact J0 s.heap [] ls hH va_S.rf hl

set_option maxRecDepth 100000 in
theorem m_X10_bites (l : Launch) (D : va_G) (cT : Nat → ClassId) (T : Nat → Option Nat) (q : Nat → Int) (hq : qok q) (a0 : Nat) (t0 : T a0 = some 0) : th_Met l D cT T (kd q) yX10_bites cX10_bites 3 (some .int) (rmk 1 26) [.ref a0] (th_R T (some (.inl (-2147483648, 2147483647)))) [] := by
  refine th_start (by decide) (Nat.le_of_ble_eq_true rfl) ?_
  intro p e s m below meth c ls S hK hH hr hlocks hnm hl
  have hx := S.1
  have hb := S.2.1
  have hl : lv_has ls 3 [(0, .ref a0)] := hl
  have J4 : ∀ (n : Nat) (H : Heap) (locs : List Loc) (ls : Array Slot) (v4_1 : Int32) (v4_2 : Int32), IV v4_1 (-2147483648) 2147483647 → IV v4_2 0 4 → th_H D cT T (kd q) H → va_S (th_A T []) s.heap H locs → lv_has ls 3 [(0, .ref a0), (1, .int v4_1), (2, .int v4_2)] → (4 + 1 - v4_2.toInt).toNat < n → W p l e (rmk 1 26) s m [.ref a0].toArray below meth c H locs 0 0 (MQ below (th_Q D cT T (kd q) (th_R T (some (.inl (-2147483648, 2147483647)))) []) [.ref a0].toArray s 0 0 (th_A T [])) (F0 m 4 ls []) := by
    intro n
    induction n with
    | zero => intro H locs ls v4_1 v4_2 iv4_1 iv4_2 hH hS hl hn; exact absurd hn (Nat.not_lt_zero _)
    | succ n ih4 =>
      intro H locs ls v4_1 v4_2 iv4_1 iv4_2 hH hS hl hn4
      refine lv_iload_n hx hb dX10_bites_4 rfl (lv_at hl 2 rfl) ?_
      refine lv_aload_n hx hb dX10_bites_5 rfl (lv_at hl 0 rfl) ?_
      refine th_get S hK hH inG10 t0 kd_0 rfl 2 (by decide) gm_507 rfl rfl dX10_bites_6 (fun v1 hv1 fv1 => ?_)
      obtain ⟨rf2, rfl, trf2⟩ := th_V.ref hv1
      refine th_get S hK hH inG4 trf2 kd_3 rfl 12 (by decide) gm_282 rfl rfl dX10_bites_9 (fun v3 hv3 fv3 => ?_)
      obtain ⟨x4, rfl, ix4⟩ := th_V.int hv3
      refine lv_icmp_ge (tgt := 39) hx hb dX10_bites_12 (by decide) (fun c5 => ?_) (fun c5 => ?_)
      · skip
        refine lv_iload_n hx hb dX10_bites_39 rfl (lv_at hl 1 rfl) ?_
        refine lv_iconst (v := 2) hx hb dX10_bites_40 (by decide) ?_
        refine lv_idiv hx hb dX10_bites_41 (iv_n0 (iv_c (by decide) : IV 2 2 2) (by decide)) ?_
        refine lv_topi (fun x6 ex6 => ?_)
        have ix6 := iv_top x6
        exact th_iret S hK hH hS hr hlocks (th_R.i ix6) dX10_bites_42
      · skip
        have ir7 : IV v4_2 0 3 := iv_uL iv4_2 ix4 (iv_nle c5) (by decide)
        have ir8 : IV x4 1 4 := iv_uR iv4_2 ix4 (iv_nle c5) (by decide)
        refine lv_iload_n hx hb dX10_bites_15 rfl (lv_at hl 1 rfl) ?_
        refine lv_aload_n hx hb dX10_bites_16 rfl (lv_at hl 0 rfl) ?_
        refine th_get S hK hH inG10 t0 kd_0 rfl 3 (by decide) gm_508 rfl rfl dX10_bites_17 (fun v9 hv9 fv9 => ?_)
        obtain ⟨rf10, rfl, trf10⟩ := th_V.ref hv9
        refine lv_aload_n hx hb dX10_bites_20 rfl (lv_at hl 0 rfl) ?_
        refine th_get S hK hH inG10 t0 kd_0 rfl 4 (by decide) gm_509 rfl rfl dX10_bites_21 (fun v11 hv11 fv11 => ?_)
        obtain ⟨rf12, rfl, trf12⟩ := th_V.ref hv11
        refine th_callVr (n := 0) (As := []) S hK hH hS (th_A.sub (by decide)) (m_X3_now l D cT T q hq rf12 trf12) gm_828 gm_825 gm_826 gm_827 gm_120 (by decide +kernel) ⟨rfl, rfl, Nat.le_of_ble_eq_true rfl, Nat.le_of_ble_eq_true rfl⟩ trf12 kd_5 rfl rfl hl.1 rfl (Nat.le_of_ble_eq_true rfl) dX10_bites_24 ⟨Nat.zero_le _, Nat.zero_le _⟩ (fun rf13 H locs trf13 hH hS hF1 => ?_)
        refine lv_iload_n hx hb dX10_bites_27 rfl (lv_at hl 2 rfl) ?_
        refine th_callVi (n := 2) (As := [.ref rf13, .int v4_2]) S hK hH hS (th_A.sub (by decide)) (m_X0_bitingBorders l D cT T q hq rf10 trf10 rf13 trf13 (v4_2) ir7) gm_854 gm_1115 gm_852 gm_853 gm_119 (by decide +kernel) ⟨rfl, rfl, Nat.le_of_ble_eq_true rfl, Nat.le_of_ble_eq_true rfl⟩ trf10 kd_4 rfl rfl hl.1 rfl (Nat.le_of_ble_eq_true rfl) dX10_bites_28 ⟨Nat.zero_le _, Nat.zero_le _⟩ (fun x14 H locs ix14 hH hS hF1 => ?_)
        refine lv_iadd hx hb dX10_bites_31 ?_
        refine lv_topi (fun x15 ex15 => ?_)
        have ix15 := iv_top x15
        refine lv_istore_n (lv' := [(1, .int x15), (0, .ref a0), (2, .int v4_2)]) hx hb dX10_bites_32 rfl hl (by decide) rfl (fun ls hl => ?_)
        refine th_iinc S dX10_bites_33 hl (k := 2) rfl (by decide) ir7 (by decide) (fun x16 ls ex16 ix16 hl => ?_)
        have hl : lv_has ls 3 [(2, .int x16), (1, .int x15), (0, .ref a0)] := hl
        have ix16 : IV x16 1 4 := ix16
        refine lv_goto (tgt := 4) hx hb dX10_bites_36 (by decide) ?_
        exact ih4 H locs ls x15 x16 ix15 (iv_w ix16 (by decide)) hH hS (lv_sub hl [2, 1, 0] rfl) (th_up iv4_2 ex16 (by decide) hn4)
  have J0 : ∀ (H : Heap) (locs : List Loc) (ls : Array Slot), th_H D cT T (kd q) H → va_S (th_A T []) s.heap H locs → lv_has ls 3 [(0, .ref a0)] → W p l e (rmk 1 26) s m [.ref a0].toArray below meth c H locs 0 0 (MQ below (th_Q D cT T (kd q) (th_R T (some (.inl (-2147483648, 2147483647)))) []) [.ref a0].toArray s 0 0 (th_A T [])) (F0 m 0 ls []) := by
    intro H locs ls hH hS hl
    refine lv_iconst (v := 0) hx hb dX10_bites_0 (by decide) ?_
    refine lv_istore_n (lv' := [(1, .int 0), (0, .ref a0)]) hx hb dX10_bites_1 rfl hl (by decide) rfl (fun ls hl => ?_)
    refine lv_iconst (v := 0) hx hb dX10_bites_2 (by decide) ?_
    refine lv_istore_n (lv' := [(2, .int 0), (1, .int 0), (0, .ref a0)]) hx hb dX10_bites_3 rfl hl (by decide) rfl (fun ls hl => ?_)
    exact J4 ((4 + 1 - Int32.toInt 0).toNat + 1) H locs ls 0 0 (iv_top _) (iv_w (iv_c (by decide) : IV 0 0 0) (by decide)) hH hS (lv_sub hl [2, 1, 0] rfl) (Nat.lt_succ_self _)
  exact J0 s.heap [] ls hH va_S.rf hl

set_option maxRecDepth 100000 in
theorem m_X10_odds (l : Launch) (D : va_G) (cT : Nat → ClassId) (T : Nat → Option Nat) (q : Nat → Int) (hq : qok q) (a0 : Nat) (t0 : T a0 = some 0) (y1 : Int32) (j1 : IV y1 (-2147483648) 2147483647) (y2 : Int32) (j2 : IV y2 (-2147483648) 2147483647) (y3 : Int32) (j3 : IV y3 (-2147483648) 2147483647) : th_Met l D cT T (kd q) yX10_odds cX10_odds 7 (some .int) (rmk 13 324) [.ref a0, .int y1, .int y2, .int y3] (th_R T (some (.inl (-2147483648, 2147483647)))) [18, 19, 29] := by
  refine th_start (by decide) (Nat.le_of_ble_eq_true rfl) ?_
  intro p e s m below meth c ls S hK hH hr hlocks hnm hl
  have hx := S.1
  have hb := S.2.1
  have hl : lv_has ls 7 [(0, .ref a0), (1, .int y1), (2, .int y2), (3, .int y3)] := hl
  have J110 : ∀ (H : Heap) (locs : List Loc) (ls : Array Slot) (w110_0 : Int32), IV w110_0 (-2147483648) 2147483647 → th_H D cT T (kd q) H → va_S (th_A T [18, 19, 29]) s.heap H locs → lv_has ls 7 [] → W p l e (rmk 13 324) s m [.ref a0, .int y1, .int y2, .int y3].toArray below meth c H locs 0 0 (MQ below (th_Q D cT T (kd q) (th_R T (some (.inl (-2147483648, 2147483647)))) [18, 19, 29]) [.ref a0, .int y1, .int y2, .int y3].toArray s 0 0 (th_A T [18, 19, 29])) (F0 m 110 ls [.int w110_0]) := by
    intro H locs ls w110_0 iw110_0 hH hS hl
    exact th_iret S hK hH hS hr hlocks (th_R.i iw110_0) dX10_odds_110
  have J99 : ∀ (H : Heap) (locs : List Loc) (ls : Array Slot) (v99_4 : Int32) (v99_5 : Int32), IV v99_4 0 64 → IV v99_5 (-2147483648) 2147483647 → IV y3 0 1 → th_H D cT T (kd q) H → va_S (th_A T [18, 19, 29]) s.heap H locs → lv_has ls 7 [(3, .int y3), (4, .int v99_4), (5, .int v99_5)] → W p l e (rmk 13 324) s m [.ref a0, .int y1, .int y2, .int y3].toArray below meth c H locs 0 0 (MQ below (th_Q D cT T (kd q) (th_R T (some (.inl (-2147483648, 2147483647)))) [18, 19, 29]) [.ref a0, .int y1, .int y2, .int y3].toArray s 0 0 (th_A T [18, 19, 29])) (F0 m 99 ls []) := by
    intro H locs ls v99_4 v99_5 iv99_4 iv99_5 f99_y3 hH hS hl
    refine lv_iload_n hx hb dX10_odds_99 rfl (lv_at hl 0 rfl) ?_
    refine lv_if_ne (tgt := 108) hx hb dX10_odds_100 (by decide) (fun c1 => ?_) (fun c1 => ?_)
    · skip
      have ir2 : IV y3 1 1 := iv_cutL f99_y3 (iv_c (by decide) : IV 0 0 0) c1 (by decide)
      refine lv_iload hx hb dX10_odds_108 (lv_at hl 2 rfl) ?_
      exact J110 H locs ls v99_5 iv99_5 hH hS (lv_sub hl [] rfl)
    · skip
      have ir3 : IV y3 0 0 := iv_eL c1 (iv_c (by decide) : IV 0 0 0)
      refine lv_iload hx hb dX10_odds_103 (lv_at hl 1 rfl) ?_
      refine lv_goto (tgt := 110) hx hb dX10_odds_105 (by decide) ?_
      exact J110 H locs ls v99_4 (iv_top _) hH hS (lv_sub hl [] rfl)
  have J61 : ∀ (n : Nat) (H : Heap) (locs : List Loc) (ls : Array Slot) (v61_4 : Int32) (v61_5 : Int32) (v61_6 : Int32), IV v61_4 0 64 → IV v61_5 (-2147483648) 2147483647 → IV v61_6 0 7 → IV y3 0 1 → th_H D cT T (kd q) H → va_S (th_A T [18, 19, 29]) s.heap H locs → lv_has ls 7 [(3, .int y3), (4, .int v61_4), (5, .int v61_5), (6, .int v61_6)] → (7 + 1 - v61_6.toInt).toNat < n → W p l e (rmk 13 324) s m [.ref a0, .int y1, .int y2, .int y3].toArray below meth c H locs 0 0 (MQ below (th_Q D cT T (kd q) (th_R T (some (.inl (-2147483648, 2147483647)))) [18, 19, 29]) [.ref a0, .int y1, .int y2, .int y3].toArray s 0 0 (th_A T [18, 19, 29])) (F0 m 61 ls []) := by
    intro n
    induction n with
    | zero => intro H locs ls v61_4 v61_5 v61_6 iv61_4 iv61_5 iv61_6 f61_y3 hH hS hl hn; exact absurd hn (Nat.not_lt_zero _)
    | succ n ih61 =>
      intro H locs ls v61_4 v61_5 v61_6 iv61_4 iv61_5 iv61_6 f61_y3 hH hS hl hn61
      refine lv_iload hx hb dX10_odds_61 (lv_at hl 3 rfl) ?_
      refine lv_bipush (v := 7) hx hb dX10_odds_63 (by decide) ?_
      refine lv_icmp_ge (tgt := 99) hx hb dX10_odds_65 (by decide) (fun c4 => ?_) (fun c4 => ?_)
      · skip
        have ir5 : IV v61_6 7 7 := iv_vR (iv_c (by decide) : IV 7 7 7) iv61_6 (iv_le c4) (by decide)
        exact J99 H locs ls v61_4 v61_5 iv61_4 iv61_5 f61_y3 hH hS (lv_sub hl [0, 1, 2] rfl)
      · skip
        have ir6 : IV v61_6 0 6 := iv_uL iv61_6 (iv_c (by decide) : IV 7 7 7) (iv_nle c4) (by decide)
        refine lv_iload hx hb dX10_odds_68 (lv_at hl 2 rfl) ?_
        refine lv_iconst (v := 1) hx hb dX10_odds_70 (by decide) ?_
        refine lv_icmp_le (tgt := 99) hx hb dX10_odds_71 (by decide) (fun c7 => ?_) (fun c7 => ?_)
        · skip
          have ir8 : IV v61_5 (-2147483648) 1 := iv_vL iv61_5 (iv_c (by decide) : IV 1 1 1) (iv_le c7) (by decide)
          exact J99 H locs ls v61_4 v61_5 iv61_4 (iv_top _) f61_y3 hH hS (lv_sub hl [0, 1, 2] rfl)
        · skip
          have ir9 : IV v61_5 2 2147483647 := iv_uR (iv_c (by decide) : IV 1 1 1) iv61_5 (iv_nle c7) (by decide)
          refine lv_iload hx hb dX10_odds_74 (lv_at hl 1 rfl) ?_
          refine lv_iconst (v := 2) hx hb dX10_odds_76 (by decide) ?_
          refine lv_irem hx hb dX10_odds_77 (iv_n0 (iv_c (by decide) : IV 2 2 2) (by decide)) ?_
          refine lv_topi (fun x10 ex10 => ?_)
          have ix10 : IV x10 0 1 := by rw [ex10]; exact iv_rm (h1 := 64) iv61_4 (iv_c (by decide) : IV 2 2 2) (by decide)
          refine lv_if_ne (tgt := 99) hx hb dX10_odds_78 (by decide) (fun c11 => ?_) (fun c11 => ?_)
          · skip
            have ir12 : IV x10 1 1 := iv_cutL ix10 (iv_c (by decide) : IV 0 0 0) c11 (by decide)
            exact J99 H locs ls v61_4 v61_5 iv61_4 (iv_top _) f61_y3 hH hS (lv_sub hl [0, 1, 2] rfl)
          · skip
            have ir13 : IV x10 0 0 := iv_eL c11 (iv_c (by decide) : IV 0 0 0)
            refine lv_iload hx hb dX10_odds_81 (lv_at hl 1 rfl) ?_
            refine lv_iconst (v := 2) hx hb dX10_odds_83 (by decide) ?_
            refine lv_idiv hx hb dX10_odds_84 (iv_n0 (iv_c (by decide) : IV 2 2 2) (by decide)) ?_
            refine lv_topi (fun x14 ex14 => ?_)
            have ix14 : IV x14 0 64 := by rw [ex14]; exact iv_div (h1 := 64) iv61_4 (iv_c (by decide) : IV 2 2 2) (by decide)
            refine lv_istore (lv' := [(4, .int x14), (3, .int y3), (5, .int v61_5), (6, .int v61_6)]) hx hb dX10_odds_85 hl (by decide) rfl (fun ls hl => ?_)
            refine lv_iload hx hb dX10_odds_87 (lv_at hl 2 rfl) ?_
            refine lv_iconst (v := 2) hx hb dX10_odds_89 (by decide) ?_
            refine lv_idiv hx hb dX10_odds_90 (iv_n0 (iv_c (by decide) : IV 2 2 2) (by decide)) ?_
            refine lv_topi (fun x15 ex15 => ?_)
            have ix15 : IV x15 0 2147483647 := by rw [ex15]; exact iv_div (h1 := 2147483647) (iv_w ir9 (by decide)) (iv_c (by decide) : IV 2 2 2) (by decide)
            refine lv_istore (lv' := [(5, .int x15), (4, .int x14), (3, .int y3), (6, .int v61_6)]) hx hb dX10_odds_91 hl (by decide) rfl (fun ls hl => ?_)
            refine th_iinc S dX10_odds_93 hl (k := 3) rfl (by decide) ir6 (by decide) (fun x16 ls ex16 ix16 hl => ?_)
            have hl : lv_has ls 7 [(6, .int x16), (5, .int x15), (4, .int x14), (3, .int y3)] := hl
            have ix16 : IV x16 1 7 := ix16
            refine lv_goto (tgt := 61) hx hb dX10_odds_96 (by decide) ?_
            exact ih61 H locs ls x14 x15 x16 ix14 (iv_top _) (iv_w ix16 (by decide)) f61_y3 hH hS (lv_sub hl [3, 2, 1, 0] rfl) (th_up iv61_6 ex16 (by decide) hn61)
  have J27 : ∀ (H : Heap) (locs : List Loc) (ls : Array Slot), th_H D cT T (kd q) H → va_S (th_A T [18, 19, 29]) s.heap H locs → lv_has ls 7 [] → W p l e (rmk 13 324) s m [.ref a0, .int y1, .int y2, .int y3].toArray below meth c H locs 0 0 (MQ below (th_Q D cT T (kd q) (th_R T (some (.inl (-2147483648, 2147483647)))) [18, 19, 29]) [.ref a0, .int y1, .int y2, .int y3].toArray s 0 0 (th_A T [18, 19, 29])) (F0 m 27 ls []) := by
    intro H locs ls hH hS hl
    refine lv_iconst (v := (-1)) hx hb dX10_odds_27 (by decide) ?_
    exact th_iret S hK hH hS hr hlocks (th_R.i (iv_top _)) dX10_odds_28
  have J0 : ∀ (H : Heap) (locs : List Loc) (ls : Array Slot), th_H D cT T (kd q) H → va_S (th_A T [18, 19, 29]) s.heap H locs → lv_has ls 7 [(0, .ref a0), (1, .int y1), (2, .int y2), (3, .int y3)] → W p l e (rmk 13 324) s m [.ref a0, .int y1, .int y2, .int y3].toArray below meth c H locs 0 0 (MQ below (th_Q D cT T (kd q) (th_R T (some (.inl (-2147483648, 2147483647)))) [18, 19, 29]) [.ref a0, .int y1, .int y2, .int y3].toArray s 0 0 (th_A T [18, 19, 29])) (F0 m 0 ls []) := by
    intro H locs ls hH hS hl
    refine lv_aload_n hx hb dX10_odds_0 rfl (lv_at hl 0 rfl) ?_
    refine lv_iload_n hx hb dX10_odds_1 rfl (lv_at hl 1 rfl) ?_
    refine th_callVg (n := 1) (As := [.int y1]) S hK hH hS (th_A.sub (by decide)) (m_X10_isPlace l D cT T q hq a0 t0 (y1) j1) gm_866 gm_863 gm_865 gm_26 gm_113 (by decide +kernel) ⟨rfl, rfl, Nat.le_of_ble_eq_true rfl, Nat.le_of_ble_eq_true rfl⟩ t0 kd_0 rfl rfl hl.1 rfl (Nat.le_of_ble_eq_true rfl) dX10_odds_2 ⟨Nat.zero_le _, Nat.zero_le _⟩ (fun x17 H locs ix17 ox17 hH hS hF1 => ?_)
    refine lv_if_eq (tgt := 27) hx hb dX10_odds_5 (by decide) (fun c18 => ?_) (fun c18 => ?_)
    · skip
      have ir19 : IV x17 0 0 := iv_eL c18 (iv_c (by decide) : IV 0 0 0)
      exact J27 H locs ls  hH hS (lv_sub hl [] rfl)
    · skip
      have ir20 : IV x17 1 1 := iv_cutL ix17 (iv_c (by decide) : IV 0 0 0) c18 (by decide)
      have ir21 : IV y1 0 7 := ox17 c18
      refine lv_iload_n hx hb dX10_odds_8 rfl (lv_at hl 2 rfl) ?_
      refine lv_if_lt (tgt := 27) hx hb dX10_odds_9 (by decide) (fun c22 => ?_) (fun c22 => ?_)
      · skip
        have ir23 : IV y2 (-2147483648) (-1) := iv_uL j2 (iv_c (by decide) : IV 0 0 0) (iv_lt c22) (by decide)
        exact J27 H locs ls  hH hS (lv_sub hl [] rfl)
      · skip
        have ir24 : IV y2 0 2147483647 := iv_vR (iv_c (by decide) : IV 0 0 0) j2 (iv_nlt c22) (by decide)
        refine lv_iload_n hx hb dX10_odds_12 rfl (lv_at hl 2 rfl) ?_
        refine lv_bipush (v := 7) hx hb dX10_odds_13 (by decide) ?_
        refine lv_icmp_gt (tgt := 27) hx hb dX10_odds_15 (by decide) (fun c25 => ?_) (fun c25 => ?_)
        · skip
          have ir26 : IV y2 8 2147483647 := iv_uR (iv_c (by decide) : IV 7 7 7) ir24 (iv_lt c25) (by decide)
          exact J27 H locs ls  hH hS (lv_sub hl [] rfl)
        · skip
          have ir27 : IV y2 0 7 := iv_vL ir24 (iv_c (by decide) : IV 7 7 7) (iv_nlt c25) (by decide)
          refine lv_iload_n hx hb dX10_odds_18 rfl (lv_at hl 3 rfl) ?_
          refine lv_if_lt (tgt := 27) hx hb dX10_odds_19 (by decide) (fun c28 => ?_) (fun c28 => ?_)
          · skip
            have ir29 : IV y3 (-2147483648) (-1) := iv_uL j3 (iv_c (by decide) : IV 0 0 0) (iv_lt c28) (by decide)
            exact J27 H locs ls  hH hS (lv_sub hl [] rfl)
          · skip
            have ir30 : IV y3 0 2147483647 := iv_vR (iv_c (by decide) : IV 0 0 0) j3 (iv_nlt c28) (by decide)
            refine lv_iload_n hx hb dX10_odds_22 rfl (lv_at hl 3 rfl) ?_
            refine lv_iconst (v := 1) hx hb dX10_odds_23 (by decide) ?_
            refine lv_icmp_le (tgt := 29) hx hb dX10_odds_24 (by decide) (fun c31 => ?_) (fun c31 => ?_)
            · skip
              have ir32 : IV y3 0 1 := iv_vL ir30 (iv_c (by decide) : IV 1 1 1) (iv_le c31) (by decide)
              refine lv_aload_n hx hb dX10_odds_29 rfl (lv_at hl 0 rfl) ?_
              refine th_get S hK hH inG10 t0 kd_0 rfl 5 (by decide) gm_510 rfl rfl dX10_odds_30 (fun v33 hv33 fv33 => ?_)
              obtain ⟨rf34, rfl, trf34⟩ := th_V.ref hv33
              refine lv_aload_n hx hb dX10_odds_33 rfl (lv_at hl 0 rfl) ?_
              refine th_get S hK hH inG10 t0 kd_0 rfl 4 (by decide) gm_509 rfl rfl dX10_odds_34 (fun v35 hv35 fv35 => ?_)
              obtain ⟨rf36, rfl, trf36⟩ := th_V.ref hv35
              refine th_callVr (n := 0) (As := []) S hK hH hS (th_A.sub (by decide)) (m_X3_now l D cT T q hq rf36 trf36) gm_828 gm_825 gm_826 gm_827 gm_120 (by decide +kernel) ⟨rfl, rfl, Nat.le_of_ble_eq_true rfl, Nat.le_of_ble_eq_true rfl⟩ trf36 kd_5 rfl rfl hl.1 rfl (Nat.le_of_ble_eq_true rfl) dX10_odds_37 ⟨Nat.zero_le _, Nat.zero_le _⟩ (fun rf37 H locs trf37 hH hS hF1 => ?_)
              refine lv_iload_n hx hb dX10_odds_40 rfl (lv_at hl 1 rfl) ?_
              refine lv_iload_n hx hb dX10_odds_41 rfl (lv_at hl 2 rfl) ?_
              refine th_callVi (n := 3) (As := [.ref rf37, .int y1, .int y2]) S hK hH hS (th_A.sub (by decide)) (m_X1_standing l D cT T q hq rf34 trf34 rf37 trf37 (y1) ir21 (y2) ir27) gm_1123 gm_1120 gm_1121 gm_1122 gm_121 (by decide +kernel) ⟨rfl, rfl, Nat.le_of_ble_eq_true rfl, Nat.le_of_ble_eq_true rfl⟩ trf34 kd_6 rfl rfl hl.1 rfl (Nat.le_of_ble_eq_true rfl) dX10_odds_42 ⟨Nat.zero_le _, Nat.zero_le _⟩ (fun x38 H locs ix38 hH hS hF1 => ?_)
              refine lv_istore (lv' := [(4, .int x38), (0, .ref a0), (1, .int y1), (2, .int y2), (3, .int y3)]) hx hb dX10_odds_45 hl (by decide) rfl (fun ls hl => ?_)
              refine lv_iconst (v := 1) hx hb dX10_odds_47 (by decide) ?_
              refine lv_iconst (v := 0) hx hb dX10_odds_48 (by decide) ?_
              refine lv_iload_n hx hb dX10_odds_49 rfl (lv_at hl 3 rfl) ?_
              refine lv_iconst (v := 1) hx hb dX10_odds_50 (by decide) ?_
              refine lv_isub hx hb dX10_odds_51 ?_
              refine lv_topi (fun x39 ex39 => ?_)
              have ix39 : IV x39 (-1) 6 := by rw [ex39]; exact iv_sub ir27 (iv_c (by decide) : IV 1 1 1) (by decide)
              refine va_mmax hx hb (S.2.2.1.trans hl.1.symm) S.2.2.2.1 (S.2.2.2.2 _ gm_967) (S.2.2.2.2 _ gm_625) (S.2.2.2.2 _ gm_129) (S.2.2.2.2 _ gm_626) (Nat.le_of_ble_eq_true rfl) (Nat.le_of_ble_eq_true rfl) (Nat.zero_le _) (Nat.zero_le _) dX10_odds_52 ?_
              refine lv_topi (fun x40 ex40 => ?_)
              have ix40 : IV x40 0 6 := by rw [ex40]; exact iv_max (iv_c (by decide) : IV 0 0 0) ix39 (by decide)
              refine lv_ishl hx hb dX10_odds_55 ?_
              refine lv_topi (fun x41 ex41 => ?_)
              have ix41 := iv_top x41
              refine lv_istore (lv' := [(5, .int x41), (4, .int x38), (0, .ref a0), (1, .int y1), (2, .int y2), (3, .int y3)]) hx hb dX10_odds_56 hl (by decide) rfl (fun ls hl => ?_)
              refine lv_iconst (v := 0) hx hb dX10_odds_58 (by decide) ?_
              refine lv_istore (lv' := [(6, .int 0), (5, .int x41), (4, .int x38), (0, .ref a0), (1, .int y1), (2, .int y2), (3, .int y3)]) hx hb dX10_odds_59 hl (by decide) rfl (fun ls hl => ?_)
              exact J61 ((7 + 1 - Int32.toInt 0).toNat + 1) H locs ls x38 x41 0 ix38 ix41 (iv_w (iv_c (by decide) : IV 0 0 0) (by decide)) ir32 hH hS (lv_sub hl [6, 2, 1, 0] rfl) (Nat.lt_succ_self _)
            · skip
              have ir42 : IV y3 2 2147483647 := iv_uR (iv_c (by decide) : IV 1 1 1) ir30 (iv_nle c31) (by decide)
              exact J27 H locs ls  hH hS (lv_sub hl [] rfl)
  exact J0 s.heap [] ls hH va_S.rf hl

set_option maxRecDepth 100000 in
theorem m_X10_lies (l : Launch) (D : va_G) (cT : Nat → ClassId) (T : Nat → Option Nat) (q : Nat → Int) (hq : qok q) (a0 : Nat) (t0 : T a0 = some 0) (y1 : Int32) (j1 : IV y1 (-2147483648) 2147483647) : th_Met l D cT T (kd q) yX10_lies cX10_lies 2 (some .int) (rmk 0 0) [.ref a0, .int y1] (th_R T (some (.inl (-2147483648, 2147483647)))) [] := by
  refine th_start (by decide) (Nat.le_of_ble_eq_true rfl) ?_
  intro p e s m below meth c ls S hK hH hr hlocks hnm hl
  have hx := S.1
  have hb := S.2.1
  have hl : lv_has ls 2 [(0, .ref a0), (1, .int y1)] := hl
  have J33 : ∀ (H : Heap) (locs : List Loc) (ls : Array Slot) (w33_0 : Int32), IV w33_0 (-2147483648) 2147483647 → th_H D cT T (kd q) H → va_S (th_A T []) s.heap H locs → lv_has ls 2 [] → W p l e (rmk 0 0) s m [.ref a0, .int y1].toArray below meth c H locs 0 0 (MQ below (th_Q D cT T (kd q) (th_R T (some (.inl (-2147483648, 2147483647)))) []) [.ref a0, .int y1].toArray s 0 0 (th_A T [])) (F0 m 33 ls [.int w33_0]) := by
    intro H locs ls w33_0 iw33_0 hH hS hl
    exact th_iret S hK hH hS hr hlocks (th_R.i iw33_0) dX10_lies_33
  have J33_s0_m1 : ∀ (H : Heap) (locs : List Loc) (ls : Array Slot), th_H D cT T (kd q) H → va_S (th_A T []) s.heap H locs → lv_has ls 2 [] → W p l e (rmk 0 0) s m [.ref a0, .int y1].toArray below meth c H locs 0 0 (MQ below (th_Q D cT T (kd q) (th_R T (some (.inl (-2147483648, 2147483647)))) []) [.ref a0, .int y1].toArray s 0 0 (th_A T [])) (F0 m 33 ls [.int (-1)]) := by
    intro H locs ls hH hS hl
    exact th_iret S hK hH hS hr hlocks (th_R.i (iv_top _)) dX10_lies_33
  have J20 : ∀ (H : Heap) (locs : List Loc) (ls : Array Slot), th_H D cT T (kd q) H → va_S (th_A T []) s.heap H locs → lv_has ls 2 [] → W p l e (rmk 0 0) s m [.ref a0, .int y1].toArray below meth c H locs 0 0 (MQ below (th_Q D cT T (kd q) (th_R T (some (.inl (-2147483648, 2147483647)))) []) [.ref a0, .int y1].toArray s 0 0 (th_A T [])) (F0 m 20 ls []) := by
    intro H locs ls hH hS hl
    refine lv_iconst (v := (-1)) hx hb dX10_lies_20 (by decide) ?_
    refine lv_goto (tgt := 33) hx hb dX10_lies_21 (by decide) ?_
    exact J33_s0_m1 H locs ls  hH hS (lv_sub hl [] rfl)
  have J0 : ∀ (H : Heap) (locs : List Loc) (ls : Array Slot), th_H D cT T (kd q) H → va_S (th_A T []) s.heap H locs → lv_has ls 2 [(0, .ref a0), (1, .int y1)] → W p l e (rmk 0 0) s m [.ref a0, .int y1].toArray below meth c H locs 0 0 (MQ below (th_Q D cT T (kd q) (th_R T (some (.inl (-2147483648, 2147483647)))) []) [.ref a0, .int y1].toArray s 0 0 (th_A T [])) (F0 m 0 ls []) := by
    intro H locs ls hH hS hl
    refine lv_iload_n hx hb dX10_lies_0 rfl (lv_at hl 1 rfl) ?_
    refine lv_if_lt (tgt := 20) hx hb dX10_lies_1 (by decide) (fun c1 => ?_) (fun c1 => ?_)
    · skip
      have ir2 : IV y1 (-2147483648) (-1) := iv_uL j1 (iv_c (by decide) : IV 0 0 0) (iv_lt c1) (by decide)
      exact J20 H locs ls  hH hS (lv_sub hl [] rfl)
    · skip
      have ir3 : IV y1 0 2147483647 := iv_vR (iv_c (by decide) : IV 0 0 0) j1 (iv_nlt c1) (by decide)
      refine lv_iload_n hx hb dX10_lies_4 rfl (lv_at hl 1 rfl) ?_
      refine lv_aload_n hx hb dX10_lies_5 rfl (lv_at hl 0 rfl) ?_
      refine th_get S hK hH inG10 t0 kd_0 rfl 6 (by decide) gm_511 rfl rfl dX10_lies_6 (fun v4 hv4 fv4 => ?_)
      obtain ⟨rf5, rfl, trf5⟩ := th_V.ref hv4
      refine th_get S hK hH inG5 trf5 kd_7 rfl 2 (by decide) gm_431 rfl rfl dX10_lies_9 (fun v6 hv6 fv6 => ?_)
      obtain ⟨x7, rfl, ix7⟩ := th_V.int hv6
      refine lv_icmp_ge (tgt := 20) hx hb dX10_lies_12 (by decide) (fun c8 => ?_) (fun c8 => ?_)
      · skip
        exact J20 H locs ls  hH hS (lv_sub hl [] rfl)
      · skip
        have ir9 : IV y1 0 2147483646 := iv_uL ir3 ix7 (iv_nle c8) (by decide)
        have ir10 : IV x7 1 2147483647 := iv_uR ir3 ix7 (iv_nle c8) (by decide)
        refine lv_iload_n hx hb dX10_lies_15 rfl (lv_at hl 1 rfl) ?_
        refine lv_iconst (v := 4) hx hb dX10_lies_16 (by decide) ?_
        refine lv_icmp_lt (tgt := 24) hx hb dX10_lies_17 (by decide) (fun c11 => ?_) (fun c11 => ?_)
        · skip
          have ir12 : IV y1 0 3 := iv_uL ir9 (iv_c (by decide) : IV 4 4 4) (iv_lt c11) (by decide)
          refine lv_aload_n hx hb dX10_lies_24 rfl (lv_at hl 0 rfl) ?_
          refine th_getK S hK fv4 inG10 rfl (by decide) gm_511 rfl dX10_lies_25 ?_
          refine th_get S hK hH inG5 trf5 kd_7 rfl 1 (by decide) gm_429 rfl rfl dX10_lies_28 (fun v14 hv14 fv14 => ?_)
          obtain ⟨rf15, rfl, trf15⟩ := th_V.ref hv14
          refine lv_iload_n hx hb dX10_lies_31 rfl (lv_at hl 1 rfl) ?_
          refine th_iald S hK hH trf15 kd_34 (th_in (hi := 3) ir12 (by decide)) dX10_lies_32 (fun v16 hv16 => ?_)
          obtain ⟨x17, rfl, ix17⟩ := th_V.int hv16
          exact J33 H locs ls x17 ix17 hH hS (lv_sub hl [] rfl)
        · skip
          have ir18 : IV y1 4 2147483646 := iv_vR (iv_c (by decide) : IV 4 4 4) ir9 (iv_nlt c11) (by decide)
          exact J20 H locs ls  hH hS (lv_sub hl [] rfl)
  exact J0 s.heap [] ls hH va_S.rf hl

set_option maxRecDepth 100000 in
theorem m_X10_isAmount (l : Launch) (D : va_G) (cT : Nat → ClassId) (T : Nat → Option Nat) (q : Nat → Int) (hq : qok q) (y0 : Int32) (j0 : IV y0 (-2147483648) 2147483647) : th_Met l D cT T (kd q) yX10_isAmount cX10_isAmount 1 (some .boolean) (rmk 0 0) [.int y0] (th_RG y0 0 9) [] := by
  refine th_start (by decide) (Nat.le_of_ble_eq_true rfl) ?_
  intro p e s m below meth c ls S hK hH hr hlocks hnm hl
  have hx := S.1
  have hb := S.2.1
  have hl : lv_has ls 1 [(0, .int y0)] := hl
  have J15_s0_0 : ∀ (H : Heap) (locs : List Loc) (ls : Array Slot), th_H D cT T (kd q) H → va_S (th_A T []) s.heap H locs → lv_has ls 1 [] → W p l e (rmk 0 0) s m [.int y0].toArray below meth c H locs 0 0 (MQ below (th_Q D cT T (kd q) (th_RG y0 0 9) []) [.int y0].toArray s 0 0 (th_A T [])) (F0 m 15 ls [.int 0]) := by
    intro H locs ls hH hS hl
    exact th_zret S hK hH hS hr hlocks (iv_w (iv_c (by decide) : IV 0 0 0) (by decide)) (th_RG.i (iv_w (iv_c (by decide) : IV 0 0 0) (by decide)) (fun z => absurd rfl z)) dX10_isAmount_15
  have J15_s0_1 : ∀ (H : Heap) (locs : List Loc) (ls : Array Slot), IV y0 0 9 → th_H D cT T (kd q) H → va_S (th_A T []) s.heap H locs → lv_has ls 1 [] → W p l e (rmk 0 0) s m [.int y0].toArray below meth c H locs 0 0 (MQ below (th_Q D cT T (kd q) (th_RG y0 0 9) []) [.int y0].toArray s 0 0 (th_A T [])) (F0 m 15 ls [.int 1]) := by
    intro H locs ls f15_y0 hH hS hl
    exact th_zret S hK hH hS hr hlocks (iv_w (iv_c (by decide) : IV 1 1 1) (by decide)) (th_RG.i (iv_w (iv_c (by decide) : IV 1 1 1) (by decide)) (fun _ => f15_y0)) dX10_isAmount_15
  have J14 : ∀ (H : Heap) (locs : List Loc) (ls : Array Slot), th_H D cT T (kd q) H → va_S (th_A T []) s.heap H locs → lv_has ls 1 [] → W p l e (rmk 0 0) s m [.int y0].toArray below meth c H locs 0 0 (MQ below (th_Q D cT T (kd q) (th_RG y0 0 9) []) [.int y0].toArray s 0 0 (th_A T [])) (F0 m 14 ls []) := by
    intro H locs ls hH hS hl
    refine lv_iconst (v := 0) hx hb dX10_isAmount_14 (by decide) ?_
    exact J15_s0_0 H locs ls  hH hS (lv_sub hl [] rfl)
  have J0 : ∀ (H : Heap) (locs : List Loc) (ls : Array Slot), th_H D cT T (kd q) H → va_S (th_A T []) s.heap H locs → lv_has ls 1 [(0, .int y0)] → W p l e (rmk 0 0) s m [.int y0].toArray below meth c H locs 0 0 (MQ below (th_Q D cT T (kd q) (th_RG y0 0 9) []) [.int y0].toArray s 0 0 (th_A T [])) (F0 m 0 ls []) := by
    intro H locs ls hH hS hl
    refine lv_iload_n hx hb dX10_isAmount_0 rfl (lv_at hl 0 rfl) ?_
    refine lv_if_lt (tgt := 14) hx hb dX10_isAmount_1 (by decide) (fun c1 => ?_) (fun c1 => ?_)
    · skip
      have ir2 : IV y0 (-2147483648) (-1) := iv_uL j0 (iv_c (by decide) : IV 0 0 0) (iv_lt c1) (by decide)
      exact J14 H locs ls  hH hS (lv_sub hl [] rfl)
    · skip
      have ir3 : IV y0 0 2147483647 := iv_vR (iv_c (by decide) : IV 0 0 0) j0 (iv_nlt c1) (by decide)
      refine lv_iload_n hx hb dX10_isAmount_4 rfl (lv_at hl 0 rfl) ?_
      refine lv_bipush (v := 9) hx hb dX10_isAmount_5 (by decide) ?_
      refine lv_icmp_gt (tgt := 14) hx hb dX10_isAmount_7 (by decide) (fun c4 => ?_) (fun c4 => ?_)
      · skip
        have ir5 : IV y0 10 2147483647 := iv_uR (iv_c (by decide) : IV 9 9 9) ir3 (iv_lt c4) (by decide)
        exact J14 H locs ls  hH hS (lv_sub hl [] rfl)
      · skip
        have ir6 : IV y0 0 9 := iv_vL ir3 (iv_c (by decide) : IV 9 9 9) (iv_nlt c4) (by decide)
        refine lv_iconst (v := 1) hx hb dX10_isAmount_10 (by decide) ?_
        refine lv_goto (tgt := 15) hx hb dX10_isAmount_11 (by decide) ?_
        exact J15_s0_1 H locs ls ir6 hH hS (lv_sub hl [] rfl)
  exact J0 s.heap [] ls hH va_S.rf hl

set_option maxRecDepth 100000 in
theorem m_X10_isTrialHunger (l : Launch) (D : va_G) (cT : Nat → ClassId) (T : Nat → Option Nat) (q : Nat → Int) (hq : qok q) (y0 : Int32) (j0 : IV y0 (-2147483648) 2147483647) : th_Met l D cT T (kd q) yX10_isTrialHunger cX10_isTrialHunger 1 (some .boolean) (rmk 0 0) [.int y0] (th_RG y0 1 99) [] := by
  refine th_start (by decide) (Nat.le_of_ble_eq_true rfl) ?_
  intro p e s m below meth c ls S hK hH hr hlocks hnm hl
  have hx := S.1
  have hb := S.2.1
  have hl : lv_has ls 1 [(0, .int y0)] := hl
  have J16_s0_0 : ∀ (H : Heap) (locs : List Loc) (ls : Array Slot), th_H D cT T (kd q) H → va_S (th_A T []) s.heap H locs → lv_has ls 1 [] → W p l e (rmk 0 0) s m [.int y0].toArray below meth c H locs 0 0 (MQ below (th_Q D cT T (kd q) (th_RG y0 1 99) []) [.int y0].toArray s 0 0 (th_A T [])) (F0 m 16 ls [.int 0]) := by
    intro H locs ls hH hS hl
    exact th_zret S hK hH hS hr hlocks (iv_w (iv_c (by decide) : IV 0 0 0) (by decide)) (th_RG.i (iv_w (iv_c (by decide) : IV 0 0 0) (by decide)) (fun z => absurd rfl z)) dX10_isTrialHunger_16
  have J16_s0_1 : ∀ (H : Heap) (locs : List Loc) (ls : Array Slot), IV y0 1 99 → th_H D cT T (kd q) H → va_S (th_A T []) s.heap H locs → lv_has ls 1 [] → W p l e (rmk 0 0) s m [.int y0].toArray below meth c H locs 0 0 (MQ below (th_Q D cT T (kd q) (th_RG y0 1 99) []) [.int y0].toArray s 0 0 (th_A T [])) (F0 m 16 ls [.int 1]) := by
    intro H locs ls f16_y0 hH hS hl
    exact th_zret S hK hH hS hr hlocks (iv_w (iv_c (by decide) : IV 1 1 1) (by decide)) (th_RG.i (iv_w (iv_c (by decide) : IV 1 1 1) (by decide)) (fun _ => f16_y0)) dX10_isTrialHunger_16
  have J15 : ∀ (H : Heap) (locs : List Loc) (ls : Array Slot), th_H D cT T (kd q) H → va_S (th_A T []) s.heap H locs → lv_has ls 1 [] → W p l e (rmk 0 0) s m [.int y0].toArray below meth c H locs 0 0 (MQ below (th_Q D cT T (kd q) (th_RG y0 1 99) []) [.int y0].toArray s 0 0 (th_A T [])) (F0 m 15 ls []) := by
    intro H locs ls hH hS hl
    refine lv_iconst (v := 0) hx hb dX10_isTrialHunger_15 (by decide) ?_
    exact J16_s0_0 H locs ls  hH hS (lv_sub hl [] rfl)
  have J0 : ∀ (H : Heap) (locs : List Loc) (ls : Array Slot), th_H D cT T (kd q) H → va_S (th_A T []) s.heap H locs → lv_has ls 1 [(0, .int y0)] → W p l e (rmk 0 0) s m [.int y0].toArray below meth c H locs 0 0 (MQ below (th_Q D cT T (kd q) (th_RG y0 1 99) []) [.int y0].toArray s 0 0 (th_A T [])) (F0 m 0 ls []) := by
    intro H locs ls hH hS hl
    refine lv_iload_n hx hb dX10_isTrialHunger_0 rfl (lv_at hl 0 rfl) ?_
    refine lv_iconst (v := 1) hx hb dX10_isTrialHunger_1 (by decide) ?_
    refine lv_icmp_lt (tgt := 15) hx hb dX10_isTrialHunger_2 (by decide) (fun c1 => ?_) (fun c1 => ?_)
    · skip
      have ir2 : IV y0 (-2147483648) 0 := iv_uL j0 (iv_c (by decide) : IV 1 1 1) (iv_lt c1) (by decide)
      exact J15 H locs ls  hH hS (lv_sub hl [] rfl)
    · skip
      have ir3 : IV y0 1 2147483647 := iv_vR (iv_c (by decide) : IV 1 1 1) j0 (iv_nlt c1) (by decide)
      refine lv_iload_n hx hb dX10_isTrialHunger_5 rfl (lv_at hl 0 rfl) ?_
      refine lv_bipush (v := 99) hx hb dX10_isTrialHunger_6 (by decide) ?_
      refine lv_icmp_gt (tgt := 15) hx hb dX10_isTrialHunger_8 (by decide) (fun c4 => ?_) (fun c4 => ?_)
      · skip
        have ir5 : IV y0 100 2147483647 := iv_uR (iv_c (by decide) : IV 99 99 99) ir3 (iv_lt c4) (by decide)
        exact J15 H locs ls  hH hS (lv_sub hl [] rfl)
      · skip
        have ir6 : IV y0 1 99 := iv_vL ir3 (iv_c (by decide) : IV 99 99 99) (iv_nlt c4) (by decide)
        refine lv_iconst (v := 1) hx hb dX10_isTrialHunger_11 (by decide) ?_
        refine lv_goto (tgt := 16) hx hb dX10_isTrialHunger_12 (by decide) ?_
        exact J16_s0_1 H locs ls ir6 hH hS (lv_sub hl [] rfl)
  exact J0 s.heap [] ls hH va_S.rf hl

set_option maxRecDepth 100000 in
theorem m_X10_trial (l : Launch) (D : va_G) (cT : Nat → ClassId) (T : Nat → Option Nat) (q : Nat → Int) (hq : qok q) (a0 : Nat) (t0 : T a0 = some 0) (y1 : Int32) (j1 : IV y1 (-2147483648) 2147483647) (y2 : Int32) (j2 : IV y2 (-2147483648) 2147483647) (y3 : Int32) (j3 : IV y3 (-2147483648) 2147483647) (y4 : Int32) (j4 : IV y4 (-2147483648) 2147483647) (y5 : Int32) (j5 : IV y5 0 1) : th_Met l D cT T (kd q) yX10_trial cX10_trial 6 (some .int) (rmk 1 25) [.ref a0, .int y1, .int y2, .int y3, .int y4, .int y5] (th_R T (some (.inl (-1, 29)))) [8, 40, 41, 42, 43, 44] := by
  refine th_start (by decide) (Nat.le_of_ble_eq_true rfl) ?_
  intro p e s m below meth c ls S hK hH hr hlocks hnm hl
  have hx := S.1
  have hb := S.2.1
  have hl : lv_has ls 6 [(0, .ref a0), (1, .int y1), (2, .int y2), (3, .int y3), (4, .int y4), (5, .int y5)] := hl
  have J29 : ∀ (H : Heap) (locs : List Loc) (ls : Array Slot), th_H D cT T (kd q) H → va_S (th_A T [8, 40, 41, 42, 43, 44]) s.heap H locs → lv_has ls 6 [] → W p l e (rmk 1 25) s m [.ref a0, .int y1, .int y2, .int y3, .int y4, .int y5].toArray below meth c H locs 0 0 (MQ below (th_Q D cT T (kd q) (th_R T (some (.inl (-1, 29)))) [8, 40, 41, 42, 43, 44]) [.ref a0, .int y1, .int y2, .int y3, .int y4, .int y5].toArray s 0 0 (th_A T [8, 40, 41, 42, 43, 44])) (F0 m 29 ls []) := by
    intro H locs ls hH hS hl
    refine lv_iconst (v := (-1)) hx hb dX10_trial_29 (by decide) ?_
    exact th_iret S hK hH hS hr hlocks (th_R.i (iv_w (iv_c (by decide) : IV (-1) (-1) (-1)) (by decide))) dX10_trial_30
  have J0 : ∀ (H : Heap) (locs : List Loc) (ls : Array Slot), th_H D cT T (kd q) H → va_S (th_A T [8, 40, 41, 42, 43, 44]) s.heap H locs → lv_has ls 6 [(0, .ref a0), (1, .int y1), (2, .int y2), (3, .int y3), (4, .int y4), (5, .int y5)] → W p l e (rmk 1 25) s m [.ref a0, .int y1, .int y2, .int y3, .int y4, .int y5].toArray below meth c H locs 0 0 (MQ below (th_Q D cT T (kd q) (th_R T (some (.inl (-1, 29)))) [8, 40, 41, 42, 43, 44]) [.ref a0, .int y1, .int y2, .int y3, .int y4, .int y5].toArray s 0 0 (th_A T [8, 40, 41, 42, 43, 44])) (F0 m 0 ls []) := by
    intro H locs ls hH hS hl
    refine lv_iload_n hx hb dX10_trial_0 rfl (lv_at hl 1 rfl) ?_
    refine th_callSg (n := 1) (As := [.int y1]) S hK hH hS (th_A.sub (by decide)) (m_X10_isAmount l D cT T q hq (y1) j1) gm_1139 gm_1137 gm_1138 gm_113 (by decide +kernel) ⟨rfl, rfl, Nat.le_of_ble_eq_true rfl, Nat.le_of_ble_eq_true rfl⟩ rfl hl.1 rfl (Nat.le_of_ble_eq_true rfl) dX10_trial_1 ⟨Nat.zero_le _, Nat.zero_le _⟩ (fun x1 H locs ix1 ox1 hH hS hF1 => ?_)
    refine lv_if_eq (tgt := 29) hx hb dX10_trial_4 (by decide) (fun c2 => ?_) (fun c2 => ?_)
    · skip
      have ir3 : IV x1 0 0 := iv_eL c2 (iv_c (by decide) : IV 0 0 0)
      exact J29 H locs ls  hH hS (lv_sub hl [] rfl)
    · skip
      have ir4 : IV x1 1 1 := iv_cutL ix1 (iv_c (by decide) : IV 0 0 0) c2 (by decide)
      have ir5 : IV y1 0 9 := ox1 c2
      refine lv_iload_n hx hb dX10_trial_7 rfl (lv_at hl 2 rfl) ?_
      refine th_callSg (n := 1) (As := [.int y2]) S hK hH hS (th_A.sub (by decide)) (m_X10_isAmount l D cT T q hq (y2) j2) gm_1139 gm_1137 gm_1138 gm_113 (by decide +kernel) ⟨rfl, rfl, Nat.le_of_ble_eq_true rfl, Nat.le_of_ble_eq_true rfl⟩ rfl hl.1 rfl (Nat.le_of_ble_eq_true rfl) dX10_trial_8 ⟨Nat.zero_le _, Nat.zero_le _⟩ (fun x6 H locs ix6 ox6 hH hS hF1 => ?_)
      refine lv_if_eq (tgt := 29) hx hb dX10_trial_11 (by decide) (fun c7 => ?_) (fun c7 => ?_)
      · skip
        have ir8 : IV x6 0 0 := iv_eL c7 (iv_c (by decide) : IV 0 0 0)
        exact J29 H locs ls  hH hS (lv_sub hl [] rfl)
      · skip
        have ir9 : IV x6 1 1 := iv_cutL ix6 (iv_c (by decide) : IV 0 0 0) c7 (by decide)
        have ir10 : IV y2 0 9 := ox6 c7
        refine lv_iload_n hx hb dX10_trial_14 rfl (lv_at hl 3 rfl) ?_
        refine th_callSg (n := 1) (As := [.int y3]) S hK hH hS (th_A.sub (by decide)) (m_X10_isAmount l D cT T q hq (y3) j3) gm_1139 gm_1137 gm_1138 gm_113 (by decide +kernel) ⟨rfl, rfl, Nat.le_of_ble_eq_true rfl, Nat.le_of_ble_eq_true rfl⟩ rfl hl.1 rfl (Nat.le_of_ble_eq_true rfl) dX10_trial_15 ⟨Nat.zero_le _, Nat.zero_le _⟩ (fun x11 H locs ix11 ox11 hH hS hF1 => ?_)
        refine lv_if_eq (tgt := 29) hx hb dX10_trial_18 (by decide) (fun c12 => ?_) (fun c12 => ?_)
        · skip
          have ir13 : IV x11 0 0 := iv_eL c12 (iv_c (by decide) : IV 0 0 0)
          exact J29 H locs ls  hH hS (lv_sub hl [] rfl)
        · skip
          have ir14 : IV x11 1 1 := iv_cutL ix11 (iv_c (by decide) : IV 0 0 0) c12 (by decide)
          have ir15 : IV y3 0 9 := ox11 c12
          refine lv_iload hx hb dX10_trial_21 (lv_at hl 4 rfl) ?_
          refine th_callSg (n := 1) (As := [.int y4]) S hK hH hS (th_A.sub (by decide)) (m_X10_isTrialHunger l D cT T q hq (y4) j4) gm_1142 gm_1140 gm_1141 gm_113 (by decide +kernel) ⟨rfl, rfl, Nat.le_of_ble_eq_true rfl, Nat.le_of_ble_eq_true rfl⟩ rfl hl.1 rfl (Nat.le_of_ble_eq_true rfl) dX10_trial_23 ⟨Nat.zero_le _, Nat.zero_le _⟩ (fun x16 H locs ix16 ox16 hH hS hF1 => ?_)
          refine lv_if_ne (tgt := 31) hx hb dX10_trial_26 (by decide) (fun c17 => ?_) (fun c17 => ?_)
          · skip
            have ir18 : IV x16 1 1 := iv_cutL ix16 (iv_c (by decide) : IV 0 0 0) c17 (by decide)
            have ir19 : IV y4 1 99 := ox16 c17
            refine lv_aload_n hx hb dX10_trial_31 rfl (lv_at hl 0 rfl) ?_
            refine th_get S hK hH inG10 t0 kd_0 rfl 7 (by decide) gm_512 rfl rfl dX10_trial_32 (fun v20 hv20 fv20 => ?_)
            obtain ⟨rf21, rfl, trf21⟩ := th_V.ref hv20
            refine lv_iload_n hx hb dX10_trial_35 rfl (lv_at hl 1 rfl) ?_
            refine lv_iload_n hx hb dX10_trial_36 rfl (lv_at hl 2 rfl) ?_
            refine lv_iload_n hx hb dX10_trial_37 rfl (lv_at hl 3 rfl) ?_
            refine lv_iload hx hb dX10_trial_38 (lv_at hl 4 rfl) ?_
            refine lv_iload hx hb dX10_trial_40 (lv_at hl 5 rfl) ?_
            refine th_callVi (n := 5) (As := [.int y1, .int y2, .int y3, .int y4, .int y5]) S hK hH hS (th_A.sub (by decide)) (m_X9_tell l D cT T q hq rf21 trf21 (y1) (iv_top _) (y2) (iv_top _) (y3) (iv_top _) (y4) (iv_top _) (y5) j5) gm_1146 gm_1143 gm_1144 gm_1145 gm_123 (by decide +kernel) ⟨rfl, rfl, Nat.le_of_ble_eq_true rfl, Nat.le_of_ble_eq_true rfl⟩ trf21 kd_8 rfl rfl hl.1 rfl (Nat.le_of_ble_eq_true rfl) dX10_trial_42 ⟨Nat.zero_le _, Nat.zero_le _⟩ (fun x22 H locs ix22 hH hS hF1 => ?_)
            exact th_iret S hK hH hS hr hlocks (th_R.i ix22) dX10_trial_45
          · skip
            have ir23 : IV x16 0 0 := iv_eL c17 (iv_c (by decide) : IV 0 0 0)
            exact J29 H locs ls  hH hS (lv_sub hl [] rfl)
  exact J0 s.heap [] ls hH va_S.rf hl

set_option maxRecDepth 100000 in
theorem m_X10_untell (l : Launch) (D : va_G) (cT : Nat → ClassId) (T : Nat → Option Nat) (q : Nat → Int) (hq : qok q) (a0 : Nat) (t0 : T a0 = some 0) (y1 : Int32) (j1 : IV y1 (-2147483648) 2147483647) : th_Met l D cT T (kd q) yX10_untell cX10_untell 2 (some .boolean) (rmk 1 21) [.ref a0, .int y1] (th_R T (some (.inl (0, 1)))) [44] := by
  refine th_start (by decide) (Nat.le_of_ble_eq_true rfl) ?_
  intro p e s m below meth c ls S hK hH hr hlocks hnm hl
  have hx := S.1
  have hb := S.2.1
  have hl : lv_has ls 2 [(0, .ref a0), (1, .int y1)] := hl
  have J0 : ∀ (H : Heap) (locs : List Loc) (ls : Array Slot), th_H D cT T (kd q) H → va_S (th_A T [44]) s.heap H locs → lv_has ls 2 [(0, .ref a0), (1, .int y1)] → W p l e (rmk 1 21) s m [.ref a0, .int y1].toArray below meth c H locs 0 0 (MQ below (th_Q D cT T (kd q) (th_R T (some (.inl (0, 1)))) [44]) [.ref a0, .int y1].toArray s 0 0 (th_A T [44])) (F0 m 0 ls []) := by
    intro H locs ls hH hS hl
    refine lv_aload_n hx hb dX10_untell_0 rfl (lv_at hl 0 rfl) ?_
    refine th_get S hK hH inG10 t0 kd_0 rfl 7 (by decide) gm_512 rfl rfl dX10_untell_1 (fun v1 hv1 fv1 => ?_)
    obtain ⟨rf2, rfl, trf2⟩ := th_V.ref hv1
    refine lv_iload_n hx hb dX10_untell_4 rfl (lv_at hl 1 rfl) ?_
    refine th_callVi (n := 1) (As := [.int y1]) S hK hH hS (th_A.sub (by decide)) (m_X9_takeBack l D cT T q hq rf2 trf2 (y1) j1) gm_1154 gm_1151 gm_1152 gm_1153 gm_123 (by decide +kernel) ⟨rfl, rfl, Nat.le_of_ble_eq_true rfl, Nat.le_of_ble_eq_true rfl⟩ trf2 kd_8 rfl rfl hl.1 rfl (Nat.le_of_ble_eq_true rfl) dX10_untell_5 ⟨Nat.zero_le _, Nat.zero_le _⟩ (fun x3 H locs ix3 hH hS hF1 => ?_)
    exact th_zret S hK hH hS hr hlocks ix3 (th_R.i ix3) dX10_untell_8
  exact J0 s.heap [] ls hH va_S.rf hl

set_option maxRecDepth 100000 in
theorem m_X10_fit (l : Launch) (D : va_G) (cT : Nat → ClassId) (T : Nat → Option Nat) (q : Nat → Int) (hq : qok q) (a0 : Nat) (t0 : T a0 = some 0) (y1 : Int32) (j1 : IV y1 (-2147483648) 2147483647) : th_Met l D cT T (kd q) yX10_fit cX10_fit 2 (some .int) (rmk 3 78) [.ref a0, .int y1] (th_R T (some (.inl (-2147483648, 2147483647)))) [45] := by
  refine th_start (by decide) (Nat.le_of_ble_eq_true rfl) ?_
  intro p e s m below meth c ls S hK hH hr hlocks hnm hl
  have hx := S.1
  have hb := S.2.1
  have hl : lv_has ls 2 [(0, .ref a0), (1, .int y1)] := hl
  have J0 : ∀ (H : Heap) (locs : List Loc) (ls : Array Slot), th_H D cT T (kd q) H → va_S (th_A T [45]) s.heap H locs → lv_has ls 2 [(0, .ref a0), (1, .int y1)] → W p l e (rmk 3 78) s m [.ref a0, .int y1].toArray below meth c H locs 0 0 (MQ below (th_Q D cT T (kd q) (th_R T (some (.inl (-2147483648, 2147483647)))) [45]) [.ref a0, .int y1].toArray s 0 0 (th_A T [45])) (F0 m 0 ls []) := by
    intro H locs ls hH hS hl
    refine lv_aload_n hx hb dX10_fit_0 rfl (lv_at hl 0 rfl) ?_
    refine th_get S hK hH inG10 t0 kd_0 rfl 7 (by decide) gm_512 rfl rfl dX10_fit_1 (fun v1 hv1 fv1 => ?_)
    obtain ⟨rf2, rfl, trf2⟩ := th_V.ref hv1
    refine lv_aload_n hx hb dX10_fit_4 rfl (lv_at hl 0 rfl) ?_
    refine th_get S hK hH inG10 t0 kd_0 rfl 2 (by decide) gm_507 rfl rfl dX10_fit_5 (fun v3 hv3 fv3 => ?_)
    obtain ⟨rf4, rfl, trf4⟩ := th_V.ref hv3
    refine th_get S hK hH inG4 trf4 kd_3 rfl 11 (by decide) gm_277 rfl rfl dX10_fit_8 (fun v5 hv5 fv5 => ?_)
    obtain ⟨x6, rfl, ix6⟩ := th_V.int hv5
    refine lv_iload_n hx hb dX10_fit_11 rfl (lv_at hl 1 rfl) ?_
    refine th_callVi (n := 2) (As := [.int x6, .int y1]) S hK hH hS (th_A.sub (by decide)) (m_X9_countFitting l D cT T q hq rf2 trf2 (x6) ix6 (y1) j1) gm_1167 gm_1164 gm_1165 gm_1166 gm_123 (by decide +kernel) ⟨rfl, rfl, Nat.le_of_ble_eq_true rfl, Nat.le_of_ble_eq_true rfl⟩ trf2 kd_8 rfl rfl hl.1 rfl (Nat.le_of_ble_eq_true rfl) dX10_fit_12 ⟨Nat.zero_le _, Nat.zero_le _⟩ (fun x7 H locs ix7 hH hS hF1 => ?_)
    exact th_iret S hK hH hS hr hlocks (th_R.i ix7) dX10_fit_15
  exact J0 s.heap [] ls hH va_S.rf hl

set_option maxRecDepth 100000 in
theorem m_X10_sure (l : Launch) (D : va_G) (cT : Nat → ClassId) (T : Nat → Option Nat) (q : Nat → Int) (hq : qok q) (a0 : Nat) (t0 : T a0 = some 0) (y1 : Int32) (j1 : IV y1 (-2147483648) 2147483647) (y2 : Int32) (j2 : IV y2 (-2147483648) 2147483647) : th_Met l D cT T (kd q) yX10_sure cX10_sure 3 (some .int) (rmk 4 103) [.ref a0, .int y1, .int y2] (th_R T (some (.inl (-2, 5)))) [45] := by
  refine th_start (by decide) (Nat.le_of_ble_eq_true rfl) ?_
  intro p e s m below meth c ls S hK hH hr hlocks hnm hl
  have hx := S.1
  have hb := S.2.1
  have hl : lv_has ls 3 [(0, .ref a0), (1, .int y1), (2, .int y2)] := hl
  have J28 : ∀ (H : Heap) (locs : List Loc) (ls : Array Slot) (w28_0 : Int32), IV w28_0 (-2) 5 → th_H D cT T (kd q) H → va_S (th_A T [45]) s.heap H locs → lv_has ls 3 [] → W p l e (rmk 4 103) s m [.ref a0, .int y1, .int y2].toArray below meth c H locs 0 0 (MQ below (th_Q D cT T (kd q) (th_R T (some (.inl (-2, 5)))) [45]) [.ref a0, .int y1, .int y2].toArray s 0 0 (th_A T [45])) (F0 m 28 ls [.int w28_0]) := by
    intro H locs ls w28_0 iw28_0 hH hS hl
    exact th_iret S hK hH hS hr hlocks (th_R.i iw28_0) dX10_sure_28
  have J28_s0_m1 : ∀ (H : Heap) (locs : List Loc) (ls : Array Slot), th_H D cT T (kd q) H → va_S (th_A T [45]) s.heap H locs → lv_has ls 3 [] → W p l e (rmk 4 103) s m [.ref a0, .int y1, .int y2].toArray below meth c H locs 0 0 (MQ below (th_Q D cT T (kd q) (th_R T (some (.inl (-2, 5)))) [45]) [.ref a0, .int y1, .int y2].toArray s 0 0 (th_A T [45])) (F0 m 28 ls [.int (-1)]) := by
    intro H locs ls hH hS hl
    exact th_iret S hK hH hS hr hlocks (th_R.i (iv_w (iv_c (by decide) : IV (-1) (-1) (-1)) (by decide))) dX10_sure_28
  have J0 : ∀ (H : Heap) (locs : List Loc) (ls : Array Slot), th_H D cT T (kd q) H → va_S (th_A T [45]) s.heap H locs → lv_has ls 3 [(0, .ref a0), (1, .int y1), (2, .int y2)] → W p l e (rmk 4 103) s m [.ref a0, .int y1, .int y2].toArray below meth c H locs 0 0 (MQ below (th_Q D cT T (kd q) (th_R T (some (.inl (-2, 5)))) [45]) [.ref a0, .int y1, .int y2].toArray s 0 0 (th_A T [45])) (F0 m 0 ls []) := by
    intro H locs ls hH hS hl
    refine lv_aload_n hx hb dX10_sure_0 rfl (lv_at hl 0 rfl) ?_
    refine lv_iload_n hx hb dX10_sure_1 rfl (lv_at hl 1 rfl) ?_
    refine th_callVg (n := 1) (As := [.int y1]) S hK hH hS (th_A.sub (by decide)) (m_X10_isFood l D cT T q hq a0 t0 (y1) j1) gm_824 gm_821 gm_823 gm_23 gm_113 (by decide +kernel) ⟨rfl, rfl, Nat.le_of_ble_eq_true rfl, Nat.le_of_ble_eq_true rfl⟩ t0 kd_0 rfl rfl hl.1 rfl (Nat.le_of_ble_eq_true rfl) dX10_sure_2 ⟨Nat.zero_le _, Nat.zero_le _⟩ (fun x1 H locs ix1 ox1 hH hS hF1 => ?_)
    refine lv_if_eq (tgt := 27) hx hb dX10_sure_5 (by decide) (fun c2 => ?_) (fun c2 => ?_)
    · skip
      have ir3 : IV x1 0 0 := iv_eL c2 (iv_c (by decide) : IV 0 0 0)
      refine lv_iconst (v := (-1)) hx hb dX10_sure_27 (by decide) ?_
      exact J28_s0_m1 H locs ls  hH hS (lv_sub hl [] rfl)
    · skip
      have ir4 : IV x1 1 1 := iv_cutL ix1 (iv_c (by decide) : IV 0 0 0) c2 (by decide)
      have ir5 : IV y1 0 2 := ox1 c2
      refine lv_aload_n hx hb dX10_sure_8 rfl (lv_at hl 0 rfl) ?_
      refine th_get S hK hH inG10 t0 kd_0 rfl 7 (by decide) gm_512 rfl rfl dX10_sure_9 (fun v6 hv6 fv6 => ?_)
      obtain ⟨rf7, rfl, trf7⟩ := th_V.ref hv6
      refine lv_aload_n hx hb dX10_sure_12 rfl (lv_at hl 0 rfl) ?_
      refine th_get S hK hH inG10 t0 kd_0 rfl 2 (by decide) gm_507 rfl rfl dX10_sure_13 (fun v8 hv8 fv8 => ?_)
      obtain ⟨rf9, rfl, trf9⟩ := th_V.ref hv8
      refine th_get S hK hH inG4 trf9 kd_3 rfl 11 (by decide) gm_277 rfl rfl dX10_sure_16 (fun v10 hv10 fv10 => ?_)
      obtain ⟨x11, rfl, ix11⟩ := th_V.int hv10
      refine lv_iload_n hx hb dX10_sure_19 rfl (lv_at hl 1 rfl) ?_
      refine lv_iload_n hx hb dX10_sure_20 rfl (lv_at hl 2 rfl) ?_
      refine th_callVi (n := 3) (As := [.int x11, .int y1, .int y2]) S hK hH hS (th_A.sub (by decide)) (m_X9_sureLiking l D cT T q hq rf7 trf7 (x11) ix11 (y1) ir5 (y2) j2) gm_1184 gm_1181 gm_1182 gm_1183 gm_123 (by decide +kernel) ⟨rfl, rfl, Nat.le_of_ble_eq_true rfl, Nat.le_of_ble_eq_true rfl⟩ trf7 kd_8 rfl rfl hl.1 rfl (Nat.le_of_ble_eq_true rfl) dX10_sure_21 ⟨Nat.zero_le _, Nat.zero_le _⟩ (fun x12 H locs ix12 hH hS hF1 => ?_)
      refine lv_goto (tgt := 28) hx hb dX10_sure_24 (by decide) ?_
      exact J28 H locs ls x12 ix12 hH hS (lv_sub hl [] rfl)
  exact J0 s.heap [] ls hH va_S.rf hl

set_option maxRecDepth 100000 in
theorem m_X10_ask (l : Launch) (D : va_G) (cT : Nat → ClassId) (T : Nat → Option Nat) (q : Nat → Int) (hq : qok q) (a0 : Nat) (t0 : T a0 = some 0) (y1 : Int32) (j1 : IV y1 (-2147483648) 2147483647) (y2 : Int32) (j2 : IV y2 (-2147483648) 2147483647) (y3 : Int32) (j3 : IV y3 (-2147483648) 2147483647) : th_Met l D cT T (kd q) yX10_ask cX10_ask 4 (some .int) (rmk 4 109) [.ref a0, .int y1, .int y2, .int y3] (th_R T (some (.inl (-2147483648, 2147483647)))) [45] := by
  refine th_start (by decide) (Nat.le_of_ble_eq_true rfl) ?_
  intro p e s m below meth c ls S hK hH hr hlocks hnm hl
  have hx := S.1
  have hb := S.2.1
  have hl : lv_has ls 4 [(0, .ref a0), (1, .int y1), (2, .int y2), (3, .int y3)] := hl
  have J26 : ∀ (H : Heap) (locs : List Loc) (ls : Array Slot), th_H D cT T (kd q) H → va_S (th_A T [45]) s.heap H locs → lv_has ls 4 [] → W p l e (rmk 4 109) s m [.ref a0, .int y1, .int y2, .int y3].toArray below meth c H locs 0 0 (MQ below (th_Q D cT T (kd q) (th_R T (some (.inl (-2147483648, 2147483647)))) [45]) [.ref a0, .int y1, .int y2, .int y3].toArray s 0 0 (th_A T [45])) (F0 m 26 ls []) := by
    intro H locs ls hH hS hl
    refine lv_iconst (v := (-1)) hx hb dX10_ask_26 (by decide) ?_
    exact th_iret S hK hH hS hr hlocks (th_R.i (iv_top _)) dX10_ask_27
  have J0 : ∀ (H : Heap) (locs : List Loc) (ls : Array Slot), th_H D cT T (kd q) H → va_S (th_A T [45]) s.heap H locs → lv_has ls 4 [(0, .ref a0), (1, .int y1), (2, .int y2), (3, .int y3)] → W p l e (rmk 4 109) s m [.ref a0, .int y1, .int y2, .int y3].toArray below meth c H locs 0 0 (MQ below (th_Q D cT T (kd q) (th_R T (some (.inl (-2147483648, 2147483647)))) [45]) [.ref a0, .int y1, .int y2, .int y3].toArray s 0 0 (th_A T [45])) (F0 m 0 ls []) := by
    intro H locs ls hH hS hl
    refine lv_iload_n hx hb dX10_ask_0 rfl (lv_at hl 1 rfl) ?_
    refine th_callSg (n := 1) (As := [.int y1]) S hK hH hS (th_A.sub (by decide)) (m_X10_isTrialHunger l D cT T q hq (y1) j1) gm_1142 gm_1140 gm_1141 gm_113 (by decide +kernel) ⟨rfl, rfl, Nat.le_of_ble_eq_true rfl, Nat.le_of_ble_eq_true rfl⟩ rfl hl.1 rfl (Nat.le_of_ble_eq_true rfl) dX10_ask_1 ⟨Nat.zero_le _, Nat.zero_le _⟩ (fun x1 H locs ix1 ox1 hH hS hF1 => ?_)
    refine lv_if_eq (tgt := 26) hx hb dX10_ask_4 (by decide) (fun c2 => ?_) (fun c2 => ?_)
    · skip
      have ir3 : IV x1 0 0 := iv_eL c2 (iv_c (by decide) : IV 0 0 0)
      exact J26 H locs ls  hH hS (lv_sub hl [] rfl)
    · skip
      have ir4 : IV x1 1 1 := iv_cutL ix1 (iv_c (by decide) : IV 0 0 0) c2 (by decide)
      have ir5 : IV y1 1 99 := ox1 c2
      refine lv_iload_n hx hb dX10_ask_7 rfl (lv_at hl 2 rfl) ?_
      refine lv_if_lt (tgt := 26) hx hb dX10_ask_8 (by decide) (fun c6 => ?_) (fun c6 => ?_)
      · skip
        have ir7 : IV y2 (-2147483648) (-1) := iv_uL j2 (iv_c (by decide) : IV 0 0 0) (iv_lt c6) (by decide)
        exact J26 H locs ls  hH hS (lv_sub hl [] rfl)
      · skip
        have ir8 : IV y2 0 2147483647 := iv_vR (iv_c (by decide) : IV 0 0 0) j2 (iv_nlt c6) (by decide)
        refine lv_iload_n hx hb dX10_ask_11 rfl (lv_at hl 2 rfl) ?_
        refine lv_iconst (v := 1) hx hb dX10_ask_12 (by decide) ?_
        refine lv_icmp_gt (tgt := 26) hx hb dX10_ask_13 (by decide) (fun c9 => ?_) (fun c9 => ?_)
        · skip
          have ir10 : IV y2 2 2147483647 := iv_uR (iv_c (by decide) : IV 1 1 1) ir8 (iv_lt c9) (by decide)
          exact J26 H locs ls  hH hS (lv_sub hl [] rfl)
        · skip
          have ir11 : IV y2 0 1 := iv_vL ir8 (iv_c (by decide) : IV 1 1 1) (iv_nlt c9) (by decide)
          refine lv_aload_n hx hb dX10_ask_16 rfl (lv_at hl 0 rfl) ?_
          refine th_get S hK hH inG10 t0 kd_0 rfl 2 (by decide) gm_507 rfl rfl dX10_ask_17 (fun v12 hv12 fv12 => ?_)
          obtain ⟨rf13, rfl, trf13⟩ := th_V.ref hv12
          refine th_get S hK hH inG4 trf13 kd_3 rfl 11 (by decide) gm_277 rfl rfl dX10_ask_20 (fun v14 hv14 fv14 => ?_)
          obtain ⟨x15, rfl, ix15⟩ := th_V.int hv14
          refine lv_if_ne (tgt := 28) hx hb dX10_ask_23 (by decide) (fun c16 => ?_) (fun c16 => ?_)
          · skip
            have ir17 : IV x15 1 3 := iv_cutL ix15 (iv_c (by decide) : IV 0 0 0) c16 (by decide)
            refine lv_aload_n hx hb dX10_ask_28 rfl (lv_at hl 0 rfl) ?_
            refine th_get S hK hH inG10 t0 kd_0 rfl 7 (by decide) gm_512 rfl rfl dX10_ask_29 (fun v18 hv18 fv18 => ?_)
            obtain ⟨rf19, rfl, trf19⟩ := th_V.ref hv18
            refine lv_aload_n hx hb dX10_ask_32 rfl (lv_at hl 0 rfl) ?_
            refine th_getK S hK fv12 inG10 rfl (by decide) gm_507 rfl dX10_ask_33 ?_
            refine th_getK S hK fv14 inG4 rfl (by decide) gm_277 rfl dX10_ask_36 ?_
            refine lv_iload_n hx hb dX10_ask_39 rfl (lv_at hl 1 rfl) ?_
            refine lv_iload_n hx hb dX10_ask_40 rfl (lv_at hl 2 rfl) ?_
            refine lv_iload_n hx hb dX10_ask_41 rfl (lv_at hl 3 rfl) ?_
            refine th_callVi (n := 4) (As := [.int x15, .int y1, .int y2, .int y3]) S hK hH hS (th_A.sub (by decide)) (m_X9_nextTrial l D cT T q hq rf19 trf19 (x15) (iv_w ir17 (by decide)) (y1) (iv_top _) (y2) (iv_top _) (y3) j3) gm_1193 gm_1190 gm_1191 gm_1192 gm_123 (by decide +kernel) ⟨rfl, rfl, Nat.le_of_ble_eq_true rfl, Nat.le_of_ble_eq_true rfl⟩ trf19 kd_8 rfl rfl hl.1 rfl (Nat.le_of_ble_eq_true rfl) dX10_ask_42 ⟨Nat.zero_le _, Nat.zero_le _⟩ (fun x22 H locs ix22 hH hS hF1 => ?_)
            have f23 := fv12.kept (hF1 _ fv12.lt (th_off t0 (by decide)))
            have f24 := fv14.kept (hF1 _ fv14.lt (th_off trf13 (by decide)))
            exact th_iret S hK hH hS hr hlocks (th_R.i ix22) dX10_ask_45
          · skip
            have ir25 : IV x15 0 0 := iv_eL c16 (iv_c (by decide) : IV 0 0 0)
            exact J26 H locs ls  hH hS (lv_sub hl [] rfl)
  exact J0 s.heap [] ls hH va_S.rf hl

set_option maxRecDepth 100000 in
theorem m_X10_image (l : Launch) (D : va_G) (cT : Nat → ClassId) (T : Nat → Option Nat) (q : Nat → Int) (hq : qok q) (a0 : Nat) (t0 : T a0 = some 0) (y1 : Int32) (j1 : IV y1 (-2147483648) 2147483647) : th_Met l D cT T (kd q) yX10_image cX10_image 2 (some .int) (rmk 2 81) [.ref a0, .int y1] (th_R T (some (.inl (-2147483648, 2147483647)))) [0, 29] := by
  refine th_start (by decide) (Nat.le_of_ble_eq_true rfl) ?_
  intro p e s m below meth c ls S hK hH hr hlocks hnm hl
  have hx := S.1
  have hb := S.2.1
  have hl : lv_has ls 2 [(0, .ref a0), (1, .int y1)] := hl
  have J9 : ∀ (H : Heap) (locs : List Loc) (ls : Array Slot), th_H D cT T (kd q) H → va_S (th_A T [0, 29]) s.heap H locs → lv_has ls 2 [] → W p l e (rmk 2 81) s m [.ref a0, .int y1].toArray below meth c H locs 0 0 (MQ below (th_Q D cT T (kd q) (th_R T (some (.inl (-2147483648, 2147483647)))) [0, 29]) [.ref a0, .int y1].toArray s 0 0 (th_A T [0, 29])) (F0 m 9 ls []) := by
    intro H locs ls hH hS hl
    refine lv_iconst (v := (-1)) hx hb dX10_image_9 (by decide) ?_
    exact th_iret S hK hH hS hr hlocks (th_R.i (iv_top _)) dX10_image_10
  have J0 : ∀ (H : Heap) (locs : List Loc) (ls : Array Slot), th_H D cT T (kd q) H → va_S (th_A T [0, 29]) s.heap H locs → lv_has ls 2 [(0, .ref a0), (1, .int y1)] → W p l e (rmk 2 81) s m [.ref a0, .int y1].toArray below meth c H locs 0 0 (MQ below (th_Q D cT T (kd q) (th_R T (some (.inl (-2147483648, 2147483647)))) [0, 29]) [.ref a0, .int y1].toArray s 0 0 (th_A T [0, 29])) (F0 m 0 ls []) := by
    intro H locs ls hH hS hl
    refine lv_iload_n hx hb dX10_image_0 rfl (lv_at hl 1 rfl) ?_
    refine lv_if_lt (tgt := 9) hx hb dX10_image_1 (by decide) (fun c1 => ?_) (fun c1 => ?_)
    · skip
      have ir2 : IV y1 (-2147483648) (-1) := iv_uL j1 (iv_c (by decide) : IV 0 0 0) (iv_lt c1) (by decide)
      exact J9 H locs ls  hH hS (lv_sub hl [] rfl)
    · skip
      have ir3 : IV y1 0 2147483647 := iv_vR (iv_c (by decide) : IV 0 0 0) j1 (iv_nlt c1) (by decide)
      refine lv_iload_n hx hb dX10_image_4 rfl (lv_at hl 1 rfl) ?_
      refine lv_iconst (v := 3) hx hb dX10_image_5 (by decide) ?_
      refine lv_icmp_lt (tgt := 11) hx hb dX10_image_6 (by decide) (fun c4 => ?_) (fun c4 => ?_)
      · skip
        have ir5 : IV y1 0 2 := iv_uL ir3 (iv_c (by decide) : IV 3 3 3) (iv_lt c4) (by decide)
        refine lv_aload_n hx hb dX10_image_11 rfl (lv_at hl 0 rfl) ?_
        refine th_get S hK hH inG10 t0 kd_0 rfl 8 (by decide) gm_513 rfl rfl dX10_image_12 (fun v6 hv6 fv6 => ?_)
        obtain ⟨rf7, rfl, trf7⟩ := th_V.ref hv6
        refine lv_iload_n hx hb dX10_image_15 rfl (lv_at hl 1 rfl) ?_
        refine th_aald S hK hH trf7 kd_33 (th_in (hi := 2) ir5 (by decide)) dX10_image_16 (fun v8 hv8 => ?_)
        obtain ⟨rf9, rfl, trf9⟩ := th_V.ref hv8
        refine lv_aload_n hx hb dX10_image_17 rfl (lv_at hl 0 rfl) ?_
        refine th_get S hK hH inG10 t0 kd_0 rfl 4 (by decide) gm_509 rfl rfl dX10_image_18 (fun v10 hv10 fv10 => ?_)
        obtain ⟨rf11, rfl, trf11⟩ := th_V.ref hv10
        refine th_callVr (n := 0) (As := []) S hK hH hS (th_A.sub (by decide)) (m_X3_now l D cT T q hq rf11 trf11) gm_828 gm_825 gm_826 gm_827 gm_120 (by decide +kernel) ⟨rfl, rfl, Nat.le_of_ble_eq_true rfl, Nat.le_of_ble_eq_true rfl⟩ trf11 kd_5 rfl rfl hl.1 rfl (Nat.le_of_ble_eq_true rfl) dX10_image_21 ⟨Nat.zero_le _, Nat.zero_le _⟩ (fun rf12 H locs trf12 hH hS hF1 => ?_)
        have f13 := fv6.kept (hF1 _ fv6.lt (th_off t0 (by decide)))
        refine th_callVv (n := 1) (As := [.ref rf12]) S hK hH hS (th_A.sub (by decide)) (m_X7_copyFrom l D cT T q hq rf9 trf9 rf12 trf12) gm_809 gm_1203 gm_807 gm_808 gm_118 (by decide +kernel) ⟨rfl, rfl, Nat.le_of_ble_eq_true rfl, Nat.le_of_ble_eq_true rfl⟩ trf9 kd_10 rfl rfl hl.1 rfl (Nat.le_of_ble_eq_true rfl) dX10_image_24 ⟨Nat.zero_le _, Nat.zero_le _⟩ (fun H locs hH hS hF1 => ?_)
        have f14 := f13.kept (hF1 _ f13.lt (th_off t0 (by decide)))
        refine lv_aload_n hx hb dX10_image_27 rfl (lv_at hl 0 rfl) ?_
        refine lv_dup hx hb dX10_image_28 rfl ?_
        refine th_get S hK hH inG10 t0 kd_0 rfl 9 (by decide) gm_514 rfl rfl dX10_image_29 (fun v15 hv15 fv15 => ?_)
        obtain ⟨x16, rfl, ix16⟩ := th_V.int hv15
        refine lv_iconst (v := 1) hx hb dX10_image_32 (by decide) ?_
        refine lv_iload_n hx hb dX10_image_33 rfl (lv_at hl 1 rfl) ?_
        refine lv_ishl hx hb dX10_image_34 ?_
        refine lv_topi (fun x17 ex17 => ?_)
        have ix17 := iv_top x17
        refine lv_ior hx hb dX10_image_35 ?_
        refine lv_topi (fun x18 ex18 => ?_)
        have ix18 := iv_top x18
        refine th_put S hK hH hS ⟨0, by decide, t0⟩ inG10 tyX10 tyX10_ok nmX10 t0 kd_0 rfl 9 (by decide) gm_514 rfl rfl rfl rfl (th_iv ix18) (fun _ _ => trivial) (ty := .int) (by decide +kernel) rfl rfl dX10_image_36 (fun H locs hH hS hq1 hp1 => ?_)
        have f19 := hp1.2 8 _ (by decide) (by decide) f14
        have f20 := hp1.1
        refine lv_aload_n hx hb dX10_image_39 rfl (lv_at hl 0 rfl) ?_
        refine th_getK S hK f19 inG10 rfl (by decide) gm_513 rfl dX10_image_40 ?_
        refine lv_iload_n hx hb dX10_image_43 rfl (lv_at hl 1 rfl) ?_
        refine th_aald S hK hH trf7 kd_33 (th_in (hi := 2) ir5 (by decide)) dX10_image_44 (fun v22 hv22 => ?_)
        obtain ⟨rf23, rfl, trf23⟩ := th_V.ref hv22
        refine th_get S hK hH inG7 trf23 kd_10 rfl 0 (by decide) gm_231 rfl rfl dX10_image_45 (fun v24 hv24 fv24 => ?_)
        obtain ⟨rf25, rfl, trf25⟩ := th_V.ref hv24
        refine lv_bipush (v := 40) hx hb dX10_image_48 (by decide) ?_
        refine th_iald S hK hH trf25 kd_29 (th_in (hi := 40) (iv_w (iv_c (by decide) : IV 40 40 40) (by decide)) (by decide)) dX10_image_50 (fun v26 hv26 => ?_)
        obtain ⟨x27, rfl, ix27⟩ := th_V.int hv26
        exact th_iret S hK hH hS hr hlocks (th_R.i ix27) dX10_image_51
      · skip
        have ir28 : IV y1 3 2147483647 := iv_vR (iv_c (by decide) : IV 3 3 3) ir3 (iv_nlt c4) (by decide)
        exact J9 H locs ls  hH hS (lv_sub hl [] rfl)
  exact J0 s.heap [] ls hH va_S.rf hl

set_option maxRecDepth 100000 in
theorem m_X10_back (l : Launch) (D : va_G) (cT : Nat → ClassId) (T : Nat → Option Nat) (q : Nat → Int) (hT : tok T) (hqr : qokr q) (a0 : Nat) (t0 : T a0 = some 0) (y1 : Int32) (j1 : IV y1 (-2147483648) 2147483647) : th_MetX l D cT T q yX10_back cX10_back 2 (some .int) (rmk 3 102) [.ref a0, .int y1] (th_R T (some (.inl (-2147483648, 2147483647)))) [5, 29] := by
  refine th_startX (by decide) (Nat.le_of_ble_eq_true rfl) ?_
  have hq := hqr.1
  intro p e s m below meth c ls S hK hH hr hlocks hnm hl
  have hx := S.1
  have hb := S.2.1
  have hl : lv_has ls 2 [(0, .ref a0), (1, .int y1)] := hl
  have J20 : ∀ (H : Heap) (locs : List Loc) (ls : Array Slot), th_H D cT T (kd q) H → va_S (th_A T [5, 29]) s.heap H locs → lv_has ls 2 [] → W p l e (rmk 3 102) s m [.ref a0, .int y1].toArray below meth c H locs 0 0 (MQ below (th_QX D cT T q (th_R T (some (.inl (-2147483648, 2147483647)))) [5, 29]) [.ref a0, .int y1].toArray s 0 0 (th_A T [5, 29])) (F0 m 20 ls []) := by
    intro H locs ls hH hS hl
    refine lv_iconst (v := (-1)) hx hb dX10_back_20 (by decide) ?_
    exact th_iretX S hK hH hS hr hlocks hqr rfl (th_R.i (iv_top _)) dX10_back_21
  have J0 : ∀ (H : Heap) (locs : List Loc) (ls : Array Slot), th_H D cT T (kd q) H → va_S (th_A T [5, 29]) s.heap H locs → lv_has ls 2 [(0, .ref a0), (1, .int y1)] → W p l e (rmk 3 102) s m [.ref a0, .int y1].toArray below meth c H locs 0 0 (MQ below (th_QX D cT T q (th_R T (some (.inl (-2147483648, 2147483647)))) [5, 29]) [.ref a0, .int y1].toArray s 0 0 (th_A T [5, 29])) (F0 m 0 ls []) := by
    intro H locs ls hH hS hl
    refine lv_iload_n hx hb dX10_back_0 rfl (lv_at hl 1 rfl) ?_
    refine lv_if_lt (tgt := 20) hx hb dX10_back_1 (by decide) (fun c1 => ?_) (fun c1 => ?_)
    · skip
      have ir2 : IV y1 (-2147483648) (-1) := iv_uL j1 (iv_c (by decide) : IV 0 0 0) (iv_lt c1) (by decide)
      have ir2a := ir2.1
      have ir2b := ir2.2
      exact J20 H locs ls  hH hS (lv_sub hl [] rfl)
    · skip
      have ir3 : IV y1 0 2147483647 := iv_vR (iv_c (by decide) : IV 0 0 0) j1 (iv_nlt c1) (by decide)
      have ir3a := ir3.1
      have ir3b := ir3.2
      refine lv_iload_n hx hb dX10_back_4 rfl (lv_at hl 1 rfl) ?_
      refine lv_iconst (v := 3) hx hb dX10_back_5 (by decide) ?_
      refine lv_icmp_ge (tgt := 20) hx hb dX10_back_6 (by decide) (fun c4 => ?_) (fun c4 => ?_)
      · skip
        have ir5 : IV y1 3 2147483647 := iv_vR (iv_c (by decide) : IV 3 3 3) ir3 (iv_le c4) (by decide)
        have ir5a := ir5.1
        have ir5b := ir5.2
        exact J20 H locs ls  hH hS (lv_sub hl [] rfl)
      · skip
        have ir6 : IV y1 0 2 := iv_uL ir3 (iv_c (by decide) : IV 3 3 3) (iv_nle c4) (by decide)
        have ir6a := ir6.1
        have ir6b := ir6.2
        refine lv_aload_n hx hb dX10_back_9 rfl (lv_at hl 0 rfl) ?_
        refine th_get S hK hH inG10 t0 kd_0 rfl 9 (by decide) gm_514 rfl rfl dX10_back_10 (fun v7 hv7 fv7 => ?_)
        obtain ⟨x8, rfl, ix8⟩ := th_V.int hv7
        refine lv_iload_n hx hb dX10_back_13 rfl (lv_at hl 1 rfl) ?_
        refine lv_ishr hx hb dX10_back_14 ?_
        refine lv_topi (fun x9 ex9 => ?_)
        have ix9 := iv_top x9
        refine lv_iconst (v := 1) hx hb dX10_back_15 (by decide) ?_
        refine lv_iand hx hb dX10_back_16 ?_
        refine lv_topi (fun x10 ex10 => ?_)
        have ix10 : IV x10 0 1 := by rw [ex10]; exact iv_and (h2 := 1) (iv_w (iv_c (by decide) : IV 1 1 1) (by decide)) (by decide)
        refine lv_if_ne (tgt := 22) hx hb dX10_back_17 (by decide) (fun c11 => ?_) (fun c11 => ?_)
        · skip
          have ir12 : IV x10 1 1 := iv_cutL ix10 (iv_c (by decide) : IV 0 0 0) c11 (by decide)
          have ir12a := ir12.1
          have ir12b := ir12.2
          refine lv_aload_n hx hb dX10_back_22 rfl (lv_at hl 0 rfl) ?_
          refine th_get S hK hH inG10 t0 kd_0 rfl 4 (by decide) gm_509 rfl rfl dX10_back_23 (fun v13 hv13 fv13 => ?_)
          obtain ⟨rf14, rfl, trf14⟩ := th_V.ref hv13
          refine lv_aload_n hx hb dX10_back_26 rfl (lv_at hl 0 rfl) ?_
          refine th_get S hK hH inG10 t0 kd_0 rfl 8 (by decide) gm_513 rfl rfl dX10_back_27 (fun v15 hv15 fv15 => ?_)
          obtain ⟨rf16, rfl, trf16⟩ := th_V.ref hv15
          refine lv_iload_n hx hb dX10_back_30 rfl (lv_at hl 1 rfl) ?_
          refine th_aald S hK hH trf16 kd_33 (th_in (hi := 2) ir6 (by decide)) dX10_back_31 (fun v17 hv17 => ?_)
          obtain ⟨rf18, rfl, trf18⟩ := th_V.ref hv17
          refine th_callVX (n := 1) (As := [.ref rf18]) S hK hH hS (th_A.sub (by decide)) (m_X3_restart l D cT T q hT hqr rf14 trf14 rf18 trf18) gm_805 gm_802 gm_803 gm_804 gm_120 (by decide +kernel) ⟨rfl, rfl, Nat.le_of_ble_eq_true rfl, Nat.le_of_ble_eq_true rfl⟩ trf14 kd_5 rfl rfl hl.1 rfl (Nat.le_of_ble_eq_true rfl) dX10_back_32 ⟨Nat.zero_le _, Nat.zero_le _⟩ (fun wq19 q19 H locs hvq19 hrq19 h0q19 hH hS hF1 => ?_)
          have hvq19 : wq19 = none := hvq19
          subst hvq19
          have hqq19 := hrq19.1
          show W p l e (rmk 3 102) s m [.ref a0, .int y1].toArray below meth c H locs 0 0 (MQ below (th_QX D cT T q (th_R T (some (.inl (-2147483648, 2147483647)))) [5, 29]) [.ref a0, .int y1].toArray s 0 0 (th_A T [5, 29])) (F0 m 35 ls [])
          have f20 := fv15.kept (hF1 _ fv15.lt (th_off t0 (by decide)))
          refine lv_aload_n hx hb dX10_back_35 rfl (lv_at hl 0 rfl) ?_
          refine th_getK S hK f20 inG10 rfl (by decide) gm_513 rfl dX10_back_36 ?_
          refine lv_iload_n hx hb dX10_back_39 rfl (lv_at hl 1 rfl) ?_
          refine th_aald S hK hH trf16 kd_33 (th_in (hi := 2) ir6 (by decide)) dX10_back_40 (fun v22 hv22 => ?_)
          obtain ⟨rf23, rfl, trf23⟩ := th_V.ref hv22
          refine th_get S hK hH inG7 trf23 kd_10 rfl 0 (by decide) gm_231 rfl rfl dX10_back_41 (fun v24 hv24 fv24 => ?_)
          obtain ⟨rf25, rfl, trf25⟩ := th_V.ref hv24
          refine lv_bipush (v := 40) hx hb dX10_back_44 (by decide) ?_
          refine th_iald S hK hH trf25 kd_29 (th_in (hi := 40) (iv_w (iv_c (by decide) : IV 40 40 40) (by decide)) (by decide)) dX10_back_46 (fun v26 hv26 => ?_)
          obtain ⟨x27, rfl, ix27⟩ := th_V.int hv26
          exact th_iretX S hK hH hS hr hlocks hrq19 h0q19 (th_R.i ix27) dX10_back_47
        · skip
          have ir28 : IV x10 0 0 := iv_eL c11 (iv_c (by decide) : IV 0 0 0)
          have ir28a := ir28.1
          have ir28b := ir28.2
          exact J20 H locs ls  hH hS (lv_sub hl [] rfl)
  exact J0 s.heap [] ls hH va_S.rf hl
