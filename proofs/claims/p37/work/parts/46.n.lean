theorem dX11_landNow_0 : decode cX11_landNow 0 = .ok (.iconst 0, 1) := by decide +kernel
theorem dX11_landNow_1 : decode cX11_landNow 1 = .ok (.istore_n 1, 1) := by decide +kernel
theorem dX11_landNow_2 : decode cX11_landNow 2 = .ok (.iconst 0, 1) := by decide +kernel
theorem dX11_landNow_3 : decode cX11_landNow 3 = .ok (.istore_n 2, 1) := by decide +kernel
theorem dX11_landNow_4 : decode cX11_landNow 4 = .ok (.iload_n 2, 1) := by decide +kernel
theorem dX11_landNow_5 : decode cX11_landNow 5 = .ok (.aload_n 0, 1) := by decide +kernel
theorem dX11_landNow_6 : decode cX11_landNow 6 = .ok (.getfield 27, 3) := by decide +kernel
theorem dX11_landNow_9 : decode cX11_landNow 9 = .ok (.aload_n 0, 1) := by decide +kernel
theorem dX11_landNow_10 : decode cX11_landNow 10 = .ok (.getfield 273, 3) := by decide +kernel
theorem dX11_landNow_13 : decode cX11_landNow 13 = .ok (.iaload, 1) := by decide +kernel
theorem dX11_landNow_14 : decode cX11_landNow 14 = .ok (.if_icmp .ge 36, 3) := by decide +kernel
theorem dX11_landNow_17 : decode cX11_landNow 17 = .ok (.iload_n 1, 1) := by decide +kernel
theorem dX11_landNow_18 : decode cX11_landNow 18 = .ok (.aload_n 0, 1) := by decide +kernel
theorem dX11_landNow_19 : decode cX11_landNow 19 = .ok (.getfield 113, 3) := by decide +kernel
theorem dX11_landNow_22 : decode cX11_landNow 22 = .ok (.bipush 15, 2) := by decide +kernel
theorem dX11_landNow_24 : decode cX11_landNow 24 = .ok (.iload_n 2, 1) := by decide +kernel
theorem dX11_landNow_25 : decode cX11_landNow 25 = .ok (.iadd, 1) := by decide +kernel
theorem dX11_landNow_26 : decode cX11_landNow 26 = .ok (.iaload, 1) := by decide +kernel
theorem dX11_landNow_27 : decode cX11_landNow 27 = .ok (.aload_n 0, 1) := by decide +kernel
theorem dX11_landNow_28 : decode cX11_landNow 28 = .ok (.getfield 60, 3) := by decide +kernel
theorem dX11_landNow_31 : decode cX11_landNow 31 = .ok (.bipush 8, 2) := by decide +kernel
theorem dX11_landNow_33 : decode cX11_landNow 33 = .ok (.aload_n 0, 1) := by decide +kernel
theorem dX11_landNow_34 : decode cX11_landNow 34 = .ok (.getfield 273, 3) := by decide +kernel
theorem dX11_landNow_37 : decode cX11_landNow 37 = .ok (.imul, 1) := by decide +kernel
theorem dX11_landNow_38 : decode cX11_landNow 38 = .ok (.iload_n 2, 1) := by decide +kernel
theorem dX11_landNow_39 : decode cX11_landNow 39 = .ok (.iadd, 1) := by decide +kernel
theorem dX11_landNow_40 : decode cX11_landNow 40 = .ok (.iaload, 1) := by decide +kernel
theorem dX11_landNow_41 : decode cX11_landNow 41 = .ok (.imul, 1) := by decide +kernel
theorem dX11_landNow_42 : decode cX11_landNow 42 = .ok (.iadd, 1) := by decide +kernel
theorem dX11_landNow_43 : decode cX11_landNow 43 = .ok (.istore_n 1, 1) := by decide +kernel
theorem dX11_landNow_44 : decode cX11_landNow 44 = .ok (.iinc 2 1, 3) := by decide +kernel
theorem dX11_landNow_47 : decode cX11_landNow 47 = .ok (.goto (-43), 3) := by decide +kernel
theorem dX11_landNow_50 : decode cX11_landNow 50 = .ok (.iload_n 1, 1) := by decide +kernel
theorem dX11_landNow_51 : decode cX11_landNow 51 = .ok (.ireturn, 1) := by decide +kernel
theorem dX11_hungry_0 : decode cX11_hungry 0 = .ok (.iconst 0, 1) := by decide +kernel
theorem dX11_hungry_1 : decode cX11_hungry 1 = .ok (.istore_n 1, 1) := by decide +kernel
theorem dX11_hungry_2 : decode cX11_hungry 2 = .ok (.iconst 0, 1) := by decide +kernel
theorem dX11_hungry_3 : decode cX11_hungry 3 = .ok (.istore_n 2, 1) := by decide +kernel
theorem dX11_hungry_4 : decode cX11_hungry 4 = .ok (.iload_n 2, 1) := by decide +kernel
theorem dX11_hungry_5 : decode cX11_hungry 5 = .ok (.aload_n 0, 1) := by decide +kernel
theorem dX11_hungry_6 : decode cX11_hungry 6 = .ok (.invokevirtual 384, 3) := by decide +kernel
theorem dX11_hungry_9 : decode cX11_hungry 9 = .ok (.if_icmp .ge 28, 3) := by decide +kernel
theorem dX11_hungry_12 : decode cX11_hungry 12 = .ok (.aload_n 0, 1) := by decide +kernel
theorem dX11_hungry_13 : decode cX11_hungry 13 = .ok (.iload_n 2, 1) := by decide +kernel
theorem dX11_hungry_14 : decode cX11_hungry 14 = .ok (.invokevirtual 425, 3) := by decide +kernel
theorem dX11_hungry_17 : decode cX11_hungry 17 = .ok (.aload_n 0, 1) := by decide +kernel
theorem dX11_hungry_18 : decode cX11_hungry 18 = .ok (.iload_n 2, 1) := by decide +kernel
theorem dX11_hungry_19 : decode cX11_hungry 19 = .ok (.invokevirtual 422, 3) := by decide +kernel
theorem dX11_hungry_22 : decode cX11_hungry 22 = .ok (.if_icmp .ge 9, 3) := by decide +kernel
theorem dX11_hungry_25 : decode cX11_hungry 25 = .ok (.iload_n 1, 1) := by decide +kernel
theorem dX11_hungry_26 : decode cX11_hungry 26 = .ok (.iconst 1, 1) := by decide +kernel
theorem dX11_hungry_27 : decode cX11_hungry 27 = .ok (.iload_n 2, 1) := by decide +kernel
theorem dX11_hungry_28 : decode cX11_hungry 28 = .ok (.ishl, 1) := by decide +kernel
theorem dX11_hungry_29 : decode cX11_hungry 29 = .ok (.ior, 1) := by decide +kernel
theorem dX11_hungry_30 : decode cX11_hungry 30 = .ok (.istore_n 1, 1) := by decide +kernel
theorem dX11_hungry_31 : decode cX11_hungry 31 = .ok (.iinc 2 1, 3) := by decide +kernel
theorem dX11_hungry_34 : decode cX11_hungry 34 = .ok (.goto (-30), 3) := by decide +kernel
theorem dX11_hungry_37 : decode cX11_hungry 37 = .ok (.iload_n 1, 1) := by decide +kernel
theorem dX11_hungry_38 : decode cX11_hungry 38 = .ok (.ireturn, 1) := by decide +kernel
theorem dX11_needs_0 : decode cX11_needs 0 = .ok (.aload_n 0, 1) := by decide +kernel
theorem dX11_needs_1 : decode cX11_needs 1 = .ok (.iload_n 1, 1) := by decide +kernel
theorem dX11_needs_2 : decode cX11_needs 2 = .ok (.invokevirtual 440, 3) := by decide +kernel
theorem dX11_needs_5 : decode cX11_needs 5 = .ok (.ifCond .eq 11, 3) := by decide +kernel
theorem dX11_needs_8 : decode cX11_needs 8 = .ok (.aload_n 0, 1) := by decide +kernel
theorem dX11_needs_9 : decode cX11_needs 9 = .ok (.iload_n 2, 1) := by decide +kernel
theorem dX11_needs_10 : decode cX11_needs 10 = .ok (.invokevirtual 437, 3) := by decide +kernel
theorem dX11_needs_13 : decode cX11_needs 13 = .ok (.ifCond .ne 5, 3) := by decide +kernel
theorem dX11_needs_16 : decode cX11_needs 16 = .ok (.iconst (-1), 1) := by decide +kernel
theorem dX11_needs_17 : decode cX11_needs 17 = .ok (.ireturn, 1) := by decide +kernel
theorem dX11_needs_18 : decode cX11_needs 18 = .ok (.aload_n 0, 1) := by decide +kernel
theorem dX11_needs_19 : decode cX11_needs 19 = .ok (.iload_n 1, 1) := by decide +kernel
theorem dX11_needs_20 : decode cX11_needs 20 = .ok (.invokevirtual 422, 3) := by decide +kernel
theorem dX11_needs_23 : decode cX11_needs 23 = .ok (.aload_n 0, 1) := by decide +kernel
theorem dX11_needs_24 : decode cX11_needs 24 = .ok (.iload_n 1, 1) := by decide +kernel
theorem dX11_needs_25 : decode cX11_needs 25 = .ok (.invokevirtual 425, 3) := by decide +kernel
theorem dX11_needs_28 : decode cX11_needs 28 = .ok (.isub, 1) := by decide +kernel
theorem dX11_needs_29 : decode cX11_needs 29 = .ok (.istore_n 3, 1) := by decide +kernel
theorem dX11_needs_30 : decode cX11_needs 30 = .ok (.aload_n 0, 1) := by decide +kernel
theorem dX11_needs_31 : decode cX11_needs 31 = .ok (.iload_n 1, 1) := by decide +kernel
theorem dX11_needs_32 : decode cX11_needs 32 = .ok (.iload_n 2, 1) := by decide +kernel
theorem dX11_needs_33 : decode cX11_needs 33 = .ok (.invokevirtual 413, 3) := by decide +kernel
theorem dX11_needs_36 : decode cX11_needs 36 = .ok (.istore 4, 2) := by decide +kernel
theorem dX11_needs_38 : decode cX11_needs 38 = .ok (.iload_n 3, 1) := by decide +kernel
theorem dX11_needs_39 : decode cX11_needs 39 = .ok (.ifCond .gt 5, 3) := by decide +kernel
theorem dX11_needs_42 : decode cX11_needs 42 = .ok (.iconst 0, 1) := by decide +kernel
theorem dX11_needs_43 : decode cX11_needs 43 = .ok (.ireturn, 1) := by decide +kernel
theorem dX11_needs_44 : decode cX11_needs 44 = .ok (.iload 4, 2) := by decide +kernel
theorem dX11_needs_46 : decode cX11_needs 46 = .ok (.ifCond .ne 7, 3) := by decide +kernel
theorem dX11_needs_49 : decode cX11_needs 49 = .ok (.iconst (-1), 1) := by decide +kernel
theorem dX11_needs_50 : decode cX11_needs 50 = .ok (.goto 12, 3) := by decide +kernel
theorem dX11_needs_53 : decode cX11_needs 53 = .ok (.iload_n 3, 1) := by decide +kernel
theorem dX11_needs_54 : decode cX11_needs 54 = .ok (.iload 4, 2) := by decide +kernel
theorem dX11_needs_56 : decode cX11_needs 56 = .ok (.iadd, 1) := by decide +kernel
theorem dX11_needs_57 : decode cX11_needs 57 = .ok (.iconst 1, 1) := by decide +kernel
theorem dX11_needs_58 : decode cX11_needs 58 = .ok (.isub, 1) := by decide +kernel
theorem dX11_needs_59 : decode cX11_needs 59 = .ok (.iload 4, 2) := by decide +kernel
theorem dX11_needs_61 : decode cX11_needs 61 = .ok (.idiv, 1) := by decide +kernel
theorem dX11_needs_62 : decode cX11_needs 62 = .ok (.ireturn, 1) := by decide +kernel
theorem dX11_over_0 : decode cX11_over 0 = .ok (.aload_n 0, 1) := by decide +kernel
theorem dX11_over_1 : decode cX11_over 1 = .ok (.iload_n 1, 1) := by decide +kernel
theorem dX11_over_2 : decode cX11_over 2 = .ok (.invokevirtual 440, 3) := by decide +kernel
theorem dX11_over_5 : decode cX11_over 5 = .ok (.ifCond .ne 5, 3) := by decide +kernel
theorem dX11_over_8 : decode cX11_over 8 = .ok (.iconst (-1), 1) := by decide +kernel
theorem dX11_over_9 : decode cX11_over 9 = .ok (.ireturn, 1) := by decide +kernel
theorem dX11_over_10 : decode cX11_over 10 = .ok (.aload_n 0, 1) := by decide +kernel
theorem dX11_over_11 : decode cX11_over 11 = .ok (.iload_n 1, 1) := by decide +kernel
theorem dX11_over_12 : decode cX11_over 12 = .ok (.invokevirtual 425, 3) := by decide +kernel
theorem dX11_over_15 : decode cX11_over 15 = .ok (.aload_n 0, 1) := by decide +kernel
theorem dX11_over_16 : decode cX11_over 16 = .ok (.iload_n 1, 1) := by decide +kernel
theorem dX11_over_17 : decode cX11_over 17 = .ok (.invokevirtual 422, 3) := by decide +kernel
theorem dX11_over_20 : decode cX11_over 20 = .ok (.isub, 1) := by decide +kernel
theorem dX11_over_21 : decode cX11_over 21 = .ok (.istore_n 2, 1) := by decide +kernel
theorem dX11_over_22 : decode cX11_over 22 = .ok (.iload_n 2, 1) := by decide +kernel
theorem dX11_over_23 : decode cX11_over 23 = .ok (.ifCond .ge 7, 3) := by decide +kernel
theorem dX11_over_26 : decode cX11_over 26 = .ok (.iconst 0, 1) := by decide +kernel
theorem dX11_over_27 : decode cX11_over 27 = .ok (.goto 4, 3) := by decide +kernel
theorem dX11_over_30 : decode cX11_over 30 = .ok (.iload_n 2, 1) := by decide +kernel
theorem dX11_over_31 : decode cX11_over 31 = .ok (.ireturn, 1) := by decide +kernel
theorem dX11_bitesIn_0 : decode cX11_bitesIn 0 = .ok (.aload_n 0, 1) := by decide +kernel
theorem dX11_bitesIn_1 : decode cX11_bitesIn 1 = .ok (.iload_n 1, 1) := by decide +kernel
theorem dX11_bitesIn_2 : decode cX11_bitesIn 2 = .ok (.invokevirtual 440, 3) := by decide +kernel
theorem dX11_bitesIn_5 : decode cX11_bitesIn 5 = .ok (.ifCond .ne 5, 3) := by decide +kernel
theorem dX11_bitesIn_8 : decode cX11_bitesIn 8 = .ok (.iconst (-1), 1) := by decide +kernel
theorem dX11_bitesIn_9 : decode cX11_bitesIn 9 = .ok (.ireturn, 1) := by decide +kernel
theorem dX11_bitesIn_10 : decode cX11_bitesIn 10 = .ok (.aload_n 0, 1) := by decide +kernel
theorem dX11_bitesIn_11 : decode cX11_bitesIn 11 = .ok (.invokevirtual 453, 3) := by decide +kernel
theorem dX11_bitesIn_14 : decode cX11_bitesIn 14 = .ok (.iconst 0, 1) := by decide +kernel
theorem dX11_bitesIn_15 : decode cX11_bitesIn 15 = .ok (.istore_n 2, 1) := by decide +kernel
theorem dX11_bitesIn_16 : decode cX11_bitesIn 16 = .ok (.iload_n 2, 1) := by decide +kernel
theorem dX11_bitesIn_17 : decode cX11_bitesIn 17 = .ok (.bipush 30, 2) := by decide +kernel
theorem dX11_bitesIn_19 : decode cX11_bitesIn 19 = .ok (.if_icmp .ge 34, 3) := by decide +kernel
theorem dX11_bitesIn_22 : decode cX11_bitesIn 22 = .ok (.aload_n 0, 1) := by decide +kernel
theorem dX11_bitesIn_23 : decode cX11_bitesIn 23 = .ok (.getfield 113, 3) := by decide +kernel
theorem dX11_bitesIn_26 : decode cX11_bitesIn 26 = .ok (.bipush 31, 2) := by decide +kernel
theorem dX11_bitesIn_28 : decode cX11_bitesIn 28 = .ok (.iload_n 1, 1) := by decide +kernel
theorem dX11_bitesIn_29 : decode cX11_bitesIn 29 = .ok (.iadd, 1) := by decide +kernel
theorem dX11_bitesIn_30 : decode cX11_bitesIn 30 = .ok (.iaload, 1) := by decide +kernel
theorem dX11_bitesIn_31 : decode cX11_bitesIn 31 = .ok (.aload_n 0, 1) := by decide +kernel
theorem dX11_bitesIn_32 : decode cX11_bitesIn 32 = .ok (.getfield 119, 3) := by decide +kernel
theorem dX11_bitesIn_35 : decode cX11_bitesIn 35 = .ok (.bipush 31, 2) := by decide +kernel
theorem dX11_bitesIn_37 : decode cX11_bitesIn 37 = .ok (.iload_n 1, 1) := by decide +kernel
theorem dX11_bitesIn_38 : decode cX11_bitesIn 38 = .ok (.iadd, 1) := by decide +kernel
theorem dX11_bitesIn_39 : decode cX11_bitesIn 39 = .ok (.iaload, 1) := by decide +kernel
theorem dX11_bitesIn_40 : decode cX11_bitesIn 40 = .ok (.if_icmp .ne 13, 3) := by decide +kernel
theorem dX11_bitesIn_43 : decode cX11_bitesIn 43 = .ok (.aload_n 0, 1) := by decide +kernel
theorem dX11_bitesIn_44 : decode cX11_bitesIn 44 = .ok (.invokevirtual 456, 3) := by decide +kernel
theorem dX11_bitesIn_47 : decode cX11_bitesIn 47 = .ok (.iinc 2 1, 3) := by decide +kernel
theorem dX11_bitesIn_50 : decode cX11_bitesIn 50 = .ok (.goto (-34), 3) := by decide +kernel
theorem dX11_bitesIn_53 : decode cX11_bitesIn 53 = .ok (.aload_n 0, 1) := by decide +kernel
theorem dX11_bitesIn_54 : decode cX11_bitesIn 54 = .ok (.getfield 113, 3) := by decide +kernel
theorem dX11_bitesIn_57 : decode cX11_bitesIn 57 = .ok (.bipush 31, 2) := by decide +kernel
theorem dX11_bitesIn_59 : decode cX11_bitesIn 59 = .ok (.iload_n 1, 1) := by decide +kernel
theorem dX11_bitesIn_60 : decode cX11_bitesIn 60 = .ok (.iadd, 1) := by decide +kernel
theorem dX11_bitesIn_61 : decode cX11_bitesIn 61 = .ok (.iaload, 1) := by decide +kernel
theorem dX11_bitesIn_62 : decode cX11_bitesIn 62 = .ok (.aload_n 0, 1) := by decide +kernel
theorem dX11_bitesIn_63 : decode cX11_bitesIn 63 = .ok (.getfield 119, 3) := by decide +kernel
theorem dX11_bitesIn_66 : decode cX11_bitesIn 66 = .ok (.bipush 31, 2) := by decide +kernel
theorem dX11_bitesIn_68 : decode cX11_bitesIn 68 = .ok (.iload_n 1, 1) := by decide +kernel
theorem dX11_bitesIn_69 : decode cX11_bitesIn 69 = .ok (.iadd, 1) := by decide +kernel
theorem dX11_bitesIn_70 : decode cX11_bitesIn 70 = .ok (.iaload, 1) := by decide +kernel
theorem dX11_bitesIn_71 : decode cX11_bitesIn 71 = .ok (.if_icmp .le 7, 3) := by decide +kernel
theorem dX11_bitesIn_74 : decode cX11_bitesIn 74 = .ok (.iconst 1, 1) := by decide +kernel
theorem dX11_bitesIn_75 : decode cX11_bitesIn 75 = .ok (.goto 4, 3) := by decide +kernel
theorem dX11_bitesIn_78 : decode cX11_bitesIn 78 = .ok (.iconst 0, 1) := by decide +kernel
theorem dX11_bitesIn_79 : decode cX11_bitesIn 79 = .ok (.istore_n 3, 1) := by decide +kernel
theorem dX11_bitesIn_80 : decode cX11_bitesIn 80 = .ok (.aload_n 0, 1) := by decide +kernel
theorem dX11_bitesIn_81 : decode cX11_bitesIn 81 = .ok (.invokevirtual 468, 3) := by decide +kernel
theorem dX11_bitesIn_84 : decode cX11_bitesIn 84 = .ok (.iload_n 3, 1) := by decide +kernel
theorem dX11_bitesIn_85 : decode cX11_bitesIn 85 = .ok (.ifCond .eq 9, 3) := by decide +kernel
theorem dX11_bitesIn_88 : decode cX11_bitesIn 88 = .ok (.iload_n 2, 1) := by decide +kernel
theorem dX11_bitesIn_89 : decode cX11_bitesIn 89 = .ok (.iconst 1, 1) := by decide +kernel
theorem dX11_bitesIn_90 : decode cX11_bitesIn 90 = .ok (.isub, 1) := by decide +kernel
theorem dX11_bitesIn_91 : decode cX11_bitesIn 91 = .ok (.goto 4, 3) := by decide +kernel
theorem dX11_bitesIn_94 : decode cX11_bitesIn 94 = .ok (.iconst (-1), 1) := by decide +kernel
theorem dX11_bitesIn_95 : decode cX11_bitesIn 95 = .ok (.ireturn, 1) := by decide +kernel
theorem dX11_will_0 : decode cX11_will 0 = .ok (.aload_n 0, 1) := by decide +kernel
theorem dX11_will_1 : decode cX11_will 1 = .ok (.iload_n 1, 1) := by decide +kernel
theorem dX11_will_2 : decode cX11_will 2 = .ok (.invokevirtual 446, 3) := by decide +kernel
theorem dX11_will_5 : decode cX11_will 5 = .ok (.ifCond .eq 13, 3) := by decide +kernel
theorem dX11_will_8 : decode cX11_will 8 = .ok (.iload_n 2, 1) := by decide +kernel
theorem dX11_will_9 : decode cX11_will 9 = .ok (.iconst 0, 1) := by decide +kernel
theorem dX11_will_10 : decode cX11_will 10 = .ok (.bipush 40, 2) := by decide +kernel
theorem dX11_will_12 : decode cX11_will 12 = .ok (.invokestatic 387, 3) := by decide +kernel
theorem dX11_will_15 : decode cX11_will 15 = .ok (.ifCond .ne 5, 3) := by decide +kernel
theorem dX11_will_18 : decode cX11_will 18 = .ok (.iconst (-1), 1) := by decide +kernel
theorem dX11_will_19 : decode cX11_will 19 = .ok (.ireturn, 1) := by decide +kernel
theorem dX11_will_20 : decode cX11_will 20 = .ok (.aload_n 0, 1) := by decide +kernel
theorem dX11_will_21 : decode cX11_will 21 = .ok (.invokevirtual 453, 3) := by decide +kernel
theorem dX11_will_24 : decode cX11_will 24 = .ok (.iconst 0, 1) := by decide +kernel
theorem dX11_will_25 : decode cX11_will 25 = .ok (.istore_n 3, 1) := by decide +kernel
theorem dX11_will_26 : decode cX11_will 26 = .ok (.iload_n 3, 1) := by decide +kernel
theorem dX11_will_27 : decode cX11_will 27 = .ok (.iload_n 2, 1) := by decide +kernel
theorem dX11_will_28 : decode cX11_will 28 = .ok (.if_icmp .ge 13, 3) := by decide +kernel
theorem dX11_will_31 : decode cX11_will 31 = .ok (.aload_n 0, 1) := by decide +kernel
theorem dX11_will_32 : decode cX11_will 32 = .ok (.invokevirtual 456, 3) := by decide +kernel
theorem dX11_will_35 : decode cX11_will 35 = .ok (.iinc 3 1, 3) := by decide +kernel
theorem dX11_will_38 : decode cX11_will 38 = .ok (.goto (-12), 3) := by decide +kernel
theorem dX11_will_41 : decode cX11_will 41 = .ok (.aload_n 0, 1) := by decide +kernel
theorem dX11_will_42 : decode cX11_will 42 = .ok (.getfield 113, 3) := by decide +kernel
theorem dX11_will_45 : decode cX11_will 45 = .ok (.bipush 15, 2) := by decide +kernel
theorem dX11_will_47 : decode cX11_will 47 = .ok (.iload_n 1, 1) := by decide +kernel
theorem dX11_will_48 : decode cX11_will 48 = .ok (.iadd, 1) := by decide +kernel
theorem dX11_will_49 : decode cX11_will 49 = .ok (.iaload, 1) := by decide +kernel
theorem dX11_will_50 : decode cX11_will 50 = .ok (.istore_n 3, 1) := by decide +kernel
theorem dX11_will_51 : decode cX11_will 51 = .ok (.aload_n 0, 1) := by decide +kernel
theorem dX11_will_52 : decode cX11_will 52 = .ok (.invokevirtual 468, 3) := by decide +kernel
theorem dX11_will_55 : decode cX11_will 55 = .ok (.iload_n 3, 1) := by decide +kernel
theorem dX11_will_56 : decode cX11_will 56 = .ok (.ireturn, 1) := by decide +kernel
theorem dX11_doom_0 : decode cX11_doom 0 = .ok (.iload_n 1, 1) := by decide +kernel
theorem dX11_doom_1 : decode cX11_doom 1 = .ok (.iconst 0, 1) := by decide +kernel
theorem dX11_doom_2 : decode cX11_doom 2 = .ok (.iconst 1, 1) := by decide +kernel
theorem dX11_doom_3 : decode cX11_doom 3 = .ok (.invokestatic 387, 3) := by decide +kernel
theorem dX11_doom_6 : decode cX11_doom 6 = .ok (.ifCond .ne 5, 3) := by decide +kernel
theorem dX11_doom_9 : decode cX11_doom 9 = .ok (.iconst (-1), 1) := by decide +kernel
theorem dX11_doom_10 : decode cX11_doom 10 = .ok (.ireturn, 1) := by decide +kernel
theorem dX11_doom_11 : decode cX11_doom 11 = .ok (.aload_n 0, 1) := by decide +kernel
theorem dX11_doom_12 : decode cX11_doom 12 = .ok (.invokevirtual 453, 3) := by decide +kernel
theorem dX11_doom_15 : decode cX11_doom 15 = .ok (.iconst 0, 1) := by decide +kernel
theorem dX11_doom_16 : decode cX11_doom 16 = .ok (.istore_n 2, 1) := by decide +kernel
theorem dX11_doom_17 : decode cX11_doom 17 = .ok (.iload_n 2, 1) := by decide +kernel
theorem dX11_doom_18 : decode cX11_doom 18 = .ok (.bipush 30, 2) := by decide +kernel
theorem dX11_doom_20 : decode cX11_doom 20 = .ok (.if_icmp .ge 20, 3) := by decide +kernel
theorem dX11_doom_23 : decode cX11_doom 23 = .ok (.aload_n 0, 1) := by decide +kernel
theorem dX11_doom_24 : decode cX11_doom 24 = .ok (.invokevirtual 471, 3) := by decide +kernel
theorem dX11_doom_27 : decode cX11_doom 27 = .ok (.ifCond .ne 13, 3) := by decide +kernel
theorem dX11_doom_30 : decode cX11_doom 30 = .ok (.aload_n 0, 1) := by decide +kernel
theorem dX11_doom_31 : decode cX11_doom 31 = .ok (.invokevirtual 456, 3) := by decide +kernel
theorem dX11_doom_34 : decode cX11_doom 34 = .ok (.iinc 2 1, 3) := by decide +kernel
theorem dX11_doom_37 : decode cX11_doom 37 = .ok (.goto (-20), 3) := by decide +kernel
theorem dX11_doom_40 : decode cX11_doom 40 = .ok (.aload_n 0, 1) := by decide +kernel
theorem dX11_doom_41 : decode cX11_doom 41 = .ok (.invokevirtual 471, 3) := by decide +kernel
theorem dX11_doom_44 : decode cX11_doom 44 = .ok (.istore_n 3, 1) := by decide +kernel
theorem dX11_doom_45 : decode cX11_doom 45 = .ok (.aload_n 0, 1) := by decide +kernel
theorem dX11_doom_46 : decode cX11_doom 46 = .ok (.invokevirtual 468, 3) := by decide +kernel
theorem dX11_doom_49 : decode cX11_doom 49 = .ok (.iload_n 3, 1) := by decide +kernel
theorem dX11_doom_50 : decode cX11_doom 50 = .ok (.ifCond .ne 5, 3) := by decide +kernel
theorem dX11_doom_53 : decode cX11_doom 53 = .ok (.iconst (-1), 1) := by decide +kernel
theorem dX11_doom_54 : decode cX11_doom 54 = .ok (.ireturn, 1) := by decide +kernel
theorem dX11_doom_55 : decode cX11_doom 55 = .ok (.iconst 0, 1) := by decide +kernel
theorem dX11_doom_56 : decode cX11_doom 56 = .ok (.istore 4, 2) := by decide +kernel
theorem dX11_doom_58 : decode cX11_doom 58 = .ok (.iload_n 3, 1) := by decide +kernel
theorem dX11_doom_59 : decode cX11_doom 59 = .ok (.iload 4, 2) := by decide +kernel
theorem dX11_doom_61 : decode cX11_doom 61 = .ok (.invokestatic 391, 3) := by decide +kernel
theorem dX11_doom_64 : decode cX11_doom 64 = .ok (.ifCond .ne 9, 3) := by decide +kernel
theorem dX11_doom_67 : decode cX11_doom 67 = .ok (.iinc 4 1, 3) := by decide +kernel
theorem dX11_doom_70 : decode cX11_doom 70 = .ok (.goto (-12), 3) := by decide +kernel
theorem dX11_doom_73 : decode cX11_doom 73 = .ok (.iload_n 1, 1) := by decide +kernel
theorem dX11_doom_74 : decode cX11_doom 74 = .ok (.ifCond .ne 7, 3) := by decide +kernel
theorem dX11_doom_77 : decode cX11_doom 77 = .ok (.iload_n 2, 1) := by decide +kernel
theorem dX11_doom_78 : decode cX11_doom 78 = .ok (.goto 5, 3) := by decide +kernel
theorem dX11_doom_81 : decode cX11_doom 81 = .ok (.iload 4, 2) := by decide +kernel
theorem dX11_doom_83 : decode cX11_doom 83 = .ok (.ireturn, 1) := by decide +kernel
theorem dX11_bitten_0 : decode cX11_bitten 0 = .ok (.aload_n 0, 1) := by decide +kernel
theorem dX11_bitten_1 : decode cX11_bitten 1 = .ok (.invokevirtual 453, 3) := by decide +kernel
theorem dX11_bitten_4 : decode cX11_bitten 4 = .ok (.aload_n 0, 1) := by decide +kernel
theorem dX11_bitten_5 : decode cX11_bitten 5 = .ok (.invokevirtual 456, 3) := by decide +kernel
theorem dX11_bitten_8 : decode cX11_bitten 8 = .ok (.aload_n 0, 1) := by decide +kernel
theorem dX11_bitten_9 : decode cX11_bitten 9 = .ok (.invokevirtual 459, 3) := by decide +kernel
theorem dX11_bitten_12 : decode cX11_bitten 12 = .ok (.istore_n 1, 1) := by decide +kernel
theorem dX11_bitten_13 : decode cX11_bitten 13 = .ok (.aload_n 0, 1) := by decide +kernel
theorem dX11_bitten_14 : decode cX11_bitten 14 = .ok (.invokevirtual 468, 3) := by decide +kernel
theorem dX11_bitten_17 : decode cX11_bitten 17 = .ok (.iload_n 1, 1) := by decide +kernel
theorem dX11_bitten_18 : decode cX11_bitten 18 = .ok (.ireturn, 1) := by decide +kernel
theorem dX11_gone_0 : decode cX11_gone 0 = .ok (.iconst 0, 1) := by decide +kernel
theorem dX11_gone_1 : decode cX11_gone 1 = .ok (.istore_n 1, 1) := by decide +kernel
theorem dX11_gone_2 : decode cX11_gone 2 = .ok (.iconst 0, 1) := by decide +kernel
theorem dX11_gone_3 : decode cX11_gone 3 = .ok (.istore_n 2, 1) := by decide +kernel
theorem dX11_gone_4 : decode cX11_gone 4 = .ok (.iload_n 2, 1) := by decide +kernel
theorem dX11_gone_5 : decode cX11_gone 5 = .ok (.aload_n 0, 1) := by decide +kernel
theorem dX11_gone_6 : decode cX11_gone 6 = .ok (.getfield 27, 3) := by decide +kernel
theorem dX11_gone_9 : decode cX11_gone 9 = .ok (.aload_n 0, 1) := by decide +kernel
theorem dX11_gone_10 : decode cX11_gone 10 = .ok (.getfield 273, 3) := by decide +kernel
theorem dX11_gone_13 : decode cX11_gone 13 = .ok (.iaload, 1) := by decide +kernel
theorem dX11_gone_14 : decode cX11_gone 14 = .ok (.if_icmp .ge 27, 3) := by decide +kernel
theorem dX11_gone_17 : decode cX11_gone 17 = .ok (.aload_n 0, 1) := by decide +kernel
theorem dX11_gone_18 : decode cX11_gone 18 = .ok (.getfield 113, 3) := by decide +kernel
theorem dX11_gone_21 : decode cX11_gone 21 = .ok (.bipush 15, 2) := by decide +kernel
theorem dX11_gone_23 : decode cX11_gone 23 = .ok (.iload_n 2, 1) := by decide +kernel
theorem dX11_gone_24 : decode cX11_gone 24 = .ok (.iadd, 1) := by decide +kernel
theorem dX11_gone_25 : decode cX11_gone 25 = .ok (.iaload, 1) := by decide +kernel
theorem dX11_gone_26 : decode cX11_gone 26 = .ok (.ifCond .ne 9, 3) := by decide +kernel
theorem dX11_gone_29 : decode cX11_gone 29 = .ok (.iload_n 1, 1) := by decide +kernel
theorem dX11_gone_30 : decode cX11_gone 30 = .ok (.iconst 1, 1) := by decide +kernel
theorem dX11_gone_31 : decode cX11_gone 31 = .ok (.iload_n 2, 1) := by decide +kernel
theorem dX11_gone_32 : decode cX11_gone 32 = .ok (.ishl, 1) := by decide +kernel
theorem dX11_gone_33 : decode cX11_gone 33 = .ok (.ior, 1) := by decide +kernel
theorem dX11_gone_34 : decode cX11_gone 34 = .ok (.istore_n 1, 1) := by decide +kernel
theorem dX11_gone_35 : decode cX11_gone 35 = .ok (.iinc 2 1, 3) := by decide +kernel
theorem dX11_gone_38 : decode cX11_gone 38 = .ok (.goto (-34), 3) := by decide +kernel
theorem dX11_gone_41 : decode cX11_gone 41 = .ok (.iload_n 1, 1) := by decide +kernel
theorem dX11_gone_42 : decode cX11_gone 42 = .ok (.ireturn, 1) := by decide +kernel
theorem dX11_land_0 : decode cX11_land 0 = .ok (.iload_n 1, 1) := by decide +kernel
theorem dX11_land_1 : decode cX11_land 1 = .ok (.iconst 0, 1) := by decide +kernel
theorem dX11_land_2 : decode cX11_land 2 = .ok (.bipush 40, 2) := by decide +kernel
theorem dX11_land_4 : decode cX11_land 4 = .ok (.invokestatic 387, 3) := by decide +kernel
theorem dX11_land_7 : decode cX11_land 7 = .ok (.ifCond .ne 5, 3) := by decide +kernel
theorem dX11_land_10 : decode cX11_land 10 = .ok (.iconst (-1), 1) := by decide +kernel
theorem dX11_land_11 : decode cX11_land 11 = .ok (.ireturn, 1) := by decide +kernel
theorem dX11_land_12 : decode cX11_land 12 = .ok (.aload_n 0, 1) := by decide +kernel
theorem dX11_land_13 : decode cX11_land 13 = .ok (.invokevirtual 453, 3) := by decide +kernel
theorem dX11_land_16 : decode cX11_land 16 = .ok (.iconst 0, 1) := by decide +kernel
theorem dX11_land_17 : decode cX11_land 17 = .ok (.istore_n 2, 1) := by decide +kernel
theorem dX11_land_18 : decode cX11_land 18 = .ok (.iload_n 2, 1) := by decide +kernel
theorem dX11_land_19 : decode cX11_land 19 = .ok (.iload_n 1, 1) := by decide +kernel
theorem dX11_land_20 : decode cX11_land 20 = .ok (.if_icmp .ge 13, 3) := by decide +kernel
theorem dX11_land_23 : decode cX11_land 23 = .ok (.aload_n 0, 1) := by decide +kernel
theorem dX11_land_24 : decode cX11_land 24 = .ok (.invokevirtual 456, 3) := by decide +kernel
theorem dX11_land_27 : decode cX11_land 27 = .ok (.iinc 2 1, 3) := by decide +kernel
theorem dX11_land_30 : decode cX11_land 30 = .ok (.goto (-12), 3) := by decide +kernel
theorem dX11_land_33 : decode cX11_land 33 = .ok (.aload_n 0, 1) := by decide +kernel
theorem dX11_land_34 : decode cX11_land 34 = .ok (.invokevirtual 474, 3) := by decide +kernel
theorem dX11_land_37 : decode cX11_land 37 = .ok (.istore_n 2, 1) := by decide +kernel
theorem dX11_land_38 : decode cX11_land 38 = .ok (.aload_n 0, 1) := by decide +kernel
theorem dX11_land_39 : decode cX11_land 39 = .ok (.invokevirtual 468, 3) := by decide +kernel
theorem dX11_land_42 : decode cX11_land 42 = .ok (.iload_n 2, 1) := by decide +kernel
theorem dX11_land_43 : decode cX11_land 43 = .ok (.ireturn, 1) := by decide +kernel
theorem dX11_lies_0 : decode cX11_lies 0 = .ok (.iload_n 1, 1) := by decide +kernel
theorem dX11_lies_1 : decode cX11_lies 1 = .ok (.iconst 0, 1) := by decide +kernel
theorem dX11_lies_2 : decode cX11_lies 2 = .ok (.aload_n 0, 1) := by decide +kernel
theorem dX11_lies_3 : decode cX11_lies 3 = .ok (.getfield 404, 3) := by decide +kernel
theorem dX11_lies_6 : decode cX11_lies 6 = .ok (.iconst 1, 1) := by decide +kernel
theorem dX11_lies_7 : decode cX11_lies 7 = .ok (.isub, 1) := by decide +kernel
theorem dX11_lies_8 : decode cX11_lies 8 = .ok (.invokestatic 387, 3) := by decide +kernel
theorem dX11_lies_11 : decode cX11_lies 11 = .ok (.ifCond .eq 12, 3) := by decide +kernel
theorem dX11_lies_14 : decode cX11_lies 14 = .ok (.aload_n 0, 1) := by decide +kernel
theorem dX11_lies_15 : decode cX11_lies 15 = .ok (.getfield 122, 3) := by decide +kernel
theorem dX11_lies_18 : decode cX11_lies 18 = .ok (.iload_n 1, 1) := by decide +kernel
theorem dX11_lies_19 : decode cX11_lies 19 = .ok (.iaload, 1) := by decide +kernel
theorem dX11_lies_20 : decode cX11_lies 20 = .ok (.goto 4, 3) := by decide +kernel
theorem dX11_lies_23 : decode cX11_lies 23 = .ok (.iconst (-1), 1) := by decide +kernel
theorem dX11_lies_24 : decode cX11_lies 24 = .ok (.ireturn, 1) := by decide +kernel
theorem dX11_firstWay_0 : decode cX11_firstWay 0 = .ok (.iconst 0, 1) := by decide +kernel
theorem dX11_firstWay_1 : decode cX11_firstWay 1 = .ok (.istore_n 2, 1) := by decide +kernel
theorem dX11_firstWay_2 : decode cX11_firstWay 2 = .ok (.iload_n 2, 1) := by decide +kernel
theorem dX11_firstWay_3 : decode cX11_firstWay 3 = .ok (.iconst 4, 1) := by decide +kernel
theorem dX11_firstWay_4 : decode cX11_firstWay 4 = .ok (.if_icmp .ge 16, 3) := by decide +kernel
theorem dX11_firstWay_7 : decode cX11_firstWay 7 = .ok (.aload_n 0, 1) := by decide +kernel
theorem dX11_firstWay_8 : decode cX11_firstWay 8 = .ok (.getfield 125, 3) := by decide +kernel
theorem dX11_firstWay_11 : decode cX11_firstWay 11 = .ok (.iload_n 2, 1) := by decide +kernel
theorem dX11_firstWay_12 : decode cX11_firstWay 12 = .ok (.iconst 0, 1) := by decide +kernel
theorem dX11_firstWay_13 : decode cX11_firstWay 13 = .ok (.iastore, 1) := by decide +kernel
theorem dX11_firstWay_14 : decode cX11_firstWay 14 = .ok (.iinc 2 1, 3) := by decide +kernel
theorem dX11_firstWay_17 : decode cX11_firstWay 17 = .ok (.goto (-15), 3) := by decide +kernel
theorem dX11_firstWay_20 : decode cX11_firstWay 20 = .ok (.aload_n 0, 1) := by decide +kernel
theorem dX11_firstWay_21 : decode cX11_firstWay 21 = .ok (.getfield 125, 3) := by decide +kernel
theorem dX11_firstWay_24 : decode cX11_firstWay 24 = .ok (.aload_n 0, 1) := by decide +kernel
theorem dX11_firstWay_25 : decode cX11_firstWay 25 = .ok (.invokevirtual 384, 3) := by decide +kernel
theorem dX11_firstWay_28 : decode cX11_firstWay 28 = .ok (.iconst 1, 1) := by decide +kernel
theorem dX11_firstWay_29 : decode cX11_firstWay 29 = .ok (.isub, 1) := by decide +kernel
theorem dX11_firstWay_30 : decode cX11_firstWay 30 = .ok (.iload_n 1, 1) := by decide +kernel
theorem dX11_firstWay_31 : decode cX11_firstWay 31 = .ok (.iastore, 1) := by decide +kernel
theorem dX11_firstWay_32 : decode cX11_firstWay 32 = .ok (.return_, 1) := by decide +kernel
theorem dX11_nextWay_0 : decode cX11_nextWay 0 = .ok (.aload_n 0, 1) := by decide +kernel
theorem dX11_nextWay_1 : decode cX11_nextWay 1 = .ok (.invokevirtual 384, 3) := by decide +kernel
theorem dX11_nextWay_4 : decode cX11_nextWay 4 = .ok (.iconst 1, 1) := by decide +kernel
theorem dX11_nextWay_5 : decode cX11_nextWay 5 = .ok (.isub, 1) := by decide +kernel
theorem dX11_nextWay_6 : decode cX11_nextWay 6 = .ok (.istore_n 1, 1) := by decide +kernel
theorem dX11_nextWay_7 : decode cX11_nextWay 7 = .ok (.iload_n 1, 1) := by decide +kernel
theorem dX11_nextWay_8 : decode cX11_nextWay 8 = .ok (.istore_n 2, 1) := by decide +kernel
theorem dX11_nextWay_9 : decode cX11_nextWay 9 = .ok (.iload_n 2, 1) := by decide +kernel
theorem dX11_nextWay_10 : decode cX11_nextWay 10 = .ok (.ifCond .le 18, 3) := by decide +kernel
theorem dX11_nextWay_13 : decode cX11_nextWay 13 = .ok (.aload_n 0, 1) := by decide +kernel
theorem dX11_nextWay_14 : decode cX11_nextWay 14 = .ok (.getfield 125, 3) := by decide +kernel
theorem dX11_nextWay_17 : decode cX11_nextWay 17 = .ok (.iload_n 2, 1) := by decide +kernel
theorem dX11_nextWay_18 : decode cX11_nextWay 18 = .ok (.iaload, 1) := by decide +kernel
theorem dX11_nextWay_19 : decode cX11_nextWay 19 = .ok (.ifCond .ne 9, 3) := by decide +kernel
theorem dX11_nextWay_22 : decode cX11_nextWay 22 = .ok (.iinc 2 (-1), 3) := by decide +kernel
theorem dX11_nextWay_25 : decode cX11_nextWay 25 = .ok (.goto (-16), 3) := by decide +kernel
theorem dX11_nextWay_28 : decode cX11_nextWay 28 = .ok (.iload_n 2, 1) := by decide +kernel
theorem dX11_nextWay_29 : decode cX11_nextWay 29 = .ok (.ifCond .ne 5, 3) := by decide +kernel
theorem dX11_nextWay_32 : decode cX11_nextWay 32 = .ok (.iconst 0, 1) := by decide +kernel
theorem dX11_nextWay_33 : decode cX11_nextWay 33 = .ok (.ireturn, 1) := by decide +kernel
theorem dX11_nextWay_34 : decode cX11_nextWay 34 = .ok (.aload_n 0, 1) := by decide +kernel
theorem dX11_nextWay_35 : decode cX11_nextWay 35 = .ok (.getfield 125, 3) := by decide +kernel
theorem dX11_nextWay_38 : decode cX11_nextWay 38 = .ok (.iload_n 2, 1) := by decide +kernel
theorem dX11_nextWay_39 : decode cX11_nextWay 39 = .ok (.iaload, 1) := by decide +kernel
theorem dX11_nextWay_40 : decode cX11_nextWay 40 = .ok (.iconst 1, 1) := by decide +kernel
theorem dX11_nextWay_41 : decode cX11_nextWay 41 = .ok (.isub, 1) := by decide +kernel
theorem dX11_nextWay_42 : decode cX11_nextWay 42 = .ok (.istore_n 3, 1) := by decide +kernel
theorem dX11_nextWay_43 : decode cX11_nextWay 43 = .ok (.aload_n 0, 1) := by decide +kernel
theorem dX11_nextWay_44 : decode cX11_nextWay 44 = .ok (.getfield 125, 3) := by decide +kernel
theorem dX11_nextWay_47 : decode cX11_nextWay 47 = .ok (.iload_n 2, 1) := by decide +kernel
theorem dX11_nextWay_48 : decode cX11_nextWay 48 = .ok (.iconst 0, 1) := by decide +kernel
theorem dX11_nextWay_49 : decode cX11_nextWay 49 = .ok (.iastore, 1) := by decide +kernel
theorem dX11_nextWay_50 : decode cX11_nextWay 50 = .ok (.aload_n 0, 1) := by decide +kernel
theorem dX11_nextWay_51 : decode cX11_nextWay 51 = .ok (.getfield 125, 3) := by decide +kernel
theorem dX11_nextWay_54 : decode cX11_nextWay 54 = .ok (.iload_n 2, 1) := by decide +kernel
theorem dX11_nextWay_55 : decode cX11_nextWay 55 = .ok (.iconst 1, 1) := by decide +kernel
theorem dX11_nextWay_56 : decode cX11_nextWay 56 = .ok (.isub, 1) := by decide +kernel
theorem dX11_nextWay_57 : decode cX11_nextWay 57 = .ok (.dup2, 1) := by decide +kernel
theorem dX11_nextWay_58 : decode cX11_nextWay 58 = .ok (.iaload, 1) := by decide +kernel
theorem dX11_nextWay_59 : decode cX11_nextWay 59 = .ok (.iconst 1, 1) := by decide +kernel
theorem dX11_nextWay_60 : decode cX11_nextWay 60 = .ok (.iadd, 1) := by decide +kernel
theorem dX11_nextWay_61 : decode cX11_nextWay 61 = .ok (.iastore, 1) := by decide +kernel
theorem dX11_nextWay_62 : decode cX11_nextWay 62 = .ok (.aload_n 0, 1) := by decide +kernel
theorem dX11_nextWay_63 : decode cX11_nextWay 63 = .ok (.getfield 125, 3) := by decide +kernel
theorem dX11_nextWay_66 : decode cX11_nextWay 66 = .ok (.iload_n 1, 1) := by decide +kernel
theorem dX11_nextWay_67 : decode cX11_nextWay 67 = .ok (.iload_n 3, 1) := by decide +kernel
theorem dX11_nextWay_68 : decode cX11_nextWay 68 = .ok (.iastore, 1) := by decide +kernel
theorem dX11_nextWay_69 : decode cX11_nextWay 69 = .ok (.iconst 1, 1) := by decide +kernel
theorem dX11_nextWay_70 : decode cX11_nextWay 70 = .ok (.ireturn, 1) := by decide +kernel
theorem dX11_putAll_0 : decode cX11_putAll 0 = .ok (.iconst 0, 1) := by decide +kernel
theorem dX11_putAll_1 : decode cX11_putAll 1 = .ok (.istore_n 2, 1) := by decide +kernel
theorem dX11_putAll_2 : decode cX11_putAll 2 = .ok (.iload_n 2, 1) := by decide +kernel
theorem dX11_putAll_3 : decode cX11_putAll 3 = .ok (.aload_n 0, 1) := by decide +kernel
theorem dX11_putAll_4 : decode cX11_putAll 4 = .ok (.invokevirtual 384, 3) := by decide +kernel
theorem dX11_putAll_7 : decode cX11_putAll 7 = .ok (.if_icmp .ge 30, 3) := by decide +kernel
theorem dX11_putAll_10 : decode cX11_putAll 10 = .ok (.aload_n 0, 1) := by decide +kernel
theorem dX11_putAll_11 : decode cX11_putAll 11 = .ok (.getfield 113, 3) := by decide +kernel
theorem dX11_putAll_14 : decode cX11_putAll 14 = .ok (.iconst 3, 1) := by decide +kernel
theorem dX11_putAll_15 : decode cX11_putAll 15 = .ok (.iconst 3, 1) := by decide +kernel
theorem dX11_putAll_16 : decode cX11_putAll 16 = .ok (.iload_n 2, 1) := by decide +kernel
theorem dX11_putAll_17 : decode cX11_putAll 17 = .ok (.imul, 1) := by decide +kernel
theorem dX11_putAll_18 : decode cX11_putAll 18 = .ok (.iadd, 1) := by decide +kernel
theorem dX11_putAll_19 : decode cX11_putAll 19 = .ok (.iload_n 1, 1) := by decide +kernel
theorem dX11_putAll_20 : decode cX11_putAll 20 = .ok (.iadd, 1) := by decide +kernel
theorem dX11_putAll_21 : decode cX11_putAll 21 = .ok (.dup2, 1) := by decide +kernel
theorem dX11_putAll_22 : decode cX11_putAll 22 = .ok (.iaload, 1) := by decide +kernel
theorem dX11_putAll_23 : decode cX11_putAll 23 = .ok (.aload_n 0, 1) := by decide +kernel
theorem dX11_putAll_24 : decode cX11_putAll 24 = .ok (.getfield 125, 3) := by decide +kernel
theorem dX11_putAll_27 : decode cX11_putAll 27 = .ok (.iload_n 2, 1) := by decide +kernel
theorem dX11_putAll_28 : decode cX11_putAll 28 = .ok (.iaload, 1) := by decide +kernel
theorem dX11_putAll_29 : decode cX11_putAll 29 = .ok (.iadd, 1) := by decide +kernel
theorem dX11_putAll_30 : decode cX11_putAll 30 = .ok (.iastore, 1) := by decide +kernel
theorem dX11_putAll_31 : decode cX11_putAll 31 = .ok (.iinc 2 1, 3) := by decide +kernel
theorem dX11_putAll_34 : decode cX11_putAll 34 = .ok (.goto (-32), 3) := by decide +kernel
theorem dX11_putAll_37 : decode cX11_putAll 37 = .ok (.return_, 1) := by decide +kernel
theorem dX11_layRow_0 : decode cX11_layRow 0 = .ok (.iconst 0, 1) := by decide +kernel
theorem dX11_layRow_1 : decode cX11_layRow 1 = .ok (.istore_n 1, 1) := by decide +kernel
theorem dX11_layRow_2 : decode cX11_layRow 2 = .ok (.iload_n 1, 1) := by decide +kernel
theorem dX11_layRow_3 : decode cX11_layRow 3 = .ok (.aload_n 0, 1) := by decide +kernel
theorem dX11_layRow_4 : decode cX11_layRow 4 = .ok (.invokevirtual 384, 3) := by decide +kernel
theorem dX11_layRow_7 : decode cX11_layRow 7 = .ok (.if_icmp .ge 21, 3) := by decide +kernel
theorem dX11_layRow_10 : decode cX11_layRow 10 = .ok (.aload_n 0, 1) := by decide +kernel
theorem dX11_layRow_11 : decode cX11_layRow 11 = .ok (.getfield 122, 3) := by decide +kernel
theorem dX11_layRow_14 : decode cX11_layRow 14 = .ok (.iload_n 1, 1) := by decide +kernel
theorem dX11_layRow_15 : decode cX11_layRow 15 = .ok (.aload_n 0, 1) := by decide +kernel
theorem dX11_layRow_16 : decode cX11_layRow 16 = .ok (.getfield 125, 3) := by decide +kernel
theorem dX11_layRow_19 : decode cX11_layRow 19 = .ok (.iload_n 1, 1) := by decide +kernel
theorem dX11_layRow_20 : decode cX11_layRow 20 = .ok (.iaload, 1) := by decide +kernel
theorem dX11_layRow_21 : decode cX11_layRow 21 = .ok (.iastore, 1) := by decide +kernel
theorem dX11_layRow_22 : decode cX11_layRow 22 = .ok (.iinc 1 1, 3) := by decide +kernel
theorem dX11_layRow_25 : decode cX11_layRow 25 = .ok (.goto (-23), 3) := by decide +kernel
theorem dX11_layRow_28 : decode cX11_layRow 28 = .ok (.aload_n 0, 1) := by decide +kernel
theorem dX11_layRow_29 : decode cX11_layRow 29 = .ok (.aload_n 0, 1) := by decide +kernel
theorem dX11_layRow_30 : decode cX11_layRow 30 = .ok (.invokevirtual 384, 3) := by decide +kernel
theorem dX11_layRow_33 : decode cX11_layRow 33 = .ok (.putfield 404, 3) := by decide +kernel
theorem dX11_layRow_36 : decode cX11_layRow 36 = .ok (.return_, 1) := by decide +kernel
theorem dX11_ration_0 : decode cX11_ration 0 = .ok (.aload_n 0, 1) := by decide +kernel
theorem dX11_ration_1 : decode cX11_ration 1 = .ok (.iconst 0, 1) := by decide +kernel
theorem dX11_ration_2 : decode cX11_ration 2 = .ok (.putfield 404, 3) := by decide +kernel
theorem dX11_ration_5 : decode cX11_ration 5 = .ok (.aload_n 0, 1) := by decide +kernel
theorem dX11_ration_6 : decode cX11_ration 6 = .ok (.iload_n 1, 1) := by decide +kernel
theorem dX11_ration_7 : decode cX11_ration 7 = .ok (.invokevirtual 437, 3) := by decide +kernel
theorem dX11_ration_10 : decode cX11_ration 10 = .ok (.ifCond .eq 31, 3) := by decide +kernel
theorem dX11_ration_13 : decode cX11_ration 13 = .ok (.iload_n 2, 1) := by decide +kernel
theorem dX11_ration_14 : decode cX11_ration 14 = .ok (.iconst 0, 1) := by decide +kernel
theorem dX11_ration_15 : decode cX11_ration 15 = .ok (.iconst 1, 1) := by decide +kernel
theorem dX11_ration_16 : decode cX11_ration 16 = .ok (.aload_n 0, 1) := by decide +kernel
theorem dX11_ration_17 : decode cX11_ration 17 = .ok (.getfield 27, 3) := by decide +kernel
theorem dX11_ration_20 : decode cX11_ration 20 = .ok (.aload_n 0, 1) := by decide +kernel
theorem dX11_ration_21 : decode cX11_ration 21 = .ok (.getfield 273, 3) := by decide +kernel
theorem dX11_ration_24 : decode cX11_ration 24 = .ok (.iaload, 1) := by decide +kernel
theorem dX11_ration_25 : decode cX11_ration 25 = .ok (.ishl, 1) := by decide +kernel
theorem dX11_ration_26 : decode cX11_ration 26 = .ok (.iconst 1, 1) := by decide +kernel
theorem dX11_ration_27 : decode cX11_ration 27 = .ok (.isub, 1) := by decide +kernel
theorem dX11_ration_28 : decode cX11_ration 28 = .ok (.invokestatic 387, 3) := by decide +kernel
theorem dX11_ration_31 : decode cX11_ration 31 = .ok (.ifCond .eq 10, 3) := by decide +kernel
theorem dX11_ration_34 : decode cX11_ration 34 = .ok (.aload_n 0, 1) := by decide +kernel
theorem dX11_ration_35 : decode cX11_ration 35 = .ok (.invokevirtual 384, 3) := by decide +kernel
theorem dX11_ration_38 : decode cX11_ration 38 = .ok (.ifCond .ne 21, 3) := by decide +kernel
theorem dX11_ration_41 : decode cX11_ration 41 = .ok (.aload_n 0, 1) := by decide +kernel
theorem dX11_ration_42 : decode cX11_ration 42 = .ok (.iload_n 1, 1) := by decide +kernel
theorem dX11_ration_43 : decode cX11_ration 43 = .ok (.invokevirtual 437, 3) := by decide +kernel
theorem dX11_ration_46 : decode cX11_ration 46 = .ok (.ifCond .eq 11, 3) := by decide +kernel
theorem dX11_ration_49 : decode cX11_ration 49 = .ok (.iload_n 2, 1) := by decide +kernel
theorem dX11_ration_50 : decode cX11_ration 50 = .ok (.ifCond .ne 7, 3) := by decide +kernel
theorem dX11_ration_53 : decode cX11_ration 53 = .ok (.iconst 0, 1) := by decide +kernel
theorem dX11_ration_54 : decode cX11_ration 54 = .ok (.goto 4, 3) := by decide +kernel
theorem dX11_ration_57 : decode cX11_ration 57 = .ok (.iconst (-1), 1) := by decide +kernel
theorem dX11_ration_58 : decode cX11_ration 58 = .ok (.ireturn, 1) := by decide +kernel
theorem dX11_ration_59 : decode cX11_ration 59 = .ok (.aload_n 0, 1) := by decide +kernel
theorem dX11_ration_60 : decode cX11_ration 60 = .ok (.invokevirtual 453, 3) := by decide +kernel
theorem dX11_ration_63 : decode cX11_ration 63 = .ok (.iconst 0, 1) := by decide +kernel
theorem dX11_ration_64 : decode cX11_ration 64 = .ok (.istore_n 3, 1) := by decide +kernel
theorem dX11_ration_65 : decode cX11_ration 65 = .ok (.iload_n 3, 1) := by decide +kernel
theorem dX11_ration_66 : decode cX11_ration 66 = .ok (.bipush 24, 2) := by decide +kernel
theorem dX11_ration_68 : decode cX11_ration 68 = .ok (.if_icmp .gt 83, 3) := by decide +kernel
theorem dX11_ration_71 : decode cX11_ration 71 = .ok (.iload_n 3, 1) := by decide +kernel
theorem dX11_ration_72 : decode cX11_ration 72 = .ok (.aload_n 0, 1) := by decide +kernel
theorem dX11_ration_73 : decode cX11_ration 73 = .ok (.getfield 113, 3) := by decide +kernel
theorem dX11_ration_76 : decode cX11_ration 76 = .ok (.iconst 0, 1) := by decide +kernel
theorem dX11_ration_77 : decode cX11_ration 77 = .ok (.iload_n 1, 1) := by decide +kernel
theorem dX11_ration_78 : decode cX11_ration 78 = .ok (.iadd, 1) := by decide +kernel
theorem dX11_ration_79 : decode cX11_ration 79 = .ok (.iaload, 1) := by decide +kernel
theorem dX11_ration_80 : decode cX11_ration 80 = .ok (.if_icmp .gt 71, 3) := by decide +kernel
theorem dX11_ration_83 : decode cX11_ration 83 = .ok (.aload_n 0, 1) := by decide +kernel
theorem dX11_ration_84 : decode cX11_ration 84 = .ok (.iload_n 3, 1) := by decide +kernel
theorem dX11_ration_85 : decode cX11_ration 85 = .ok (.invokevirtual 477, 3) := by decide +kernel
theorem dX11_ration_88 : decode cX11_ration 88 = .ok (.iconst 1, 1) := by decide +kernel
theorem dX11_ration_89 : decode cX11_ration 89 = .ok (.istore 4, 2) := by decide +kernel
theorem dX11_ration_91 : decode cX11_ration 91 = .ok (.iload 4, 2) := by decide +kernel
theorem dX11_ration_93 : decode cX11_ration 93 = .ok (.ifCond .eq 52, 3) := by decide +kernel
theorem dX11_ration_96 : decode cX11_ration 96 = .ok (.aload_n 0, 1) := by decide +kernel
theorem dX11_ration_97 : decode cX11_ration 97 = .ok (.iload_n 1, 1) := by decide +kernel
theorem dX11_ration_98 : decode cX11_ration 98 = .ok (.invokevirtual 480, 3) := by decide +kernel
theorem dX11_ration_101 : decode cX11_ration 101 = .ok (.aload_n 0, 1) := by decide +kernel
theorem dX11_ration_102 : decode cX11_ration 102 = .ok (.invokevirtual 434, 3) := by decide +kernel
theorem dX11_ration_105 : decode cX11_ration 105 = .ok (.aload_n 0, 1) := by decide +kernel
theorem dX11_ration_106 : decode cX11_ration 106 = .ok (.invokevirtual 459, 3) := by decide +kernel
theorem dX11_ration_109 : decode cX11_ration 109 = .ok (.iload_n 2, 1) := by decide +kernel
theorem dX11_ration_110 : decode cX11_ration 110 = .ok (.iand, 1) := by decide +kernel
theorem dX11_ration_111 : decode cX11_ration 111 = .ok (.ifCond .ne 7, 3) := by decide +kernel
theorem dX11_ration_114 : decode cX11_ration 114 = .ok (.iconst 1, 1) := by decide +kernel
theorem dX11_ration_115 : decode cX11_ration 115 = .ok (.goto 4, 3) := by decide +kernel
theorem dX11_ration_118 : decode cX11_ration 118 = .ok (.iconst 0, 1) := by decide +kernel
theorem dX11_ration_119 : decode cX11_ration 119 = .ok (.istore 5, 2) := by decide +kernel
theorem dX11_ration_121 : decode cX11_ration 121 = .ok (.aload_n 0, 1) := by decide +kernel
theorem dX11_ration_122 : decode cX11_ration 122 = .ok (.invokevirtual 468, 3) := by decide +kernel
theorem dX11_ration_125 : decode cX11_ration 125 = .ok (.iload 5, 2) := by decide +kernel
theorem dX11_ration_127 : decode cX11_ration 127 = .ok (.ifCond .eq 9, 3) := by decide +kernel
theorem dX11_ration_130 : decode cX11_ration 130 = .ok (.aload_n 0, 1) := by decide +kernel
theorem dX11_ration_131 : decode cX11_ration 131 = .ok (.invokevirtual 483, 3) := by decide +kernel
theorem dX11_ration_134 : decode cX11_ration 134 = .ok (.iload_n 3, 1) := by decide +kernel
theorem dX11_ration_135 : decode cX11_ration 135 = .ok (.ireturn, 1) := by decide +kernel
theorem dX11_ration_136 : decode cX11_ration 136 = .ok (.aload_n 0, 1) := by decide +kernel
theorem dX11_ration_137 : decode cX11_ration 137 = .ok (.invokevirtual 486, 3) := by decide +kernel
theorem dX11_ration_140 : decode cX11_ration 140 = .ok (.istore 4, 2) := by decide +kernel
theorem dX11_ration_142 : decode cX11_ration 142 = .ok (.goto (-51), 3) := by decide +kernel
theorem dX11_ration_145 : decode cX11_ration 145 = .ok (.iinc 3 1, 3) := by decide +kernel
theorem dX11_ration_148 : decode cX11_ration 148 = .ok (.goto (-83), 3) := by decide +kernel
theorem dX11_ration_151 : decode cX11_ration 151 = .ok (.iconst (-1), 1) := by decide +kernel
theorem dX11_ration_152 : decode cX11_ration 152 = .ok (.ireturn, 1) := by decide +kernel
set_option maxRecDepth 100000 in
theorem m_X11_landNow (l : Launch) (D : va_G) (cT : Nat → ClassId) (T : Nat → Option Nat) (q : Nat → Int) (hT : tokm T) (hq : qkm q) (a0 : Nat) (t0 : T a0 = some 0) : th_Met l D cT T (km q) yX11_landNow cX11_landNow 3 (some .int) (rmk 0 0) [.ref a0] (th_R T (some (.inl (-2147483648, 2147483647)))) [] := by
  refine th_start (by decide) (Nat.le_of_ble_eq_true rfl) ?_
  intro p e s m below meth c ls S hK hH hr hlocks hnm hl
  have hx := S.1
  have hb := S.2.1
  have hl : lv_has ls 3 [(0, .ref a0)] := hl
  have J4 : ∀ (n : Nat) (H : Heap) (locs : List Loc) (ls : Array Slot) (v4_1 : Int32) (v4_2 : Int32), IV v4_1 (-2147483648) 2147483647 → IV v4_2 0 8 → th_H D cT T (km q) H → va_S (th_A T []) s.heap H locs → lv_has ls 3 [(0, .ref a0), (1, .int v4_1), (2, .int v4_2)] → (8 + 1 - Int32.toInt v4_2).toNat < n → W p l e (rmk 0 0) s m [.ref a0].toArray below meth c H locs 0 0 (MQ below (th_Q D cT T (km q) (th_R T (some (.inl (-2147483648, 2147483647)))) []) [.ref a0].toArray s 0 0 (th_A T [])) (F0 m 4 ls []) := by
    intro n
    induction n with
    | zero => intro H locs ls v4_1 v4_2 iv4_1 iv4_2 hH hS hl hn; exact absurd hn (Nat.not_lt_zero _)
    | succ n ih4 =>
      intro H locs ls v4_1 v4_2 iv4_1 iv4_2 hH hS hl hn4
      have l1v4_2 := iv4_2.1; have l2v4_2 := iv4_2.2
      refine lv_iload_n hx hb dX11_landNow_4 rfl (lv_at hl 2 rfl) ?_
      refine lv_aload_n hx hb dX11_landNow_5 rfl (lv_at hl 0 rfl) ?_
      refine th_get S hK hH inG11 t0 km_0 rfl 13 (by decide) gm_1243 rfl rfl dX11_landNow_6 (fun v1 hv1 fv1 => ?_)
      obtain ⟨rf2, rfl, trf2⟩ := th_V.ref hv1
      refine lv_aload_n hx hb dX11_landNow_9 rfl (lv_at hl 0 rfl) ?_
      refine th_get S hK hH inG11 t0 km_0 rfl 41 (by decide) gm_1271 rfl rfl dX11_landNow_10 (fun v3 hv3 fv3 => ?_)
      obtain ⟨x4, rfl, ix4⟩ := th_V.int hv3
      have kx4a : q 10 ≤ x4.toInt := ix4.1
      have kx4b : x4.toInt ≤ q 10 := ix4.2
      have ix4 : IV x4 0 1 := iv_w ix4 (qkm_10 hq)
      refine th_iald S hK hH trf2 km_5 (th_in (hi := 1) ix4 (by decide)) dX11_landNow_13 (fun v5 hv5 => ?_)
      obtain ⟨x6, rfl, ix6⟩ := th_bkA hv5 ix4 (by omega)
      have kx6a : q 18 ≤ x6.toInt := ix6.1
      have kx6b : x6.toInt ≤ q 18 := ix6.2
      have ix6 : IV x6 0 8 := iv_w ix6 (qkm_18 hq)
      refine lv_icmp_ge (tgt := 50) hx hb dX11_landNow_14 (by decide) (fun c7 => ?_) (fun c7 => ?_)
      · skip
        have rlc7 : x6.toInt ≤ v4_2.toInt := iv_le c7
        refine lv_iload_n hx hb dX11_landNow_50 rfl (lv_at hl 1 rfl) ?_
        exact th_iret S hK hH hS hr hlocks (th_R.i iv4_1) dX11_landNow_51
      · skip
        have rlc7 : v4_2.toInt < x6.toInt := iv_nle c7
        have ir8 : IV v4_2 0 7 := iv_uL iv4_2 ix6 (iv_nle c7) (by decide)
        have ir8a := ir8.1; have ir8b := ir8.2
        have ir9 : IV x6 1 8 := iv_uR iv4_2 ix6 (iv_nle c7) (by decide)
        have ir9a := ir9.1; have ir9b := ir9.2
        refine lv_iload_n hx hb dX11_landNow_17 rfl (lv_at hl 1 rfl) ?_
        refine lv_aload_n hx hb dX11_landNow_18 rfl (lv_at hl 0 rfl) ?_
        refine th_get S hK hH inG11 t0 km_0 rfl 52 (by decide) gm_1282 rfl rfl dX11_landNow_19 (fun v10 hv10 fv10 => ?_)
        obtain ⟨rf11, rfl, trf11⟩ := th_V.ref hv10
        refine lv_bipush (v := 15) hx hb dX11_landNow_22 (by decide) ?_
        refine lv_iload_n hx hb dX11_landNow_24 rfl (lv_at hl 2 rfl) ?_
        refine lv_iadd hx hb dX11_landNow_25 ?_
        refine lv_topi (fun x12 ex12 => ?_)
        have ix12 : IV x12 15 22 := by rw [ex12]; exact iv_add (iv_c (by decide) : IV 15 15 15) ir8 (by decide)
        have ux12 : x12.toInt = (15 : Int) + v4_2.toInt := by rw [ex12]; exact iv_addE (by have z1 := ((iv_c (by decide) : IV 15 15 15)).1; have z2 := ((iv_c (by decide) : IV 15 15 15)).2; have z3 := (ir8).1; have z4 := (ir8).2; omega)
        refine th_iald S hK hH trf11 km_33 (th_in (hi := 22) (iv_w ix12 (by decide)) (by decide)) dX11_landNow_26 (fun v13 hv13 => ?_)
        obtain ⟨x14, rfl, ix14⟩ := th_V.int hv13
        refine lv_aload_n hx hb dX11_landNow_27 rfl (lv_at hl 0 rfl) ?_
        refine th_get S hK hH inG11 t0 km_0 rfl 24 (by decide) gm_1254 rfl rfl dX11_landNow_28 (fun v15 hv15 fv15 => ?_)
        obtain ⟨rf16, rfl, trf16⟩ := th_V.ref hv15
        refine lv_bipush (v := 8) hx hb dX11_landNow_31 (by decide) ?_
        refine lv_aload_n hx hb dX11_landNow_33 rfl (lv_at hl 0 rfl) ?_
        refine th_get S hK hH inG11 t0 km_0 rfl 41 (by decide) gm_1271 rfl rfl dX11_landNow_34 (fun v17 hv17 fv17 => ?_)
        obtain ⟨x18, rfl, ix18⟩ := th_V.int hv17
        have kx18a : q 10 ≤ x18.toInt := ix18.1
        have kx18b : x18.toInt ≤ q 10 := ix18.2
        have ix18 : IV x18 0 1 := iv_w ix18 (qkm_10 hq)
        refine lv_imul hx hb dX11_landNow_37 ?_
        refine lv_topi (fun x19 ex19 => ?_)
        have ix19 : IV x19 0 8 := by rw [ex19]; exact iv_mul (iv_c (by decide) : IV 8 8 8) ix18 (by decide) (by decide)
        have ux19 : x19.toInt = (8 : Int) * x18.toInt := by rw [ex19]; exact iv_mulE (iv_corner ((iv_c (by decide) : IV 8 8 8)).1 ((iv_c (by decide) : IV 8 8 8)).2 (ix18).1 (ix18).2 (by decide))
        refine lv_iload_n hx hb dX11_landNow_38 rfl (lv_at hl 2 rfl) ?_
        refine lv_iadd hx hb dX11_landNow_39 ?_
        refine lv_topi (fun x20 ex20 => ?_)
        have ix20 : IV x20 0 15 := by rw [ex20]; exact iv_add ix19 ir8 (by decide)
        have ux20 : x20.toInt = x19.toInt + v4_2.toInt := by rw [ex20]; exact iv_addE (by have z1 := (ix19).1; have z2 := (ix19).2; have z3 := (ir8).1; have z4 := (ir8).2; omega)
        refine th_iald S hK hH trf16 km_16 (th_in (hi := 15) ix20 (by decide)) dX11_landNow_40 (fun v21 hv21 => ?_)
        obtain ⟨x22, rfl, ix22⟩ := th_V.int hv21
        refine lv_imul hx hb dX11_landNow_41 ?_
        refine lv_topi (fun x23 ex23 => ?_)
        have ix23 := iv_top x23
        refine lv_iadd hx hb dX11_landNow_42 ?_
        refine lv_topi (fun x24 ex24 => ?_)
        have ix24 := iv_top x24
        refine lv_istore_n (lv' := [(1, .int x24), (0, .ref a0), (2, .int v4_2)]) hx hb dX11_landNow_43 rfl hl (by decide) rfl (fun ls hl => ?_)
        refine th_iinc S dX11_landNow_44 hl (k := 2) rfl (by decide) ir8 (by decide) (fun x25 ls ex25 ix25 hl => ?_)
        have hl : lv_has ls 3 [(2, .int x25), (1, .int x24), (0, .ref a0)] := hl
        have ix25 : IV x25 1 8 := ix25
        refine lv_goto (tgt := 4) hx hb dX11_landNow_47 (by decide) ?_
        exact ih4 H locs ls x24 x25 ix24 (iv_w ix25 (by decide)) hH hS (lv_sub hl [2, 1, 0] rfl) (th_up iv4_2 ex25 (by decide) hn4)
  have J0 : ∀ (H : Heap) (locs : List Loc) (ls : Array Slot), th_H D cT T (km q) H → va_S (th_A T []) s.heap H locs → lv_has ls 3 [(0, .ref a0)] → W p l e (rmk 0 0) s m [.ref a0].toArray below meth c H locs 0 0 (MQ below (th_Q D cT T (km q) (th_R T (some (.inl (-2147483648, 2147483647)))) []) [.ref a0].toArray s 0 0 (th_A T [])) (F0 m 0 ls []) := by
    intro H locs ls hH hS hl
    refine lv_iconst (v := 0) hx hb dX11_landNow_0 (by decide) ?_
    refine lv_istore_n (lv' := [(1, .int 0), (0, .ref a0)]) hx hb dX11_landNow_1 rfl hl (by decide) rfl (fun ls hl => ?_)
    refine lv_iconst (v := 0) hx hb dX11_landNow_2 (by decide) ?_
    refine lv_istore_n (lv' := [(2, .int 0), (1, .int 0), (0, .ref a0)]) hx hb dX11_landNow_3 rfl hl (by decide) rfl (fun ls hl => ?_)
    exact J4 ((8 + 1 - Int32.toInt 0).toNat + 1) H locs ls 0 0 (iv_top _) (iv_w (iv_c (by decide) : IV 0 0 0) (by decide)) hH hS (lv_sub hl [2, 1, 0] rfl) (Nat.lt_succ_self _)
  exact J0 s.heap [] ls hH va_S.rf hl

set_option maxRecDepth 100000 in
theorem m_X11_hungry (l : Launch) (D : va_G) (cT : Nat → ClassId) (T : Nat → Option Nat) (q : Nat → Int) (hT : tokm T) (hq : qkm q) (a0 : Nat) (t0 : T a0 = some 0) : th_Met l D cT T (km q) yX11_hungry cX11_hungry 3 (some .int) (rmk 3 69) [.ref a0] (th_R T (some (.inl (-2147483648, 2147483647)))) [0, 32] := by
  refine th_start (by decide) (Nat.le_of_ble_eq_true rfl) ?_
  intro p e s m below meth c ls S hK hH hr hlocks hnm hl
  have hx := S.1
  have hb := S.2.1
  have hl : lv_has ls 3 [(0, .ref a0)] := hl
  have J4 : ∀ (n : Nat) (H : Heap) (locs : List Loc) (ls : Array Slot) (v4_1 : Int32) (v4_2 : Int32), IV v4_1 (-2147483648) 2147483647 → IV v4_2 0 4 → th_H D cT T (km q) H → va_S (th_A T [0, 32]) s.heap H locs → lv_has ls 3 [(0, .ref a0), (1, .int v4_1), (2, .int v4_2)] → (4 + 1 - Int32.toInt v4_2).toNat < n → W p l e (rmk 3 69) s m [.ref a0].toArray below meth c H locs 0 0 (MQ below (th_Q D cT T (km q) (th_R T (some (.inl (-2147483648, 2147483647)))) [0, 32]) [.ref a0].toArray s 0 0 (th_A T [0, 32])) (F0 m 4 ls []) := by
    intro n
    induction n with
    | zero => intro H locs ls v4_1 v4_2 iv4_1 iv4_2 hH hS hl hn; exact absurd hn (Nat.not_lt_zero _)
    | succ n ih4 =>
      intro H locs ls v4_1 v4_2 iv4_1 iv4_2 hH hS hl hn4
      have J31 : ∀ (H : Heap) (locs : List Loc) (ls : Array Slot) (v31_1 : Int32), IV v31_1 (-2147483648) 2147483647 → IV v4_2 0 3 → th_H D cT T (km q) H → va_S (th_A T [0, 32]) s.heap H locs → lv_has ls 3 [(0, .ref a0), (1, .int v31_1), (2, .int v4_2)] → W p l e (rmk 3 69) s m [.ref a0].toArray below meth c H locs 0 0 (MQ below (th_Q D cT T (km q) (th_R T (some (.inl (-2147483648, 2147483647)))) [0, 32]) [.ref a0].toArray s 0 0 (th_A T [0, 32])) (F0 m 31 ls []) := by
        intro H locs ls v31_1 iv31_1 f31_v4_2 hH hS hl
        refine th_iinc S dX11_hungry_31 hl (k := 2) rfl (by decide) f31_v4_2 (by decide) (fun x1 ls ex1 ix1 hl => ?_)
        have hl : lv_has ls 3 [(2, .int x1), (0, .ref a0), (1, .int v31_1)] := hl
        have ix1 : IV x1 1 4 := ix1
        refine lv_goto (tgt := 4) hx hb dX11_hungry_34 (by decide) ?_
        exact ih4 H locs ls v31_1 x1 iv31_1 (iv_w ix1 (by decide)) hH hS (lv_sub hl [1, 2, 0] rfl) (th_up iv4_2 ex1 (by decide) hn4)
      have l1v4_2 := iv4_2.1; have l2v4_2 := iv4_2.2
      refine lv_iload_n hx hb dX11_hungry_4 rfl (lv_at hl 2 rfl) ?_
      refine lv_aload_n hx hb dX11_hungry_5 rfl (lv_at hl 0 rfl) ?_
      refine th_callVp (n := 0) (As := []) S hK hH hS (th_A.sub (by decide)) (m_X11_many l D cT T q hT hq a0 t0) gm_1229 gm_1226 gm_1228 gm_46 gm_124 (by decide +kernel) ⟨rfl, rfl, Nat.le_of_ble_eq_true rfl, Nat.le_of_ble_eq_true rfl⟩ t0 km_0 rfl rfl hl.1 rfl (Nat.le_of_ble_eq_true rfl) dX11_hungry_6 ⟨Nat.zero_le _, Nat.zero_le _⟩ (fun x2 H locs ix2 ox2 hH hS hF1 => ?_)
      have ox2 : x2.toInt = q 11 := ox2
      refine lv_icmp_ge (tgt := 37) hx hb dX11_hungry_9 (by decide) (fun c3 => ?_) (fun c3 => ?_)
      · skip
        have rlc3 : x2.toInt ≤ v4_2.toInt := iv_le c3
        refine lv_iload_n hx hb dX11_hungry_37 rfl (lv_at hl 1 rfl) ?_
        exact th_iret S hK hH hS hr hlocks (th_R.i iv4_1) dX11_hungry_38
      · skip
        have rlc3 : v4_2.toInt < x2.toInt := iv_nle c3
        have ir4 : IV v4_2 0 3 := iv_uL iv4_2 ix2 (iv_nle c3) (by decide)
        have ir4a := ir4.1; have ir4b := ir4.2
        have ir5 : IV x2 1 4 := iv_uR iv4_2 ix2 (iv_nle c3) (by decide)
        have ir5a := ir5.1; have ir5b := ir5.2
        refine lv_aload_n hx hb dX11_hungry_12 rfl (lv_at hl 0 rfl) ?_
        refine lv_iload_n hx hb dX11_hungry_13 rfl (lv_at hl 2 rfl) ?_
        refine th_callVi (n := 1) (As := [.int v4_2]) S hK hH hS (th_A.sub (by decide)) (m_X11_givenTo l D cT T q hT hq a0 t0 (v4_2) ir4) gm_1652 gm_1649 gm_1651 gm_85 gm_124 (by decide +kernel) ⟨rfl, rfl, Nat.le_of_ble_eq_true rfl, Nat.le_of_ble_eq_true rfl⟩ t0 km_0 rfl rfl hl.1 rfl (Nat.le_of_ble_eq_true rfl) dX11_hungry_14 ⟨Nat.zero_le _, Nat.zero_le _⟩ (fun x6 H locs ix6 hH hS hF1 => ?_)
        refine lv_aload_n hx hb dX11_hungry_17 rfl (lv_at hl 0 rfl) ?_
        refine lv_iload_n hx hb dX11_hungry_18 rfl (lv_at hl 2 rfl) ?_
        refine th_callVi (n := 1) (As := [.int v4_2]) S hK hH hS (th_A.sub (by decide)) (m_X11_hungerOf l D cT T q hT hq a0 t0 (v4_2) ir4 (show v4_2.toInt < q 11 by first | assumption | omega)) gm_1630 gm_1627 gm_1629 gm_81 gm_124 (by decide +kernel) ⟨rfl, rfl, Nat.le_of_ble_eq_true rfl, Nat.le_of_ble_eq_true rfl⟩ t0 km_0 rfl rfl hl.1 rfl (Nat.le_of_ble_eq_true rfl) dX11_hungry_19 ⟨Nat.zero_le _, Nat.zero_le _⟩ (fun x7 H locs ix7 hH hS hF1 => ?_)
        refine lv_icmp_ge (tgt := 31) hx hb dX11_hungry_22 (by decide) (fun c8 => ?_) (fun c8 => ?_)
        · skip
          have rlc8 : x7.toInt ≤ x6.toInt := iv_le c8
          exact J31 H locs ls v4_1 iv4_1 ir4 hH hS (lv_sub hl [0, 1, 2] rfl)
        · skip
          have rlc8 : x6.toInt < x7.toInt := iv_nle c8
          have ir9 : IV x6 (-2147483648) 98 := iv_uL ix6 ix7 (iv_nle c8) (by decide)
          have ir9a := ir9.1; have ir9b := ir9.2
          have ir10 : IV x7 (-2147483647) 99 := iv_uR ix6 ix7 (iv_nle c8) (by decide)
          have ir10a := ir10.1; have ir10b := ir10.2
          refine lv_iload_n hx hb dX11_hungry_25 rfl (lv_at hl 1 rfl) ?_
          refine lv_iconst (v := 1) hx hb dX11_hungry_26 (by decide) ?_
          refine lv_iload_n hx hb dX11_hungry_27 rfl (lv_at hl 2 rfl) ?_
          refine lv_ishl hx hb dX11_hungry_28 ?_
          refine lv_topi (fun x11 ex11 => ?_)
          have ix11 := iv_top x11
          have ix11 : IV x11 1 1073741824 := by rw [ex11]; exact iv_shl1 (iv_w ir4 (by decide))
          refine lv_ior hx hb dX11_hungry_29 ?_
          refine lv_topi (fun x12 ex12 => ?_)
          have ix12 := iv_top x12
          refine lv_istore_n (lv' := [(1, .int x12), (0, .ref a0), (2, .int v4_2)]) hx hb dX11_hungry_30 rfl hl (by decide) rfl (fun ls hl => ?_)
          exact J31 H locs ls x12 ix12 ir4 hH hS (lv_sub hl [1, 0, 2] rfl)
  have J0 : ∀ (H : Heap) (locs : List Loc) (ls : Array Slot), th_H D cT T (km q) H → va_S (th_A T [0, 32]) s.heap H locs → lv_has ls 3 [(0, .ref a0)] → W p l e (rmk 3 69) s m [.ref a0].toArray below meth c H locs 0 0 (MQ below (th_Q D cT T (km q) (th_R T (some (.inl (-2147483648, 2147483647)))) [0, 32]) [.ref a0].toArray s 0 0 (th_A T [0, 32])) (F0 m 0 ls []) := by
    intro H locs ls hH hS hl
    refine lv_iconst (v := 0) hx hb dX11_hungry_0 (by decide) ?_
    refine lv_istore_n (lv' := [(1, .int 0), (0, .ref a0)]) hx hb dX11_hungry_1 rfl hl (by decide) rfl (fun ls hl => ?_)
    refine lv_iconst (v := 0) hx hb dX11_hungry_2 (by decide) ?_
    refine lv_istore_n (lv' := [(2, .int 0), (1, .int 0), (0, .ref a0)]) hx hb dX11_hungry_3 rfl hl (by decide) rfl (fun ls hl => ?_)
    exact J4 ((4 + 1 - Int32.toInt 0).toNat + 1) H locs ls 0 0 (iv_top _) (iv_w (iv_c (by decide) : IV 0 0 0) (by decide)) hH hS (lv_sub hl [2, 1, 0] rfl) (Nat.lt_succ_self _)
  exact J0 s.heap [] ls hH va_S.rf hl

set_option maxRecDepth 100000 in
theorem m_X11_needs (l : Launch) (D : va_G) (cT : Nat → ClassId) (T : Nat → Option Nat) (q : Nat → Int) (hT : tokm T) (hq : qkm q) (a0 : Nat) (t0 : T a0 = some 0) (y1 : Int32) (j1 : IV y1 (-2147483648) 2147483647) (y2 : Int32) (j2 : IV y2 (-2147483648) 2147483647) : th_Met l D cT T (km q) yX11_needs cX11_needs 5 (some .int) (rmk 3 69) [.ref a0, .int y1, .int y2] (th_R T (some (.inl (-2147483648, 2147483647)))) [0, 32] := by
  refine th_start (by decide) (Nat.le_of_ble_eq_true rfl) ?_
  intro p e s m below meth c ls S hK hH hr hlocks hnm hl
  have hx := S.1
  have hb := S.2.1
  have hl : lv_has ls 5 [(0, .ref a0), (1, .int y1), (2, .int y2)] := hl
  have J62 : ∀ (H : Heap) (locs : List Loc) (ls : Array Slot) (w62_0 : Int32), IV w62_0 (-2147483648) 2147483647 → th_H D cT T (km q) H → va_S (th_A T [0, 32]) s.heap H locs → lv_has ls 5 [] → W p l e (rmk 3 69) s m [.ref a0, .int y1, .int y2].toArray below meth c H locs 0 0 (MQ below (th_Q D cT T (km q) (th_R T (some (.inl (-2147483648, 2147483647)))) [0, 32]) [.ref a0, .int y1, .int y2].toArray s 0 0 (th_A T [0, 32])) (F0 m 62 ls [.int w62_0]) := by
    intro H locs ls w62_0 iw62_0 hH hS hl
    exact th_iret S hK hH hS hr hlocks (th_R.i iw62_0) dX11_needs_62
  have J62_s0_m1 : ∀ (H : Heap) (locs : List Loc) (ls : Array Slot), th_H D cT T (km q) H → va_S (th_A T [0, 32]) s.heap H locs → lv_has ls 5 [] → W p l e (rmk 3 69) s m [.ref a0, .int y1, .int y2].toArray below meth c H locs 0 0 (MQ below (th_Q D cT T (km q) (th_R T (some (.inl (-2147483648, 2147483647)))) [0, 32]) [.ref a0, .int y1, .int y2].toArray s 0 0 (th_A T [0, 32])) (F0 m 62 ls [.int (-1)]) := by
    intro H locs ls hH hS hl
    exact th_iret S hK hH hS hr hlocks (th_R.i (iv_top _)) dX11_needs_62
  have J16 : ∀ (H : Heap) (locs : List Loc) (ls : Array Slot), th_H D cT T (km q) H → va_S (th_A T [0, 32]) s.heap H locs → lv_has ls 5 [] → W p l e (rmk 3 69) s m [.ref a0, .int y1, .int y2].toArray below meth c H locs 0 0 (MQ below (th_Q D cT T (km q) (th_R T (some (.inl (-2147483648, 2147483647)))) [0, 32]) [.ref a0, .int y1, .int y2].toArray s 0 0 (th_A T [0, 32])) (F0 m 16 ls []) := by
    intro H locs ls hH hS hl
    refine lv_iconst (v := (-1)) hx hb dX11_needs_16 (by decide) ?_
    exact th_iret S hK hH hS hr hlocks (th_R.i (iv_top _)) dX11_needs_17
  have J0 : ∀ (H : Heap) (locs : List Loc) (ls : Array Slot), th_H D cT T (km q) H → va_S (th_A T [0, 32]) s.heap H locs → lv_has ls 5 [(0, .ref a0), (1, .int y1), (2, .int y2)] → W p l e (rmk 3 69) s m [.ref a0, .int y1, .int y2].toArray below meth c H locs 0 0 (MQ below (th_Q D cT T (km q) (th_R T (some (.inl (-2147483648, 2147483647)))) [0, 32]) [.ref a0, .int y1, .int y2].toArray s 0 0 (th_A T [0, 32])) (F0 m 0 ls []) := by
    intro H locs ls hH hS hl
    refine lv_aload_n hx hb dX11_needs_0 rfl (lv_at hl 0 rfl) ?_
    refine lv_iload_n hx hb dX11_needs_1 rfl (lv_at hl 1 rfl) ?_
    refine th_callVp (n := 1) (As := [.int y1]) S hK hH hS (th_A.sub (by decide)) (m_X11_isMap l D cT T q hT hq a0 t0 (y1) j1) gm_1626 gm_1623 gm_1625 gm_80 gm_124 (by decide +kernel) ⟨rfl, rfl, Nat.le_of_ble_eq_true rfl, Nat.le_of_ble_eq_true rfl⟩ t0 km_0 rfl rfl hl.1 rfl (Nat.le_of_ble_eq_true rfl) dX11_needs_2 ⟨Nat.zero_le _, Nat.zero_le _⟩ (fun x1 H locs ix1 ox1 hH hS hF1 => ?_)
    have ox1 : x1.toInt ≠ 0 → 0 ≤ y1.toInt ∧ y1.toInt < q 11 := ox1
    refine lv_if_eq (tgt := 16) hx hb dX11_needs_5 (by decide) (fun c2 => ?_) (fun c2 => ?_)
    · skip
      have rlc2 : x1.toInt = (0 : Int) := congrArg Int32.toInt c2
      have ir3 : IV x1 0 0 := iv_eL c2 (iv_c (by decide) : IV 0 0 0)
      have ir3a := ir3.1; have ir3b := ir3.2
      exact J16 H locs ls  hH hS (lv_sub hl [] rfl)
    · skip
      have rlc2 : x1.toInt ≠ (0 : Int) := iv_ne c2
      have ir4 : IV x1 1 1 := iv_cutL ix1 (iv_c (by decide) : IV 0 0 0) c2 (by decide)
      have ir4a := ir4.1; have ir4b := ir4.2
      have ir5 : IV y1 0 3 := ((fun z => by have z1 := iv_ne z; have z2 : x1.toInt ≠ 0 := z1; have z60 := qkm_11 hq; exact ⟨by omega, by omega⟩) : ¬ x1 = 0 → IV y1 0 3) c2
      have ir5a := ir5.1; have ir5b := ir5.2
      refine lv_aload_n hx hb dX11_needs_8 rfl (lv_at hl 0 rfl) ?_
      refine lv_iload_n hx hb dX11_needs_9 rfl (lv_at hl 2 rfl) ?_
      refine th_callVp (n := 1) (As := [.int y2]) S hK hH hS (th_A.sub (by decide)) (m_X11_isFood l D cT T q hT hq a0 t0 (y2) j2) gm_1615 gm_1612 gm_1614 gm_79 gm_124 (by decide +kernel) ⟨rfl, rfl, Nat.le_of_ble_eq_true rfl, Nat.le_of_ble_eq_true rfl⟩ t0 km_0 rfl rfl hl.1 rfl (Nat.le_of_ble_eq_true rfl) dX11_needs_10 ⟨Nat.zero_le _, Nat.zero_le _⟩ (fun x6 H locs ix6 ox6 hH hS hF1 => ?_)
      have ox6 : x6.toInt ≠ 0 → 0 ≤ y2.toInt ∧ y2.toInt < q 16 := ox6
      refine lv_if_ne (tgt := 18) hx hb dX11_needs_13 (by decide) (fun c7 => ?_) (fun c7 => ?_)
      · skip
        have rlc7 : x6.toInt ≠ (0 : Int) := iv_ne c7
        have ir8 : IV x6 1 1 := iv_cutL ix6 (iv_c (by decide) : IV 0 0 0) c7 (by decide)
        have ir8a := ir8.1; have ir8b := ir8.2
        have ir9 : IV y2 0 2 := ((fun z => by have z1 := iv_ne z; have z2 : x6.toInt ≠ 0 := z1; have z60 := qkm_16 hq; exact ⟨by omega, by omega⟩) : ¬ x6 = 0 → IV y2 0 2) c7
        have ir9a := ir9.1; have ir9b := ir9.2
        refine lv_aload_n hx hb dX11_needs_18 rfl (lv_at hl 0 rfl) ?_
        refine lv_iload_n hx hb dX11_needs_19 rfl (lv_at hl 1 rfl) ?_
        refine th_callVi (n := 1) (As := [.int y1]) S hK hH hS (th_A.sub (by decide)) (m_X11_hungerOf l D cT T q hT hq a0 t0 (y1) ir5 (show y1.toInt < q 11 by first | assumption | omega)) gm_1630 gm_1627 gm_1629 gm_81 gm_124 (by decide +kernel) ⟨rfl, rfl, Nat.le_of_ble_eq_true rfl, Nat.le_of_ble_eq_true rfl⟩ t0 km_0 rfl rfl hl.1 rfl (Nat.le_of_ble_eq_true rfl) dX11_needs_20 ⟨Nat.zero_le _, Nat.zero_le _⟩ (fun x10 H locs ix10 hH hS hF1 => ?_)
        refine lv_aload_n hx hb dX11_needs_23 rfl (lv_at hl 0 rfl) ?_
        refine lv_iload_n hx hb dX11_needs_24 rfl (lv_at hl 1 rfl) ?_
        refine th_callVi (n := 1) (As := [.int y1]) S hK hH hS (th_A.sub (by decide)) (m_X11_givenTo l D cT T q hT hq a0 t0 (y1) ir5) gm_1652 gm_1649 gm_1651 gm_85 gm_124 (by decide +kernel) ⟨rfl, rfl, Nat.le_of_ble_eq_true rfl, Nat.le_of_ble_eq_true rfl⟩ t0 km_0 rfl rfl hl.1 rfl (Nat.le_of_ble_eq_true rfl) dX11_needs_25 ⟨Nat.zero_le _, Nat.zero_le _⟩ (fun x11 H locs ix11 hH hS hF1 => ?_)
        refine lv_isub hx hb dX11_needs_28 ?_
        refine lv_topi (fun x12 ex12 => ?_)
        have ix12 := iv_top x12
        refine lv_istore_n (lv' := [(3, .int x12), (0, .ref a0), (1, .int y1), (2, .int y2)]) hx hb dX11_needs_29 rfl hl (by decide) rfl (fun ls hl => ?_)
        refine lv_aload_n hx hb dX11_needs_30 rfl (lv_at hl 1 rfl) ?_
        refine lv_iload_n hx hb dX11_needs_31 rfl (lv_at hl 2 rfl) ?_
        refine lv_iload_n hx hb dX11_needs_32 rfl (lv_at hl 3 rfl) ?_
        refine th_callVi (n := 2) (As := [.int y1, .int y2]) S hK hH hS (th_A.sub (by decide)) (m_X11_likedBy l D cT T q hT hq a0 t0 (y1) ir5 (y2) ir9) gm_1656 gm_1653 gm_1655 gm_86 gm_124 (by decide +kernel) ⟨rfl, rfl, Nat.le_of_ble_eq_true rfl, Nat.le_of_ble_eq_true rfl⟩ t0 km_0 rfl rfl hl.1 rfl (Nat.le_of_ble_eq_true rfl) dX11_needs_33 ⟨Nat.zero_le _, Nat.zero_le _⟩ (fun x13 H locs ix13 hH hS hF1 => ?_)
        refine lv_istore (lv' := [(4, .int x13), (3, .int x12), (0, .ref a0), (1, .int y1), (2, .int y2)]) hx hb dX11_needs_36 hl (by decide) rfl (fun ls hl => ?_)
        refine lv_iload_n hx hb dX11_needs_38 rfl (lv_at hl 1 rfl) ?_
        refine lv_if_gt (tgt := 44) hx hb dX11_needs_39 (by decide) (fun c14 => ?_) (fun c14 => ?_)
        · skip
          have rlc14 : (0 : Int) < x12.toInt := iv_lt c14
          have ir15 : IV x12 1 2147483647 := iv_uR (iv_c (by decide) : IV 0 0 0) ix12 (iv_lt c14) (by decide)
          have ir15a := ir15.1; have ir15b := ir15.2
          refine lv_iload hx hb dX11_needs_44 (lv_at hl 0 rfl) ?_
          refine lv_if_ne (tgt := 53) hx hb dX11_needs_46 (by decide) (fun c16 => ?_) (fun c16 => ?_)
          · skip
            have rlc16 : x13.toInt ≠ (0 : Int) := iv_ne c16
            refine lv_iload_n hx hb dX11_needs_53 rfl (lv_at hl 1 rfl) ?_
            refine lv_iload hx hb dX11_needs_54 (lv_at hl 0 rfl) ?_
            refine lv_iadd hx hb dX11_needs_56 ?_
            refine lv_topi (fun x17 ex17 => ?_)
            have ix17 := iv_top x17
            refine lv_iconst (v := 1) hx hb dX11_needs_57 (by decide) ?_
            refine lv_isub hx hb dX11_needs_58 ?_
            refine lv_topi (fun x18 ex18 => ?_)
            have ix18 := iv_top x18
            refine lv_iload hx hb dX11_needs_59 (lv_at hl 0 rfl) ?_
            refine lv_idiv hx hb dX11_needs_61 c16 ?_
            refine lv_topi (fun x19 ex19 => ?_)
            have ix19 := iv_top x19
            exact J62 H locs ls x19 ix19 hH hS (lv_sub hl [] rfl)
          · skip
            have rlc16 : x13.toInt = (0 : Int) := congrArg Int32.toInt c16
            have ir20 : IV x13 0 0 := iv_eL c16 (iv_c (by decide) : IV 0 0 0)
            have ir20a := ir20.1; have ir20b := ir20.2
            refine lv_iconst (v := (-1)) hx hb dX11_needs_49 (by decide) ?_
            refine lv_goto (tgt := 62) hx hb dX11_needs_50 (by decide) ?_
            exact J62_s0_m1 H locs ls  hH hS (lv_sub hl [] rfl)
        · skip
          have rlc14 : x12.toInt ≤ (0 : Int) := iv_nlt c14
          have ir21 : IV x12 (-2147483648) 0 := iv_vL ix12 (iv_c (by decide) : IV 0 0 0) (iv_nlt c14) (by decide)
          have ir21a := ir21.1; have ir21b := ir21.2
          refine lv_iconst (v := 0) hx hb dX11_needs_42 (by decide) ?_
          exact th_iret S hK hH hS hr hlocks (th_R.i (iv_top _)) dX11_needs_43
      · skip
        have rlc7 : x6.toInt = (0 : Int) := congrArg Int32.toInt c7
        have ir22 : IV x6 0 0 := iv_eL c7 (iv_c (by decide) : IV 0 0 0)
        have ir22a := ir22.1; have ir22b := ir22.2
        exact J16 H locs ls  hH hS (lv_sub hl [] rfl)
  exact J0 s.heap [] ls hH va_S.rf hl

set_option maxRecDepth 100000 in
theorem m_X11_over (l : Launch) (D : va_G) (cT : Nat → ClassId) (T : Nat → Option Nat) (q : Nat → Int) (hT : tokm T) (hq : qkm q) (a0 : Nat) (t0 : T a0 = some 0) (y1 : Int32) (j1 : IV y1 (-2147483648) 2147483647) : th_Met l D cT T (km q) yX11_over cX11_over 3 (some .int) (rmk 3 69) [.ref a0, .int y1] (th_R T (some (.inl (-1, 2147483647)))) [0, 32] := by
  refine th_start (by decide) (Nat.le_of_ble_eq_true rfl) ?_
  intro p e s m below meth c ls S hK hH hr hlocks hnm hl
  have hx := S.1
  have hb := S.2.1
  have hl : lv_has ls 3 [(0, .ref a0), (1, .int y1)] := hl
  have J31 : ∀ (H : Heap) (locs : List Loc) (ls : Array Slot) (w31_0 : Int32), IV w31_0 0 2147483647 → th_H D cT T (km q) H → va_S (th_A T [0, 32]) s.heap H locs → lv_has ls 3 [] → W p l e (rmk 3 69) s m [.ref a0, .int y1].toArray below meth c H locs 0 0 (MQ below (th_Q D cT T (km q) (th_R T (some (.inl (-1, 2147483647)))) [0, 32]) [.ref a0, .int y1].toArray s 0 0 (th_A T [0, 32])) (F0 m 31 ls [.int w31_0]) := by
    intro H locs ls w31_0 iw31_0 hH hS hl
    have l1w31_0 := iw31_0.1; have l2w31_0 := iw31_0.2
    exact th_iret S hK hH hS hr hlocks (th_R.i (iv_w iw31_0 (by decide))) dX11_over_31
  have J31_s0_0 : ∀ (H : Heap) (locs : List Loc) (ls : Array Slot), th_H D cT T (km q) H → va_S (th_A T [0, 32]) s.heap H locs → lv_has ls 3 [] → W p l e (rmk 3 69) s m [.ref a0, .int y1].toArray below meth c H locs 0 0 (MQ below (th_Q D cT T (km q) (th_R T (some (.inl (-1, 2147483647)))) [0, 32]) [.ref a0, .int y1].toArray s 0 0 (th_A T [0, 32])) (F0 m 31 ls [.int 0]) := by
    intro H locs ls hH hS hl
    exact th_iret S hK hH hS hr hlocks (th_R.i (iv_w (iv_c (by decide) : IV 0 0 0) (by decide))) dX11_over_31
  have J0 : ∀ (H : Heap) (locs : List Loc) (ls : Array Slot), th_H D cT T (km q) H → va_S (th_A T [0, 32]) s.heap H locs → lv_has ls 3 [(0, .ref a0), (1, .int y1)] → W p l e (rmk 3 69) s m [.ref a0, .int y1].toArray below meth c H locs 0 0 (MQ below (th_Q D cT T (km q) (th_R T (some (.inl (-1, 2147483647)))) [0, 32]) [.ref a0, .int y1].toArray s 0 0 (th_A T [0, 32])) (F0 m 0 ls []) := by
    intro H locs ls hH hS hl
    refine lv_aload_n hx hb dX11_over_0 rfl (lv_at hl 0 rfl) ?_
    refine lv_iload_n hx hb dX11_over_1 rfl (lv_at hl 1 rfl) ?_
    refine th_callVp (n := 1) (As := [.int y1]) S hK hH hS (th_A.sub (by decide)) (m_X11_isMap l D cT T q hT hq a0 t0 (y1) j1) gm_1626 gm_1623 gm_1625 gm_80 gm_124 (by decide +kernel) ⟨rfl, rfl, Nat.le_of_ble_eq_true rfl, Nat.le_of_ble_eq_true rfl⟩ t0 km_0 rfl rfl hl.1 rfl (Nat.le_of_ble_eq_true rfl) dX11_over_2 ⟨Nat.zero_le _, Nat.zero_le _⟩ (fun x1 H locs ix1 ox1 hH hS hF1 => ?_)
    have ox1 : x1.toInt ≠ 0 → 0 ≤ y1.toInt ∧ y1.toInt < q 11 := ox1
    refine lv_if_ne (tgt := 10) hx hb dX11_over_5 (by decide) (fun c2 => ?_) (fun c2 => ?_)
    · skip
      have rlc2 : x1.toInt ≠ (0 : Int) := iv_ne c2
      have ir3 : IV x1 1 1 := iv_cutL ix1 (iv_c (by decide) : IV 0 0 0) c2 (by decide)
      have ir3a := ir3.1; have ir3b := ir3.2
      have ir4 : IV y1 0 3 := ((fun z => by have z1 := iv_ne z; have z2 : x1.toInt ≠ 0 := z1; have z60 := qkm_11 hq; exact ⟨by omega, by omega⟩) : ¬ x1 = 0 → IV y1 0 3) c2
      have ir4a := ir4.1; have ir4b := ir4.2
      refine lv_aload_n hx hb dX11_over_10 rfl (lv_at hl 0 rfl) ?_
      refine lv_iload_n hx hb dX11_over_11 rfl (lv_at hl 1 rfl) ?_
      refine th_callVi (n := 1) (As := [.int y1]) S hK hH hS (th_A.sub (by decide)) (m_X11_givenTo l D cT T q hT hq a0 t0 (y1) ir4) gm_1652 gm_1649 gm_1651 gm_85 gm_124 (by decide +kernel) ⟨rfl, rfl, Nat.le_of_ble_eq_true rfl, Nat.le_of_ble_eq_true rfl⟩ t0 km_0 rfl rfl hl.1 rfl (Nat.le_of_ble_eq_true rfl) dX11_over_12 ⟨Nat.zero_le _, Nat.zero_le _⟩ (fun x5 H locs ix5 hH hS hF1 => ?_)
      refine lv_aload_n hx hb dX11_over_15 rfl (lv_at hl 0 rfl) ?_
      refine lv_iload_n hx hb dX11_over_16 rfl (lv_at hl 1 rfl) ?_
      refine th_callVi (n := 1) (As := [.int y1]) S hK hH hS (th_A.sub (by decide)) (m_X11_hungerOf l D cT T q hT hq a0 t0 (y1) ir4 (show y1.toInt < q 11 by first | assumption | omega)) gm_1630 gm_1627 gm_1629 gm_81 gm_124 (by decide +kernel) ⟨rfl, rfl, Nat.le_of_ble_eq_true rfl, Nat.le_of_ble_eq_true rfl⟩ t0 km_0 rfl rfl hl.1 rfl (Nat.le_of_ble_eq_true rfl) dX11_over_17 ⟨Nat.zero_le _, Nat.zero_le _⟩ (fun x6 H locs ix6 hH hS hF1 => ?_)
      refine lv_isub hx hb dX11_over_20 ?_
      refine lv_topi (fun x7 ex7 => ?_)
      have ix7 := iv_top x7
      refine lv_istore_n (lv' := [(2, .int x7), (0, .ref a0), (1, .int y1)]) hx hb dX11_over_21 rfl hl (by decide) rfl (fun ls hl => ?_)
      refine lv_iload_n hx hb dX11_over_22 rfl (lv_at hl 0 rfl) ?_
      refine lv_if_ge (tgt := 30) hx hb dX11_over_23 (by decide) (fun c8 => ?_) (fun c8 => ?_)
      · skip
        have rlc8 : (0 : Int) ≤ x7.toInt := iv_le c8
        have ir9 : IV x7 0 2147483647 := iv_vR (iv_c (by decide) : IV 0 0 0) ix7 (iv_le c8) (by decide)
        have ir9a := ir9.1; have ir9b := ir9.2
        refine lv_iload_n hx hb dX11_over_30 rfl (lv_at hl 0 rfl) ?_
        exact J31 H locs ls x7 ir9 hH hS (lv_sub hl [] rfl)
      · skip
        have rlc8 : x7.toInt < (0 : Int) := iv_nle c8
        have ir10 : IV x7 (-2147483648) (-1) := iv_uL ix7 (iv_c (by decide) : IV 0 0 0) (iv_nle c8) (by decide)
        have ir10a := ir10.1; have ir10b := ir10.2
        refine lv_iconst (v := 0) hx hb dX11_over_26 (by decide) ?_
        refine lv_goto (tgt := 31) hx hb dX11_over_27 (by decide) ?_
        exact J31_s0_0 H locs ls  hH hS (lv_sub hl [] rfl)
    · skip
      have rlc2 : x1.toInt = (0 : Int) := congrArg Int32.toInt c2
      have ir11 : IV x1 0 0 := iv_eL c2 (iv_c (by decide) : IV 0 0 0)
      have ir11a := ir11.1; have ir11b := ir11.2
      refine lv_iconst (v := (-1)) hx hb dX11_over_8 (by decide) ?_
      exact th_iret S hK hH hS hr hlocks (th_R.i (iv_w (iv_c (by decide) : IV (-1) (-1) (-1)) (by decide))) dX11_over_9
  exact J0 s.heap [] ls hH va_S.rf hl

set_option maxRecDepth 100000 in
theorem m_X11_bitesIn (l : Launch) (D : va_G) (cT : Nat → ClassId) (T : Nat → Option Nat) (q : Nat → Int) (hT : tokm T) (hq : qkm q) (a0 : Nat) (t0 : T a0 = some 0) (y1 : Int32) (j1 : IV y1 (-2147483648) 2147483647) : th_Met l D cT T (km q) yX11_bitesIn cX11_bitesIn 4 (some .int) (rmk 6 138) [.ref a0, .int y1] (th_R T (some (.inl (-1, 29)))) [0, 32, 33, 35] := by
  refine th_start (by decide) (Nat.le_of_ble_eq_true rfl) ?_
  intro p e s m below meth c ls S hK hH hr hlocks hnm hl
  have hx := S.1
  have hb := S.2.1
  have hl : lv_has ls 4 [(0, .ref a0), (1, .int y1)] := hl
  have J95 : ∀ (H : Heap) (locs : List Loc) (ls : Array Slot) (w95_0 : Int32), IV w95_0 (-1) 29 → th_H D cT T (km q) H → va_S (th_A T [0, 32, 33, 35]) s.heap H locs → lv_has ls 4 [] → W p l e (rmk 6 138) s m [.ref a0, .int y1].toArray below meth c H locs 0 0 (MQ below (th_Q D cT T (km q) (th_R T (some (.inl (-1, 29)))) [0, 32, 33, 35]) [.ref a0, .int y1].toArray s 0 0 (th_A T [0, 32, 33, 35])) (F0 m 95 ls [.int w95_0]) := by
    intro H locs ls w95_0 iw95_0 hH hS hl
    have l1w95_0 := iw95_0.1; have l2w95_0 := iw95_0.2
    exact th_iret S hK hH hS hr hlocks (th_R.i iw95_0) dX11_bitesIn_95
  have J95_s0_m1 : ∀ (H : Heap) (locs : List Loc) (ls : Array Slot), th_H D cT T (km q) H → va_S (th_A T [0, 32, 33, 35]) s.heap H locs → lv_has ls 4 [] → W p l e (rmk 6 138) s m [.ref a0, .int y1].toArray below meth c H locs 0 0 (MQ below (th_Q D cT T (km q) (th_R T (some (.inl (-1, 29)))) [0, 32, 33, 35]) [.ref a0, .int y1].toArray s 0 0 (th_A T [0, 32, 33, 35])) (F0 m 95 ls [.int (-1)]) := by
    intro H locs ls hH hS hl
    exact th_iret S hK hH hS hr hlocks (th_R.i (iv_w (iv_c (by decide) : IV (-1) (-1) (-1)) (by decide))) dX11_bitesIn_95
  have J79_s0_0 : ∀ (H : Heap) (locs : List Loc) (ls : Array Slot) (v79_2 : Int32), IV v79_2 0 30 → th_H D cT T (km q) H → va_S (th_A T [0, 32, 33, 35]) s.heap H locs → lv_has ls 4 [(0, .ref a0), (2, .int v79_2)] → W p l e (rmk 6 138) s m [.ref a0, .int y1].toArray below meth c H locs 0 0 (MQ below (th_Q D cT T (km q) (th_R T (some (.inl (-1, 29)))) [0, 32, 33, 35]) [.ref a0, .int y1].toArray s 0 0 (th_A T [0, 32, 33, 35])) (F0 m 79 ls [.int 0]) := by
    intro H locs ls v79_2 iv79_2 hH hS hl
    have l1v79_2 := iv79_2.1; have l2v79_2 := iv79_2.2
    refine lv_istore_n (lv' := [(3, .int 0), (0, .ref a0), (2, .int v79_2)]) hx hb dX11_bitesIn_79 rfl hl (by decide) rfl (fun ls hl => ?_)
    refine lv_aload_n hx hb dX11_bitesIn_80 rfl (lv_at hl 1 rfl) ?_
    refine th_callVv (n := 0) (As := []) S hK hH hS (th_A.sub (by decide)) (m_X11_bringBack l D cT T q hT hq a0 t0) gm_1768 gm_1765 gm_1767 gm_99 gm_124 (by decide +kernel) ⟨rfl, rfl, Nat.le_of_ble_eq_true rfl, Nat.le_of_ble_eq_true rfl⟩ t0 km_0 rfl rfl hl.1 rfl (Nat.le_of_ble_eq_true rfl) dX11_bitesIn_81 ⟨Nat.zero_le _, Nat.zero_le _⟩ (fun H locs hH hS hF1 => ?_)
    refine lv_iload_n hx hb dX11_bitesIn_84 rfl (lv_at hl 0 rfl) ?_
    refine lv_if_eq (tgt := 94) hx hb dX11_bitesIn_85 (by decide) (fun c1 => ?_) (fun c1 => ?_)
    · skip
      have rlc1 : (0 : Int) = (0 : Int) := congrArg Int32.toInt c1
      refine lv_iconst (v := (-1)) hx hb dX11_bitesIn_94 (by decide) ?_
      exact J95_s0_m1 H locs ls  hH hS (lv_sub hl [] rfl)
    · skip
      have rlc1 : (0 : Int) ≠ (0 : Int) := iv_ne c1
      exact absurd (iv_eqc (iv_c (by decide) : IV 0 0 0) (iv_c (by decide) : IV 0 0 0)) c1
  have J79_s0_1 : ∀ (H : Heap) (locs : List Loc) (ls : Array Slot) (v79_2 : Int32), IV v79_2 0 30 → th_H D cT T (km q) H → va_S (th_A T [0, 32, 33, 35]) s.heap H locs → lv_has ls 4 [(0, .ref a0), (2, .int v79_2)] → W p l e (rmk 6 138) s m [.ref a0, .int y1].toArray below meth c H locs 0 0 (MQ below (th_Q D cT T (km q) (th_R T (some (.inl (-1, 29)))) [0, 32, 33, 35]) [.ref a0, .int y1].toArray s 0 0 (th_A T [0, 32, 33, 35])) (F0 m 79 ls [.int 1]) := by
    intro H locs ls v79_2 iv79_2 hH hS hl
    have l1v79_2 := iv79_2.1; have l2v79_2 := iv79_2.2
    refine lv_istore_n (lv' := [(3, .int 1), (0, .ref a0), (2, .int v79_2)]) hx hb dX11_bitesIn_79 rfl hl (by decide) rfl (fun ls hl => ?_)
    refine lv_aload_n hx hb dX11_bitesIn_80 rfl (lv_at hl 1 rfl) ?_
    refine th_callVv (n := 0) (As := []) S hK hH hS (th_A.sub (by decide)) (m_X11_bringBack l D cT T q hT hq a0 t0) gm_1768 gm_1765 gm_1767 gm_99 gm_124 (by decide +kernel) ⟨rfl, rfl, Nat.le_of_ble_eq_true rfl, Nat.le_of_ble_eq_true rfl⟩ t0 km_0 rfl rfl hl.1 rfl (Nat.le_of_ble_eq_true rfl) dX11_bitesIn_81 ⟨Nat.zero_le _, Nat.zero_le _⟩ (fun H locs hH hS hF1 => ?_)
    refine lv_iload_n hx hb dX11_bitesIn_84 rfl (lv_at hl 0 rfl) ?_
    refine lv_if_eq (tgt := 94) hx hb dX11_bitesIn_85 (by decide) (fun c2 => ?_) (fun c2 => ?_)
    · skip
      have rlc2 : (1 : Int) = (0 : Int) := congrArg Int32.toInt c2
      exfalso
      have z1 := congrArg Int32.toInt c2
      have z2 := ((iv_c (by decide) : IV 1 1 1)).1
      have z3 := ((iv_c (by decide) : IV 1 1 1)).2
      have z4 := ((iv_c (by decide) : IV 0 0 0)).1
      have z5 := ((iv_c (by decide) : IV 0 0 0)).2
      omega
    · skip
      have rlc2 : (1 : Int) ≠ (0 : Int) := iv_ne c2
      refine lv_iload_n hx hb dX11_bitesIn_88 rfl (lv_at hl 2 rfl) ?_
      refine lv_iconst (v := 1) hx hb dX11_bitesIn_89 (by decide) ?_
      refine lv_isub hx hb dX11_bitesIn_90 ?_
      refine lv_topi (fun x3 ex3 => ?_)
      have ix3 : IV x3 (-1) 29 := by rw [ex3]; exact iv_sub iv79_2 (iv_c (by decide) : IV 1 1 1) (by decide)
      have ux3 : x3.toInt = v79_2.toInt - (1 : Int) := by rw [ex3]; exact iv_subE (by have z1 := (iv79_2).1; have z2 := (iv79_2).2; have z3 := ((iv_c (by decide) : IV 1 1 1)).1; have z4 := ((iv_c (by decide) : IV 1 1 1)).2; omega)
      refine lv_goto (tgt := 95) hx hb dX11_bitesIn_91 (by decide) ?_
      exact J95 H locs ls x3 ix3 hH hS (lv_sub hl [] rfl)
  have J53 : ∀ (H : Heap) (locs : List Loc) (ls : Array Slot) (v53_2 : Int32), IV v53_2 0 30 → IV y1 0 3 → th_H D cT T (km q) H → va_S (th_A T [0, 32, 33, 35]) s.heap H locs → lv_has ls 4 [(0, .ref a0), (1, .int y1), (2, .int v53_2)] → W p l e (rmk 6 138) s m [.ref a0, .int y1].toArray below meth c H locs 0 0 (MQ below (th_Q D cT T (km q) (th_R T (some (.inl (-1, 29)))) [0, 32, 33, 35]) [.ref a0, .int y1].toArray s 0 0 (th_A T [0, 32, 33, 35])) (F0 m 53 ls []) := by
    intro H locs ls v53_2 iv53_2 f53_y1 hH hS hl
    have l1v53_2 := iv53_2.1; have l2v53_2 := iv53_2.2
    refine lv_aload_n hx hb dX11_bitesIn_53 rfl (lv_at hl 0 rfl) ?_
    refine th_get S hK hH inG11 t0 km_0 rfl 52 (by decide) gm_1282 rfl rfl dX11_bitesIn_54 (fun v4 hv4 fv4 => ?_)
    obtain ⟨rf5, rfl, trf5⟩ := th_V.ref hv4
    refine lv_bipush (v := 31) hx hb dX11_bitesIn_57 (by decide) ?_
    refine lv_iload_n hx hb dX11_bitesIn_59 rfl (lv_at hl 1 rfl) ?_
    refine lv_iadd hx hb dX11_bitesIn_60 ?_
    refine lv_topi (fun x6 ex6 => ?_)
    have ix6 : IV x6 31 34 := by rw [ex6]; exact iv_add (iv_c (by decide) : IV 31 31 31) f53_y1 (by decide)
    have ux6 : x6.toInt = (31 : Int) + y1.toInt := by rw [ex6]; exact iv_addE (by have z1 := ((iv_c (by decide) : IV 31 31 31)).1; have z2 := ((iv_c (by decide) : IV 31 31 31)).2; have z3 := (f53_y1).1; have z4 := (f53_y1).2; omega)
    refine th_iald S hK hH trf5 km_33 (th_in (hi := 34) (iv_w ix6 (by decide)) (by decide)) dX11_bitesIn_61 (fun v7 hv7 => ?_)
    obtain ⟨x8, rfl, ix8⟩ := th_V.int hv7
    refine lv_aload_n hx hb dX11_bitesIn_62 rfl (lv_at hl 0 rfl) ?_
    refine th_get S hK hH inG11 t0 km_0 rfl 56 (by decide) gm_1286 rfl rfl dX11_bitesIn_63 (fun v9 hv9 fv9 => ?_)
    obtain ⟨rf10, rfl, trf10⟩ := th_V.ref hv9
    refine lv_bipush (v := 31) hx hb dX11_bitesIn_66 (by decide) ?_
    refine lv_iload_n hx hb dX11_bitesIn_68 rfl (lv_at hl 1 rfl) ?_
    refine lv_iadd hx hb dX11_bitesIn_69 ?_
    refine lv_topi (fun x11 ex11 => ?_)
    have zx11 : x6 = x11 := ex6.trans ex11.symm
    subst zx11
    refine th_iald S hK hH trf10 km_35 (th_in (hi := 34) (iv_w ix6 (by decide)) (by decide)) dX11_bitesIn_70 (fun v12 hv12 => ?_)
    obtain ⟨x13, rfl, ix13⟩ := th_V.int hv12
    refine lv_icmp_le (tgt := 78) hx hb dX11_bitesIn_71 (by decide) (fun c14 => ?_) (fun c14 => ?_)
    · skip
      have rlc14 : x8.toInt ≤ x13.toInt := iv_le c14
      refine lv_iconst (v := 0) hx hb dX11_bitesIn_78 (by decide) ?_
      exact J79_s0_0 H locs ls v53_2 iv53_2 hH hS (lv_sub hl [0, 2] rfl)
    · skip
      have rlc14 : x13.toInt < x8.toInt := iv_nle c14
      have ir15 : IV x13 (-2147483648) 2147483646 := iv_uL ix13 ix8 (iv_nle c14) (by decide)
      have ir15a := ir15.1; have ir15b := ir15.2
      have ir16 : IV x8 (-2147483647) 2147483647 := iv_uR ix13 ix8 (iv_nle c14) (by decide)
      have ir16a := ir16.1; have ir16b := ir16.2
      refine lv_iconst (v := 1) hx hb dX11_bitesIn_74 (by decide) ?_
      refine lv_goto (tgt := 79) hx hb dX11_bitesIn_75 (by decide) ?_
      exact J79_s0_1 H locs ls v53_2 iv53_2 hH hS (lv_sub hl [0, 2] rfl)
  have J16 : ∀ (n : Nat) (H : Heap) (locs : List Loc) (ls : Array Slot) (v16_2 : Int32), IV v16_2 0 30 → IV y1 0 3 → th_H D cT T (km q) H → va_S (th_A T [0, 32, 33, 35]) s.heap H locs → lv_has ls 4 [(0, .ref a0), (1, .int y1), (2, .int v16_2)] → (30 + 1 - Int32.toInt v16_2).toNat < n → W p l e (rmk 6 138) s m [.ref a0, .int y1].toArray below meth c H locs 0 0 (MQ below (th_Q D cT T (km q) (th_R T (some (.inl (-1, 29)))) [0, 32, 33, 35]) [.ref a0, .int y1].toArray s 0 0 (th_A T [0, 32, 33, 35])) (F0 m 16 ls []) := by
    intro n
    induction n with
    | zero => intro H locs ls v16_2 iv16_2 f16_y1 hH hS hl hn; exact absurd hn (Nat.not_lt_zero _)
    | succ n ih16 =>
      intro H locs ls v16_2 iv16_2 f16_y1 hH hS hl hn16
      have l1v16_2 := iv16_2.1; have l2v16_2 := iv16_2.2
      refine lv_iload_n hx hb dX11_bitesIn_16 rfl (lv_at hl 2 rfl) ?_
      refine lv_bipush (v := 30) hx hb dX11_bitesIn_17 (by decide) ?_
      refine lv_icmp_ge (tgt := 53) hx hb dX11_bitesIn_19 (by decide) (fun c17 => ?_) (fun c17 => ?_)
      · skip
        have rlc17 : (30 : Int) ≤ v16_2.toInt := iv_le c17
        have ir18 : IV v16_2 30 30 := iv_vR (iv_c (by decide) : IV 30 30 30) iv16_2 (iv_le c17) (by decide)
        have ir18a := ir18.1; have ir18b := ir18.2
        exact J53 H locs ls v16_2 (iv_w ir18 (by decide)) f16_y1 hH hS (lv_sub hl [0, 1, 2] rfl)
      · skip
        have rlc17 : v16_2.toInt < (30 : Int) := iv_nle c17
        have ir19 : IV v16_2 0 29 := iv_uL iv16_2 (iv_c (by decide) : IV 30 30 30) (iv_nle c17) (by decide)
        have ir19a := ir19.1; have ir19b := ir19.2
        refine lv_aload_n hx hb dX11_bitesIn_22 rfl (lv_at hl 0 rfl) ?_
        refine th_get S hK hH inG11 t0 km_0 rfl 52 (by decide) gm_1282 rfl rfl dX11_bitesIn_23 (fun v20 hv20 fv20 => ?_)
        obtain ⟨rf21, rfl, trf21⟩ := th_V.ref hv20
        refine lv_bipush (v := 31) hx hb dX11_bitesIn_26 (by decide) ?_
        refine lv_iload_n hx hb dX11_bitesIn_28 rfl (lv_at hl 1 rfl) ?_
        refine lv_iadd hx hb dX11_bitesIn_29 ?_
        refine lv_topi (fun x22 ex22 => ?_)
        have ix22 : IV x22 31 34 := by rw [ex22]; exact iv_add (iv_c (by decide) : IV 31 31 31) f16_y1 (by decide)
        have ux22 : x22.toInt = (31 : Int) + y1.toInt := by rw [ex22]; exact iv_addE (by have z1 := ((iv_c (by decide) : IV 31 31 31)).1; have z2 := ((iv_c (by decide) : IV 31 31 31)).2; have z3 := (f16_y1).1; have z4 := (f16_y1).2; omega)
        refine th_iald S hK hH trf21 km_33 (th_in (hi := 34) (iv_w ix22 (by decide)) (by decide)) dX11_bitesIn_30 (fun v23 hv23 => ?_)
        obtain ⟨x24, rfl, ix24⟩ := th_V.int hv23
        refine lv_aload_n hx hb dX11_bitesIn_31 rfl (lv_at hl 0 rfl) ?_
        refine th_get S hK hH inG11 t0 km_0 rfl 56 (by decide) gm_1286 rfl rfl dX11_bitesIn_32 (fun v25 hv25 fv25 => ?_)
        obtain ⟨rf26, rfl, trf26⟩ := th_V.ref hv25
        refine lv_bipush (v := 31) hx hb dX11_bitesIn_35 (by decide) ?_
        refine lv_iload_n hx hb dX11_bitesIn_37 rfl (lv_at hl 1 rfl) ?_
        refine lv_iadd hx hb dX11_bitesIn_38 ?_
        refine lv_topi (fun x27 ex27 => ?_)
        have zx27 : x22 = x27 := ex22.trans ex27.symm
        subst zx27
        refine th_iald S hK hH trf26 km_35 (th_in (hi := 34) (iv_w ix22 (by decide)) (by decide)) dX11_bitesIn_39 (fun v28 hv28 => ?_)
        obtain ⟨x29, rfl, ix29⟩ := th_V.int hv28
        refine lv_icmp_ne (tgt := 53) hx hb dX11_bitesIn_40 (by decide) (fun c30 => ?_) (fun c30 => ?_)
        · skip
          have rlc30 : x24.toInt ≠ x29.toInt := iv_ne c30
          exact J53 H locs ls v16_2 (iv_w ir19 (by decide)) f16_y1 hH hS (lv_sub hl [0, 1, 2] rfl)
        · skip
          have rlc30 : x24.toInt = x29.toInt := congrArg Int32.toInt c30
          refine lv_aload_n hx hb dX11_bitesIn_43 rfl (lv_at hl 0 rfl) ?_
          refine th_callVv (n := 0) (As := []) S hK hH hS (th_A.sub (by decide)) (m_X11_goYear l D cT T q hT hq a0 t0) gm_1717 gm_1714 gm_1716 gm_93 gm_124 (by decide +kernel) ⟨rfl, rfl, Nat.le_of_ble_eq_true rfl, Nat.le_of_ble_eq_true rfl⟩ t0 km_0 rfl rfl hl.1 rfl (Nat.le_of_ble_eq_true rfl) dX11_bitesIn_44 ⟨Nat.zero_le _, Nat.zero_le _⟩ (fun H locs hH hS hF1 => ?_)
          refine th_iinc S dX11_bitesIn_47 hl (k := 2) rfl (by decide) ir19 (by decide) (fun x31 ls ex31 ix31 hl => ?_)
          have hl : lv_has ls 4 [(2, .int x31), (0, .ref a0), (1, .int y1)] := hl
          have ix31 : IV x31 1 30 := ix31
          refine lv_goto (tgt := 16) hx hb dX11_bitesIn_50 (by decide) ?_
          exact ih16 H locs ls x31 (iv_w ix31 (by decide)) f16_y1 hH hS (lv_sub hl [1, 2, 0] rfl) (th_up iv16_2 ex31 (by decide) hn16)
  have J0 : ∀ (H : Heap) (locs : List Loc) (ls : Array Slot), th_H D cT T (km q) H → va_S (th_A T [0, 32, 33, 35]) s.heap H locs → lv_has ls 4 [(0, .ref a0), (1, .int y1)] → W p l e (rmk 6 138) s m [.ref a0, .int y1].toArray below meth c H locs 0 0 (MQ below (th_Q D cT T (km q) (th_R T (some (.inl (-1, 29)))) [0, 32, 33, 35]) [.ref a0, .int y1].toArray s 0 0 (th_A T [0, 32, 33, 35])) (F0 m 0 ls []) := by
    intro H locs ls hH hS hl
    refine lv_aload_n hx hb dX11_bitesIn_0 rfl (lv_at hl 0 rfl) ?_
    refine lv_iload_n hx hb dX11_bitesIn_1 rfl (lv_at hl 1 rfl) ?_
    refine th_callVp (n := 1) (As := [.int y1]) S hK hH hS (th_A.sub (by decide)) (m_X11_isMap l D cT T q hT hq a0 t0 (y1) j1) gm_1626 gm_1623 gm_1625 gm_80 gm_124 (by decide +kernel) ⟨rfl, rfl, Nat.le_of_ble_eq_true rfl, Nat.le_of_ble_eq_true rfl⟩ t0 km_0 rfl rfl hl.1 rfl (Nat.le_of_ble_eq_true rfl) dX11_bitesIn_2 ⟨Nat.zero_le _, Nat.zero_le _⟩ (fun x32 H locs ix32 ox32 hH hS hF1 => ?_)
    have ox32 : x32.toInt ≠ 0 → 0 ≤ y1.toInt ∧ y1.toInt < q 11 := ox32
    refine lv_if_ne (tgt := 10) hx hb dX11_bitesIn_5 (by decide) (fun c33 => ?_) (fun c33 => ?_)
    · skip
      have rlc33 : x32.toInt ≠ (0 : Int) := iv_ne c33
      have ir34 : IV x32 1 1 := iv_cutL ix32 (iv_c (by decide) : IV 0 0 0) c33 (by decide)
      have ir34a := ir34.1; have ir34b := ir34.2
      have ir35 : IV y1 0 3 := ((fun z => by have z1 := iv_ne z; have z2 : x32.toInt ≠ 0 := z1; have z60 := qkm_11 hq; exact ⟨by omega, by omega⟩) : ¬ x32 = 0 → IV y1 0 3) c33
      have ir35a := ir35.1; have ir35b := ir35.2
      refine lv_aload_n hx hb dX11_bitesIn_10 rfl (lv_at hl 0 rfl) ?_
      refine th_callVv (n := 0) (As := []) S hK hH hS (th_A.sub (by decide)) (m_X11_keepNow l D cT T q hT hq a0 t0) gm_1713 gm_1710 gm_1712 gm_92 gm_124 (by decide +kernel) ⟨rfl, rfl, Nat.le_of_ble_eq_true rfl, Nat.le_of_ble_eq_true rfl⟩ t0 km_0 rfl rfl hl.1 rfl (Nat.le_of_ble_eq_true rfl) dX11_bitesIn_11 ⟨Nat.zero_le _, Nat.zero_le _⟩ (fun H locs hH hS hF1 => ?_)
      refine lv_iconst (v := 0) hx hb dX11_bitesIn_14 (by decide) ?_
      refine lv_istore_n (lv' := [(2, .int 0), (0, .ref a0), (1, .int y1)]) hx hb dX11_bitesIn_15 rfl hl (by decide) rfl (fun ls hl => ?_)
      exact J16 ((30 + 1 - Int32.toInt 0).toNat + 1) H locs ls 0 (iv_w (iv_c (by decide) : IV 0 0 0) (by decide)) ir35 hH hS (lv_sub hl [1, 2, 0] rfl) (Nat.lt_succ_self _)
    · skip
      have rlc33 : x32.toInt = (0 : Int) := congrArg Int32.toInt c33
      have ir36 : IV x32 0 0 := iv_eL c33 (iv_c (by decide) : IV 0 0 0)
      have ir36a := ir36.1; have ir36b := ir36.2
      refine lv_iconst (v := (-1)) hx hb dX11_bitesIn_8 (by decide) ?_
      exact th_iret S hK hH hS hr hlocks (th_R.i (iv_w (iv_c (by decide) : IV (-1) (-1) (-1)) (by decide))) dX11_bitesIn_9
  exact J0 s.heap [] ls hH va_S.rf hl

set_option maxRecDepth 100000 in
theorem m_X11_will (l : Launch) (D : va_G) (cT : Nat → ClassId) (T : Nat → Option Nat) (q : Nat → Int) (hT : tokm T) (hq : qkm q) (a0 : Nat) (t0 : T a0 = some 0) (y1 : Int32) (j1 : IV y1 (-2147483648) 2147483647) (y2 : Int32) (j2 : IV y2 (-2147483648) 2147483647) : th_Met l D cT T (km q) yX11_will cX11_will 4 (some .int) (rmk 6 138) [.ref a0, .int y1, .int y2] (th_R T (some (.inl (-2147483648, 2147483647)))) [0, 32, 33, 35] := by
  refine th_start (by decide) (Nat.le_of_ble_eq_true rfl) ?_
  intro p e s m below meth c ls S hK hH hr hlocks hnm hl
  have hx := S.1
  have hb := S.2.1
  have hl : lv_has ls 4 [(0, .ref a0), (1, .int y1), (2, .int y2)] := hl
  have J26 : ∀ (n : Nat) (H : Heap) (locs : List Loc) (ls : Array Slot) (v26_3 : Int32), IV v26_3 0 40 → IV y1 0 7 → IV y2 0 40 → th_H D cT T (km q) H → va_S (th_A T [0, 32, 33, 35]) s.heap H locs → lv_has ls 4 [(0, .ref a0), (1, .int y1), (2, .int y2), (3, .int v26_3)] → (40 + 1 - Int32.toInt v26_3).toNat < n → W p l e (rmk 6 138) s m [.ref a0, .int y1, .int y2].toArray below meth c H locs 0 0 (MQ below (th_Q D cT T (km q) (th_R T (some (.inl (-2147483648, 2147483647)))) [0, 32, 33, 35]) [.ref a0, .int y1, .int y2].toArray s 0 0 (th_A T [0, 32, 33, 35])) (F0 m 26 ls []) := by
    intro n
    induction n with
    | zero => intro H locs ls v26_3 iv26_3 f26_y1 f26_y2 hH hS hl hn; exact absurd hn (Nat.not_lt_zero _)
    | succ n ih26 =>
      intro H locs ls v26_3 iv26_3 f26_y1 f26_y2 hH hS hl hn26
      have l1v26_3 := iv26_3.1; have l2v26_3 := iv26_3.2
      refine lv_iload_n hx hb dX11_will_26 rfl (lv_at hl 3 rfl) ?_
      refine lv_iload_n hx hb dX11_will_27 rfl (lv_at hl 2 rfl) ?_
      refine lv_icmp_ge (tgt := 41) hx hb dX11_will_28 (by decide) (fun c1 => ?_) (fun c1 => ?_)
      · skip
        have rlc1 : y2.toInt ≤ v26_3.toInt := iv_le c1
        refine lv_aload_n hx hb dX11_will_41 rfl (lv_at hl 0 rfl) ?_
        refine th_get S hK hH inG11 t0 km_0 rfl 52 (by decide) gm_1282 rfl rfl dX11_will_42 (fun v2 hv2 fv2 => ?_)
        obtain ⟨rf3, rfl, trf3⟩ := th_V.ref hv2
        refine lv_bipush (v := 15) hx hb dX11_will_45 (by decide) ?_
        refine lv_iload_n hx hb dX11_will_47 rfl (lv_at hl 1 rfl) ?_
        refine lv_iadd hx hb dX11_will_48 ?_
        refine lv_topi (fun x4 ex4 => ?_)
        have ix4 : IV x4 15 22 := by rw [ex4]; exact iv_add (iv_c (by decide) : IV 15 15 15) f26_y1 (by decide)
        have ux4 : x4.toInt = (15 : Int) + y1.toInt := by rw [ex4]; exact iv_addE (by have z1 := ((iv_c (by decide) : IV 15 15 15)).1; have z2 := ((iv_c (by decide) : IV 15 15 15)).2; have z3 := (f26_y1).1; have z4 := (f26_y1).2; omega)
        refine th_iald S hK hH trf3 km_33 (th_in (hi := 22) (iv_w ix4 (by decide)) (by decide)) dX11_will_49 (fun v5 hv5 => ?_)
        obtain ⟨x6, rfl, ix6⟩ := th_V.int hv5
        refine lv_istore_n (lv' := [(3, .int x6), (0, .ref a0), (1, .int y1), (2, .int y2)]) hx hb dX11_will_50 rfl hl (by decide) rfl (fun ls hl => ?_)
        refine lv_aload_n hx hb dX11_will_51 rfl (lv_at hl 1 rfl) ?_
        refine th_callVv (n := 0) (As := []) S hK hH hS (th_A.sub (by decide)) (m_X11_bringBack l D cT T q hT hq a0 t0) gm_1768 gm_1765 gm_1767 gm_99 gm_124 (by decide +kernel) ⟨rfl, rfl, Nat.le_of_ble_eq_true rfl, Nat.le_of_ble_eq_true rfl⟩ t0 km_0 rfl rfl hl.1 rfl (Nat.le_of_ble_eq_true rfl) dX11_will_52 ⟨Nat.zero_le _, Nat.zero_le _⟩ (fun H locs hH hS hF1 => ?_)
        refine lv_iload_n hx hb dX11_will_55 rfl (lv_at hl 0 rfl) ?_
        exact th_iret S hK hH hS hr hlocks (th_R.i ix6) dX11_will_56
      · skip
        have rlc1 : v26_3.toInt < y2.toInt := iv_nle c1
        have ir7 : IV v26_3 0 39 := iv_uL iv26_3 f26_y2 (iv_nle c1) (by decide)
        have ir7a := ir7.1; have ir7b := ir7.2
        have ir8 : IV y2 1 40 := iv_uR iv26_3 f26_y2 (iv_nle c1) (by decide)
        have ir8a := ir8.1; have ir8b := ir8.2
        refine lv_aload_n hx hb dX11_will_31 rfl (lv_at hl 0 rfl) ?_
        refine th_callVv (n := 0) (As := []) S hK hH hS (th_A.sub (by decide)) (m_X11_goYear l D cT T q hT hq a0 t0) gm_1717 gm_1714 gm_1716 gm_93 gm_124 (by decide +kernel) ⟨rfl, rfl, Nat.le_of_ble_eq_true rfl, Nat.le_of_ble_eq_true rfl⟩ t0 km_0 rfl rfl hl.1 rfl (Nat.le_of_ble_eq_true rfl) dX11_will_32 ⟨Nat.zero_le _, Nat.zero_le _⟩ (fun H locs hH hS hF1 => ?_)
        refine th_iinc S dX11_will_35 hl (k := 3) rfl (by decide) ir7 (by decide) (fun x9 ls ex9 ix9 hl => ?_)
        have hl : lv_has ls 4 [(3, .int x9), (0, .ref a0), (1, .int y1), (2, .int y2)] := hl
        have ix9 : IV x9 1 40 := ix9
        refine lv_goto (tgt := 26) hx hb dX11_will_38 (by decide) ?_
        exact ih26 H locs ls x9 (iv_w ix9 (by decide)) f26_y1 (iv_w ir8 (by decide)) hH hS (lv_sub hl [1, 2, 3, 0] rfl) (th_up iv26_3 ex9 (by decide) hn26)
  have J18 : ∀ (H : Heap) (locs : List Loc) (ls : Array Slot), th_H D cT T (km q) H → va_S (th_A T [0, 32, 33, 35]) s.heap H locs → lv_has ls 4 [] → W p l e (rmk 6 138) s m [.ref a0, .int y1, .int y2].toArray below meth c H locs 0 0 (MQ below (th_Q D cT T (km q) (th_R T (some (.inl (-2147483648, 2147483647)))) [0, 32, 33, 35]) [.ref a0, .int y1, .int y2].toArray s 0 0 (th_A T [0, 32, 33, 35])) (F0 m 18 ls []) := by
    intro H locs ls hH hS hl
    refine lv_iconst (v := (-1)) hx hb dX11_will_18 (by decide) ?_
    exact th_iret S hK hH hS hr hlocks (th_R.i (iv_top _)) dX11_will_19
  have J0 : ∀ (H : Heap) (locs : List Loc) (ls : Array Slot), th_H D cT T (km q) H → va_S (th_A T [0, 32, 33, 35]) s.heap H locs → lv_has ls 4 [(0, .ref a0), (1, .int y1), (2, .int y2)] → W p l e (rmk 6 138) s m [.ref a0, .int y1, .int y2].toArray below meth c H locs 0 0 (MQ below (th_Q D cT T (km q) (th_R T (some (.inl (-2147483648, 2147483647)))) [0, 32, 33, 35]) [.ref a0, .int y1, .int y2].toArray s 0 0 (th_A T [0, 32, 33, 35])) (F0 m 0 ls []) := by
    intro H locs ls hH hS hl
    refine lv_aload_n hx hb dX11_will_0 rfl (lv_at hl 0 rfl) ?_
    refine lv_iload_n hx hb dX11_will_1 rfl (lv_at hl 1 rfl) ?_
    refine th_callVp (n := 1) (As := [.int y1]) S hK hH hS (th_A.sub (by decide)) (m_X11_isPlace l D cT T q hT hq a0 t0 (y1) j1) gm_1672 gm_1669 gm_1671 gm_89 gm_124 (by decide +kernel) ⟨rfl, rfl, Nat.le_of_ble_eq_true rfl, Nat.le_of_ble_eq_true rfl⟩ t0 km_0 rfl rfl hl.1 rfl (Nat.le_of_ble_eq_true rfl) dX11_will_2 ⟨Nat.zero_le _, Nat.zero_le _⟩ (fun x10 H locs ix10 ox10 hH hS hF1 => ?_)
    have ox10 : x10.toInt ≠ 0 → 0 ≤ y1.toInt ∧ y1.toInt < q 18 := ox10
    refine lv_if_eq (tgt := 18) hx hb dX11_will_5 (by decide) (fun c11 => ?_) (fun c11 => ?_)
    · skip
      have rlc11 : x10.toInt = (0 : Int) := congrArg Int32.toInt c11
      have ir12 : IV x10 0 0 := iv_eL c11 (iv_c (by decide) : IV 0 0 0)
      have ir12a := ir12.1; have ir12b := ir12.2
      exact J18 H locs ls  hH hS (lv_sub hl [] rfl)
    · skip
      have rlc11 : x10.toInt ≠ (0 : Int) := iv_ne c11
      have ir13 : IV x10 1 1 := iv_cutL ix10 (iv_c (by decide) : IV 0 0 0) c11 (by decide)
      have ir13a := ir13.1; have ir13b := ir13.2
      have ir14 : IV y1 0 7 := ((fun z => by have z1 := iv_ne z; have z2 : x10.toInt ≠ 0 := z1; have z60 := qkm_18 hq; exact ⟨by omega, by omega⟩) : ¬ x10 = 0 → IV y1 0 7) c11
      have ir14a := ir14.1; have ir14b := ir14.2
      refine lv_iload_n hx hb dX11_will_8 rfl (lv_at hl 2 rfl) ?_
      refine lv_iconst (v := 0) hx hb dX11_will_9 (by decide) ?_
      refine lv_bipush (v := 40) hx hb dX11_will_10 (by decide) ?_
      refine th_callSp (n := 3) (As := [.int y2, .int 0, .int 40]) S hK hH hS (th_A.sub (by decide)) (m_X11_isIn l D cT T q hT hq (y2) j2 (0) (iv_top _) (40) (iv_top _)) gm_1618 gm_1616 gm_1617 gm_124 (by decide +kernel) ⟨rfl, rfl, Nat.le_of_ble_eq_true rfl, Nat.le_of_ble_eq_true rfl⟩ rfl hl.1 rfl (Nat.le_of_ble_eq_true rfl) dX11_will_12 ⟨Nat.zero_le _, Nat.zero_le _⟩ (fun x15 H locs ix15 ox15 hH hS hF1 => ?_)
      obtain ⟨ox15_0, ox15_1⟩ := ox15
      have ox15_0 : x15.toInt ≠ 0 → (0 : Int) ≤ y2.toInt ∧ y2.toInt ≤ (40 : Int) := ox15_0
      have ox15_1 : x15.toInt = 0 → y2.toInt < (0 : Int) ∨ (40 : Int) < y2.toInt := ox15_1
      refine lv_if_ne (tgt := 20) hx hb dX11_will_15 (by decide) (fun c16 => ?_) (fun c16 => ?_)
      · skip
        have rlc16 : x15.toInt ≠ (0 : Int) := iv_ne c16
        have ir17 : IV x15 1 1 := iv_cutL ix15 (iv_c (by decide) : IV 0 0 0) c16 (by decide)
        have ir17a := ir17.1; have ir17b := ir17.2
        have ir18 : IV y2 0 40 := ((fun z => by have z1 := iv_ne z; have z2 : x15.toInt ≠ 0 := z1; have z4 := ((iv_c (by decide) : IV 0 0 0)).1; have z5 := ((iv_c (by decide) : IV 40 40 40)).2; exact ⟨by omega, by omega⟩) : ¬ x15 = 0 → IV y2 0 40) c16
        have ir18a := ir18.1; have ir18b := ir18.2
        refine lv_aload_n hx hb dX11_will_20 rfl (lv_at hl 0 rfl) ?_
        refine th_callVv (n := 0) (As := []) S hK hH hS (th_A.sub (by decide)) (m_X11_keepNow l D cT T q hT hq a0 t0) gm_1713 gm_1710 gm_1712 gm_92 gm_124 (by decide +kernel) ⟨rfl, rfl, Nat.le_of_ble_eq_true rfl, Nat.le_of_ble_eq_true rfl⟩ t0 km_0 rfl rfl hl.1 rfl (Nat.le_of_ble_eq_true rfl) dX11_will_21 ⟨Nat.zero_le _, Nat.zero_le _⟩ (fun H locs hH hS hF1 => ?_)
        refine lv_iconst (v := 0) hx hb dX11_will_24 (by decide) ?_
        refine lv_istore_n (lv' := [(3, .int 0), (0, .ref a0), (1, .int y1), (2, .int y2)]) hx hb dX11_will_25 rfl hl (by decide) rfl (fun ls hl => ?_)
        exact J26 ((40 + 1 - Int32.toInt 0).toNat + 1) H locs ls 0 (iv_w (iv_c (by decide) : IV 0 0 0) (by decide)) ir14 ir18 hH hS (lv_sub hl [1, 2, 3, 0] rfl) (Nat.lt_succ_self _)
      · skip
        have rlc16 : x15.toInt = (0 : Int) := congrArg Int32.toInt c16
        have ir19 : IV x15 0 0 := iv_eL c16 (iv_c (by decide) : IV 0 0 0)
        have ir19a := ir19.1; have ir19b := ir19.2
        exact J18 H locs ls  hH hS (lv_sub hl [] rfl)
  exact J0 s.heap [] ls hH va_S.rf hl

set_option maxRecDepth 100000 in
theorem m_X11_doom (l : Launch) (D : va_G) (cT : Nat → ClassId) (T : Nat → Option Nat) (q : Nat → Int) (hT : tokm T) (hq : qkm q) (a0 : Nat) (t0 : T a0 = some 0) (y1 : Int32) (j1 : IV y1 (-2147483648) 2147483647) : th_Met l D cT T (km q) yX11_doom cX11_doom 5 (some .int) (rmk 6 138) [.ref a0, .int y1] (th_R T (some (.inl (-1, 31)))) [0, 32, 33, 35] := by
  refine th_start (by decide) (Nat.le_of_ble_eq_true rfl) ?_
  intro p e s m below meth c ls S hK hH hr hlocks hnm hl
  have hx := S.1
  have hb := S.2.1
  have hl : lv_has ls 5 [(0, .ref a0), (1, .int y1)] := hl
  have J83 : ∀ (H : Heap) (locs : List Loc) (ls : Array Slot) (w83_0 : Int32), IV w83_0 0 31 → th_H D cT T (km q) H → va_S (th_A T [0, 32, 33, 35]) s.heap H locs → lv_has ls 5 [] → W p l e (rmk 6 138) s m [.ref a0, .int y1].toArray below meth c H locs 0 0 (MQ below (th_Q D cT T (km q) (th_R T (some (.inl (-1, 31)))) [0, 32, 33, 35]) [.ref a0, .int y1].toArray s 0 0 (th_A T [0, 32, 33, 35])) (F0 m 83 ls [.int w83_0]) := by
    intro H locs ls w83_0 iw83_0 hH hS hl
    have l1w83_0 := iw83_0.1; have l2w83_0 := iw83_0.2
    exact th_iret S hK hH hS hr hlocks (th_R.i (iv_w iw83_0 (by decide))) dX11_doom_83
  have J58 : ∀ (n : Nat) (H : Heap) (locs : List Loc) (ls : Array Slot) (v58_2 : Int32) (v58_3 : Int32) (v58_4 : Int32), IV v58_2 0 30 → IV v58_3 (-2147483648) 2147483647 → IV v58_4 0 31 → ¬ v58_3 = 0 → IV y1 0 1 → (nobit v58_3 v58_4.toInt) → (v58_3.toInt ≠ 0) → th_H D cT T (km q) H → va_S (th_A T [0, 32, 33, 35]) s.heap H locs → lv_has ls 5 [(1, .int y1), (2, .int v58_2), (3, .int v58_3), (4, .int v58_4)] → (31 + 1 - Int32.toInt v58_4).toNat < n → W p l e (rmk 6 138) s m [.ref a0, .int y1].toArray below meth c H locs 0 0 (MQ below (th_Q D cT T (km q) (th_R T (some (.inl (-1, 31)))) [0, 32, 33, 35]) [.ref a0, .int y1].toArray s 0 0 (th_A T [0, 32, 33, 35])) (F0 m 58 ls []) := by
    intro n
    induction n with
    | zero => intro H locs ls v58_2 v58_3 v58_4 iv58_2 iv58_3 iv58_4 d58_3_0 f58_y1 v58_inv0 v58_inv1 hH hS hl hn; exact absurd hn (Nat.not_lt_zero _)
    | succ n ih58 =>
      intro H locs ls v58_2 v58_3 v58_4 iv58_2 iv58_3 iv58_4 d58_3_0 f58_y1 v58_inv0 v58_inv1 hH hS hl hn58
      have l1v58_2 := iv58_2.1; have l2v58_2 := iv58_2.2
      have l1v58_4 := iv58_4.1; have l2v58_4 := iv58_4.2
      refine lv_iload_n hx hb dX11_doom_58 rfl (lv_at hl 2 rfl) ?_
      refine lv_iload hx hb dX11_doom_59 (lv_at hl 3 rfl) ?_
      refine th_callSp (n := 2) (As := [.int v58_3, .int v58_4]) S hK hH hS (th_A.sub (by decide)) (m_X11_has l D cT T q hT hq (v58_3) iv58_3 (v58_4) (iv_top _)) gm_1633 gm_1631 gm_1632 gm_124 (by decide +kernel) ⟨rfl, rfl, Nat.le_of_ble_eq_true rfl, Nat.le_of_ble_eq_true rfl⟩ rfl hl.1 rfl (Nat.le_of_ble_eq_true rfl) dX11_doom_61 ⟨Nat.zero_le _, Nat.zero_le _⟩ (fun x1 H locs ix1 ox1 hH hS hF1 => ?_)
      have ox1 : x1.toInt = 0 → ¬ ((v58_3 >>> (v58_4 &&& 31)) &&& 1 = 1) := ox1
      refine lv_if_ne (tgt := 73) hx hb dX11_doom_64 (by decide) (fun c2 => ?_) (fun c2 => ?_)
      · skip
        have rlc2 : x1.toInt ≠ (0 : Int) := iv_ne c2
        have ir3 : IV x1 1 1 := iv_cutL ix1 (iv_c (by decide) : IV 0 0 0) c2 (by decide)
        have ir3a := ir3.1; have ir3b := ir3.2
        refine lv_iload_n hx hb dX11_doom_73 rfl (lv_at hl 0 rfl) ?_
        refine lv_if_ne (tgt := 81) hx hb dX11_doom_74 (by decide) (fun c4 => ?_) (fun c4 => ?_)
        · skip
          have rlc4 : y1.toInt ≠ (0 : Int) := iv_ne c4
          have ir5 : IV y1 1 1 := iv_cutL f58_y1 (iv_c (by decide) : IV 0 0 0) c4 (by decide)
          have ir5a := ir5.1; have ir5b := ir5.2
          refine lv_iload hx hb dX11_doom_81 (lv_at hl 3 rfl) ?_
          exact J83 H locs ls v58_4 iv58_4 hH hS (lv_sub hl [] rfl)
        · skip
          have rlc4 : y1.toInt = (0 : Int) := congrArg Int32.toInt c4
          have ir6 : IV y1 0 0 := iv_eL c4 (iv_c (by decide) : IV 0 0 0)
          have ir6a := ir6.1; have ir6b := ir6.2
          refine lv_iload_n hx hb dX11_doom_77 rfl (lv_at hl 1 rfl) ?_
          refine lv_goto (tgt := 83) hx hb dX11_doom_78 (by decide) ?_
          exact J83 H locs ls v58_2 (iv_w iv58_2 (by decide)) hH hS (lv_sub hl [] rfl)
      · skip
        have rlc2 : x1.toInt = (0 : Int) := congrArg Int32.toInt c2
        have ir7 : IV x1 0 0 := iv_eL c2 (iv_c (by decide) : IV 0 0 0)
        have ir7a := ir7.1; have ir7b := ir7.2
        have hb2 := nobit_next v58_inv0 iv58_4 (ox1 (by omega)) (by omega)
        have hb1 := hb2.1; have hb3 := hb2.2
        refine th_iinc S dX11_doom_67 hl (k := 3) rfl (by decide) iv58_4 (by decide) (fun x8 ls ex8 ix8 hl => ?_)
        have hl : lv_has ls 5 [(4, .int x8), (1, .int y1), (2, .int v58_2), (3, .int v58_3)] := hl
        have ix8 : IV x8 1 32 := ix8
        refine lv_goto (tgt := 58) hx hb dX11_doom_70 (by decide) ?_
        exact ih58 H locs ls v58_2 v58_3 x8 iv58_2 iv58_3 (show IV x8 0 31 by have z1 := (ix8).1; have z2 := (ix8).2; exact ⟨by omega, by omega⟩) d58_3_0 f58_y1 (show nobit v58_3 x8.toInt by first | exact nobit0 _ | (rw [ex8]; exact hb1)) (show v58_3.toInt ≠ 0 by omega) hH hS (lv_sub hl [1, 2, 3, 0] rfl) (th_up iv58_4 ex8 (by decide) hn58)
  have J40 : ∀ (H : Heap) (locs : List Loc) (ls : Array Slot) (v40_2 : Int32), IV v40_2 0 30 → IV y1 0 1 → th_H D cT T (km q) H → va_S (th_A T [0, 32, 33, 35]) s.heap H locs → lv_has ls 5 [(0, .ref a0), (1, .int y1), (2, .int v40_2)] → W p l e (rmk 6 138) s m [.ref a0, .int y1].toArray below meth c H locs 0 0 (MQ below (th_Q D cT T (km q) (th_R T (some (.inl (-1, 31)))) [0, 32, 33, 35]) [.ref a0, .int y1].toArray s 0 0 (th_A T [0, 32, 33, 35])) (F0 m 40 ls []) := by
    intro H locs ls v40_2 iv40_2 f40_y1 hH hS hl
    have l1v40_2 := iv40_2.1; have l2v40_2 := iv40_2.2
    refine lv_aload_n hx hb dX11_doom_40 rfl (lv_at hl 0 rfl) ?_
    refine th_callVi (n := 0) (As := []) S hK hH hS (th_A.sub (by decide)) (m_X11_lost l D cT T q hT hq a0 t0) gm_1780 gm_1777 gm_1779 gm_100 gm_124 (by decide +kernel) ⟨rfl, rfl, Nat.le_of_ble_eq_true rfl, Nat.le_of_ble_eq_true rfl⟩ t0 km_0 rfl rfl hl.1 rfl (Nat.le_of_ble_eq_true rfl) dX11_doom_41 ⟨Nat.zero_le _, Nat.zero_le _⟩ (fun x9 H locs ix9 hH hS hF1 => ?_)
    refine lv_istore_n (lv' := [(3, .int x9), (0, .ref a0), (1, .int y1), (2, .int v40_2)]) hx hb dX11_doom_44 rfl hl (by decide) rfl (fun ls hl => ?_)
    refine lv_aload_n hx hb dX11_doom_45 rfl (lv_at hl 1 rfl) ?_
    refine th_callVv (n := 0) (As := []) S hK hH hS (th_A.sub (by decide)) (m_X11_bringBack l D cT T q hT hq a0 t0) gm_1768 gm_1765 gm_1767 gm_99 gm_124 (by decide +kernel) ⟨rfl, rfl, Nat.le_of_ble_eq_true rfl, Nat.le_of_ble_eq_true rfl⟩ t0 km_0 rfl rfl hl.1 rfl (Nat.le_of_ble_eq_true rfl) dX11_doom_46 ⟨Nat.zero_le _, Nat.zero_le _⟩ (fun H locs hH hS hF1 => ?_)
    refine lv_iload_n hx hb dX11_doom_49 rfl (lv_at hl 0 rfl) ?_
    refine lv_if_ne (tgt := 55) hx hb dX11_doom_50 (by decide) (fun c10 => ?_) (fun c10 => ?_)
    · skip
      have rlc10 : x9.toInt ≠ (0 : Int) := iv_ne c10
      refine lv_iconst (v := 0) hx hb dX11_doom_55 (by decide) ?_
      refine lv_istore (lv' := [(4, .int 0), (3, .int x9), (0, .ref a0), (1, .int y1), (2, .int v40_2)]) hx hb dX11_doom_56 hl (by decide) rfl (fun ls hl => ?_)
      exact J58 ((31 + 1 - Int32.toInt 0).toNat + 1) H locs ls v40_2 x9 0 iv40_2 ix9 (iv_w (iv_c (by decide) : IV 0 0 0) (by decide)) c10 f40_y1 (show nobit x9 (0 : Int) by first | exact nobit0 _ | (rw [e0]; exact hb1)) (show x9.toInt ≠ 0 by omega) hH hS (lv_sub hl [3, 4, 1, 0] rfl) (Nat.lt_succ_self _)
    · skip
      have rlc10 : x9.toInt = (0 : Int) := congrArg Int32.toInt c10
      have ir11 : IV x9 0 0 := iv_eL c10 (iv_c (by decide) : IV 0 0 0)
      have ir11a := ir11.1; have ir11b := ir11.2
      refine lv_iconst (v := (-1)) hx hb dX11_doom_53 (by decide) ?_
      exact th_iret S hK hH hS hr hlocks (th_R.i (iv_w (iv_c (by decide) : IV (-1) (-1) (-1)) (by decide))) dX11_doom_54
  have J17 : ∀ (n : Nat) (H : Heap) (locs : List Loc) (ls : Array Slot) (v17_2 : Int32), IV v17_2 0 30 → IV y1 0 1 → th_H D cT T (km q) H → va_S (th_A T [0, 32, 33, 35]) s.heap H locs → lv_has ls 5 [(0, .ref a0), (1, .int y1), (2, .int v17_2)] → (30 + 1 - Int32.toInt v17_2).toNat < n → W p l e (rmk 6 138) s m [.ref a0, .int y1].toArray below meth c H locs 0 0 (MQ below (th_Q D cT T (km q) (th_R T (some (.inl (-1, 31)))) [0, 32, 33, 35]) [.ref a0, .int y1].toArray s 0 0 (th_A T [0, 32, 33, 35])) (F0 m 17 ls []) := by
    intro n
    induction n with
    | zero => intro H locs ls v17_2 iv17_2 f17_y1 hH hS hl hn; exact absurd hn (Nat.not_lt_zero _)
    | succ n ih17 =>
      intro H locs ls v17_2 iv17_2 f17_y1 hH hS hl hn17
      have l1v17_2 := iv17_2.1; have l2v17_2 := iv17_2.2
      refine lv_iload_n hx hb dX11_doom_17 rfl (lv_at hl 2 rfl) ?_
      refine lv_bipush (v := 30) hx hb dX11_doom_18 (by decide) ?_
      refine lv_icmp_ge (tgt := 40) hx hb dX11_doom_20 (by decide) (fun c12 => ?_) (fun c12 => ?_)
      · skip
        have rlc12 : (30 : Int) ≤ v17_2.toInt := iv_le c12
        have ir13 : IV v17_2 30 30 := iv_vR (iv_c (by decide) : IV 30 30 30) iv17_2 (iv_le c12) (by decide)
        have ir13a := ir13.1; have ir13b := ir13.2
        exact J40 H locs ls v17_2 (iv_w ir13 (by decide)) f17_y1 hH hS (lv_sub hl [0, 1, 2] rfl)
      · skip
        have rlc12 : v17_2.toInt < (30 : Int) := iv_nle c12
        have ir14 : IV v17_2 0 29 := iv_uL iv17_2 (iv_c (by decide) : IV 30 30 30) (iv_nle c12) (by decide)
        have ir14a := ir14.1; have ir14b := ir14.2
        refine lv_aload_n hx hb dX11_doom_23 rfl (lv_at hl 0 rfl) ?_
        refine th_callVi (n := 0) (As := []) S hK hH hS (th_A.sub (by decide)) (m_X11_lost l D cT T q hT hq a0 t0) gm_1780 gm_1777 gm_1779 gm_100 gm_124 (by decide +kernel) ⟨rfl, rfl, Nat.le_of_ble_eq_true rfl, Nat.le_of_ble_eq_true rfl⟩ t0 km_0 rfl rfl hl.1 rfl (Nat.le_of_ble_eq_true rfl) dX11_doom_24 ⟨Nat.zero_le _, Nat.zero_le _⟩ (fun x15 H locs ix15 hH hS hF1 => ?_)
        refine lv_if_ne (tgt := 40) hx hb dX11_doom_27 (by decide) (fun c16 => ?_) (fun c16 => ?_)
        · skip
          have rlc16 : x15.toInt ≠ (0 : Int) := iv_ne c16
          exact J40 H locs ls v17_2 (iv_w ir14 (by decide)) f17_y1 hH hS (lv_sub hl [0, 1, 2] rfl)
        · skip
          have rlc16 : x15.toInt = (0 : Int) := congrArg Int32.toInt c16
          have ir17 : IV x15 0 0 := iv_eL c16 (iv_c (by decide) : IV 0 0 0)
          have ir17a := ir17.1; have ir17b := ir17.2
          refine lv_aload_n hx hb dX11_doom_30 rfl (lv_at hl 0 rfl) ?_
          refine th_callVv (n := 0) (As := []) S hK hH hS (th_A.sub (by decide)) (m_X11_goYear l D cT T q hT hq a0 t0) gm_1717 gm_1714 gm_1716 gm_93 gm_124 (by decide +kernel) ⟨rfl, rfl, Nat.le_of_ble_eq_true rfl, Nat.le_of_ble_eq_true rfl⟩ t0 km_0 rfl rfl hl.1 rfl (Nat.le_of_ble_eq_true rfl) dX11_doom_31 ⟨Nat.zero_le _, Nat.zero_le _⟩ (fun H locs hH hS hF1 => ?_)
          refine th_iinc S dX11_doom_34 hl (k := 2) rfl (by decide) ir14 (by decide) (fun x18 ls ex18 ix18 hl => ?_)
          have hl : lv_has ls 5 [(2, .int x18), (0, .ref a0), (1, .int y1)] := hl
          have ix18 : IV x18 1 30 := ix18
          refine lv_goto (tgt := 17) hx hb dX11_doom_37 (by decide) ?_
          exact ih17 H locs ls x18 (iv_w ix18 (by decide)) f17_y1 hH hS (lv_sub hl [1, 2, 0] rfl) (th_up iv17_2 ex18 (by decide) hn17)
  have J0 : ∀ (H : Heap) (locs : List Loc) (ls : Array Slot), th_H D cT T (km q) H → va_S (th_A T [0, 32, 33, 35]) s.heap H locs → lv_has ls 5 [(0, .ref a0), (1, .int y1)] → W p l e (rmk 6 138) s m [.ref a0, .int y1].toArray below meth c H locs 0 0 (MQ below (th_Q D cT T (km q) (th_R T (some (.inl (-1, 31)))) [0, 32, 33, 35]) [.ref a0, .int y1].toArray s 0 0 (th_A T [0, 32, 33, 35])) (F0 m 0 ls []) := by
    intro H locs ls hH hS hl
    refine lv_iload_n hx hb dX11_doom_0 rfl (lv_at hl 1 rfl) ?_
    refine lv_iconst (v := 0) hx hb dX11_doom_1 (by decide) ?_
    refine lv_iconst (v := 1) hx hb dX11_doom_2 (by decide) ?_
    refine th_callSp (n := 3) (As := [.int y1, .int 0, .int 1]) S hK hH hS (th_A.sub (by decide)) (m_X11_isIn l D cT T q hT hq (y1) j1 (0) (iv_top _) (1) (iv_top _)) gm_1618 gm_1616 gm_1617 gm_124 (by decide +kernel) ⟨rfl, rfl, Nat.le_of_ble_eq_true rfl, Nat.le_of_ble_eq_true rfl⟩ rfl hl.1 rfl (Nat.le_of_ble_eq_true rfl) dX11_doom_3 ⟨Nat.zero_le _, Nat.zero_le _⟩ (fun x19 H locs ix19 ox19 hH hS hF1 => ?_)
    obtain ⟨ox19_0, ox19_1⟩ := ox19
    have ox19_0 : x19.toInt ≠ 0 → (0 : Int) ≤ y1.toInt ∧ y1.toInt ≤ (1 : Int) := ox19_0
    have ox19_1 : x19.toInt = 0 → y1.toInt < (0 : Int) ∨ (1 : Int) < y1.toInt := ox19_1
    refine lv_if_ne (tgt := 11) hx hb dX11_doom_6 (by decide) (fun c20 => ?_) (fun c20 => ?_)
    · skip
      have rlc20 : x19.toInt ≠ (0 : Int) := iv_ne c20
      have ir21 : IV x19 1 1 := iv_cutL ix19 (iv_c (by decide) : IV 0 0 0) c20 (by decide)
      have ir21a := ir21.1; have ir21b := ir21.2
      have ir22 : IV y1 0 1 := ((fun z => by have z1 := iv_ne z; have z2 : x19.toInt ≠ 0 := z1; have z4 := ((iv_c (by decide) : IV 0 0 0)).1; have z5 := ((iv_c (by decide) : IV 1 1 1)).2; exact ⟨by omega, by omega⟩) : ¬ x19 = 0 → IV y1 0 1) c20
      have ir22a := ir22.1; have ir22b := ir22.2
      refine lv_aload_n hx hb dX11_doom_11 rfl (lv_at hl 0 rfl) ?_
      refine th_callVv (n := 0) (As := []) S hK hH hS (th_A.sub (by decide)) (m_X11_keepNow l D cT T q hT hq a0 t0) gm_1713 gm_1710 gm_1712 gm_92 gm_124 (by decide +kernel) ⟨rfl, rfl, Nat.le_of_ble_eq_true rfl, Nat.le_of_ble_eq_true rfl⟩ t0 km_0 rfl rfl hl.1 rfl (Nat.le_of_ble_eq_true rfl) dX11_doom_12 ⟨Nat.zero_le _, Nat.zero_le _⟩ (fun H locs hH hS hF1 => ?_)
      refine lv_iconst (v := 0) hx hb dX11_doom_15 (by decide) ?_
      refine lv_istore_n (lv' := [(2, .int 0), (0, .ref a0), (1, .int y1)]) hx hb dX11_doom_16 rfl hl (by decide) rfl (fun ls hl => ?_)
      exact J17 ((30 + 1 - Int32.toInt 0).toNat + 1) H locs ls 0 (iv_w (iv_c (by decide) : IV 0 0 0) (by decide)) ir22 hH hS (lv_sub hl [1, 2, 0] rfl) (Nat.lt_succ_self _)
    · skip
      have rlc20 : x19.toInt = (0 : Int) := congrArg Int32.toInt c20
      have ir23 : IV x19 0 0 := iv_eL c20 (iv_c (by decide) : IV 0 0 0)
      have ir23a := ir23.1; have ir23b := ir23.2
      refine lv_iconst (v := (-1)) hx hb dX11_doom_9 (by decide) ?_
      exact th_iret S hK hH hS hr hlocks (th_R.i (iv_w (iv_c (by decide) : IV (-1) (-1) (-1)) (by decide))) dX11_doom_10
  exact J0 s.heap [] ls hH va_S.rf hl

set_option maxRecDepth 100000 in
theorem m_X11_bitten (l : Launch) (D : va_G) (cT : Nat → ClassId) (T : Nat → Option Nat) (q : Nat → Int) (hT : tokm T) (hq : qkm q) (a0 : Nat) (t0 : T a0 = some 0) : th_Met l D cT T (km q) yX11_bitten cX11_bitten 2 (some .int) (rmk 6 138) [.ref a0] (th_R T (some (.inl (-2147483648, 2147483647)))) [0, 32, 33, 35] := by
  refine th_start (by decide) (Nat.le_of_ble_eq_true rfl) ?_
  intro p e s m below meth c ls S hK hH hr hlocks hnm hl
  have hx := S.1
  have hb := S.2.1
  have hl : lv_has ls 2 [(0, .ref a0)] := hl
  have J0 : ∀ (H : Heap) (locs : List Loc) (ls : Array Slot), th_H D cT T (km q) H → va_S (th_A T [0, 32, 33, 35]) s.heap H locs → lv_has ls 2 [(0, .ref a0)] → W p l e (rmk 6 138) s m [.ref a0].toArray below meth c H locs 0 0 (MQ below (th_Q D cT T (km q) (th_R T (some (.inl (-2147483648, 2147483647)))) [0, 32, 33, 35]) [.ref a0].toArray s 0 0 (th_A T [0, 32, 33, 35])) (F0 m 0 ls []) := by
    intro H locs ls hH hS hl
    refine lv_aload_n hx hb dX11_bitten_0 rfl (lv_at hl 0 rfl) ?_
    refine th_callVv (n := 0) (As := []) S hK hH hS (th_A.sub (by decide)) (m_X11_keepNow l D cT T q hT hq a0 t0) gm_1713 gm_1710 gm_1712 gm_92 gm_124 (by decide +kernel) ⟨rfl, rfl, Nat.le_of_ble_eq_true rfl, Nat.le_of_ble_eq_true rfl⟩ t0 km_0 rfl rfl hl.1 rfl (Nat.le_of_ble_eq_true rfl) dX11_bitten_1 ⟨Nat.zero_le _, Nat.zero_le _⟩ (fun H locs hH hS hF1 => ?_)
    refine lv_aload_n hx hb dX11_bitten_4 rfl (lv_at hl 0 rfl) ?_
    refine th_callVv (n := 0) (As := []) S hK hH hS (th_A.sub (by decide)) (m_X11_goYear l D cT T q hT hq a0 t0) gm_1717 gm_1714 gm_1716 gm_93 gm_124 (by decide +kernel) ⟨rfl, rfl, Nat.le_of_ble_eq_true rfl, Nat.le_of_ble_eq_true rfl⟩ t0 km_0 rfl rfl hl.1 rfl (Nat.le_of_ble_eq_true rfl) dX11_bitten_5 ⟨Nat.zero_le _, Nat.zero_le _⟩ (fun H locs hH hS hF1 => ?_)
    refine lv_aload_n hx hb dX11_bitten_8 rfl (lv_at hl 0 rfl) ?_
    refine th_callVi (n := 0) (As := []) S hK hH hS (th_A.sub (by decide)) (m_X11_smaller l D cT T q hT hq a0 t0) gm_1733 gm_1730 gm_1732 gm_97 gm_124 (by decide +kernel) ⟨rfl, rfl, Nat.le_of_ble_eq_true rfl, Nat.le_of_ble_eq_true rfl⟩ t0 km_0 rfl rfl hl.1 rfl (Nat.le_of_ble_eq_true rfl) dX11_bitten_9 ⟨Nat.zero_le _, Nat.zero_le _⟩ (fun x1 H locs ix1 hH hS hF1 => ?_)
    refine lv_istore_n (lv' := [(1, .int x1), (0, .ref a0)]) hx hb dX11_bitten_12 rfl hl (by decide) rfl (fun ls hl => ?_)
    refine lv_aload_n hx hb dX11_bitten_13 rfl (lv_at hl 1 rfl) ?_
    refine th_callVv (n := 0) (As := []) S hK hH hS (th_A.sub (by decide)) (m_X11_bringBack l D cT T q hT hq a0 t0) gm_1768 gm_1765 gm_1767 gm_99 gm_124 (by decide +kernel) ⟨rfl, rfl, Nat.le_of_ble_eq_true rfl, Nat.le_of_ble_eq_true rfl⟩ t0 km_0 rfl rfl hl.1 rfl (Nat.le_of_ble_eq_true rfl) dX11_bitten_14 ⟨Nat.zero_le _, Nat.zero_le _⟩ (fun H locs hH hS hF1 => ?_)
    refine lv_iload_n hx hb dX11_bitten_17 rfl (lv_at hl 0 rfl) ?_
    exact th_iret S hK hH hS hr hlocks (th_R.i ix1) dX11_bitten_18
  exact J0 s.heap [] ls hH va_S.rf hl

set_option maxRecDepth 100000 in
theorem m_X11_gone (l : Launch) (D : va_G) (cT : Nat → ClassId) (T : Nat → Option Nat) (q : Nat → Int) (hT : tokm T) (hq : qkm q) (a0 : Nat) (t0 : T a0 = some 0) : th_Met l D cT T (km q) yX11_gone cX11_gone 3 (some .int) (rmk 0 0) [.ref a0] (th_R T (some (.inl (-2147483648, 2147483647)))) [] := by
  refine th_start (by decide) (Nat.le_of_ble_eq_true rfl) ?_
  intro p e s m below meth c ls S hK hH hr hlocks hnm hl
  have hx := S.1
  have hb := S.2.1
  have hl : lv_has ls 3 [(0, .ref a0)] := hl
  have J4 : ∀ (n : Nat) (H : Heap) (locs : List Loc) (ls : Array Slot) (v4_1 : Int32) (v4_2 : Int32), IV v4_1 (-2147483648) 2147483647 → IV v4_2 0 8 → th_H D cT T (km q) H → va_S (th_A T []) s.heap H locs → lv_has ls 3 [(0, .ref a0), (1, .int v4_1), (2, .int v4_2)] → (8 + 1 - Int32.toInt v4_2).toNat < n → W p l e (rmk 0 0) s m [.ref a0].toArray below meth c H locs 0 0 (MQ below (th_Q D cT T (km q) (th_R T (some (.inl (-2147483648, 2147483647)))) []) [.ref a0].toArray s 0 0 (th_A T [])) (F0 m 4 ls []) := by
    intro n
    induction n with
    | zero => intro H locs ls v4_1 v4_2 iv4_1 iv4_2 hH hS hl hn; exact absurd hn (Nat.not_lt_zero _)
    | succ n ih4 =>
      intro H locs ls v4_1 v4_2 iv4_1 iv4_2 hH hS hl hn4
      have J35 : ∀ (H : Heap) (locs : List Loc) (ls : Array Slot) (v35_1 : Int32), IV v35_1 (-2147483648) 2147483647 → IV v4_2 0 7 → th_H D cT T (km q) H → va_S (th_A T []) s.heap H locs → lv_has ls 3 [(0, .ref a0), (1, .int v35_1), (2, .int v4_2)] → W p l e (rmk 0 0) s m [.ref a0].toArray below meth c H locs 0 0 (MQ below (th_Q D cT T (km q) (th_R T (some (.inl (-2147483648, 2147483647)))) []) [.ref a0].toArray s 0 0 (th_A T [])) (F0 m 35 ls []) := by
        intro H locs ls v35_1 iv35_1 f35_v4_2 hH hS hl
        refine th_iinc S dX11_gone_35 hl (k := 2) rfl (by decide) f35_v4_2 (by decide) (fun x1 ls ex1 ix1 hl => ?_)
        have hl : lv_has ls 3 [(2, .int x1), (0, .ref a0), (1, .int v35_1)] := hl
        have ix1 : IV x1 1 8 := ix1
        refine lv_goto (tgt := 4) hx hb dX11_gone_38 (by decide) ?_
        exact ih4 H locs ls v35_1 x1 iv35_1 (iv_w ix1 (by decide)) hH hS (lv_sub hl [1, 2, 0] rfl) (th_up iv4_2 ex1 (by decide) hn4)
      have l1v4_2 := iv4_2.1; have l2v4_2 := iv4_2.2
      refine lv_iload_n hx hb dX11_gone_4 rfl (lv_at hl 2 rfl) ?_
      refine lv_aload_n hx hb dX11_gone_5 rfl (lv_at hl 0 rfl) ?_
      refine th_get S hK hH inG11 t0 km_0 rfl 13 (by decide) gm_1243 rfl rfl dX11_gone_6 (fun v2 hv2 fv2 => ?_)
      obtain ⟨rf3, rfl, trf3⟩ := th_V.ref hv2
      refine lv_aload_n hx hb dX11_gone_9 rfl (lv_at hl 0 rfl) ?_
      refine th_get S hK hH inG11 t0 km_0 rfl 41 (by decide) gm_1271 rfl rfl dX11_gone_10 (fun v4 hv4 fv4 => ?_)
      obtain ⟨x5, rfl, ix5⟩ := th_V.int hv4
      have kx5a : q 10 ≤ x5.toInt := ix5.1
      have kx5b : x5.toInt ≤ q 10 := ix5.2
      have ix5 : IV x5 0 1 := iv_w ix5 (qkm_10 hq)
      refine th_iald S hK hH trf3 km_5 (th_in (hi := 1) ix5 (by decide)) dX11_gone_13 (fun v6 hv6 => ?_)
      obtain ⟨x7, rfl, ix7⟩ := th_bkA hv6 ix5 (by omega)
      have kx7a : q 18 ≤ x7.toInt := ix7.1
      have kx7b : x7.toInt ≤ q 18 := ix7.2
      have ix7 : IV x7 0 8 := iv_w ix7 (qkm_18 hq)
      refine lv_icmp_ge (tgt := 41) hx hb dX11_gone_14 (by decide) (fun c8 => ?_) (fun c8 => ?_)
      · skip
        have rlc8 : x7.toInt ≤ v4_2.toInt := iv_le c8
        refine lv_iload_n hx hb dX11_gone_41 rfl (lv_at hl 1 rfl) ?_
        exact th_iret S hK hH hS hr hlocks (th_R.i iv4_1) dX11_gone_42
      · skip
        have rlc8 : v4_2.toInt < x7.toInt := iv_nle c8
        have ir9 : IV v4_2 0 7 := iv_uL iv4_2 ix7 (iv_nle c8) (by decide)
        have ir9a := ir9.1; have ir9b := ir9.2
        have ir10 : IV x7 1 8 := iv_uR iv4_2 ix7 (iv_nle c8) (by decide)
        have ir10a := ir10.1; have ir10b := ir10.2
        refine lv_aload_n hx hb dX11_gone_17 rfl (lv_at hl 0 rfl) ?_
        refine th_get S hK hH inG11 t0 km_0 rfl 52 (by decide) gm_1282 rfl rfl dX11_gone_18 (fun v11 hv11 fv11 => ?_)
        obtain ⟨rf12, rfl, trf12⟩ := th_V.ref hv11
        refine lv_bipush (v := 15) hx hb dX11_gone_21 (by decide) ?_
        refine lv_iload_n hx hb dX11_gone_23 rfl (lv_at hl 2 rfl) ?_
        refine lv_iadd hx hb dX11_gone_24 ?_
        refine lv_topi (fun x13 ex13 => ?_)
        have ix13 : IV x13 15 22 := by rw [ex13]; exact iv_add (iv_c (by decide) : IV 15 15 15) ir9 (by decide)
        have ux13 : x13.toInt = (15 : Int) + v4_2.toInt := by rw [ex13]; exact iv_addE (by have z1 := ((iv_c (by decide) : IV 15 15 15)).1; have z2 := ((iv_c (by decide) : IV 15 15 15)).2; have z3 := (ir9).1; have z4 := (ir9).2; omega)
        refine th_iald S hK hH trf12 km_33 (th_in (hi := 22) (iv_w ix13 (by decide)) (by decide)) dX11_gone_25 (fun v14 hv14 => ?_)
        obtain ⟨x15, rfl, ix15⟩ := th_V.int hv14
        refine lv_if_ne (tgt := 35) hx hb dX11_gone_26 (by decide) (fun c16 => ?_) (fun c16 => ?_)
        · skip
          have rlc16 : x15.toInt ≠ (0 : Int) := iv_ne c16
          exact J35 H locs ls v4_1 iv4_1 ir9 hH hS (lv_sub hl [0, 1, 2] rfl)
        · skip
          have rlc16 : x15.toInt = (0 : Int) := congrArg Int32.toInt c16
          have ir17 : IV x15 0 0 := iv_eL c16 (iv_c (by decide) : IV 0 0 0)
          have ir17a := ir17.1; have ir17b := ir17.2
          refine lv_iload_n hx hb dX11_gone_29 rfl (lv_at hl 1 rfl) ?_
          refine lv_iconst (v := 1) hx hb dX11_gone_30 (by decide) ?_
          refine lv_iload_n hx hb dX11_gone_31 rfl (lv_at hl 2 rfl) ?_
          refine lv_ishl hx hb dX11_gone_32 ?_
          refine lv_topi (fun x18 ex18 => ?_)
          have ix18 := iv_top x18
          have ix18 : IV x18 1 1073741824 := by rw [ex18]; exact iv_shl1 (iv_w ir9 (by decide))
          refine lv_ior hx hb dX11_gone_33 ?_
          refine lv_topi (fun x19 ex19 => ?_)
          have ix19 := iv_top x19
          refine lv_istore_n (lv' := [(1, .int x19), (0, .ref a0), (2, .int v4_2)]) hx hb dX11_gone_34 rfl hl (by decide) rfl (fun ls hl => ?_)
          exact J35 H locs ls x19 ix19 ir9 hH hS (lv_sub hl [1, 0, 2] rfl)
  have J0 : ∀ (H : Heap) (locs : List Loc) (ls : Array Slot), th_H D cT T (km q) H → va_S (th_A T []) s.heap H locs → lv_has ls 3 [(0, .ref a0)] → W p l e (rmk 0 0) s m [.ref a0].toArray below meth c H locs 0 0 (MQ below (th_Q D cT T (km q) (th_R T (some (.inl (-2147483648, 2147483647)))) []) [.ref a0].toArray s 0 0 (th_A T [])) (F0 m 0 ls []) := by
    intro H locs ls hH hS hl
    refine lv_iconst (v := 0) hx hb dX11_gone_0 (by decide) ?_
    refine lv_istore_n (lv' := [(1, .int 0), (0, .ref a0)]) hx hb dX11_gone_1 rfl hl (by decide) rfl (fun ls hl => ?_)
    refine lv_iconst (v := 0) hx hb dX11_gone_2 (by decide) ?_
    refine lv_istore_n (lv' := [(2, .int 0), (1, .int 0), (0, .ref a0)]) hx hb dX11_gone_3 rfl hl (by decide) rfl (fun ls hl => ?_)
    exact J4 ((8 + 1 - Int32.toInt 0).toNat + 1) H locs ls 0 0 (iv_top _) (iv_w (iv_c (by decide) : IV 0 0 0) (by decide)) hH hS (lv_sub hl [2, 1, 0] rfl) (Nat.lt_succ_self _)
  exact J0 s.heap [] ls hH va_S.rf hl

set_option maxRecDepth 100000 in
theorem m_X11_land (l : Launch) (D : va_G) (cT : Nat → ClassId) (T : Nat → Option Nat) (q : Nat → Int) (hT : tokm T) (hq : qkm q) (a0 : Nat) (t0 : T a0 = some 0) (y1 : Int32) (j1 : IV y1 (-2147483648) 2147483647) : th_Met l D cT T (km q) yX11_land cX11_land 3 (some .int) (rmk 6 138) [.ref a0, .int y1] (th_R T (some (.inl (-2147483648, 2147483647)))) [0, 32, 33, 35] := by
  refine th_start (by decide) (Nat.le_of_ble_eq_true rfl) ?_
  intro p e s m below meth c ls S hK hH hr hlocks hnm hl
  have hx := S.1
  have hb := S.2.1
  have hl : lv_has ls 3 [(0, .ref a0), (1, .int y1)] := hl
  have J18 : ∀ (n : Nat) (H : Heap) (locs : List Loc) (ls : Array Slot) (v18_2 : Int32), IV v18_2 0 40 → IV y1 0 40 → th_H D cT T (km q) H → va_S (th_A T [0, 32, 33, 35]) s.heap H locs → lv_has ls 3 [(0, .ref a0), (1, .int y1), (2, .int v18_2)] → (40 + 1 - Int32.toInt v18_2).toNat < n → W p l e (rmk 6 138) s m [.ref a0, .int y1].toArray below meth c H locs 0 0 (MQ below (th_Q D cT T (km q) (th_R T (some (.inl (-2147483648, 2147483647)))) [0, 32, 33, 35]) [.ref a0, .int y1].toArray s 0 0 (th_A T [0, 32, 33, 35])) (F0 m 18 ls []) := by
    intro n
    induction n with
    | zero => intro H locs ls v18_2 iv18_2 f18_y1 hH hS hl hn; exact absurd hn (Nat.not_lt_zero _)
    | succ n ih18 =>
      intro H locs ls v18_2 iv18_2 f18_y1 hH hS hl hn18
      have l1v18_2 := iv18_2.1; have l2v18_2 := iv18_2.2
      refine lv_iload_n hx hb dX11_land_18 rfl (lv_at hl 2 rfl) ?_
      refine lv_iload_n hx hb dX11_land_19 rfl (lv_at hl 1 rfl) ?_
      refine lv_icmp_ge (tgt := 33) hx hb dX11_land_20 (by decide) (fun c1 => ?_) (fun c1 => ?_)
      · skip
        have rlc1 : y1.toInt ≤ v18_2.toInt := iv_le c1
        refine lv_aload_n hx hb dX11_land_33 rfl (lv_at hl 0 rfl) ?_
        refine th_callVi (n := 0) (As := []) S hK hH hS (th_A.sub (by decide)) (m_X11_landNow l D cT T q hT hq a0 t0) gm_1796 gm_1793 gm_1795 gm_101 gm_124 (by decide +kernel) ⟨rfl, rfl, Nat.le_of_ble_eq_true rfl, Nat.le_of_ble_eq_true rfl⟩ t0 km_0 rfl rfl hl.1 rfl (Nat.le_of_ble_eq_true rfl) dX11_land_34 ⟨Nat.zero_le _, Nat.zero_le _⟩ (fun x2 H locs ix2 hH hS hF1 => ?_)
        refine lv_istore_n (lv' := [(2, .int x2), (0, .ref a0), (1, .int y1)]) hx hb dX11_land_37 rfl hl (by decide) rfl (fun ls hl => ?_)
        refine lv_aload_n hx hb dX11_land_38 rfl (lv_at hl 1 rfl) ?_
        refine th_callVv (n := 0) (As := []) S hK hH hS (th_A.sub (by decide)) (m_X11_bringBack l D cT T q hT hq a0 t0) gm_1768 gm_1765 gm_1767 gm_99 gm_124 (by decide +kernel) ⟨rfl, rfl, Nat.le_of_ble_eq_true rfl, Nat.le_of_ble_eq_true rfl⟩ t0 km_0 rfl rfl hl.1 rfl (Nat.le_of_ble_eq_true rfl) dX11_land_39 ⟨Nat.zero_le _, Nat.zero_le _⟩ (fun H locs hH hS hF1 => ?_)
        refine lv_iload_n hx hb dX11_land_42 rfl (lv_at hl 0 rfl) ?_
        exact th_iret S hK hH hS hr hlocks (th_R.i ix2) dX11_land_43
      · skip
        have rlc1 : v18_2.toInt < y1.toInt := iv_nle c1
        have ir3 : IV v18_2 0 39 := iv_uL iv18_2 f18_y1 (iv_nle c1) (by decide)
        have ir3a := ir3.1; have ir3b := ir3.2
        have ir4 : IV y1 1 40 := iv_uR iv18_2 f18_y1 (iv_nle c1) (by decide)
        have ir4a := ir4.1; have ir4b := ir4.2
        refine lv_aload_n hx hb dX11_land_23 rfl (lv_at hl 0 rfl) ?_
        refine th_callVv (n := 0) (As := []) S hK hH hS (th_A.sub (by decide)) (m_X11_goYear l D cT T q hT hq a0 t0) gm_1717 gm_1714 gm_1716 gm_93 gm_124 (by decide +kernel) ⟨rfl, rfl, Nat.le_of_ble_eq_true rfl, Nat.le_of_ble_eq_true rfl⟩ t0 km_0 rfl rfl hl.1 rfl (Nat.le_of_ble_eq_true rfl) dX11_land_24 ⟨Nat.zero_le _, Nat.zero_le _⟩ (fun H locs hH hS hF1 => ?_)
        refine th_iinc S dX11_land_27 hl (k := 2) rfl (by decide) ir3 (by decide) (fun x5 ls ex5 ix5 hl => ?_)
        have hl : lv_has ls 3 [(2, .int x5), (0, .ref a0), (1, .int y1)] := hl
        have ix5 : IV x5 1 40 := ix5
        refine lv_goto (tgt := 18) hx hb dX11_land_30 (by decide) ?_
        exact ih18 H locs ls x5 (iv_w ix5 (by decide)) (iv_w ir4 (by decide)) hH hS (lv_sub hl [1, 2, 0] rfl) (th_up iv18_2 ex5 (by decide) hn18)
  have J0 : ∀ (H : Heap) (locs : List Loc) (ls : Array Slot), th_H D cT T (km q) H → va_S (th_A T [0, 32, 33, 35]) s.heap H locs → lv_has ls 3 [(0, .ref a0), (1, .int y1)] → W p l e (rmk 6 138) s m [.ref a0, .int y1].toArray below meth c H locs 0 0 (MQ below (th_Q D cT T (km q) (th_R T (some (.inl (-2147483648, 2147483647)))) [0, 32, 33, 35]) [.ref a0, .int y1].toArray s 0 0 (th_A T [0, 32, 33, 35])) (F0 m 0 ls []) := by
    intro H locs ls hH hS hl
    refine lv_iload_n hx hb dX11_land_0 rfl (lv_at hl 1 rfl) ?_
    refine lv_iconst (v := 0) hx hb dX11_land_1 (by decide) ?_
    refine lv_bipush (v := 40) hx hb dX11_land_2 (by decide) ?_
    refine th_callSp (n := 3) (As := [.int y1, .int 0, .int 40]) S hK hH hS (th_A.sub (by decide)) (m_X11_isIn l D cT T q hT hq (y1) j1 (0) (iv_top _) (40) (iv_top _)) gm_1618 gm_1616 gm_1617 gm_124 (by decide +kernel) ⟨rfl, rfl, Nat.le_of_ble_eq_true rfl, Nat.le_of_ble_eq_true rfl⟩ rfl hl.1 rfl (Nat.le_of_ble_eq_true rfl) dX11_land_4 ⟨Nat.zero_le _, Nat.zero_le _⟩ (fun x6 H locs ix6 ox6 hH hS hF1 => ?_)
    obtain ⟨ox6_0, ox6_1⟩ := ox6
    have ox6_0 : x6.toInt ≠ 0 → (0 : Int) ≤ y1.toInt ∧ y1.toInt ≤ (40 : Int) := ox6_0
    have ox6_1 : x6.toInt = 0 → y1.toInt < (0 : Int) ∨ (40 : Int) < y1.toInt := ox6_1
    refine lv_if_ne (tgt := 12) hx hb dX11_land_7 (by decide) (fun c7 => ?_) (fun c7 => ?_)
    · skip
      have rlc7 : x6.toInt ≠ (0 : Int) := iv_ne c7
      have ir8 : IV x6 1 1 := iv_cutL ix6 (iv_c (by decide) : IV 0 0 0) c7 (by decide)
      have ir8a := ir8.1; have ir8b := ir8.2
      have ir9 : IV y1 0 40 := ((fun z => by have z1 := iv_ne z; have z2 : x6.toInt ≠ 0 := z1; have z4 := ((iv_c (by decide) : IV 0 0 0)).1; have z5 := ((iv_c (by decide) : IV 40 40 40)).2; exact ⟨by omega, by omega⟩) : ¬ x6 = 0 → IV y1 0 40) c7
      have ir9a := ir9.1; have ir9b := ir9.2
      refine lv_aload_n hx hb dX11_land_12 rfl (lv_at hl 0 rfl) ?_
      refine th_callVv (n := 0) (As := []) S hK hH hS (th_A.sub (by decide)) (m_X11_keepNow l D cT T q hT hq a0 t0) gm_1713 gm_1710 gm_1712 gm_92 gm_124 (by decide +kernel) ⟨rfl, rfl, Nat.le_of_ble_eq_true rfl, Nat.le_of_ble_eq_true rfl⟩ t0 km_0 rfl rfl hl.1 rfl (Nat.le_of_ble_eq_true rfl) dX11_land_13 ⟨Nat.zero_le _, Nat.zero_le _⟩ (fun H locs hH hS hF1 => ?_)
      refine lv_iconst (v := 0) hx hb dX11_land_16 (by decide) ?_
      refine lv_istore_n (lv' := [(2, .int 0), (0, .ref a0), (1, .int y1)]) hx hb dX11_land_17 rfl hl (by decide) rfl (fun ls hl => ?_)
      exact J18 ((40 + 1 - Int32.toInt 0).toNat + 1) H locs ls 0 (iv_w (iv_c (by decide) : IV 0 0 0) (by decide)) ir9 hH hS (lv_sub hl [1, 2, 0] rfl) (Nat.lt_succ_self _)
    · skip
      have rlc7 : x6.toInt = (0 : Int) := congrArg Int32.toInt c7
      have ir10 : IV x6 0 0 := iv_eL c7 (iv_c (by decide) : IV 0 0 0)
      have ir10a := ir10.1; have ir10b := ir10.2
      refine lv_iconst (v := (-1)) hx hb dX11_land_10 (by decide) ?_
      exact th_iret S hK hH hS hr hlocks (th_R.i (iv_top _)) dX11_land_11
  exact J0 s.heap [] ls hH va_S.rf hl

set_option maxRecDepth 100000 in
theorem m_X11_lies (l : Launch) (D : va_G) (cT : Nat → ClassId) (T : Nat → Option Nat) (q : Nat → Int) (hT : tokm T) (hq : qkm q) (a0 : Nat) (t0 : T a0 = some 0) (y1 : Int32) (j1 : IV y1 (-2147483648) 2147483647) : th_Met l D cT T (km q) yX11_lies cX11_lies 2 (some .int) (rmk 1 22) [.ref a0, .int y1] (th_R T (some (.inl (-2147483648, 2147483647)))) [] := by
  refine th_start (by decide) (Nat.le_of_ble_eq_true rfl) ?_
  intro p e s m below meth c ls S hK hH hr hlocks hnm hl
  have hx := S.1
  have hb := S.2.1
  have hl : lv_has ls 2 [(0, .ref a0), (1, .int y1)] := hl
  have J24 : ∀ (H : Heap) (locs : List Loc) (ls : Array Slot) (w24_0 : Int32), IV w24_0 (-2147483648) 2147483647 → th_H D cT T (km q) H → va_S (th_A T []) s.heap H locs → lv_has ls 2 [] → W p l e (rmk 1 22) s m [.ref a0, .int y1].toArray below meth c H locs 0 0 (MQ below (th_Q D cT T (km q) (th_R T (some (.inl (-2147483648, 2147483647)))) []) [.ref a0, .int y1].toArray s 0 0 (th_A T [])) (F0 m 24 ls [.int w24_0]) := by
    intro H locs ls w24_0 iw24_0 hH hS hl
    exact th_iret S hK hH hS hr hlocks (th_R.i iw24_0) dX11_lies_24
  have J24_s0_m1 : ∀ (H : Heap) (locs : List Loc) (ls : Array Slot), th_H D cT T (km q) H → va_S (th_A T []) s.heap H locs → lv_has ls 2 [] → W p l e (rmk 1 22) s m [.ref a0, .int y1].toArray below meth c H locs 0 0 (MQ below (th_Q D cT T (km q) (th_R T (some (.inl (-2147483648, 2147483647)))) []) [.ref a0, .int y1].toArray s 0 0 (th_A T [])) (F0 m 24 ls [.int (-1)]) := by
    intro H locs ls hH hS hl
    exact th_iret S hK hH hS hr hlocks (th_R.i (iv_top _)) dX11_lies_24
  have J0 : ∀ (H : Heap) (locs : List Loc) (ls : Array Slot), th_H D cT T (km q) H → va_S (th_A T []) s.heap H locs → lv_has ls 2 [(0, .ref a0), (1, .int y1)] → W p l e (rmk 1 22) s m [.ref a0, .int y1].toArray below meth c H locs 0 0 (MQ below (th_Q D cT T (km q) (th_R T (some (.inl (-2147483648, 2147483647)))) []) [.ref a0, .int y1].toArray s 0 0 (th_A T [])) (F0 m 0 ls []) := by
    intro H locs ls hH hS hl
    refine lv_iload_n hx hb dX11_lies_0 rfl (lv_at hl 1 rfl) ?_
    refine lv_iconst (v := 0) hx hb dX11_lies_1 (by decide) ?_
    refine lv_aload_n hx hb dX11_lies_2 rfl (lv_at hl 0 rfl) ?_
    refine th_get S hK hH inG11 t0 km_0 rfl 59 (by decide) gm_1289 rfl rfl dX11_lies_3 (fun v1 hv1 fv1 => ?_)
    obtain ⟨x2, rfl, ix2⟩ := th_V.int hv1
    refine lv_iconst (v := 1) hx hb dX11_lies_6 (by decide) ?_
    refine lv_isub hx hb dX11_lies_7 ?_
    refine lv_topi (fun x3 ex3 => ?_)
    have ix3 : IV x3 (-1) 3 := by rw [ex3]; exact iv_sub ix2 (iv_c (by decide) : IV 1 1 1) (by decide)
    have ux3 : x3.toInt = x2.toInt - (1 : Int) := by rw [ex3]; exact iv_subE (by have z1 := (ix2).1; have z2 := (ix2).2; have z3 := ((iv_c (by decide) : IV 1 1 1)).1; have z4 := ((iv_c (by decide) : IV 1 1 1)).2; omega)
    refine th_callSp (n := 3) (As := [.int y1, .int 0, .int x3]) S hK hH hS (th_A.sub (by decide)) (m_X11_isIn l D cT T q hT hq (y1) j1 (0) (iv_top _) (x3) (iv_top _)) gm_1618 gm_1616 gm_1617 gm_124 (by decide +kernel) ⟨rfl, rfl, Nat.le_of_ble_eq_true rfl, Nat.le_of_ble_eq_true rfl⟩ rfl hl.1 rfl (Nat.le_of_ble_eq_true rfl) dX11_lies_8 ⟨Nat.zero_le _, Nat.zero_le _⟩ (fun x4 H locs ix4 ox4 hH hS hF1 => ?_)
    obtain ⟨ox4_0, ox4_1⟩ := ox4
    have ox4_0 : x4.toInt ≠ 0 → (0 : Int) ≤ y1.toInt ∧ y1.toInt ≤ x3.toInt := ox4_0
    have ox4_1 : x4.toInt = 0 → y1.toInt < (0 : Int) ∨ x3.toInt < y1.toInt := ox4_1
    refine lv_if_eq (tgt := 23) hx hb dX11_lies_11 (by decide) (fun c5 => ?_) (fun c5 => ?_)
    · skip
      have rlc5 : x4.toInt = (0 : Int) := congrArg Int32.toInt c5
      have ir6 : IV x4 0 0 := iv_eL c5 (iv_c (by decide) : IV 0 0 0)
      have ir6a := ir6.1; have ir6b := ir6.2
      refine lv_iconst (v := (-1)) hx hb dX11_lies_23 (by decide) ?_
      exact J24_s0_m1 H locs ls  hH hS (lv_sub hl [] rfl)
    · skip
      have rlc5 : x4.toInt ≠ (0 : Int) := iv_ne c5
      have ir7 : IV x4 1 1 := iv_cutL ix4 (iv_c (by decide) : IV 0 0 0) c5 (by decide)
      have ir7a := ir7.1; have ir7b := ir7.2
      have ir8 : IV y1 0 3 := ((fun z => by have z1 := iv_ne z; have z2 : x4.toInt ≠ 0 := z1; have z4 := ((iv_c (by decide) : IV 0 0 0)).1; have z5 := (ix3).2; exact ⟨by omega, by omega⟩) : ¬ x4 = 0 → IV y1 0 3) c5
      have ir8a := ir8.1; have ir8b := ir8.2
      refine lv_aload_n hx hb dX11_lies_14 rfl (lv_at hl 0 rfl) ?_
      refine th_get S hK hH inG11 t0 km_0 rfl 57 (by decide) gm_1287 rfl rfl dX11_lies_15 (fun v9 hv9 fv9 => ?_)
      obtain ⟨rf10, rfl, trf10⟩ := th_V.ref hv9
      refine lv_iload_n hx hb dX11_lies_18 rfl (lv_at hl 1 rfl) ?_
      refine th_iald S hK hH trf10 km_36 (th_in (hi := 3) ir8 (by decide)) dX11_lies_19 (fun v11 hv11 => ?_)
      obtain ⟨x12, rfl, ix12⟩ := th_V.int hv11
      refine lv_goto (tgt := 24) hx hb dX11_lies_20 (by decide) ?_
      exact J24 H locs ls x12 ix12 hH hS (lv_sub hl [] rfl)
  exact J0 s.heap [] ls hH va_S.rf hl

set_option maxRecDepth 100000 in
theorem m_X11_firstWay (l : Launch) (D : va_G) (cT : Nat → ClassId) (T : Nat → Option Nat) (q : Nat → Int) (hT : tokm T) (hq : qkm q) (a0 : Nat) (t0 : T a0 = some 0) (y1 : Int32) (j1 : IV y1 0 24) (hp0 : 1 ≤ q 11) : th_MetM l D cT T q yX11_firstWay cX11_firstWay 3 none (rmk 1 20) [.ref a0, .int y1] (fun v q2 => v = none ∧ qkm q2 ∧ fr [40, 41, 42, 43] q q2 ∧ (0 ≤ q2 40 ∧ 0 ≤ q2 41 ∧ 0 ≤ q2 42 ∧ 0 ≤ q2 43 ∧ q2 40 + q2 41 + q2 42 + q2 43 ≤ 24)) [37] := by
  refine th_startM (by decide) (Nat.le_of_ble_eq_true rfl) ?_
  intro p e s m below meth c ls S hK hH hr hlocks hnm hl
  have hx := S.1
  have hb := S.2.1
  have l1y1 := j1.1; have l2y1 := j1.2
  have hl : lv_has ls 3 [(0, .ref a0), (1, .int y1)] := hl
  have J2 : ∀ (n : Nat) (q2 : Nat → Int) (H : Heap) (locs : List Loc) (ls : Array Slot) (v2_2 : Int32), qkm q2 → fr [40, 41, 42, 43] q q2 → IV v2_2 0 4 → ((0 < v2_2.toInt → q2 40 = 0) ∧ (1 < v2_2.toInt → q2 41 = 0) ∧ (2 < v2_2.toInt → q2 42 = 0) ∧ (3 < v2_2.toInt → q2 43 = 0)) → th_H D cT T (km q2) H → va_S (th_A T [37]) s.heap H locs → lv_has ls 3 [(0, .ref a0), (1, .int y1), (2, .int v2_2)] → (4 + 1 - Int32.toInt v2_2).toNat < n → W p l e (rmk 1 20) s m [.ref a0, .int y1].toArray below meth c H locs 0 0 (MQ below (th_QM D cT T (fun v q2 => v = none ∧ qkm q2 ∧ fr [40, 41, 42, 43] q q2 ∧ (0 ≤ q2 40 ∧ 0 ≤ q2 41 ∧ 0 ≤ q2 42 ∧ 0 ≤ q2 43 ∧ q2 40 + q2 41 + q2 42 + q2 43 ≤ 24)) [37]) [.ref a0, .int y1].toArray s 0 0 (th_A T [37])) (F0 m 2 ls []) := by
    intro n
    induction n with
    | zero => intro q2 H locs ls v2_2 hq2 h02 iv2_2 v2_inv0 hH hS hl hn; exact absurd hn (Nat.not_lt_zero _)
    | succ n ih2 =>
      intro q2 H locs ls v2_2 hq2 h02 iv2_2 v2_inv0 hH hS hl hn2
      have w2_11 : q2 11 = q 11 := h02 11 (by decide) (Or.inl (by decide))
      have l1v2_2 := iv2_2.1; have l2v2_2 := iv2_2.2
      refine lv_iload_n hx hb dX11_firstWay_2 rfl (lv_at hl 2 rfl) ?_
      refine lv_iconst (v := 4) hx hb dX11_firstWay_3 (by decide) ?_
      refine lv_icmp_ge (tgt := 20) hx hb dX11_firstWay_4 (by decide) (fun c1 => ?_) (fun c1 => ?_)
      · skip
        have rlc1 : (4 : Int) ≤ v2_2.toInt := iv_le c1
        have ir2 : IV v2_2 4 4 := iv_vR (iv_c (by decide) : IV 4 4 4) iv2_2 (iv_le c1) (by decide)
        have ir2a := ir2.1; have ir2b := ir2.2
        refine lv_aload_n hx hb dX11_firstWay_20 rfl (lv_at hl 0 rfl) ?_
        refine th_get S hK hH inG11 t0 km_0 rfl 58 (by decide) gm_1288 rfl rfl dX11_firstWay_21 (fun v3 hv3 fv3 => ?_)
        obtain ⟨rf4, rfl, trf4⟩ := th_V.ref hv3
        refine lv_aload_n hx hb dX11_firstWay_24 rfl (lv_at hl 0 rfl) ?_
        refine th_callVp (n := 0) (As := []) S hK hH hS (th_A.sub (by decide)) (m_X11_many l D cT T q2 hT hq2 a0 t0) gm_1229 gm_1226 gm_1228 gm_46 gm_124 (by decide +kernel) ⟨rfl, rfl, Nat.le_of_ble_eq_true rfl, Nat.le_of_ble_eq_true rfl⟩ t0 km_0 rfl rfl hl.1 rfl (Nat.le_of_ble_eq_true rfl) dX11_firstWay_25 ⟨Nat.zero_le _, Nat.zero_le _⟩ (fun x5 H locs ix5 ox5 hH hS hF1 => ?_)
        have ox5 : x5.toInt = q2 11 := ox5
        have bx5 := qkm_11 hq2
        have ix5 : IV x5 1 4 := ⟨by omega, by omega⟩
        have l1x5 := ix5.1; have l2x5 := ix5.2
        have f6 := fv3.kept (hF1 _ fv3.lt (th_off t0 (by decide)))
        refine lv_iconst (v := 1) hx hb dX11_firstWay_28 (by decide) ?_
        refine lv_isub hx hb dX11_firstWay_29 ?_
        refine lv_topi (fun x7 ex7 => ?_)
        have ix7 : IV x7 0 3 := by rw [ex7]; exact iv_sub ix5 (iv_c (by decide) : IV 1 1 1) (by decide)
        have ux7 : x7.toInt = x5.toInt - (1 : Int) := by rw [ex7]; exact iv_subE (by have z1 := (ix5).1; have z2 := (ix5).2; have z3 := ((iv_c (by decide) : IV 1 1 1)).1; have z4 := ((iv_c (by decide) : IV 1 1 1)).2; omega)
        refine lv_iload_n hx hb dX11_firstWay_30 rfl (lv_at hl 1 rfl) ?_
        obtain ⟨n8, en8⟩ : ∃ z : Int, z = Int32.toInt y1 := ⟨_, rfl⟩
        have jq9 := th_nat (hi := 3) ix7
        refine mst_37 S hK hH hS ⟨37, by decide, trf4⟩ hT trf4 en8 (th_in (hi := 3) ix7 (by decide)) dX11_firstWay_31 (fun q9 H locs eq9 hH hS hq1 => ?_)
        have hqq9 : qkm q9 := by rw [eq9]; exact qkm_row hq2 (th_lt (th_in (hi := 3) ix7 (by decide)))
        have h0q9 : fr [40, 41, 42, 43] q q9 := by rw [eq9]; exact fr_row h02 (th_lt (th_in (hi := 3) ix7 (by decide))) (by decide)
        have yq9_0 : (x7.toInt = 0 → q9 40 = n8) ∧ (x7.toInt ≠ 0 → q9 40 = q2 40) := row_at eq9 jq9 0
        have yq9_1 : (x7.toInt = 1 → q9 41 = n8) ∧ (x7.toInt ≠ 1 → q9 41 = q2 41) := row_at eq9 jq9 1
        have yq9_2 : (x7.toInt = 2 → q9 42 = n8) ∧ (x7.toInt ≠ 2 → q9 42 = q2 42) := row_at eq9 jq9 2
        have yq9_3 : (x7.toInt = 3 → q9 43 = n8) ∧ (x7.toInt ≠ 3 → q9 43 = q2 43) := row_at eq9 jq9 3
        have wq9_11 : q9 11 = q2 11 := by rw [eq9]; exact if_neg (by omega)
        have f10 := f6.kept (hq1 _ (th_ne t0 trf4 (by decide)))
        exact th_vretM S hK hH hS hr hlocks ⟨rfl, hqq9, h0q9, (show 0 ≤ q9 40 ∧ 0 ≤ q9 41 ∧ 0 ≤ q9 42 ∧ 0 ≤ q9 43 ∧ q9 40 + q9 41 + q9 42 + q9 43 ≤ 24 by omega)⟩ dX11_firstWay_32
      · skip
        have rlc1 : v2_2.toInt < (4 : Int) := iv_nle c1
        have ir11 : IV v2_2 0 3 := iv_uL iv2_2 (iv_c (by decide) : IV 4 4 4) (iv_nle c1) (by decide)
        have ir11a := ir11.1; have ir11b := ir11.2
        refine lv_aload_n hx hb dX11_firstWay_7 rfl (lv_at hl 0 rfl) ?_
        refine th_get S hK hH inG11 t0 km_0 rfl 58 (by decide) gm_1288 rfl rfl dX11_firstWay_8 (fun v12 hv12 fv12 => ?_)
        obtain ⟨rf13, rfl, trf13⟩ := th_V.ref hv12
        refine lv_iload_n hx hb dX11_firstWay_11 rfl (lv_at hl 2 rfl) ?_
        refine lv_iconst (v := 0) hx hb dX11_firstWay_12 (by decide) ?_
        obtain ⟨n14, en14⟩ : ∃ z : Int, z = Int32.toInt 0 := ⟨_, rfl⟩
        have fn14 : n14 = 0 := by rw [en14]; rfl
        have jq15 := th_nat (hi := 3) ir11
        refine mst_37 S hK hH hS ⟨37, by decide, trf13⟩ hT trf13 en14 (th_in (hi := 3) ir11 (by decide)) dX11_firstWay_13 (fun q15 H locs eq15 hH hS hq1 => ?_)
        have hqq15 : qkm q15 := by rw [eq15]; exact qkm_row hq2 (th_lt (th_in (hi := 3) ir11 (by decide)))
        have h0q15 : fr [40, 41, 42, 43] q q15 := by rw [eq15]; exact fr_row h02 (th_lt (th_in (hi := 3) ir11 (by decide))) (by decide)
        have yq15_0 : (v2_2.toInt = 0 → q15 40 = n14) ∧ (v2_2.toInt ≠ 0 → q15 40 = q2 40) := row_at eq15 jq15 0
        have yq15_1 : (v2_2.toInt = 1 → q15 41 = n14) ∧ (v2_2.toInt ≠ 1 → q15 41 = q2 41) := row_at eq15 jq15 1
        have yq15_2 : (v2_2.toInt = 2 → q15 42 = n14) ∧ (v2_2.toInt ≠ 2 → q15 42 = q2 42) := row_at eq15 jq15 2
        have yq15_3 : (v2_2.toInt = 3 → q15 43 = n14) ∧ (v2_2.toInt ≠ 3 → q15 43 = q2 43) := row_at eq15 jq15 3
        have wq15_11 : q15 11 = q2 11 := by rw [eq15]; exact if_neg (by omega)
        have f16 := fv12.kept (hq1 _ (th_ne t0 trf13 (by decide)))
        refine th_iinc S dX11_firstWay_14 hl (k := 2) rfl (by decide) ir11 (by decide) (fun x17 ls ex17 ix17 hl => ?_)
        have hl : lv_has ls 3 [(2, .int x17), (0, .ref a0), (1, .int y1)] := hl
        have ix17 : IV x17 1 4 := ix17
        refine lv_goto (tgt := 2) hx hb dX11_firstWay_17 (by decide) ?_
        exact ih2 q15 H locs ls x17 hqq15 h0q15 (iv_w ix17 (by decide)) (show (0 < x17.toInt → q15 40 = 0) ∧ (1 < x17.toInt → q15 41 = 0) ∧ (2 < x17.toInt → q15 42 = 0) ∧ (3 < x17.toInt → q15 43 = 0) by omega) hH hS (lv_sub hl [1, 2, 0] rfl) (th_up iv2_2 ex17 (by decide) hn2)
  have J0 : ∀ (H : Heap) (locs : List Loc) (ls : Array Slot), th_H D cT T (km q) H → va_S (th_A T [37]) s.heap H locs → lv_has ls 3 [(0, .ref a0), (1, .int y1)] → W p l e (rmk 1 20) s m [.ref a0, .int y1].toArray below meth c H locs 0 0 (MQ below (th_QM D cT T (fun v q2 => v = none ∧ qkm q2 ∧ fr [40, 41, 42, 43] q q2 ∧ (0 ≤ q2 40 ∧ 0 ≤ q2 41 ∧ 0 ≤ q2 42 ∧ 0 ≤ q2 43 ∧ q2 40 + q2 41 + q2 42 + q2 43 ≤ 24)) [37]) [.ref a0, .int y1].toArray s 0 0 (th_A T [37])) (F0 m 0 ls []) := by
    intro H locs ls hH hS hl
    refine lv_iconst (v := 0) hx hb dX11_firstWay_0 (by decide) ?_
    refine lv_istore_n (lv' := [(2, .int 0), (0, .ref a0), (1, .int y1)]) hx hb dX11_firstWay_1 rfl hl (by decide) rfl (fun ls hl => ?_)
    exact J2 ((4 + 1 - Int32.toInt 0).toNat + 1) q H locs ls 0 hq fr_rf (iv_w (iv_c (by decide) : IV 0 0 0) (by decide)) (show (0 < (0 : Int) → q 40 = 0) ∧ (1 < (0 : Int) → q 41 = 0) ∧ (2 < (0 : Int) → q 42 = 0) ∧ (3 < (0 : Int) → q 43 = 0) by omega) hH hS (lv_sub hl [1, 2, 0] rfl) (Nat.lt_succ_self _)
  exact J0 s.heap [] ls hH va_S.rf hl

set_option maxRecDepth 100000 in
theorem m_X11_nextWay (l : Launch) (D : va_G) (cT : Nat → ClassId) (T : Nat → Option Nat) (q : Nat → Int) (hT : tokm T) (hq : qkm q) (a0 : Nat) (t0 : T a0 = some 0) (hp0 : 1 ≤ q 11) (hp1 : 0 ≤ q 40 ∧ 0 ≤ q 41 ∧ 0 ≤ q 42 ∧ 0 ≤ q 43 ∧ q 40 + q 41 + q 42 + q 43 ≤ 24) : th_MetM l D cT T q yX11_nextWay cX11_nextWay 4 (some .boolean) (rmk 1 20) [.ref a0] (fun v q2 => ∃ r : Int32, v = some (.int r) ∧ IV r 0 1 ∧ qkm q2 ∧ fr [40, 41, 42, 43] q q2 ∧ (0 ≤ q2 40 ∧ 0 ≤ q2 41 ∧ 0 ≤ q2 42 ∧ 0 ≤ q2 43 ∧ q2 40 + q2 41 + q2 42 + q2 43 ≤ 24) ∧ (r.toInt ≠ 0 → 15625 * q 40 + 625 * q 41 + 25 * q 42 + q 43 < 15625 * q2 40 + 625 * q2 41 + 25 * q2 42 + q2 43) ∧ (r.toInt = 0 → 15625 * q2 40 + 625 * q2 41 + 25 * q2 42 + q2 43 = 15625 * q 40 + 625 * q 41 + 25 * q 42 + q 43)) [37] := by
  refine th_startM (by decide) (Nat.le_of_ble_eq_true rfl) ?_
  intro p e s m below meth c ls S hK hH hr hlocks hnm hl
  have hx := S.1
  have hb := S.2.1
  have hl : lv_has ls 4 [(0, .ref a0)] := hl
  have J28 : ∀ (H : Heap) (locs : List Loc) (ls : Array Slot) (v28_1 : Int32) (v28_2 : Int32), IV v28_1 0 3 → IV v28_2 0 3 → (v28_2.toInt ≤ v28_1.toInt) → ((v28_2.toInt = 1 → q 41 ≠ 0) ∧ (v28_2.toInt = 2 → q 42 ≠ 0) ∧ (v28_2.toInt = 3 → q 43 ≠ 0)) → th_H D cT T (km q) H → va_S (th_A T [37]) s.heap H locs → lv_has ls 4 [(0, .ref a0), (1, .int v28_1), (2, .int v28_2)] → W p l e (rmk 1 20) s m [.ref a0].toArray below meth c H locs 0 0 (MQ below (th_QM D cT T (fun v q2 => ∃ r : Int32, v = some (.int r) ∧ IV r 0 1 ∧ qkm q2 ∧ fr [40, 41, 42, 43] q q2 ∧ (0 ≤ q2 40 ∧ 0 ≤ q2 41 ∧ 0 ≤ q2 42 ∧ 0 ≤ q2 43 ∧ q2 40 + q2 41 + q2 42 + q2 43 ≤ 24) ∧ (r.toInt ≠ 0 → 15625 * q 40 + 625 * q 41 + 25 * q 42 + q 43 < 15625 * q2 40 + 625 * q2 41 + 25 * q2 42 + q2 43) ∧ (r.toInt = 0 → 15625 * q2 40 + 625 * q2 41 + 25 * q2 42 + q2 43 = 15625 * q 40 + 625 * q 41 + 25 * q 42 + q 43)) [37]) [.ref a0].toArray s 0 0 (th_A T [37])) (F0 m 28 ls []) := by
    intro H locs ls v28_1 v28_2 iv28_1 iv28_2 v28_inv0 v28_inv1 hH hS hl
    have l1v28_1 := iv28_1.1; have l2v28_1 := iv28_1.2
    have l1v28_2 := iv28_2.1; have l2v28_2 := iv28_2.2
    refine lv_iload_n hx hb dX11_nextWay_28 rfl (lv_at hl 2 rfl) ?_
    refine lv_if_ne (tgt := 34) hx hb dX11_nextWay_29 (by decide) (fun c1 => ?_) (fun c1 => ?_)
    · skip
      have rlc1 : v28_2.toInt ≠ (0 : Int) := iv_ne c1
      have ir2 : IV v28_2 1 3 := iv_cutL iv28_2 (iv_c (by decide) : IV 0 0 0) c1 (by decide)
      have ir2a := ir2.1; have ir2b := ir2.2
      refine lv_aload_n hx hb dX11_nextWay_34 rfl (lv_at hl 0 rfl) ?_
      refine th_get S hK hH inG11 t0 km_0 rfl 58 (by decide) gm_1288 rfl rfl dX11_nextWay_35 (fun v3 hv3 fv3 => ?_)
      obtain ⟨rf4, rfl, trf4⟩ := th_V.ref hv3
      refine lv_iload_n hx hb dX11_nextWay_38 rfl (lv_at hl 2 rfl) ?_
      refine th_iald S hK hH trf4 km_37 (th_in (hi := 3) (iv_w ir2 (by decide)) (by decide)) dX11_nextWay_39 (fun v5 hv5 => ?_)
      obtain ⟨x6, rfl, kx6⟩ := th_eaR hv5 (th_lt (th_in (hi := 3) (iv_w ir2 (by decide)) (by decide)))
      have ix6 := iv_top x6
      have jx6 := th_nat (hi := 3) (iv_w ir2 (by decide))
      have yx6_0 : v28_2.toInt = 0 → x6.toInt = q 40 := row_rd kx6 jx6 0
      have yx6_1 : v28_2.toInt = 1 → x6.toInt = q 41 := row_rd kx6 jx6 1
      have yx6_2 : v28_2.toInt = 2 → x6.toInt = q 42 := row_rd kx6 jx6 2
      have yx6_3 : v28_2.toInt = 3 → x6.toInt = q 43 := row_rd kx6 jx6 3
      have ir7 : IV x6 1 24 := ⟨by omega, by omega⟩
      have ir7a := ir7.1; have ir7b := ir7.2
      refine lv_iconst (v := 1) hx hb dX11_nextWay_40 (by decide) ?_
      refine lv_isub hx hb dX11_nextWay_41 ?_
      refine lv_topi (fun x8 ex8 => ?_)
      have ix8 : IV x8 0 23 := by rw [ex8]; exact iv_sub ir7 (iv_c (by decide) : IV 1 1 1) (by decide)
      have ux8 : x8.toInt = x6.toInt - (1 : Int) := by rw [ex8]; exact iv_subE (by have z1 := (ir7).1; have z2 := (ir7).2; have z3 := ((iv_c (by decide) : IV 1 1 1)).1; have z4 := ((iv_c (by decide) : IV 1 1 1)).2; omega)
      refine lv_istore_n (lv' := [(3, .int x8), (0, .ref a0), (1, .int v28_1), (2, .int v28_2)]) hx hb dX11_nextWay_42 rfl hl (by decide) rfl (fun ls hl => ?_)
      refine lv_aload_n hx hb dX11_nextWay_43 rfl (lv_at hl 1 rfl) ?_
      refine th_getK S hK fv3 inG11 rfl (by decide) gm_1288 rfl dX11_nextWay_44 ?_
      refine lv_iload_n hx hb dX11_nextWay_47 rfl (lv_at hl 3 rfl) ?_
      refine lv_iconst (v := 0) hx hb dX11_nextWay_48 (by decide) ?_
      obtain ⟨n10, en10⟩ : ∃ z : Int, z = Int32.toInt 0 := ⟨_, rfl⟩
      have fn10 : n10 = 0 := by rw [en10]; rfl
      have jq11 := th_nat (hi := 3) (iv_w ir2 (by decide))
      refine mst_37 S hK hH hS ⟨37, by decide, trf4⟩ hT trf4 en10 (th_in (hi := 3) (iv_w ir2 (by decide)) (by decide)) dX11_nextWay_49 (fun q11 H locs eq11 hH hS hq1 => ?_)
      have hqq11 : qkm q11 := by rw [eq11]; exact qkm_row hq (th_lt (th_in (hi := 3) (iv_w ir2 (by decide)) (by decide)))
      have h0q11 : fr [40, 41, 42, 43] q q11 := by rw [eq11]; exact fr_row fr_rf (th_lt (th_in (hi := 3) (iv_w ir2 (by decide)) (by decide))) (by decide)
      have yq11_0 : (v28_2.toInt = 0 → q11 40 = n10) ∧ (v28_2.toInt ≠ 0 → q11 40 = q 40) := row_at eq11 jq11 0
      have yq11_1 : (v28_2.toInt = 1 → q11 41 = n10) ∧ (v28_2.toInt ≠ 1 → q11 41 = q 41) := row_at eq11 jq11 1
      have yq11_2 : (v28_2.toInt = 2 → q11 42 = n10) ∧ (v28_2.toInt ≠ 2 → q11 42 = q 42) := row_at eq11 jq11 2
      have yq11_3 : (v28_2.toInt = 3 → q11 43 = n10) ∧ (v28_2.toInt ≠ 3 → q11 43 = q 43) := row_at eq11 jq11 3
      have wq11_11 : q11 11 = q 11 := by rw [eq11]; exact if_neg (by omega)
      have f12 := fv3.kept (hq1 _ (th_ne t0 trf4 (by decide)))
      refine lv_aload_n hx hb dX11_nextWay_50 rfl (lv_at hl 1 rfl) ?_
      refine th_getK S hK f12 inG11 rfl (by decide) gm_1288 rfl dX11_nextWay_51 ?_
      refine lv_iload_n hx hb dX11_nextWay_54 rfl (lv_at hl 3 rfl) ?_
      refine lv_iconst (v := 1) hx hb dX11_nextWay_55 (by decide) ?_
      refine lv_isub hx hb dX11_nextWay_56 ?_
      refine lv_topi (fun x14 ex14 => ?_)
      have ix14 : IV x14 0 2 := by rw [ex14]; exact iv_sub ir2 (iv_c (by decide) : IV 1 1 1) (by decide)
      have ux14 : x14.toInt = v28_2.toInt - (1 : Int) := by rw [ex14]; exact iv_subE (by have z1 := (ir2).1; have z2 := (ir2).2; have z3 := ((iv_c (by decide) : IV 1 1 1)).1; have z4 := ((iv_c (by decide) : IV 1 1 1)).2; omega)
      refine lv_dup2_11 hx hb dX11_nextWay_57 rfl rfl ?_
      refine th_iald S hK hH trf4 km_37 (th_in (hi := 2) ix14 (by decide)) dX11_nextWay_58 (fun v15 hv15 => ?_)
      obtain ⟨x16, rfl, kx16⟩ := th_eaR hv15 (th_lt (th_in (hi := 2) ix14 (by decide)))
      have ix16 := iv_top x16
      have jx16 := th_nat (hi := 2) ix14
      have yx16_0 : x14.toInt = 0 → x16.toInt = q11 40 := row_rd kx16 jx16 0
      have yx16_1 : x14.toInt = 1 → x16.toInt = q11 41 := row_rd kx16 jx16 1
      have yx16_2 : x14.toInt = 2 → x16.toInt = q11 42 := row_rd kx16 jx16 2
      have yx16_3 : x14.toInt = 3 → x16.toInt = q11 43 := row_rd kx16 jx16 3
      have ir17 : IV x16 0 24 := ⟨by omega, by omega⟩
      have ir17a := ir17.1; have ir17b := ir17.2
      refine lv_iconst (v := 1) hx hb dX11_nextWay_59 (by decide) ?_
      refine lv_iadd hx hb dX11_nextWay_60 ?_
      refine lv_topi (fun x18 ex18 => ?_)
      have ix18 : IV x18 1 25 := by rw [ex18]; exact iv_add ir17 (iv_c (by decide) : IV 1 1 1) (by decide)
      have ux18 : x18.toInt = x16.toInt + (1 : Int) := by rw [ex18]; exact iv_addE (by have z1 := (ir17).1; have z2 := (ir17).2; have z3 := ((iv_c (by decide) : IV 1 1 1)).1; have z4 := ((iv_c (by decide) : IV 1 1 1)).2; omega)
      obtain ⟨n19, en19⟩ : ∃ z : Int, z = Int32.toInt x18 := ⟨_, rfl⟩
      have jq20 := th_nat (hi := 2) ix14
      refine mst_37 S hK hH hS ⟨37, by decide, trf4⟩ hT trf4 en19 (th_in (hi := 2) ix14 (by decide)) dX11_nextWay_61 (fun q20 H locs eq20 hH hS hq1 => ?_)
      have hqq20 : qkm q20 := by rw [eq20]; exact qkm_row hqq11 (th_lt (th_in (hi := 2) ix14 (by decide)))
      have h0q20 : fr [40, 41, 42, 43] q q20 := by rw [eq20]; exact fr_row h0q11 (th_lt (th_in (hi := 2) ix14 (by decide))) (by decide)
      have wq20_11 : q20 11 = q11 11 := by rw [eq20]; exact if_neg (by omega)
      have f21 := f12.kept (hq1 _ (th_ne t0 trf4 (by decide)))
      refine lv_aload_n hx hb dX11_nextWay_62 rfl (lv_at hl 1 rfl) ?_
      refine th_getK S hK f21 inG11 rfl (by decide) gm_1288 rfl dX11_nextWay_63 ?_
      refine lv_iload_n hx hb dX11_nextWay_66 rfl (lv_at hl 2 rfl) ?_
      refine lv_iload_n hx hb dX11_nextWay_67 rfl (lv_at hl 0 rfl) ?_
      obtain ⟨n23, en23⟩ : ∃ z : Int, z = Int32.toInt x8 := ⟨_, rfl⟩
      have jq24 := th_nat (hi := 3) iv28_1
      refine mst_37 S hK hH hS ⟨37, by decide, trf4⟩ hT trf4 en23 (th_in (hi := 3) iv28_1 (by decide)) dX11_nextWay_68 (fun q24 H locs eq24 hH hS hq1 => ?_)
      have hqq24 : qkm q24 := by rw [eq24]; exact qkm_row hqq20 (th_lt (th_in (hi := 3) iv28_1 (by decide)))
      have h0q24 : fr [40, 41, 42, 43] q q24 := by rw [eq24]; exact fr_row h0q20 (th_lt (th_in (hi := 3) iv28_1 (by decide))) (by decide)
      have wq24_11 : q24 11 = q20 11 := by rw [eq24]; exact if_neg (by omega)
      have f25 := f21.kept (hq1 _ (th_ne t0 trf4 (by decide)))
      have hN := nw_end eq11 eq20 eq24 (m := v28_2.toInt.toNat) (l := v28_1.toInt.toNat) (by omega) (by omega) (by omega) (by omega) (by omega) (by omega) (by omega) (by omega) (by omega) (by omega) hp1
      refine lv_iconst (v := 1) hx hb dX11_nextWay_69 (by decide) ?_
      exact th_zretM S hK hH hS hr hlocks (iv_w (iv_c (by decide) : IV 1 1 1) (by decide)) ⟨_, rfl, (iv_w (iv_c (by decide) : IV 1 1 1) (by decide)), hqq24, h0q24, (show 0 ≤ q24 40 ∧ 0 ≤ q24 41 ∧ 0 ≤ q24 42 ∧ 0 ≤ q24 43 ∧ q24 40 + q24 41 + q24 42 + q24 43 ≤ 24 by exact hN.1), (show (1 : Int) ≠ 0 → 15625 * q 40 + 625 * q 41 + 25 * q 42 + q 43 < 15625 * q24 40 + 625 * q24 41 + 25 * q24 42 + q24 43 by exact fun _ => hN.2), (show (1 : Int) = 0 → 15625 * q24 40 + 625 * q24 41 + 25 * q24 42 + q24 43 = 15625 * q 40 + 625 * q 41 + 25 * q 42 + q 43 by exact fun z => absurd z (by decide))⟩ dX11_nextWay_70
    · skip
      have rlc1 : v28_2.toInt = (0 : Int) := congrArg Int32.toInt c1
      have ir26 : IV v28_2 0 0 := iv_eL c1 (iv_c (by decide) : IV 0 0 0)
      have ir26a := ir26.1; have ir26b := ir26.2
      refine lv_iconst (v := 0) hx hb dX11_nextWay_32 (by decide) ?_
      exact th_zretM S hK hH hS hr hlocks (iv_w (iv_c (by decide) : IV 0 0 0) (by decide)) ⟨_, rfl, (iv_w (iv_c (by decide) : IV 0 0 0) (by decide)), hq, fr_rf, (show 0 ≤ q 40 ∧ 0 ≤ q 41 ∧ 0 ≤ q 42 ∧ 0 ≤ q 43 ∧ q 40 + q 41 + q 42 + q 43 ≤ 24 by omega), (show (0 : Int) ≠ 0 → 15625 * q 40 + 625 * q 41 + 25 * q 42 + q 43 < 15625 * q 40 + 625 * q 41 + 25 * q 42 + q 43 by omega), (show (0 : Int) = 0 → 15625 * q 40 + 625 * q 41 + 25 * q 42 + q 43 = 15625 * q 40 + 625 * q 41 + 25 * q 42 + q 43 by omega)⟩ dX11_nextWay_33
  have J9 : ∀ (n : Nat) (H : Heap) (locs : List Loc) (ls : Array Slot) (v9_1 : Int32) (v9_2 : Int32), IV v9_1 0 3 → IV v9_2 0 3 → (v9_2.toInt ≤ v9_1.toInt) → th_H D cT T (km q) H → va_S (th_A T [37]) s.heap H locs → lv_has ls 4 [(0, .ref a0), (1, .int v9_1), (2, .int v9_2)] → (Int32.toInt v9_2 + 1 - 0).toNat < n → W p l e (rmk 1 20) s m [.ref a0].toArray below meth c H locs 0 0 (MQ below (th_QM D cT T (fun v q2 => ∃ r : Int32, v = some (.int r) ∧ IV r 0 1 ∧ qkm q2 ∧ fr [40, 41, 42, 43] q q2 ∧ (0 ≤ q2 40 ∧ 0 ≤ q2 41 ∧ 0 ≤ q2 42 ∧ 0 ≤ q2 43 ∧ q2 40 + q2 41 + q2 42 + q2 43 ≤ 24) ∧ (r.toInt ≠ 0 → 15625 * q 40 + 625 * q 41 + 25 * q 42 + q 43 < 15625 * q2 40 + 625 * q2 41 + 25 * q2 42 + q2 43) ∧ (r.toInt = 0 → 15625 * q2 40 + 625 * q2 41 + 25 * q2 42 + q2 43 = 15625 * q 40 + 625 * q 41 + 25 * q 42 + q 43)) [37]) [.ref a0].toArray s 0 0 (th_A T [37])) (F0 m 9 ls []) := by
    intro n
    induction n with
    | zero => intro H locs ls v9_1 v9_2 iv9_1 iv9_2 v9_inv0 hH hS hl hn; exact absurd hn (Nat.not_lt_zero _)
    | succ n ih9 =>
      intro H locs ls v9_1 v9_2 iv9_1 iv9_2 v9_inv0 hH hS hl hn9
      have l1v9_1 := iv9_1.1; have l2v9_1 := iv9_1.2
      have l1v9_2 := iv9_2.1; have l2v9_2 := iv9_2.2
      refine lv_iload_n hx hb dX11_nextWay_9 rfl (lv_at hl 2 rfl) ?_
      refine lv_if_le (tgt := 28) hx hb dX11_nextWay_10 (by decide) (fun c27 => ?_) (fun c27 => ?_)
      · skip
        have rlc27 : v9_2.toInt ≤ (0 : Int) := iv_le c27
        have ir28 : IV v9_2 0 0 := iv_vL iv9_2 (iv_c (by decide) : IV 0 0 0) (iv_le c27) (by decide)
        have ir28a := ir28.1; have ir28b := ir28.2
        exact J28 H locs ls v9_1 v9_2 iv9_1 (iv_w ir28 (by decide)) (show v9_2.toInt ≤ v9_1.toInt by omega) (show (v9_2.toInt = 1 → q 41 ≠ 0) ∧ (v9_2.toInt = 2 → q 42 ≠ 0) ∧ (v9_2.toInt = 3 → q 43 ≠ 0) by omega) hH hS (lv_sub hl [0, 1, 2] rfl)
      · skip
        have rlc27 : (0 : Int) < v9_2.toInt := iv_nle c27
        have ir29 : IV v9_2 1 3 := iv_uR (iv_c (by decide) : IV 0 0 0) iv9_2 (iv_nle c27) (by decide)
        have ir29a := ir29.1; have ir29b := ir29.2
        refine lv_aload_n hx hb dX11_nextWay_13 rfl (lv_at hl 0 rfl) ?_
        refine th_get S hK hH inG11 t0 km_0 rfl 58 (by decide) gm_1288 rfl rfl dX11_nextWay_14 (fun v30 hv30 fv30 => ?_)
        obtain ⟨rf31, rfl, trf31⟩ := th_V.ref hv30
        refine lv_iload_n hx hb dX11_nextWay_17 rfl (lv_at hl 2 rfl) ?_
        refine th_iald S hK hH trf31 km_37 (th_in (hi := 3) (iv_w ir29 (by decide)) (by decide)) dX11_nextWay_18 (fun v32 hv32 => ?_)
        obtain ⟨x33, rfl, kx33⟩ := th_eaR hv32 (th_lt (th_in (hi := 3) (iv_w ir29 (by decide)) (by decide)))
        have ix33 := iv_top x33
        have jx33 := th_nat (hi := 3) (iv_w ir29 (by decide))
        have yx33_0 : v9_2.toInt = 0 → x33.toInt = q 40 := row_rd kx33 jx33 0
        have yx33_1 : v9_2.toInt = 1 → x33.toInt = q 41 := row_rd kx33 jx33 1
        have yx33_2 : v9_2.toInt = 2 → x33.toInt = q 42 := row_rd kx33 jx33 2
        have yx33_3 : v9_2.toInt = 3 → x33.toInt = q 43 := row_rd kx33 jx33 3
        refine lv_if_ne (tgt := 28) hx hb dX11_nextWay_19 (by decide) (fun c34 => ?_) (fun c34 => ?_)
        · skip
          have rlc34 : x33.toInt ≠ (0 : Int) := iv_ne c34
          exact J28 H locs ls v9_1 v9_2 iv9_1 (iv_w ir29 (by decide)) (show v9_2.toInt ≤ v9_1.toInt by omega) (show (v9_2.toInt = 1 → q 41 ≠ 0) ∧ (v9_2.toInt = 2 → q 42 ≠ 0) ∧ (v9_2.toInt = 3 → q 43 ≠ 0) by omega) hH hS (lv_sub hl [0, 1, 2] rfl)
        · skip
          have rlc34 : x33.toInt = (0 : Int) := congrArg Int32.toInt c34
          have ir35 : IV x33 0 0 := iv_eL c34 (iv_c (by decide) : IV 0 0 0)
          have ir35a := ir35.1; have ir35b := ir35.2
          refine th_iinc S dX11_nextWay_22 hl (k := 2) rfl (by decide) ir29 (by decide) (fun x36 ls ex36 ix36 hl => ?_)
          have hl : lv_has ls 4 [(2, .int x36), (0, .ref a0), (1, .int v9_1)] := hl
          have ix36 : IV x36 0 2 := ix36
          refine lv_goto (tgt := 9) hx hb dX11_nextWay_25 (by decide) ?_
          exact ih9 H locs ls v9_1 x36 iv9_1 (iv_w ix36 (by decide)) (show x36.toInt ≤ v9_1.toInt by omega) hH hS (lv_sub hl [1, 2, 0] rfl) (th_down iv9_2 ex36 (by decide) hn9)
  have J0 : ∀ (H : Heap) (locs : List Loc) (ls : Array Slot), th_H D cT T (km q) H → va_S (th_A T [37]) s.heap H locs → lv_has ls 4 [(0, .ref a0)] → W p l e (rmk 1 20) s m [.ref a0].toArray below meth c H locs 0 0 (MQ below (th_QM D cT T (fun v q2 => ∃ r : Int32, v = some (.int r) ∧ IV r 0 1 ∧ qkm q2 ∧ fr [40, 41, 42, 43] q q2 ∧ (0 ≤ q2 40 ∧ 0 ≤ q2 41 ∧ 0 ≤ q2 42 ∧ 0 ≤ q2 43 ∧ q2 40 + q2 41 + q2 42 + q2 43 ≤ 24) ∧ (r.toInt ≠ 0 → 15625 * q 40 + 625 * q 41 + 25 * q 42 + q 43 < 15625 * q2 40 + 625 * q2 41 + 25 * q2 42 + q2 43) ∧ (r.toInt = 0 → 15625 * q2 40 + 625 * q2 41 + 25 * q2 42 + q2 43 = 15625 * q 40 + 625 * q 41 + 25 * q 42 + q 43)) [37]) [.ref a0].toArray s 0 0 (th_A T [37])) (F0 m 0 ls []) := by
    intro H locs ls hH hS hl
    refine lv_aload_n hx hb dX11_nextWay_0 rfl (lv_at hl 0 rfl) ?_
    refine th_callVp (n := 0) (As := []) S hK hH hS (th_A.sub (by decide)) (m_X11_many l D cT T q hT hq a0 t0) gm_1229 gm_1226 gm_1228 gm_46 gm_124 (by decide +kernel) ⟨rfl, rfl, Nat.le_of_ble_eq_true rfl, Nat.le_of_ble_eq_true rfl⟩ t0 km_0 rfl rfl hl.1 rfl (Nat.le_of_ble_eq_true rfl) dX11_nextWay_1 ⟨Nat.zero_le _, Nat.zero_le _⟩ (fun x37 H locs ix37 ox37 hH hS hF1 => ?_)
    have ox37 : x37.toInt = q 11 := ox37
    have bx37 := qkm_11 hq
    have ix37 : IV x37 1 4 := ⟨by omega, by omega⟩
    have l1x37 := ix37.1; have l2x37 := ix37.2
    refine lv_iconst (v := 1) hx hb dX11_nextWay_4 (by decide) ?_
    refine lv_isub hx hb dX11_nextWay_5 ?_
    refine lv_topi (fun x38 ex38 => ?_)
    have ix38 : IV x38 0 3 := by rw [ex38]; exact iv_sub ix37 (iv_c (by decide) : IV 1 1 1) (by decide)
    have ux38 : x38.toInt = x37.toInt - (1 : Int) := by rw [ex38]; exact iv_subE (by have z1 := (ix37).1; have z2 := (ix37).2; have z3 := ((iv_c (by decide) : IV 1 1 1)).1; have z4 := ((iv_c (by decide) : IV 1 1 1)).2; omega)
    refine lv_istore_n (lv' := [(1, .int x38), (0, .ref a0)]) hx hb dX11_nextWay_6 rfl hl (by decide) rfl (fun ls hl => ?_)
    refine lv_iload_n hx hb dX11_nextWay_7 rfl (lv_at hl 0 rfl) ?_
    refine lv_istore_n (lv' := [(2, .int x38), (1, .int x38), (0, .ref a0)]) hx hb dX11_nextWay_8 rfl hl (by decide) rfl (fun ls hl => ?_)
    exact J9 ((Int32.toInt x38 + 1 - 0).toNat + 1) H locs ls x38 x38 ix38 ix38 (show x38.toInt ≤ x38.toInt by omega) hH hS (lv_sub hl [2, 1, 0] rfl) (Nat.lt_succ_self _)
  exact J0 s.heap [] ls hH va_S.rf hl

set_option maxRecDepth 100000 in
theorem m_X11_putAll (l : Launch) (D : va_G) (cT : Nat → ClassId) (T : Nat → Option Nat) (q : Nat → Int) (hT : tokm T) (hq : qkm q) (a0 : Nat) (t0 : T a0 = some 0) (y1 : Int32) (j1 : IV y1 0 2) : th_Met l D cT T (km q) yX11_putAll cX11_putAll 3 none (rmk 1 20) [.ref a0, .int y1] (th_R T none) [33] := by
  refine th_start (by decide) (Nat.le_of_ble_eq_true rfl) ?_
  intro p e s m below meth c ls S hK hH hr hlocks hnm hl
  have hx := S.1
  have hb := S.2.1
  have l1y1 := j1.1; have l2y1 := j1.2
  have hl : lv_has ls 3 [(0, .ref a0), (1, .int y1)] := hl
  have J2 : ∀ (n : Nat) (H : Heap) (locs : List Loc) (ls : Array Slot) (v2_2 : Int32), IV v2_2 0 4 → th_H D cT T (km q) H → va_S (th_A T [33]) s.heap H locs → lv_has ls 3 [(0, .ref a0), (1, .int y1), (2, .int v2_2)] → (4 + 1 - Int32.toInt v2_2).toNat < n → W p l e (rmk 1 20) s m [.ref a0, .int y1].toArray below meth c H locs 0 0 (MQ below (th_Q D cT T (km q) (th_R T none) [33]) [.ref a0, .int y1].toArray s 0 0 (th_A T [33])) (F0 m 2 ls []) := by
    intro n
    induction n with
    | zero => intro H locs ls v2_2 iv2_2 hH hS hl hn; exact absurd hn (Nat.not_lt_zero _)
    | succ n ih2 =>
      intro H locs ls v2_2 iv2_2 hH hS hl hn2
      have l1v2_2 := iv2_2.1; have l2v2_2 := iv2_2.2
      refine lv_iload_n hx hb dX11_putAll_2 rfl (lv_at hl 2 rfl) ?_
      refine lv_aload_n hx hb dX11_putAll_3 rfl (lv_at hl 0 rfl) ?_
      refine th_callVp (n := 0) (As := []) S hK hH hS (th_A.sub (by decide)) (m_X11_many l D cT T q hT hq a0 t0) gm_1229 gm_1226 gm_1228 gm_46 gm_124 (by decide +kernel) ⟨rfl, rfl, Nat.le_of_ble_eq_true rfl, Nat.le_of_ble_eq_true rfl⟩ t0 km_0 rfl rfl hl.1 rfl (Nat.le_of_ble_eq_true rfl) dX11_putAll_4 ⟨Nat.zero_le _, Nat.zero_le _⟩ (fun x1 H locs ix1 ox1 hH hS hF1 => ?_)
      have ox1 : x1.toInt = q 11 := ox1
      refine lv_icmp_ge (tgt := 37) hx hb dX11_putAll_7 (by decide) (fun c2 => ?_) (fun c2 => ?_)
      · skip
        have rlc2 : x1.toInt ≤ v2_2.toInt := iv_le c2
        exact th_vret S hK hH hS hr hlocks rfl dX11_putAll_37
      · skip
        have rlc2 : v2_2.toInt < x1.toInt := iv_nle c2
        have ir3 : IV v2_2 0 3 := iv_uL iv2_2 ix1 (iv_nle c2) (by decide)
        have ir3a := ir3.1; have ir3b := ir3.2
        have ir4 : IV x1 1 4 := iv_uR iv2_2 ix1 (iv_nle c2) (by decide)
        have ir4a := ir4.1; have ir4b := ir4.2
        refine lv_aload_n hx hb dX11_putAll_10 rfl (lv_at hl 0 rfl) ?_
        refine th_get S hK hH inG11 t0 km_0 rfl 52 (by decide) gm_1282 rfl rfl dX11_putAll_11 (fun v5 hv5 fv5 => ?_)
        obtain ⟨rf6, rfl, trf6⟩ := th_V.ref hv5
        refine lv_iconst (v := 3) hx hb dX11_putAll_14 (by decide) ?_
        refine lv_iconst (v := 3) hx hb dX11_putAll_15 (by decide) ?_
        refine lv_iload_n hx hb dX11_putAll_16 rfl (lv_at hl 2 rfl) ?_
        refine lv_imul hx hb dX11_putAll_17 ?_
        refine lv_topi (fun x7 ex7 => ?_)
        have ix7 : IV x7 0 9 := by rw [ex7]; exact iv_mul (iv_c (by decide) : IV 3 3 3) ir3 (by decide) (by decide)
        have ux7 : x7.toInt = (3 : Int) * v2_2.toInt := by rw [ex7]; exact iv_mulE (iv_corner ((iv_c (by decide) : IV 3 3 3)).1 ((iv_c (by decide) : IV 3 3 3)).2 (ir3).1 (ir3).2 (by decide))
        refine lv_iadd hx hb dX11_putAll_18 ?_
        refine lv_topi (fun x8 ex8 => ?_)
        have ix8 : IV x8 3 12 := by rw [ex8]; exact iv_add (iv_c (by decide) : IV 3 3 3) ix7 (by decide)
        have ux8 : x8.toInt = (3 : Int) + x7.toInt := by rw [ex8]; exact iv_addE (by have z1 := ((iv_c (by decide) : IV 3 3 3)).1; have z2 := ((iv_c (by decide) : IV 3 3 3)).2; have z3 := (ix7).1; have z4 := (ix7).2; omega)
        refine lv_iload_n hx hb dX11_putAll_19 rfl (lv_at hl 1 rfl) ?_
        refine lv_iadd hx hb dX11_putAll_20 ?_
        refine lv_topi (fun x9 ex9 => ?_)
        have ix9 : IV x9 3 14 := by rw [ex9]; exact iv_add ix8 j1 (by decide)
        have ux9 : x9.toInt = x8.toInt + y1.toInt := by rw [ex9]; exact iv_addE (by have z1 := (ix8).1; have z2 := (ix8).2; have z3 := (j1).1; have z4 := (j1).2; omega)
        refine lv_dup2_11 hx hb dX11_putAll_21 rfl rfl ?_
        refine th_iald S hK hH trf6 km_33 (th_in (hi := 14) (iv_w ix9 (by decide)) (by decide)) dX11_putAll_22 (fun v10 hv10 => ?_)
        obtain ⟨x11, rfl, ix11⟩ := th_V.int hv10
        refine lv_aload_n hx hb dX11_putAll_23 rfl (lv_at hl 0 rfl) ?_
        refine th_get S hK hH inG11 t0 km_0 rfl 58 (by decide) gm_1288 rfl rfl dX11_putAll_24 (fun v12 hv12 fv12 => ?_)
        obtain ⟨rf13, rfl, trf13⟩ := th_V.ref hv12
        refine lv_iload_n hx hb dX11_putAll_27 rfl (lv_at hl 2 rfl) ?_
        refine th_iald S hK hH trf13 km_37 (th_in (hi := 3) ir3 (by decide)) dX11_putAll_28 (fun v14 hv14 => ?_)
        obtain ⟨x15, rfl, kx15⟩ := th_eaR hv14 (th_lt (th_in (hi := 3) ir3 (by decide)))
        have ix15 := iv_top x15
        have jx15 := th_nat (hi := 3) ir3
        have yx15_0 : v2_2.toInt = 0 → x15.toInt = q 40 := row_rd kx15 jx15 0
        have yx15_1 : v2_2.toInt = 1 → x15.toInt = q 41 := row_rd kx15 jx15 1
        have yx15_2 : v2_2.toInt = 2 → x15.toInt = q 42 := row_rd kx15 jx15 2
        have yx15_3 : v2_2.toInt = 3 → x15.toInt = q 43 := row_rd kx15 jx15 3
        refine lv_iadd hx hb dX11_putAll_29 ?_
        refine lv_topi (fun x16 ex16 => ?_)
        have ix16 := iv_top x16
        refine th_iast S hK hH hS ⟨33, by decide, trf6⟩ trf6 km_33 (th_in (hi := 14) (iv_w ix9 (by decide)) (by decide)) (th_iv ix16) dX11_putAll_30 (fun H locs hH hS hq1 => ?_)
        refine th_iinc S dX11_putAll_31 hl (k := 2) rfl (by decide) ir3 (by decide) (fun x17 ls ex17 ix17 hl => ?_)
        have hl : lv_has ls 3 [(2, .int x17), (0, .ref a0), (1, .int y1)] := hl
        have ix17 : IV x17 1 4 := ix17
        refine lv_goto (tgt := 2) hx hb dX11_putAll_34 (by decide) ?_
        exact ih2 H locs ls x17 (iv_w ix17 (by decide)) hH hS (lv_sub hl [1, 2, 0] rfl) (th_up iv2_2 ex17 (by decide) hn2)
  have J0 : ∀ (H : Heap) (locs : List Loc) (ls : Array Slot), th_H D cT T (km q) H → va_S (th_A T [33]) s.heap H locs → lv_has ls 3 [(0, .ref a0), (1, .int y1)] → W p l e (rmk 1 20) s m [.ref a0, .int y1].toArray below meth c H locs 0 0 (MQ below (th_Q D cT T (km q) (th_R T none) [33]) [.ref a0, .int y1].toArray s 0 0 (th_A T [33])) (F0 m 0 ls []) := by
    intro H locs ls hH hS hl
    refine lv_iconst (v := 0) hx hb dX11_putAll_0 (by decide) ?_
    refine lv_istore_n (lv' := [(2, .int 0), (0, .ref a0), (1, .int y1)]) hx hb dX11_putAll_1 rfl hl (by decide) rfl (fun ls hl => ?_)
    exact J2 ((4 + 1 - Int32.toInt 0).toNat + 1) H locs ls 0 (iv_w (iv_c (by decide) : IV 0 0 0) (by decide)) hH hS (lv_sub hl [1, 2, 0] rfl) (Nat.lt_succ_self _)
  exact J0 s.heap [] ls hH va_S.rf hl

set_option maxRecDepth 100000 in
theorem m_X11_layRow (l : Launch) (D : va_G) (cT : Nat → ClassId) (T : Nat → Option Nat) (q : Nat → Int) (hT : tokm T) (hq : qkm q) (a0 : Nat) (t0 : T a0 = some 0) : th_Met l D cT T (km q) yX11_layRow cX11_layRow 2 none (rmk 1 20) [.ref a0] (th_R T none) [0, 36] := by
  refine th_start (by decide) (Nat.le_of_ble_eq_true rfl) ?_
  intro p e s m below meth c ls S hK hH hr hlocks hnm hl
  have hx := S.1
  have hb := S.2.1
  have hl : lv_has ls 2 [(0, .ref a0)] := hl
  have J2 : ∀ (n : Nat) (H : Heap) (locs : List Loc) (ls : Array Slot) (v2_1 : Int32), IV v2_1 0 4 → th_H D cT T (km q) H → va_S (th_A T [0, 36]) s.heap H locs → lv_has ls 2 [(0, .ref a0), (1, .int v2_1)] → (4 + 1 - Int32.toInt v2_1).toNat < n → W p l e (rmk 1 20) s m [.ref a0].toArray below meth c H locs 0 0 (MQ below (th_Q D cT T (km q) (th_R T none) [0, 36]) [.ref a0].toArray s 0 0 (th_A T [0, 36])) (F0 m 2 ls []) := by
    intro n
    induction n with
    | zero => intro H locs ls v2_1 iv2_1 hH hS hl hn; exact absurd hn (Nat.not_lt_zero _)
    | succ n ih2 =>
      intro H locs ls v2_1 iv2_1 hH hS hl hn2
      have l1v2_1 := iv2_1.1; have l2v2_1 := iv2_1.2
      refine lv_iload_n hx hb dX11_layRow_2 rfl (lv_at hl 1 rfl) ?_
      refine lv_aload_n hx hb dX11_layRow_3 rfl (lv_at hl 0 rfl) ?_
      refine th_callVp (n := 0) (As := []) S hK hH hS (th_A.sub (by decide)) (m_X11_many l D cT T q hT hq a0 t0) gm_1229 gm_1226 gm_1228 gm_46 gm_124 (by decide +kernel) ⟨rfl, rfl, Nat.le_of_ble_eq_true rfl, Nat.le_of_ble_eq_true rfl⟩ t0 km_0 rfl rfl hl.1 rfl (Nat.le_of_ble_eq_true rfl) dX11_layRow_4 ⟨Nat.zero_le _, Nat.zero_le _⟩ (fun x1 H locs ix1 ox1 hH hS hF1 => ?_)
      have ox1 : x1.toInt = q 11 := ox1
      refine lv_icmp_ge (tgt := 28) hx hb dX11_layRow_7 (by decide) (fun c2 => ?_) (fun c2 => ?_)
      · skip
        have rlc2 : x1.toInt ≤ v2_1.toInt := iv_le c2
        refine lv_aload_n hx hb dX11_layRow_28 rfl (lv_at hl 0 rfl) ?_
        refine lv_aload_n hx hb dX11_layRow_29 rfl (lv_at hl 0 rfl) ?_
        refine th_callVp (n := 0) (As := []) S hK hH hS (th_A.sub (by decide)) (m_X11_many l D cT T q hT hq a0 t0) gm_1229 gm_1226 gm_1228 gm_46 gm_124 (by decide +kernel) ⟨rfl, rfl, Nat.le_of_ble_eq_true rfl, Nat.le_of_ble_eq_true rfl⟩ t0 km_0 rfl rfl hl.1 rfl (Nat.le_of_ble_eq_true rfl) dX11_layRow_30 ⟨Nat.zero_le _, Nat.zero_le _⟩ (fun x3 H locs ix3 ox3 hH hS hF1 => ?_)
        have ox3 : x3.toInt = q 11 := ox3
        refine th_put S hK hH hS ⟨0, by decide, t0⟩ inG11 tyX11 tyX11_ok nmX11 t0 km_0 rfl 59 (by decide) gm_1289 rfl rfl rfl rfl (th_iv ix3) (fun vs h => nmR_set h.2.2 (by decide) rfl) (ty := .int) (by decide +kernel) rfl rfl dX11_layRow_33 (fun H locs hH hS hq1 hp1 => ?_)
        exact th_vret S hK hH hS hr hlocks rfl dX11_layRow_36
      · skip
        have rlc2 : v2_1.toInt < x1.toInt := iv_nle c2
        have ir4 : IV v2_1 0 3 := iv_uL iv2_1 ix1 (iv_nle c2) (by decide)
        have ir4a := ir4.1; have ir4b := ir4.2
        have ir5 : IV x1 1 4 := iv_uR iv2_1 ix1 (iv_nle c2) (by decide)
        have ir5a := ir5.1; have ir5b := ir5.2
        refine lv_aload_n hx hb dX11_layRow_10 rfl (lv_at hl 0 rfl) ?_
        refine th_get S hK hH inG11 t0 km_0 rfl 57 (by decide) gm_1287 rfl rfl dX11_layRow_11 (fun v6 hv6 fv6 => ?_)
        obtain ⟨rf7, rfl, trf7⟩ := th_V.ref hv6
        refine lv_iload_n hx hb dX11_layRow_14 rfl (lv_at hl 1 rfl) ?_
        refine lv_aload_n hx hb dX11_layRow_15 rfl (lv_at hl 0 rfl) ?_
        refine th_get S hK hH inG11 t0 km_0 rfl 58 (by decide) gm_1288 rfl rfl dX11_layRow_16 (fun v8 hv8 fv8 => ?_)
        obtain ⟨rf9, rfl, trf9⟩ := th_V.ref hv8
        refine lv_iload_n hx hb dX11_layRow_19 rfl (lv_at hl 1 rfl) ?_
        refine th_iald S hK hH trf9 km_37 (th_in (hi := 3) ir4 (by decide)) dX11_layRow_20 (fun v10 hv10 => ?_)
        obtain ⟨x11, rfl, kx11⟩ := th_eaR hv10 (th_lt (th_in (hi := 3) ir4 (by decide)))
        have ix11 := iv_top x11
        have jx11 := th_nat (hi := 3) ir4
        have yx11_0 : v2_1.toInt = 0 → x11.toInt = q 40 := row_rd kx11 jx11 0
        have yx11_1 : v2_1.toInt = 1 → x11.toInt = q 41 := row_rd kx11 jx11 1
        have yx11_2 : v2_1.toInt = 2 → x11.toInt = q 42 := row_rd kx11 jx11 2
        have yx11_3 : v2_1.toInt = 3 → x11.toInt = q 43 := row_rd kx11 jx11 3
        refine th_iast S hK hH hS ⟨36, by decide, trf7⟩ trf7 km_36 (th_in (hi := 3) ir4 (by decide)) (th_iv ix11) dX11_layRow_21 (fun H locs hH hS hq1 => ?_)
        refine th_iinc S dX11_layRow_22 hl (k := 1) rfl (by decide) ir4 (by decide) (fun x12 ls ex12 ix12 hl => ?_)
        have hl : lv_has ls 2 [(1, .int x12), (0, .ref a0)] := hl
        have ix12 : IV x12 1 4 := ix12
        refine lv_goto (tgt := 2) hx hb dX11_layRow_25 (by decide) ?_
        exact ih2 H locs ls x12 (iv_w ix12 (by decide)) hH hS (lv_sub hl [1, 0] rfl) (th_up iv2_1 ex12 (by decide) hn2)
  have J0 : ∀ (H : Heap) (locs : List Loc) (ls : Array Slot), th_H D cT T (km q) H → va_S (th_A T [0, 36]) s.heap H locs → lv_has ls 2 [(0, .ref a0)] → W p l e (rmk 1 20) s m [.ref a0].toArray below meth c H locs 0 0 (MQ below (th_Q D cT T (km q) (th_R T none) [0, 36]) [.ref a0].toArray s 0 0 (th_A T [0, 36])) (F0 m 0 ls []) := by
    intro H locs ls hH hS hl
    refine lv_iconst (v := 0) hx hb dX11_layRow_0 (by decide) ?_
    refine lv_istore_n (lv' := [(1, .int 0), (0, .ref a0)]) hx hb dX11_layRow_1 rfl hl (by decide) rfl (fun ls hl => ?_)
    exact J2 ((4 + 1 - Int32.toInt 0).toNat + 1) H locs ls 0 (iv_w (iv_c (by decide) : IV 0 0 0) (by decide)) hH hS (lv_sub hl [1, 0] rfl) (Nat.lt_succ_self _)
  exact J0 s.heap [] ls hH va_S.rf hl

set_option maxRecDepth 100000 in
theorem m_X11_ration (l : Launch) (D : va_G) (cT : Nat → ClassId) (T : Nat → Option Nat) (q : Nat → Int) (hT : tokm T) (hq : qkm q) (a0 : Nat) (t0 : T a0 = some 0) (y1 : Int32) (j1 : IV y1 (-2147483648) 2147483647) (y2 : Int32) (j2 : IV y2 (-2147483648) 2147483647) : th_MetM l D cT T q yX11_ration cX11_ration 6 (some .int) (rmk 5 118) [.ref a0, .int y1, .int y2] (fun v q2 => ∃ r : Int32, v = some (.int r) ∧ IV r (-1) 24 ∧ qkm q2 ∧ fr [40, 41, 42, 43] q q2) [0, 32, 33, 35, 36, 37] := by
  refine th_startM (by decide) (Nat.le_of_ble_eq_true rfl) ?_
  intro p e s m below meth c ls S hK hH hr hlocks hnm hl
  have hx := S.1
  have hb := S.2.1
  have hl : lv_has ls 6 [(0, .ref a0), (1, .int y1), (2, .int y2)] := hl
  have J151 : ∀ (q151 : Nat → Int) (H : Heap) (locs : List Loc) (ls : Array Slot), qkm q151 → fr [40, 41, 42, 43] q q151 → th_H D cT T (km q151) H → va_S (th_A T [0, 32, 33, 35, 36, 37]) s.heap H locs → lv_has ls 6 [] → W p l e (rmk 5 118) s m [.ref a0, .int y1, .int y2].toArray below meth c H locs 0 0 (MQ below (th_QM D cT T (fun v q2 => ∃ r : Int32, v = some (.int r) ∧ IV r (-1) 24 ∧ qkm q2 ∧ fr [40, 41, 42, 43] q q2) [0, 32, 33, 35, 36, 37]) [.ref a0, .int y1, .int y2].toArray s 0 0 (th_A T [0, 32, 33, 35, 36, 37])) (F0 m 151 ls []) := by
    intro q151 H locs ls hq151 h0151 hH hS hl
    have w151_11 : q151 11 = q 11 := h0151 11 (by decide) (Or.inl (by decide))
    refine lv_iconst (v := (-1)) hx hb dX11_ration_151 (by decide) ?_
    exact th_iretM S hK hH hS hr hlocks ⟨_, rfl, (iv_w (iv_c (by decide) : IV (-1) (-1) (-1)) (by decide)), hq151, h0151⟩ dX11_ration_152
  have J65 : ∀ (n : Nat) (q65 : Nat → Int) (H : Heap) (locs : List Loc) (ls : Array Slot) (v65_3 : Int32), qkm q65 → fr [40, 41, 42, 43] q q65 → IV v65_3 0 25 → IV y1 0 2 → IV y2 0 1073741823 → (1 ≤ q 11) → th_H D cT T (km q65) H → va_S (th_A T [0, 32, 33, 35, 36, 37]) s.heap H locs → lv_has ls 6 [(0, .ref a0), (1, .int y1), (2, .int y2), (3, .int v65_3)] → (25 + 1 - Int32.toInt v65_3).toNat < n → W p l e (rmk 5 118) s m [.ref a0, .int y1, .int y2].toArray below meth c H locs 0 0 (MQ below (th_QM D cT T (fun v q2 => ∃ r : Int32, v = some (.int r) ∧ IV r (-1) 24 ∧ qkm q2 ∧ fr [40, 41, 42, 43] q q2) [0, 32, 33, 35, 36, 37]) [.ref a0, .int y1, .int y2].toArray s 0 0 (th_A T [0, 32, 33, 35, 36, 37])) (F0 m 65 ls []) := by
    intro n
    induction n with
    | zero => intro q65 H locs ls v65_3 hq65 h065 iv65_3 f65_y1 f65_y2 v65_inv0 hH hS hl hn; exact absurd hn (Nat.not_lt_zero _)
    | succ n ih65 =>
      intro q65 H locs ls v65_3 hq65 h065 iv65_3 f65_y1 f65_y2 v65_inv0 hH hS hl hn65
      have w65_11 : q65 11 = q 11 := h065 11 (by decide) (Or.inl (by decide))
      have J91 : ∀ (n : Nat) (q91 : Nat → Int) (H : Heap) (locs : List Loc) (ls : Array Slot) (v91_4 : Int32), qkm q91 → fr [40, 41, 42, 43] q q91 → IV v91_4 0 1 → IV v65_3 0 24 → IV y1 0 2 → IV y2 0 1073741823 → (0 ≤ q91 40 ∧ 0 ≤ q91 41 ∧ 0 ≤ q91 42 ∧ 0 ≤ q91 43 ∧ q91 40 + q91 41 + q91 42 + q91 43 ≤ 24) → (1 ≤ q 11) → th_H D cT T (km q91) H → va_S (th_A T [0, 32, 33, 35, 36, 37]) s.heap H locs → lv_has ls 6 [(0, .ref a0), (1, .int y1), (2, .int y2), (3, .int v65_3), (4, .int v91_4)] → (400000 - (15625 * q91 40 + 625 * q91 41 + 25 * q91 42 + q91 43) + v91_4.toInt).toNat < n → W p l e (rmk 5 118) s m [.ref a0, .int y1, .int y2].toArray below meth c H locs 0 0 (MQ below (th_QM D cT T (fun v q2 => ∃ r : Int32, v = some (.int r) ∧ IV r (-1) 24 ∧ qkm q2 ∧ fr [40, 41, 42, 43] q q2) [0, 32, 33, 35, 36, 37]) [.ref a0, .int y1, .int y2].toArray s 0 0 (th_A T [0, 32, 33, 35, 36, 37])) (F0 m 91 ls []) := by
        intro n
        induction n with
        | zero => intro q91 H locs ls v91_4 hq91 h091 iv91_4 f91_v65_3 f91_y1 f91_y2 v91_inv0 v91_inv1 hH hS hl hn; exact absurd hn (Nat.not_lt_zero _)
        | succ n ih91 =>
          intro q91 H locs ls v91_4 hq91 h091 iv91_4 f91_v65_3 f91_y1 f91_y2 v91_inv0 v91_inv1 hH hS hl hn91
          have w91_11 : q91 11 = q 11 := h091 11 (by decide) (Or.inl (by decide))
          have J119_s0_0 : ∀ (H : Heap) (locs : List Loc) (ls : Array Slot), IV v65_3 0 24 → IV y1 0 2 → IV y2 0 1073741823 → (0 ≤ q91 40 ∧ 0 ≤ q91 41 ∧ 0 ≤ q91 42 ∧ 0 ≤ q91 43 ∧ q91 40 + q91 41 + q91 42 + q91 43 ≤ 24) → (1 ≤ v91_4.toInt) → (1 ≤ q 11) → th_H D cT T (km q91) H → va_S (th_A T [0, 32, 33, 35, 36, 37]) s.heap H locs → lv_has ls 6 [(0, .ref a0), (1, .int y1), (2, .int y2), (3, .int v65_3)] → W p l e (rmk 5 118) s m [.ref a0, .int y1, .int y2].toArray below meth c H locs 0 0 (MQ below (th_QM D cT T (fun v q2 => ∃ r : Int32, v = some (.int r) ∧ IV r (-1) 24 ∧ qkm q2 ∧ fr [40, 41, 42, 43] q q2) [0, 32, 33, 35, 36, 37]) [.ref a0, .int y1, .int y2].toArray s 0 0 (th_A T [0, 32, 33, 35, 36, 37])) (F0 m 119 ls [.int 0]) := by
            intro H locs ls f119_v65_3 f119_y1 f119_y2 v119_inv0 v119_inv1 v119_inv2 hH hS hl
            refine lv_istore (lv' := [(5, .int 0), (0, .ref a0), (1, .int y1), (2, .int y2), (3, .int v65_3)]) hx hb dX11_ration_119 hl (by decide) rfl (fun ls hl => ?_)
            refine lv_aload_n hx hb dX11_ration_121 rfl (lv_at hl 1 rfl) ?_
            refine th_callVv (n := 0) (As := []) S hK hH hS (th_A.sub (by decide)) (m_X11_bringBack l D cT T q91 hT hq91 a0 t0) gm_1768 gm_1765 gm_1767 gm_99 gm_124 (by decide +kernel) ⟨rfl, rfl, Nat.le_of_ble_eq_true rfl, Nat.le_of_ble_eq_true rfl⟩ t0 km_0 rfl rfl hl.1 rfl (Nat.le_of_ble_eq_true rfl) dX11_ration_122 ⟨Nat.zero_le _, Nat.zero_le _⟩ (fun H locs hH hS hF1 => ?_)
            refine lv_iload hx hb dX11_ration_125 (lv_at hl 0 rfl) ?_
            refine lv_if_eq (tgt := 136) hx hb dX11_ration_127 (by decide) (fun c1 => ?_) (fun c1 => ?_)
            · skip
              have rlc1 : (0 : Int) = (0 : Int) := congrArg Int32.toInt c1
              refine lv_aload_n hx hb dX11_ration_136 rfl (lv_at hl 1 rfl) ?_
              refine th_callVM (n := 0) (As := []) S hK hH hS (th_A.sub (by decide)) (m_X11_nextWay l D cT T q91 hT hq91 a0 t0 (show 1 ≤ q91 11 by omega) (show 0 ≤ q91 40 ∧ 0 ≤ q91 41 ∧ 0 ≤ q91 42 ∧ 0 ≤ q91 43 ∧ q91 40 + q91 41 + q91 42 + q91 43 ≤ 24 by assumption)) gm_1820 gm_1817 gm_1819 gm_105 gm_124 (by decide +kernel) ⟨rfl, rfl, Nat.le_of_ble_eq_true rfl, Nat.le_of_ble_eq_true rfl⟩ t0 km_0 rfl rfl hl.1 rfl (Nat.le_of_ble_eq_true rfl) dX11_ration_137 ⟨Nat.zero_le _, Nat.zero_le _⟩ (fun wq2 q2 H locs hEq2 hH hS hF1 => ?_)
              obtain ⟨x3, rfl, ix3, hqq2, g0q2, pq2_0, pq2_1, pq2_2⟩ := hEq2
              show W p l e (rmk 5 118) s m [.ref a0, .int y1, .int y2].toArray below meth c H locs 0 0 (MQ below (th_QM D cT T (fun v q2 => ∃ r : Int32, v = some (.int r) ∧ IV r (-1) 24 ∧ qkm q2 ∧ fr [40, 41, 42, 43] q q2) [0, 32, 33, 35, 36, 37]) [.ref a0, .int y1, .int y2].toArray s 0 0 (th_A T [0, 32, 33, 35, 36, 37])) (F0 m 140 ls [.int x3])
              have pq2_0 : 0 ≤ q2 40 ∧ 0 ≤ q2 41 ∧ 0 ≤ q2 42 ∧ 0 ≤ q2 43 ∧ q2 40 + q2 41 + q2 42 + q2 43 ≤ 24 := pq2_0
              have pq2_1 : x3.toInt ≠ 0 → 15625 * q91 40 + 625 * q91 41 + 25 * q91 42 + q91 43 < 15625 * q2 40 + 625 * q2 41 + 25 * q2 42 + q2 43 := pq2_1
              have pq2_2 : x3.toInt = 0 → 15625 * q2 40 + 625 * q2 41 + 25 * q2 42 + q2 43 = 15625 * q91 40 + 625 * q91 41 + 25 * q91 42 + q91 43 := pq2_2
              have wq2_11 : q2 11 = q91 11 := g0q2 11 (by decide) (Or.inl (by decide))
              have h0q2 : fr [40, 41, 42, 43] q q2 := fr_tr h091 g0q2 (by decide)
              have l1x3 := ix3.1; have l2x3 := ix3.2
              refine lv_istore (lv' := [(4, .int x3), (5, .int 0), (0, .ref a0), (1, .int y1), (2, .int y2), (3, .int v65_3)]) hx hb dX11_ration_140 hl (by decide) rfl (fun ls hl => ?_)
              refine lv_goto (tgt := 91) hx hb dX11_ration_142 (by decide) ?_
              exact ih91 q2 H locs ls x3 hqq2 h0q2 ix3 f119_v65_3 f119_y1 f119_y2 (show 0 ≤ q2 40 ∧ 0 ≤ q2 41 ∧ 0 ≤ q2 42 ∧ 0 ≤ q2 43 ∧ q2 40 + q2 41 + q2 42 + q2 43 ≤ 24 by omega) (show 1 ≤ q 11 by omega) hH hS (lv_sub hl [2, 3, 4, 5, 0] rfl) (show (400000 - (15625 * q2 40 + 625 * q2 41 + 25 * q2 42 + q2 43) + x3.toInt).toNat < n by omega)
            · skip
              have rlc1 : (0 : Int) ≠ (0 : Int) := iv_ne c1
              exact absurd (iv_eqc (iv_c (by decide) : IV 0 0 0) (iv_c (by decide) : IV 0 0 0)) c1
          have J119_s0_1 : ∀ (H : Heap) (locs : List Loc) (ls : Array Slot), IV v65_3 0 24 → IV y1 0 2 → IV y2 0 1073741823 → (0 ≤ q91 40 ∧ 0 ≤ q91 41 ∧ 0 ≤ q91 42 ∧ 0 ≤ q91 43 ∧ q91 40 + q91 41 + q91 42 + q91 43 ≤ 24) → (1 ≤ v91_4.toInt) → (1 ≤ q 11) → th_H D cT T (km q91) H → va_S (th_A T [0, 32, 33, 35, 36, 37]) s.heap H locs → lv_has ls 6 [(0, .ref a0), (1, .int y1), (2, .int y2), (3, .int v65_3)] → W p l e (rmk 5 118) s m [.ref a0, .int y1, .int y2].toArray below meth c H locs 0 0 (MQ below (th_QM D cT T (fun v q2 => ∃ r : Int32, v = some (.int r) ∧ IV r (-1) 24 ∧ qkm q2 ∧ fr [40, 41, 42, 43] q q2) [0, 32, 33, 35, 36, 37]) [.ref a0, .int y1, .int y2].toArray s 0 0 (th_A T [0, 32, 33, 35, 36, 37])) (F0 m 119 ls [.int 1]) := by
            intro H locs ls f119_v65_3 f119_y1 f119_y2 v119_inv0 v119_inv1 v119_inv2 hH hS hl
            refine lv_istore (lv' := [(5, .int 1), (0, .ref a0), (1, .int y1), (2, .int y2), (3, .int v65_3)]) hx hb dX11_ration_119 hl (by decide) rfl (fun ls hl => ?_)
            refine lv_aload_n hx hb dX11_ration_121 rfl (lv_at hl 1 rfl) ?_
            refine th_callVv (n := 0) (As := []) S hK hH hS (th_A.sub (by decide)) (m_X11_bringBack l D cT T q91 hT hq91 a0 t0) gm_1768 gm_1765 gm_1767 gm_99 gm_124 (by decide +kernel) ⟨rfl, rfl, Nat.le_of_ble_eq_true rfl, Nat.le_of_ble_eq_true rfl⟩ t0 km_0 rfl rfl hl.1 rfl (Nat.le_of_ble_eq_true rfl) dX11_ration_122 ⟨Nat.zero_le _, Nat.zero_le _⟩ (fun H locs hH hS hF1 => ?_)
            refine lv_iload hx hb dX11_ration_125 (lv_at hl 0 rfl) ?_
            refine lv_if_eq (tgt := 136) hx hb dX11_ration_127 (by decide) (fun c4 => ?_) (fun c4 => ?_)
            · skip
              have rlc4 : (1 : Int) = (0 : Int) := congrArg Int32.toInt c4
              exfalso
              have z1 := congrArg Int32.toInt c4
              have z2 := ((iv_c (by decide) : IV 1 1 1)).1
              have z3 := ((iv_c (by decide) : IV 1 1 1)).2
              have z4 := ((iv_c (by decide) : IV 0 0 0)).1
              have z5 := ((iv_c (by decide) : IV 0 0 0)).2
              omega
            · skip
              have rlc4 : (1 : Int) ≠ (0 : Int) := iv_ne c4
              refine lv_aload_n hx hb dX11_ration_130 rfl (lv_at hl 1 rfl) ?_
              refine th_callVv (n := 0) (As := []) S hK hH hS (th_A.sub (by decide)) (m_X11_layRow l D cT T q91 hT hq91 a0 t0) gm_1816 gm_1813 gm_1815 gm_104 gm_124 (by decide +kernel) ⟨rfl, rfl, Nat.le_of_ble_eq_true rfl, Nat.le_of_ble_eq_true rfl⟩ t0 km_0 rfl rfl hl.1 rfl (Nat.le_of_ble_eq_true rfl) dX11_ration_131 ⟨Nat.zero_le _, Nat.zero_le _⟩ (fun H locs hH hS hF1 => ?_)
              refine lv_iload_n hx hb dX11_ration_134 rfl (lv_at hl 4 rfl) ?_
              exact th_iretM S hK hH hS hr hlocks ⟨_, rfl, (iv_w f119_v65_3 (by decide)), hq91, h091⟩ dX11_ration_135
          have l1v91_4 := iv91_4.1; have l2v91_4 := iv91_4.2
          refine lv_iload hx hb dX11_ration_91 (lv_at hl 4 rfl) ?_
          refine lv_if_eq (tgt := 145) hx hb dX11_ration_93 (by decide) (fun c5 => ?_) (fun c5 => ?_)
          · skip
            have rlc5 : v91_4.toInt = (0 : Int) := congrArg Int32.toInt c5
            have ir6 : IV v91_4 0 0 := iv_eL c5 (iv_c (by decide) : IV 0 0 0)
            have ir6a := ir6.1; have ir6b := ir6.2
            refine th_iinc S dX11_ration_145 hl (k := 3) rfl (by decide) f91_v65_3 (by decide) (fun x7 ls ex7 ix7 hl => ?_)
            have hl : lv_has ls 6 [(3, .int x7), (0, .ref a0), (1, .int y1), (2, .int y2), (4, .int v91_4)] := hl
            have ix7 : IV x7 1 25 := ix7
            refine lv_goto (tgt := 65) hx hb dX11_ration_148 (by decide) ?_
            exact ih65 q91 H locs ls x7 hq91 h091 (iv_w ix7 (by decide)) f91_y1 f91_y2 (show 1 ≤ q 11 by omega) hH hS (lv_sub hl [1, 2, 3, 0] rfl) (th_up iv65_3 ex7 (by decide) hn65)
          · skip
            have rlc5 : v91_4.toInt ≠ (0 : Int) := iv_ne c5
            have ir8 : IV v91_4 1 1 := iv_cutL iv91_4 (iv_c (by decide) : IV 0 0 0) c5 (by decide)
            have ir8a := ir8.1; have ir8b := ir8.2
            refine lv_aload_n hx hb dX11_ration_96 rfl (lv_at hl 0 rfl) ?_
            refine lv_iload_n hx hb dX11_ration_97 rfl (lv_at hl 1 rfl) ?_
            refine th_callVv (n := 1) (As := [.int y1]) S hK hH hS (th_A.sub (by decide)) (m_X11_putAll l D cT T q91 hT hq91 a0 t0 (y1) f91_y1) gm_1812 gm_1809 gm_1811 gm_103 gm_124 (by decide +kernel) ⟨rfl, rfl, Nat.le_of_ble_eq_true rfl, Nat.le_of_ble_eq_true rfl⟩ t0 km_0 rfl rfl hl.1 rfl (Nat.le_of_ble_eq_true rfl) dX11_ration_98 ⟨Nat.zero_le _, Nat.zero_le _⟩ (fun H locs hH hS hF1 => ?_)
            refine lv_aload_n hx hb dX11_ration_101 rfl (lv_at hl 0 rfl) ?_
            refine th_callVv (n := 0) (As := []) S hK hH hS (th_A.sub (by decide)) (m_X11_eat l D cT T q91 hT hq91 a0 t0) gm_1721 gm_1718 gm_1720 gm_94 gm_124 (by decide +kernel) ⟨rfl, rfl, Nat.le_of_ble_eq_true rfl, Nat.le_of_ble_eq_true rfl⟩ t0 km_0 rfl rfl hl.1 rfl (Nat.le_of_ble_eq_true rfl) dX11_ration_102 ⟨Nat.zero_le _, Nat.zero_le _⟩ (fun H locs hH hS hF1 => ?_)
            refine lv_aload_n hx hb dX11_ration_105 rfl (lv_at hl 0 rfl) ?_
            refine th_callVi (n := 0) (As := []) S hK hH hS (th_A.sub (by decide)) (m_X11_smaller l D cT T q91 hT hq91 a0 t0) gm_1733 gm_1730 gm_1732 gm_97 gm_124 (by decide +kernel) ⟨rfl, rfl, Nat.le_of_ble_eq_true rfl, Nat.le_of_ble_eq_true rfl⟩ t0 km_0 rfl rfl hl.1 rfl (Nat.le_of_ble_eq_true rfl) dX11_ration_106 ⟨Nat.zero_le _, Nat.zero_le _⟩ (fun x9 H locs ix9 hH hS hF1 => ?_)
            refine lv_iload_n hx hb dX11_ration_109 rfl (lv_at hl 2 rfl) ?_
            refine lv_iand hx hb dX11_ration_110 ?_
            refine lv_topi (fun x10 ex10 => ?_)
            have ix10 : IV x10 0 1073741823 := by rw [ex10]; exact iv_and (h2 := 1073741823) f91_y2 (by decide)
            refine lv_if_ne (tgt := 118) hx hb dX11_ration_111 (by decide) (fun c11 => ?_) (fun c11 => ?_)
            · skip
              have rlc11 : x10.toInt ≠ (0 : Int) := iv_ne c11
              have ir12 : IV x10 1 1073741823 := iv_cutL ix10 (iv_c (by decide) : IV 0 0 0) c11 (by decide)
              have ir12a := ir12.1; have ir12b := ir12.2
              refine lv_iconst (v := 0) hx hb dX11_ration_118 (by decide) ?_
              exact J119_s0_0 H locs ls f91_v65_3 f91_y1 f91_y2 (show 0 ≤ q91 40 ∧ 0 ≤ q91 41 ∧ 0 ≤ q91 42 ∧ 0 ≤ q91 43 ∧ q91 40 + q91 41 + q91 42 + q91 43 ≤ 24 by omega) (show 1 ≤ v91_4.toInt by omega) (show 1 ≤ q 11 by omega) hH hS (lv_sub hl [0, 1, 2, 3] rfl)
            · skip
              have rlc11 : x10.toInt = (0 : Int) := congrArg Int32.toInt c11
              have ir13 : IV x10 0 0 := iv_eL c11 (iv_c (by decide) : IV 0 0 0)
              have ir13a := ir13.1; have ir13b := ir13.2
              refine lv_iconst (v := 1) hx hb dX11_ration_114 (by decide) ?_
              refine lv_goto (tgt := 119) hx hb dX11_ration_115 (by decide) ?_
              exact J119_s0_1 H locs ls f91_v65_3 f91_y1 f91_y2 (show 0 ≤ q91 40 ∧ 0 ≤ q91 41 ∧ 0 ≤ q91 42 ∧ 0 ≤ q91 43 ∧ q91 40 + q91 41 + q91 42 + q91 43 ≤ 24 by omega) (show 1 ≤ v91_4.toInt by omega) (show 1 ≤ q 11 by omega) hH hS (lv_sub hl [0, 1, 2, 3] rfl)
      have l1v65_3 := iv65_3.1; have l2v65_3 := iv65_3.2
      refine lv_iload_n hx hb dX11_ration_65 rfl (lv_at hl 3 rfl) ?_
      refine lv_bipush (v := 24) hx hb dX11_ration_66 (by decide) ?_
      refine lv_icmp_gt (tgt := 151) hx hb dX11_ration_68 (by decide) (fun c14 => ?_) (fun c14 => ?_)
      · skip
        have rlc14 : (24 : Int) < v65_3.toInt := iv_lt c14
        have ir15 : IV v65_3 25 25 := iv_uR (iv_c (by decide) : IV 24 24 24) iv65_3 (iv_lt c14) (by decide)
        have ir15a := ir15.1; have ir15b := ir15.2
        exact J151 q65 H locs ls hq65 h065 hH hS (lv_sub hl [] rfl)
      · skip
        have rlc14 : v65_3.toInt ≤ (24 : Int) := iv_nlt c14
        have ir16 : IV v65_3 0 24 := iv_vL iv65_3 (iv_c (by decide) : IV 24 24 24) (iv_nlt c14) (by decide)
        have ir16a := ir16.1; have ir16b := ir16.2
        refine lv_iload_n hx hb dX11_ration_71 rfl (lv_at hl 3 rfl) ?_
        refine lv_aload_n hx hb dX11_ration_72 rfl (lv_at hl 0 rfl) ?_
        refine th_get S hK hH inG11 t0 km_0 rfl 52 (by decide) gm_1282 rfl rfl dX11_ration_73 (fun v17 hv17 fv17 => ?_)
        obtain ⟨rf18, rfl, trf18⟩ := th_V.ref hv17
        refine lv_iconst (v := 0) hx hb dX11_ration_76 (by decide) ?_
        refine lv_iload_n hx hb dX11_ration_77 rfl (lv_at hl 1 rfl) ?_
        refine lv_iadd hx hb dX11_ration_78 ?_
        refine lv_topi (fun x19 ex19 => ?_)
        have ix19 : IV x19 0 2 := by rw [ex19]; exact iv_add (iv_c (by decide) : IV 0 0 0) f65_y1 (by decide)
        have ux19 : x19.toInt = (0 : Int) + y1.toInt := by rw [ex19]; exact iv_addE (by have z1 := ((iv_c (by decide) : IV 0 0 0)).1; have z2 := ((iv_c (by decide) : IV 0 0 0)).2; have z3 := (f65_y1).1; have z4 := (f65_y1).2; omega)
        refine th_iald S hK hH trf18 km_33 (th_in (hi := 2) ix19 (by decide)) dX11_ration_79 (fun v20 hv20 => ?_)
        obtain ⟨x21, rfl, ix21⟩ := th_V.int hv20
        refine lv_icmp_gt (tgt := 151) hx hb dX11_ration_80 (by decide) (fun c22 => ?_) (fun c22 => ?_)
        · skip
          have rlc22 : x21.toInt < v65_3.toInt := iv_lt c22
          have ir23 : IV x21 (-2147483648) 23 := iv_uL ix21 ir16 (iv_lt c22) (by decide)
          have ir23a := ir23.1; have ir23b := ir23.2
          exact J151 q65 H locs ls hq65 h065 hH hS (lv_sub hl [] rfl)
        · skip
          have rlc22 : v65_3.toInt ≤ x21.toInt := iv_nlt c22
          have ir24 : IV x21 0 2147483647 := iv_vR ir16 ix21 (iv_nlt c22) (by decide)
          have ir24a := ir24.1; have ir24b := ir24.2
          refine lv_aload_n hx hb dX11_ration_83 rfl (lv_at hl 0 rfl) ?_
          refine lv_iload_n hx hb dX11_ration_84 rfl (lv_at hl 3 rfl) ?_
          refine th_callVM (n := 1) (As := [.int v65_3]) S hK hH hS (th_A.sub (by decide)) (m_X11_firstWay l D cT T q65 hT hq65 a0 t0 (v65_3) ir16 (show 1 ≤ q65 11 by omega)) gm_1808 gm_1805 gm_1807 gm_102 gm_124 (by decide +kernel) ⟨rfl, rfl, Nat.le_of_ble_eq_true rfl, Nat.le_of_ble_eq_true rfl⟩ t0 km_0 rfl rfl hl.1 rfl (Nat.le_of_ble_eq_true rfl) dX11_ration_85 ⟨Nat.zero_le _, Nat.zero_le _⟩ (fun wq25 q25 H locs hEq25 hH hS hF1 => ?_)
          obtain ⟨rfl, hqq25, g0q25, pq25_0⟩ := hEq25
          show W p l e (rmk 5 118) s m [.ref a0, .int y1, .int y2].toArray below meth c H locs 0 0 (MQ below (th_QM D cT T (fun v q2 => ∃ r : Int32, v = some (.int r) ∧ IV r (-1) 24 ∧ qkm q2 ∧ fr [40, 41, 42, 43] q q2) [0, 32, 33, 35, 36, 37]) [.ref a0, .int y1, .int y2].toArray s 0 0 (th_A T [0, 32, 33, 35, 36, 37])) (F0 m 88 ls [])
          have pq25_0 : 0 ≤ q25 40 ∧ 0 ≤ q25 41 ∧ 0 ≤ q25 42 ∧ 0 ≤ q25 43 ∧ q25 40 + q25 41 + q25 42 + q25 43 ≤ 24 := pq25_0
          have wq25_11 : q25 11 = q65 11 := g0q25 11 (by decide) (Or.inl (by decide))
          have h0q25 : fr [40, 41, 42, 43] q q25 := fr_tr h065 g0q25 (by decide)
          refine lv_iconst (v := 1) hx hb dX11_ration_88 (by decide) ?_
          refine lv_istore (lv' := [(4, .int 1), (0, .ref a0), (1, .int y1), (2, .int y2), (3, .int v65_3)]) hx hb dX11_ration_89 hl (by decide) rfl (fun ls hl => ?_)
          exact J91 ((400000 - (15625 * q25 40 + 625 * q25 41 + 25 * q25 42 + q25 43) + (1 : Int)).toNat + 1) q25 H locs ls 1 hqq25 h0q25 (iv_w (iv_c (by decide) : IV 1 1 1) (by decide)) ir16 f65_y1 f65_y2 (show 0 ≤ q25 40 ∧ 0 ≤ q25 41 ∧ 0 ≤ q25 42 ∧ 0 ≤ q25 43 ∧ q25 40 + q25 41 + q25 42 + q25 43 ≤ 24 by omega) (show 1 ≤ q 11 by omega) hH hS (lv_sub hl [1, 2, 3, 4, 0] rfl) (Nat.lt_succ_self _)
  have J58_s0_m1 : ∀ (H : Heap) (locs : List Loc) (ls : Array Slot), th_H D cT T (km q) H → va_S (th_A T [0, 32, 33, 35, 36, 37]) s.heap H locs → lv_has ls 6 [] → W p l e (rmk 5 118) s m [.ref a0, .int y1, .int y2].toArray below meth c H locs 0 0 (MQ below (th_QM D cT T (fun v q2 => ∃ r : Int32, v = some (.int r) ∧ IV r (-1) 24 ∧ qkm q2 ∧ fr [40, 41, 42, 43] q q2) [0, 32, 33, 35, 36, 37]) [.ref a0, .int y1, .int y2].toArray s 0 0 (th_A T [0, 32, 33, 35, 36, 37])) (F0 m 58 ls [.int (-1)]) := by
    intro H locs ls hH hS hl
    exact th_iretM S hK hH hS hr hlocks ⟨_, rfl, (iv_w (iv_c (by decide) : IV (-1) (-1) (-1)) (by decide)), hq, fr_rf⟩ dX11_ration_58
  have J58_s0_0 : ∀ (H : Heap) (locs : List Loc) (ls : Array Slot), th_H D cT T (km q) H → va_S (th_A T [0, 32, 33, 35, 36, 37]) s.heap H locs → lv_has ls 6 [] → W p l e (rmk 5 118) s m [.ref a0, .int y1, .int y2].toArray below meth c H locs 0 0 (MQ below (th_QM D cT T (fun v q2 => ∃ r : Int32, v = some (.int r) ∧ IV r (-1) 24 ∧ qkm q2 ∧ fr [40, 41, 42, 43] q q2) [0, 32, 33, 35, 36, 37]) [.ref a0, .int y1, .int y2].toArray s 0 0 (th_A T [0, 32, 33, 35, 36, 37])) (F0 m 58 ls [.int 0]) := by
    intro H locs ls hH hS hl
    exact th_iretM S hK hH hS hr hlocks ⟨_, rfl, (iv_w (iv_c (by decide) : IV 0 0 0) (by decide)), hq, fr_rf⟩ dX11_ration_58
  have J57 : ∀ (H : Heap) (locs : List Loc) (ls : Array Slot), th_H D cT T (km q) H → va_S (th_A T [0, 32, 33, 35, 36, 37]) s.heap H locs → lv_has ls 6 [] → W p l e (rmk 5 118) s m [.ref a0, .int y1, .int y2].toArray below meth c H locs 0 0 (MQ below (th_QM D cT T (fun v q2 => ∃ r : Int32, v = some (.int r) ∧ IV r (-1) 24 ∧ qkm q2 ∧ fr [40, 41, 42, 43] q q2) [0, 32, 33, 35, 36, 37]) [.ref a0, .int y1, .int y2].toArray s 0 0 (th_A T [0, 32, 33, 35, 36, 37])) (F0 m 57 ls []) := by
    intro H locs ls hH hS hl
    refine lv_iconst (v := (-1)) hx hb dX11_ration_57 (by decide) ?_
    exact J58_s0_m1 H locs ls  hH hS (lv_sub hl [] rfl)
  have J41 : ∀ (H : Heap) (locs : List Loc) (ls : Array Slot), th_H D cT T (km q) H → va_S (th_A T [0, 32, 33, 35, 36, 37]) s.heap H locs → lv_has ls 6 [(0, .ref a0), (1, .int y1), (2, .int y2)] → W p l e (rmk 5 118) s m [.ref a0, .int y1, .int y2].toArray below meth c H locs 0 0 (MQ below (th_QM D cT T (fun v q2 => ∃ r : Int32, v = some (.int r) ∧ IV r (-1) 24 ∧ qkm q2 ∧ fr [40, 41, 42, 43] q q2) [0, 32, 33, 35, 36, 37]) [.ref a0, .int y1, .int y2].toArray s 0 0 (th_A T [0, 32, 33, 35, 36, 37])) (F0 m 41 ls []) := by
    intro H locs ls hH hS hl
    refine lv_aload_n hx hb dX11_ration_41 rfl (lv_at hl 0 rfl) ?_
    refine lv_iload_n hx hb dX11_ration_42 rfl (lv_at hl 1 rfl) ?_
    refine th_callVp (n := 1) (As := [.int y1]) S hK hH hS (th_A.sub (by decide)) (m_X11_isFood l D cT T q hT hq a0 t0 (y1) j1) gm_1615 gm_1612 gm_1614 gm_79 gm_124 (by decide +kernel) ⟨rfl, rfl, Nat.le_of_ble_eq_true rfl, Nat.le_of_ble_eq_true rfl⟩ t0 km_0 rfl rfl hl.1 rfl (Nat.le_of_ble_eq_true rfl) dX11_ration_43 ⟨Nat.zero_le _, Nat.zero_le _⟩ (fun x26 H locs ix26 ox26 hH hS hF1 => ?_)
    have ox26 : x26.toInt ≠ 0 → 0 ≤ y1.toInt ∧ y1.toInt < q 16 := ox26
    have l1x26 := ix26.1; have l2x26 := ix26.2
    refine lv_if_eq (tgt := 57) hx hb dX11_ration_46 (by decide) (fun c27 => ?_) (fun c27 => ?_)
    · skip
      have rlc27 : x26.toInt = (0 : Int) := congrArg Int32.toInt c27
      have ir28 : IV x26 0 0 := iv_eL c27 (iv_c (by decide) : IV 0 0 0)
      have ir28a := ir28.1; have ir28b := ir28.2
      exact J57 H locs ls  hH hS (lv_sub hl [] rfl)
    · skip
      have rlc27 : x26.toInt ≠ (0 : Int) := iv_ne c27
      have ir29 : IV x26 1 1 := iv_cutL ix26 (iv_c (by decide) : IV 0 0 0) c27 (by decide)
      have ir29a := ir29.1; have ir29b := ir29.2
      have ir30 : IV y1 0 2 := ((fun z => by have z1 := iv_ne z; have z2 : x26.toInt ≠ 0 := z1; have z60 := qkm_16 hq; exact ⟨by omega, by omega⟩) : ¬ x26 = 0 → IV y1 0 2) c27
      have ir30a := ir30.1; have ir30b := ir30.2
      refine lv_iload_n hx hb dX11_ration_49 rfl (lv_at hl 2 rfl) ?_
      refine lv_if_ne (tgt := 57) hx hb dX11_ration_50 (by decide) (fun c31 => ?_) (fun c31 => ?_)
      · skip
        have rlc31 : y2.toInt ≠ (0 : Int) := iv_ne c31
        exact J57 H locs ls  hH hS (lv_sub hl [] rfl)
      · skip
        have rlc31 : y2.toInt = (0 : Int) := congrArg Int32.toInt c31
        have ir32 : IV y2 0 0 := iv_eL c31 (iv_c (by decide) : IV 0 0 0)
        have ir32a := ir32.1; have ir32b := ir32.2
        refine lv_iconst (v := 0) hx hb dX11_ration_53 (by decide) ?_
        refine lv_goto (tgt := 58) hx hb dX11_ration_54 (by decide) ?_
        exact J58_s0_0 H locs ls  hH hS (lv_sub hl [] rfl)
  have J0 : ∀ (H : Heap) (locs : List Loc) (ls : Array Slot), th_H D cT T (km q) H → va_S (th_A T [0, 32, 33, 35, 36, 37]) s.heap H locs → lv_has ls 6 [(0, .ref a0), (1, .int y1), (2, .int y2)] → W p l e (rmk 5 118) s m [.ref a0, .int y1, .int y2].toArray below meth c H locs 0 0 (MQ below (th_QM D cT T (fun v q2 => ∃ r : Int32, v = some (.int r) ∧ IV r (-1) 24 ∧ qkm q2 ∧ fr [40, 41, 42, 43] q q2) [0, 32, 33, 35, 36, 37]) [.ref a0, .int y1, .int y2].toArray s 0 0 (th_A T [0, 32, 33, 35, 36, 37])) (F0 m 0 ls []) := by
    intro H locs ls hH hS hl
    refine lv_aload_n hx hb dX11_ration_0 rfl (lv_at hl 0 rfl) ?_
    refine lv_iconst (v := 0) hx hb dX11_ration_1 (by decide) ?_
    refine th_put S hK hH hS ⟨0, by decide, t0⟩ inG11 tyX11 tyX11_ok nmX11 t0 km_0 rfl 59 (by decide) gm_1289 rfl rfl rfl rfl (th_iv (iv_w (iv_c (by decide) : IV 0 0 0) (by decide))) (fun vs h => nmR_set h.2.2 (by decide) rfl) (ty := .int) (by decide +kernel) rfl rfl dX11_ration_2 (fun H locs hH hS hq1 hp1 => ?_)
    refine lv_aload_n hx hb dX11_ration_5 rfl (lv_at hl 0 rfl) ?_
    refine lv_iload_n hx hb dX11_ration_6 rfl (lv_at hl 1 rfl) ?_
    refine th_callVp (n := 1) (As := [.int y1]) S hK hH hS (th_A.sub (by decide)) (m_X11_isFood l D cT T q hT hq a0 t0 (y1) j1) gm_1615 gm_1612 gm_1614 gm_79 gm_124 (by decide +kernel) ⟨rfl, rfl, Nat.le_of_ble_eq_true rfl, Nat.le_of_ble_eq_true rfl⟩ t0 km_0 rfl rfl hl.1 rfl (Nat.le_of_ble_eq_true rfl) dX11_ration_7 ⟨Nat.zero_le _, Nat.zero_le _⟩ (fun x33 H locs ix33 ox33 hH hS hF1 => ?_)
    have ox33 : x33.toInt ≠ 0 → 0 ≤ y1.toInt ∧ y1.toInt < q 16 := ox33
    have l1x33 := ix33.1; have l2x33 := ix33.2
    refine lv_if_eq (tgt := 41) hx hb dX11_ration_10 (by decide) (fun c34 => ?_) (fun c34 => ?_)
    · skip
      have rlc34 : x33.toInt = (0 : Int) := congrArg Int32.toInt c34
      have ir35 : IV x33 0 0 := iv_eL c34 (iv_c (by decide) : IV 0 0 0)
      have ir35a := ir35.1; have ir35b := ir35.2
      exact J41 H locs ls  hH hS (lv_sub hl [0, 1, 2] rfl)
    · skip
      have rlc34 : x33.toInt ≠ (0 : Int) := iv_ne c34
      have ir36 : IV x33 1 1 := iv_cutL ix33 (iv_c (by decide) : IV 0 0 0) c34 (by decide)
      have ir36a := ir36.1; have ir36b := ir36.2
      have ir37 : IV y1 0 2 := ((fun z => by have z1 := iv_ne z; have z2 : x33.toInt ≠ 0 := z1; have z60 := qkm_16 hq; exact ⟨by omega, by omega⟩) : ¬ x33 = 0 → IV y1 0 2) c34
      have ir37a := ir37.1; have ir37b := ir37.2
      refine lv_iload_n hx hb dX11_ration_13 rfl (lv_at hl 2 rfl) ?_
      refine lv_iconst (v := 0) hx hb dX11_ration_14 (by decide) ?_
      refine lv_iconst (v := 1) hx hb dX11_ration_15 (by decide) ?_
      refine lv_aload_n hx hb dX11_ration_16 rfl (lv_at hl 0 rfl) ?_
      refine th_get S hK hH inG11 t0 km_0 rfl 13 (by decide) gm_1243 rfl rfl dX11_ration_17 (fun v38 hv38 fv38 => ?_)
      obtain ⟨rf39, rfl, trf39⟩ := th_V.ref hv38
      refine lv_aload_n hx hb dX11_ration_20 rfl (lv_at hl 0 rfl) ?_
      refine th_get S hK hH inG11 t0 km_0 rfl 41 (by decide) gm_1271 rfl rfl dX11_ration_21 (fun v40 hv40 fv40 => ?_)
      obtain ⟨x41, rfl, ix41⟩ := th_V.int hv40
      have kx41a : q 10 ≤ x41.toInt := ix41.1
      have kx41b : x41.toInt ≤ q 10 := ix41.2
      have ix41 : IV x41 0 1 := iv_w ix41 (qkm_10 hq)
      refine th_iald S hK hH trf39 km_5 (th_in (hi := 1) ix41 (by decide)) dX11_ration_24 (fun v42 hv42 => ?_)
      obtain ⟨x43, rfl, ix43⟩ := th_bkA hv42 ix41 (by omega)
      have kx43a : q 18 ≤ x43.toInt := ix43.1
      have kx43b : x43.toInt ≤ q 18 := ix43.2
      have ix43 : IV x43 0 8 := iv_w ix43 (qkm_18 hq)
      refine lv_ishl hx hb dX11_ration_25 ?_
      refine lv_topi (fun x44 ex44 => ?_)
      have ix44 := iv_top x44
      have ix44 : IV x44 1 1073741824 := by rw [ex44]; exact iv_shl1 (iv_w ix43 (by decide))
      refine lv_iconst (v := 1) hx hb dX11_ration_26 (by decide) ?_
      refine lv_isub hx hb dX11_ration_27 ?_
      refine lv_topi (fun x45 ex45 => ?_)
      have ix45 : IV x45 0 1073741823 := by rw [ex45]; exact iv_sub ix44 (iv_c (by decide) : IV 1 1 1) (by decide)
      have ux45 : x45.toInt = x44.toInt - (1 : Int) := by rw [ex45]; exact iv_subE (by have z1 := (ix44).1; have z2 := (ix44).2; have z3 := ((iv_c (by decide) : IV 1 1 1)).1; have z4 := ((iv_c (by decide) : IV 1 1 1)).2; omega)
      refine th_callSp (n := 3) (As := [.int y2, .int 0, .int x45]) S hK hH hS (th_A.sub (by decide)) (m_X11_isIn l D cT T q hT hq (y2) j2 (0) (iv_top _) (x45) (iv_top _)) gm_1618 gm_1616 gm_1617 gm_124 (by decide +kernel) ⟨rfl, rfl, Nat.le_of_ble_eq_true rfl, Nat.le_of_ble_eq_true rfl⟩ rfl hl.1 rfl (Nat.le_of_ble_eq_true rfl) dX11_ration_28 ⟨Nat.zero_le _, Nat.zero_le _⟩ (fun x46 H locs ix46 ox46 hH hS hF1 => ?_)
      obtain ⟨ox46_0, ox46_1⟩ := ox46
      have ox46_0 : x46.toInt ≠ 0 → (0 : Int) ≤ y2.toInt ∧ y2.toInt ≤ x45.toInt := ox46_0
      have ox46_1 : x46.toInt = 0 → y2.toInt < (0 : Int) ∨ x45.toInt < y2.toInt := ox46_1
      have l1x46 := ix46.1; have l2x46 := ix46.2
      refine lv_if_eq (tgt := 41) hx hb dX11_ration_31 (by decide) (fun c47 => ?_) (fun c47 => ?_)
      · skip
        have rlc47 : x46.toInt = (0 : Int) := congrArg Int32.toInt c47
        have ir48 : IV x46 0 0 := iv_eL c47 (iv_c (by decide) : IV 0 0 0)
        have ir48a := ir48.1; have ir48b := ir48.2
        exact J41 H locs ls  hH hS (lv_sub hl [0, 1, 2] rfl)
      · skip
        have rlc47 : x46.toInt ≠ (0 : Int) := iv_ne c47
        have ir49 : IV x46 1 1 := iv_cutL ix46 (iv_c (by decide) : IV 0 0 0) c47 (by decide)
        have ir49a := ir49.1; have ir49b := ir49.2
        have ir50 : IV y2 0 1073741823 := ((fun z => by have z1 := iv_ne z; have z2 : x46.toInt ≠ 0 := z1; have z4 := ((iv_c (by decide) : IV 0 0 0)).1; have z5 := (ix45).2; exact ⟨by omega, by omega⟩) : ¬ x46 = 0 → IV y2 0 1073741823) c47
        have ir50a := ir50.1; have ir50b := ir50.2
        refine lv_aload_n hx hb dX11_ration_34 rfl (lv_at hl 0 rfl) ?_
        refine th_callVp (n := 0) (As := []) S hK hH hS (th_A.sub (by decide)) (m_X11_many l D cT T q hT hq a0 t0) gm_1229 gm_1226 gm_1228 gm_46 gm_124 (by decide +kernel) ⟨rfl, rfl, Nat.le_of_ble_eq_true rfl, Nat.le_of_ble_eq_true rfl⟩ t0 km_0 rfl rfl hl.1 rfl (Nat.le_of_ble_eq_true rfl) dX11_ration_35 ⟨Nat.zero_le _, Nat.zero_le _⟩ (fun x51 H locs ix51 ox51 hH hS hF1 => ?_)
        have ox51 : x51.toInt = q 11 := ox51
        have l1x51 := ix51.1; have l2x51 := ix51.2
        refine lv_if_ne (tgt := 59) hx hb dX11_ration_38 (by decide) (fun c52 => ?_) (fun c52 => ?_)
        · skip
          have rlc52 : x51.toInt ≠ (0 : Int) := iv_ne c52
          have ir53 : IV x51 1 4 := iv_cutL ix51 (iv_c (by decide) : IV 0 0 0) c52 (by decide)
          have ir53a := ir53.1; have ir53b := ir53.2
          refine lv_aload_n hx hb dX11_ration_59 rfl (lv_at hl 0 rfl) ?_
          refine th_callVv (n := 0) (As := []) S hK hH hS (th_A.sub (by decide)) (m_X11_keepNow l D cT T q hT hq a0 t0) gm_1713 gm_1710 gm_1712 gm_92 gm_124 (by decide +kernel) ⟨rfl, rfl, Nat.le_of_ble_eq_true rfl, Nat.le_of_ble_eq_true rfl⟩ t0 km_0 rfl rfl hl.1 rfl (Nat.le_of_ble_eq_true rfl) dX11_ration_60 ⟨Nat.zero_le _, Nat.zero_le _⟩ (fun H locs hH hS hF1 => ?_)
          refine lv_iconst (v := 0) hx hb dX11_ration_63 (by decide) ?_
          refine lv_istore_n (lv' := [(3, .int 0), (0, .ref a0), (1, .int y1), (2, .int y2)]) hx hb dX11_ration_64 rfl hl (by decide) rfl (fun ls hl => ?_)
          exact J65 ((25 + 1 - Int32.toInt 0).toNat + 1) q H locs ls 0 hq fr_rf (iv_w (iv_c (by decide) : IV 0 0 0) (by decide)) ir37 ir50 (show 1 ≤ q 11 by omega) hH hS (lv_sub hl [1, 2, 3, 0] rfl) (Nat.lt_succ_self _)
        · skip
          have rlc52 : x51.toInt = (0 : Int) := congrArg Int32.toInt c52
          have ir54 : IV x51 0 0 := iv_eL c52 (iv_c (by decide) : IV 0 0 0)
          have ir54a := ir54.1; have ir54b := ir54.2
          exact J41 H locs ls  hH hS (lv_sub hl [0, 1, 2] rfl)
  exact J0 s.heap [] ls hH va_S.rf hl
