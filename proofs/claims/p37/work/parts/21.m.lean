theorem dJ7_rangeCheck_23922_0 : decode cJ7_rangeCheck_23922 0 = .ok (.iload_n 1, 1) := by decide +kernel
theorem dJ7_rangeCheck_23922_1 : decode cJ7_rangeCheck_23922 1 = .ok (.iload_n 2, 1) := by decide +kernel
theorem dJ7_rangeCheck_23922_2 : decode cJ7_rangeCheck_23922 2 = .ok (.if_icmp .le 44, 3) := by decide +kernel
theorem dJ7_rangeCheck_23922_5 : decode cJ7_rangeCheck_23922 5 = .ok (.new 43, 3) := by decide +kernel
theorem dJ7_rangeCheck_23922_8 : decode cJ7_rangeCheck_23922 8 = .ok (.dup, 1) := by decide +kernel
theorem dJ7_rangeCheck_23922_9 : decode cJ7_rangeCheck_23922 9 = .ok (.new 45, 3) := by decide +kernel
theorem dJ7_rangeCheck_23922_12 : decode cJ7_rangeCheck_23922 12 = .ok (.dup, 1) := by decide +kernel
theorem dJ7_rangeCheck_23922_13 : decode cJ7_rangeCheck_23922 13 = .ok (.invokespecial 47, 3) := by decide +kernel
theorem dJ7_rangeCheck_23922_16 : decode cJ7_rangeCheck_23922 16 = .ok (.ldc 48, 2) := by decide +kernel
theorem dJ7_rangeCheck_23922_18 : decode cJ7_rangeCheck_23922 18 = .ok (.invokevirtual 50, 3) := by decide +kernel
theorem dJ7_rangeCheck_23922_21 : decode cJ7_rangeCheck_23922 21 = .ok (.iload_n 1, 1) := by decide +kernel
theorem dJ7_rangeCheck_23922_22 : decode cJ7_rangeCheck_23922 22 = .ok (.invokevirtual 54, 3) := by decide +kernel
theorem dJ7_rangeCheck_23922_25 : decode cJ7_rangeCheck_23922 25 = .ok (.ldc 57, 2) := by decide +kernel
theorem dJ7_rangeCheck_23922_27 : decode cJ7_rangeCheck_23922 27 = .ok (.invokevirtual 50, 3) := by decide +kernel
theorem dJ7_rangeCheck_23922_30 : decode cJ7_rangeCheck_23922 30 = .ok (.iload_n 2, 1) := by decide +kernel
theorem dJ7_rangeCheck_23922_31 : decode cJ7_rangeCheck_23922 31 = .ok (.invokevirtual 54, 3) := by decide +kernel
theorem dJ7_rangeCheck_23922_34 : decode cJ7_rangeCheck_23922 34 = .ok (.ldc 59, 2) := by decide +kernel
theorem dJ7_rangeCheck_23922_36 : decode cJ7_rangeCheck_23922 36 = .ok (.invokevirtual 50, 3) := by decide +kernel
theorem dJ7_rangeCheck_23922_39 : decode cJ7_rangeCheck_23922 39 = .ok (.invokevirtual 61, 3) := by decide +kernel
theorem dJ7_rangeCheck_23922_42 : decode cJ7_rangeCheck_23922 42 = .ok (.invokespecial 65, 3) := by decide +kernel
theorem dJ7_rangeCheck_23922_45 : decode cJ7_rangeCheck_23922 45 = .ok (.athrow, 1) := by decide +kernel
theorem dJ7_rangeCheck_23922_46 : decode cJ7_rangeCheck_23922 46 = .ok (.iload_n 1, 1) := by decide +kernel
theorem dJ7_rangeCheck_23922_47 : decode cJ7_rangeCheck_23922 47 = .ok (.ifCond .ge 12, 3) := by decide +kernel
theorem dJ7_rangeCheck_23922_50 : decode cJ7_rangeCheck_23922 50 = .ok (.new 68, 3) := by decide +kernel
theorem dJ7_rangeCheck_23922_53 : decode cJ7_rangeCheck_23922 53 = .ok (.dup, 1) := by decide +kernel
theorem dJ7_rangeCheck_23922_54 : decode cJ7_rangeCheck_23922 54 = .ok (.iload_n 1, 1) := by decide +kernel
theorem dJ7_rangeCheck_23922_55 : decode cJ7_rangeCheck_23922 55 = .ok (.invokespecial 70, 3) := by decide +kernel
theorem dJ7_rangeCheck_23922_58 : decode cJ7_rangeCheck_23922 58 = .ok (.athrow, 1) := by decide +kernel
theorem dJ7_rangeCheck_23922_59 : decode cJ7_rangeCheck_23922 59 = .ok (.iload_n 2, 1) := by decide +kernel
theorem dJ7_rangeCheck_23922_60 : decode cJ7_rangeCheck_23922 60 = .ok (.iload_n 0, 1) := by decide +kernel
theorem dJ7_rangeCheck_23922_61 : decode cJ7_rangeCheck_23922 61 = .ok (.if_icmp .le 12, 3) := by decide +kernel
theorem dJ7_rangeCheck_23922_64 : decode cJ7_rangeCheck_23922 64 = .ok (.new 68, 3) := by decide +kernel
theorem dJ7_rangeCheck_23922_67 : decode cJ7_rangeCheck_23922 67 = .ok (.dup, 1) := by decide +kernel
theorem dJ7_rangeCheck_23922_68 : decode cJ7_rangeCheck_23922 68 = .ok (.iload_n 2, 1) := by decide +kernel
theorem dJ7_rangeCheck_23922_69 : decode cJ7_rangeCheck_23922 69 = .ok (.invokespecial 70, 3) := by decide +kernel
theorem dJ7_rangeCheck_23922_72 : decode cJ7_rangeCheck_23922 72 = .ok (.athrow, 1) := by decide +kernel
theorem dJ7_rangeCheck_23922_73 : decode cJ7_rangeCheck_23922 73 = .ok (.return_, 1) := by decide +kernel
theorem dJ7_fill_fda19_0 : decode cJ7_fill_fda19 0 = .ok (.aload_n 0, 1) := by decide +kernel
theorem dJ7_fill_fda19_1 : decode cJ7_fill_fda19 1 = .ok (.arraylength, 1) := by decide +kernel
theorem dJ7_fill_fda19_2 : decode cJ7_fill_fda19 2 = .ok (.iload_n 1, 1) := by decide +kernel
theorem dJ7_fill_fda19_3 : decode cJ7_fill_fda19 3 = .ok (.iload_n 2, 1) := by decide +kernel
theorem dJ7_fill_fda19_4 : decode cJ7_fill_fda19 4 = .ok (.invokestatic 13, 3) := by decide +kernel
theorem dJ7_fill_fda19_7 : decode cJ7_fill_fda19 7 = .ok (.iload_n 1, 1) := by decide +kernel
theorem dJ7_fill_fda19_8 : decode cJ7_fill_fda19 8 = .ok (.istore 4, 2) := by decide +kernel
theorem dJ7_fill_fda19_10 : decode cJ7_fill_fda19 10 = .ok (.iload 4, 2) := by decide +kernel
theorem dJ7_fill_fda19_12 : decode cJ7_fill_fda19 12 = .ok (.iload_n 2, 1) := by decide +kernel
theorem dJ7_fill_fda19_13 : decode cJ7_fill_fda19 13 = .ok (.if_icmp .ge 14, 3) := by decide +kernel
theorem dJ7_fill_fda19_16 : decode cJ7_fill_fda19 16 = .ok (.aload_n 0, 1) := by decide +kernel
theorem dJ7_fill_fda19_17 : decode cJ7_fill_fda19 17 = .ok (.iload 4, 2) := by decide +kernel
theorem dJ7_fill_fda19_19 : decode cJ7_fill_fda19 19 = .ok (.iload_n 3, 1) := by decide +kernel
theorem dJ7_fill_fda19_20 : decode cJ7_fill_fda19 20 = .ok (.iastore, 1) := by decide +kernel
theorem dJ7_fill_fda19_21 : decode cJ7_fill_fda19 21 = .ok (.iinc 4 1, 3) := by decide +kernel
theorem dJ7_fill_fda19_24 : decode cJ7_fill_fda19 24 = .ok (.goto (-14), 3) := by decide +kernel
theorem dJ7_fill_fda19_27 : decode cJ7_fill_fda19 27 = .ok (.return_, 1) := by decide +kernel
theorem dX0_turnYear_0 : decode cX0_turnYear 0 = .ok (.aload_n 1, 1) := by decide +kernel
theorem dX0_turnYear_1 : decode cX0_turnYear 1 = .ok (.getfield 15, 3) := by decide +kernel
theorem dX0_turnYear_4 : decode cX0_turnYear 4 = .ok (.astore_n 2, 1) := by decide +kernel
theorem dX0_turnYear_5 : decode cX0_turnYear 5 = .ok (.aload_n 2, 1) := by decide +kernel
theorem dX0_turnYear_6 : decode cX0_turnYear 6 = .ok (.iconst 3, 1) := by decide +kernel
theorem dX0_turnYear_7 : decode cX0_turnYear 7 = .ok (.bipush 15, 2) := by decide +kernel
theorem dX0_turnYear_9 : decode cX0_turnYear 9 = .ok (.iconst 0, 1) := by decide +kernel
theorem dX0_turnYear_10 : decode cX0_turnYear 10 = .ok (.invokestatic 106, 3) := by decide +kernel
theorem dX0_turnYear_13 : decode cX0_turnYear 13 = .ok (.aload_n 2, 1) := by decide +kernel
theorem dX0_turnYear_14 : decode cX0_turnYear 14 = .ok (.bipush 42, 2) := by decide +kernel
theorem dX0_turnYear_16 : decode cX0_turnYear 16 = .ok (.aload_n 2, 1) := by decide +kernel
theorem dX0_turnYear_17 : decode cX0_turnYear 17 = .ok (.bipush 42, 2) := by decide +kernel
theorem dX0_turnYear_19 : decode cX0_turnYear 19 = .ok (.iaload, 1) := by decide +kernel
theorem dX0_turnYear_20 : decode cX0_turnYear 20 = .ok (.sipush 137, 3) := by decide +kernel
theorem dX0_turnYear_23 : decode cX0_turnYear 23 = .ok (.imul, 1) := by decide +kernel
theorem dX0_turnYear_24 : decode cX0_turnYear 24 = .ok (.bipush 71, 2) := by decide +kernel
theorem dX0_turnYear_26 : decode cX0_turnYear 26 = .ok (.iadd, 1) := by decide +kernel
theorem dX0_turnYear_27 : decode cX0_turnYear 27 = .ok (.sipush 1000, 3) := by decide +kernel
theorem dX0_turnYear_30 : decode cX0_turnYear 30 = .ok (.irem, 1) := by decide +kernel
theorem dX0_turnYear_31 : decode cX0_turnYear 31 = .ok (.iastore, 1) := by decide +kernel
theorem dX0_turnYear_32 : decode cX0_turnYear 32 = .ok (.aload_n 2, 1) := by decide +kernel
theorem dX0_turnYear_33 : decode cX0_turnYear 33 = .ok (.bipush 41, 2) := by decide +kernel
theorem dX0_turnYear_35 : decode cX0_turnYear 35 = .ok (.aload_n 2, 1) := by decide +kernel
theorem dX0_turnYear_36 : decode cX0_turnYear 36 = .ok (.bipush 42, 2) := by decide +kernel
theorem dX0_turnYear_38 : decode cX0_turnYear 38 = .ok (.iaload, 1) := by decide +kernel
theorem dX0_turnYear_39 : decode cX0_turnYear 39 = .ok (.bipush 10, 2) := by decide +kernel
theorem dX0_turnYear_41 : decode cX0_turnYear 41 = .ok (.idiv, 1) := by decide +kernel
theorem dX0_turnYear_42 : decode cX0_turnYear 42 = .ok (.iconst 2, 1) := by decide +kernel
theorem dX0_turnYear_43 : decode cX0_turnYear 43 = .ok (.irem, 1) := by decide +kernel
theorem dX0_turnYear_44 : decode cX0_turnYear 44 = .ok (.iastore, 1) := by decide +kernel
theorem dX0_turnYear_45 : decode cX0_turnYear 45 = .ok (.aload_n 2, 1) := by decide +kernel
theorem dX0_turnYear_46 : decode cX0_turnYear 46 = .ok (.bipush 40, 2) := by decide +kernel
theorem dX0_turnYear_48 : decode cX0_turnYear 48 = .ok (.dup2, 1) := by decide +kernel
theorem dX0_turnYear_49 : decode cX0_turnYear 49 = .ok (.iaload, 1) := by decide +kernel
theorem dX0_turnYear_50 : decode cX0_turnYear 50 = .ok (.iconst 1, 1) := by decide +kernel
theorem dX0_turnYear_51 : decode cX0_turnYear 51 = .ok (.iadd, 1) := by decide +kernel
theorem dX0_turnYear_52 : decode cX0_turnYear 52 = .ok (.iastore, 1) := by decide +kernel
theorem dX0_turnYear_53 : decode cX0_turnYear 53 = .ok (.return_, 1) := by decide +kernel
theorem dX0_passYear_0 : decode cX0_passYear 0 = .ok (.iconst 0, 1) := by decide +kernel
theorem dX0_passYear_1 : decode cX0_passYear 1 = .ok (.istore_n 2, 1) := by decide +kernel
theorem dX0_passYear_2 : decode cX0_passYear 2 = .ok (.iload_n 2, 1) := by decide +kernel
theorem dX0_passYear_3 : decode cX0_passYear 3 = .ok (.aload_n 0, 1) := by decide +kernel
theorem dX0_passYear_4 : decode cX0_passYear 4 = .ok (.getfield 9, 3) := by decide +kernel
theorem dX0_passYear_7 : decode cX0_passYear 7 = .ok (.getfield 50, 3) := by decide +kernel
theorem dX0_passYear_10 : decode cX0_passYear 10 = .ok (.if_icmp .ge 21, 3) := by decide +kernel
theorem dX0_passYear_13 : decode cX0_passYear 13 = .ok (.aload_n 0, 1) := by decide +kernel
theorem dX0_passYear_14 : decode cX0_passYear 14 = .ok (.aload_n 1, 1) := by decide +kernel
theorem dX0_passYear_15 : decode cX0_passYear 15 = .ok (.iload_n 2, 1) := by decide +kernel
theorem dX0_passYear_16 : decode cX0_passYear 16 = .ok (.aload_n 0, 1) := by decide +kernel
theorem dX0_passYear_17 : decode cX0_passYear 17 = .ok (.aload_n 1, 1) := by decide +kernel
theorem dX0_passYear_18 : decode cX0_passYear 18 = .ok (.iload_n 2, 1) := by decide +kernel
theorem dX0_passYear_19 : decode cX0_passYear 19 = .ok (.invokevirtual 76, 3) := by decide +kernel
theorem dX0_passYear_22 : decode cX0_passYear 22 = .ok (.invokevirtual 79, 3) := by decide +kernel
theorem dX0_passYear_25 : decode cX0_passYear 25 = .ok (.iinc 2 1, 3) := by decide +kernel
theorem dX0_passYear_28 : decode cX0_passYear 28 = .ok (.goto (-26), 3) := by decide +kernel
theorem dX0_passYear_31 : decode cX0_passYear 31 = .ok (.aload_n 0, 1) := by decide +kernel
theorem dX0_passYear_32 : decode cX0_passYear 32 = .ok (.aload_n 1, 1) := by decide +kernel
theorem dX0_passYear_33 : decode cX0_passYear 33 = .ok (.invokevirtual 83, 3) := by decide +kernel
theorem dX0_passYear_36 : decode cX0_passYear 36 = .ok (.return_, 1) := by decide +kernel
theorem dX0_smaller_0 : decode cX0_smaller 0 = .ok (.iconst 0, 1) := by decide +kernel
theorem dX0_smaller_1 : decode cX0_smaller 1 = .ok (.istore_n 3, 1) := by decide +kernel
theorem dX0_smaller_2 : decode cX0_smaller 2 = .ok (.iconst 0, 1) := by decide +kernel
theorem dX0_smaller_3 : decode cX0_smaller 3 = .ok (.istore 4, 2) := by decide +kernel
theorem dX0_smaller_5 : decode cX0_smaller 5 = .ok (.iload 4, 2) := by decide +kernel
theorem dX0_smaller_7 : decode cX0_smaller 7 = .ok (.aload_n 0, 1) := by decide +kernel
theorem dX0_smaller_8 : decode cX0_smaller 8 = .ok (.getfield 9, 3) := by decide +kernel
theorem dX0_smaller_11 : decode cX0_smaller 11 = .ok (.getfield 96, 3) := by decide +kernel
theorem dX0_smaller_14 : decode cX0_smaller 14 = .ok (.if_icmp .ge 39, 3) := by decide +kernel
theorem dX0_smaller_17 : decode cX0_smaller 17 = .ok (.aload_n 2, 1) := by decide +kernel
theorem dX0_smaller_18 : decode cX0_smaller 18 = .ok (.getfield 15, 3) := by decide +kernel
theorem dX0_smaller_21 : decode cX0_smaller 21 = .ok (.bipush 15, 2) := by decide +kernel
theorem dX0_smaller_23 : decode cX0_smaller 23 = .ok (.iload 4, 2) := by decide +kernel
theorem dX0_smaller_25 : decode cX0_smaller 25 = .ok (.iadd, 1) := by decide +kernel
theorem dX0_smaller_26 : decode cX0_smaller 26 = .ok (.iaload, 1) := by decide +kernel
theorem dX0_smaller_27 : decode cX0_smaller 27 = .ok (.aload_n 1, 1) := by decide +kernel
theorem dX0_smaller_28 : decode cX0_smaller 28 = .ok (.getfield 15, 3) := by decide +kernel
theorem dX0_smaller_31 : decode cX0_smaller 31 = .ok (.bipush 15, 2) := by decide +kernel
theorem dX0_smaller_33 : decode cX0_smaller 33 = .ok (.iload 4, 2) := by decide +kernel
theorem dX0_smaller_35 : decode cX0_smaller 35 = .ok (.iadd, 1) := by decide +kernel
theorem dX0_smaller_36 : decode cX0_smaller 36 = .ok (.iaload, 1) := by decide +kernel
theorem dX0_smaller_37 : decode cX0_smaller 37 = .ok (.if_icmp .ge 10, 3) := by decide +kernel
theorem dX0_smaller_40 : decode cX0_smaller 40 = .ok (.iload_n 3, 1) := by decide +kernel
theorem dX0_smaller_41 : decode cX0_smaller 41 = .ok (.iconst 1, 1) := by decide +kernel
theorem dX0_smaller_42 : decode cX0_smaller 42 = .ok (.iload 4, 2) := by decide +kernel
theorem dX0_smaller_44 : decode cX0_smaller 44 = .ok (.ishl, 1) := by decide +kernel
theorem dX0_smaller_45 : decode cX0_smaller 45 = .ok (.ior, 1) := by decide +kernel
theorem dX0_smaller_46 : decode cX0_smaller 46 = .ok (.istore_n 3, 1) := by decide +kernel
theorem dX0_smaller_47 : decode cX0_smaller 47 = .ok (.iinc 4 1, 3) := by decide +kernel
theorem dX0_smaller_50 : decode cX0_smaller 50 = .ok (.goto (-45), 3) := by decide +kernel
theorem dX0_smaller_53 : decode cX0_smaller 53 = .ok (.iload_n 3, 1) := by decide +kernel
theorem dX0_smaller_54 : decode cX0_smaller 54 = .ok (.ireturn, 1) := by decide +kernel
theorem dX0_goneIn_0 : decode cX0_goneIn 0 = .ok (.iconst 0, 1) := by decide +kernel
theorem dX0_goneIn_1 : decode cX0_goneIn 1 = .ok (.istore_n 2, 1) := by decide +kernel
theorem dX0_goneIn_2 : decode cX0_goneIn 2 = .ok (.iconst 0, 1) := by decide +kernel
theorem dX0_goneIn_3 : decode cX0_goneIn 3 = .ok (.istore_n 3, 1) := by decide +kernel
theorem dX0_goneIn_4 : decode cX0_goneIn 4 = .ok (.iload_n 3, 1) := by decide +kernel
theorem dX0_goneIn_5 : decode cX0_goneIn 5 = .ok (.aload_n 0, 1) := by decide +kernel
theorem dX0_goneIn_6 : decode cX0_goneIn 6 = .ok (.getfield 9, 3) := by decide +kernel
theorem dX0_goneIn_9 : decode cX0_goneIn 9 = .ok (.getfield 96, 3) := by decide +kernel
theorem dX0_goneIn_12 : decode cX0_goneIn 12 = .ok (.if_icmp .ge 27, 3) := by decide +kernel
theorem dX0_goneIn_15 : decode cX0_goneIn 15 = .ok (.aload_n 1, 1) := by decide +kernel
theorem dX0_goneIn_16 : decode cX0_goneIn 16 = .ok (.getfield 15, 3) := by decide +kernel
theorem dX0_goneIn_19 : decode cX0_goneIn 19 = .ok (.bipush 15, 2) := by decide +kernel
theorem dX0_goneIn_21 : decode cX0_goneIn 21 = .ok (.iload_n 3, 1) := by decide +kernel
theorem dX0_goneIn_22 : decode cX0_goneIn 22 = .ok (.iadd, 1) := by decide +kernel
theorem dX0_goneIn_23 : decode cX0_goneIn 23 = .ok (.iaload, 1) := by decide +kernel
theorem dX0_goneIn_24 : decode cX0_goneIn 24 = .ok (.ifCond .gt 9, 3) := by decide +kernel
theorem dX0_goneIn_27 : decode cX0_goneIn 27 = .ok (.iload_n 2, 1) := by decide +kernel
theorem dX0_goneIn_28 : decode cX0_goneIn 28 = .ok (.iconst 1, 1) := by decide +kernel
theorem dX0_goneIn_29 : decode cX0_goneIn 29 = .ok (.iload_n 3, 1) := by decide +kernel
theorem dX0_goneIn_30 : decode cX0_goneIn 30 = .ok (.ishl, 1) := by decide +kernel
theorem dX0_goneIn_31 : decode cX0_goneIn 31 = .ok (.ior, 1) := by decide +kernel
theorem dX0_goneIn_32 : decode cX0_goneIn 32 = .ok (.istore_n 2, 1) := by decide +kernel
theorem dX0_goneIn_33 : decode cX0_goneIn 33 = .ok (.iinc 3 1, 3) := by decide +kernel
theorem dX0_goneIn_36 : decode cX0_goneIn 36 = .ok (.goto (-32), 3) := by decide +kernel
theorem dX0_goneIn_39 : decode cX0_goneIn 39 = .ok (.iload_n 2, 1) := by decide +kernel
theorem dX0_goneIn_40 : decode cX0_goneIn 40 = .ok (.ireturn, 1) := by decide +kernel
theorem dX0_landIn_0 : decode cX0_landIn 0 = .ok (.iconst 0, 1) := by decide +kernel
theorem dX0_landIn_1 : decode cX0_landIn 1 = .ok (.istore_n 2, 1) := by decide +kernel
theorem dX0_landIn_2 : decode cX0_landIn 2 = .ok (.iconst 0, 1) := by decide +kernel
theorem dX0_landIn_3 : decode cX0_landIn 3 = .ok (.istore_n 3, 1) := by decide +kernel
theorem dX0_landIn_4 : decode cX0_landIn 4 = .ok (.iload_n 3, 1) := by decide +kernel
theorem dX0_landIn_5 : decode cX0_landIn 5 = .ok (.aload_n 0, 1) := by decide +kernel
theorem dX0_landIn_6 : decode cX0_landIn 6 = .ok (.getfield 9, 3) := by decide +kernel
theorem dX0_landIn_9 : decode cX0_landIn 9 = .ok (.getfield 96, 3) := by decide +kernel
theorem dX0_landIn_12 : decode cX0_landIn 12 = .ok (.if_icmp .ge 31, 3) := by decide +kernel
theorem dX0_landIn_15 : decode cX0_landIn 15 = .ok (.iload_n 2, 1) := by decide +kernel
theorem dX0_landIn_16 : decode cX0_landIn 16 = .ok (.aload_n 1, 1) := by decide +kernel
theorem dX0_landIn_17 : decode cX0_landIn 17 = .ok (.getfield 15, 3) := by decide +kernel
theorem dX0_landIn_20 : decode cX0_landIn 20 = .ok (.bipush 15, 2) := by decide +kernel
theorem dX0_landIn_22 : decode cX0_landIn 22 = .ok (.iload_n 3, 1) := by decide +kernel
theorem dX0_landIn_23 : decode cX0_landIn 23 = .ok (.iadd, 1) := by decide +kernel
theorem dX0_landIn_24 : decode cX0_landIn 24 = .ok (.iaload, 1) := by decide +kernel
theorem dX0_landIn_25 : decode cX0_landIn 25 = .ok (.aload_n 0, 1) := by decide +kernel
theorem dX0_landIn_26 : decode cX0_landIn 26 = .ok (.getfield 9, 3) := by decide +kernel
theorem dX0_landIn_29 : decode cX0_landIn 29 = .ok (.getfield 67, 3) := by decide +kernel
theorem dX0_landIn_32 : decode cX0_landIn 32 = .ok (.iload_n 3, 1) := by decide +kernel
theorem dX0_landIn_33 : decode cX0_landIn 33 = .ok (.iaload, 1) := by decide +kernel
theorem dX0_landIn_34 : decode cX0_landIn 34 = .ok (.imul, 1) := by decide +kernel
theorem dX0_landIn_35 : decode cX0_landIn 35 = .ok (.iadd, 1) := by decide +kernel
theorem dX0_landIn_36 : decode cX0_landIn 36 = .ok (.istore_n 2, 1) := by decide +kernel
theorem dX0_landIn_37 : decode cX0_landIn 37 = .ok (.iinc 3 1, 3) := by decide +kernel
theorem dX0_landIn_40 : decode cX0_landIn 40 = .ok (.goto (-36), 3) := by decide +kernel
theorem dX0_landIn_43 : decode cX0_landIn 43 = .ok (.iload_n 2, 1) := by decide +kernel
theorem dX0_landIn_44 : decode cX0_landIn 44 = .ok (.ireturn, 1) := by decide +kernel
theorem dX7_copyFrom_0 : decode cX7_copyFrom 0 = .ok (.aload_n 1, 1) := by decide +kernel
theorem dX7_copyFrom_1 : decode cX7_copyFrom 1 = .ok (.getfield 9, 3) := by decide +kernel
theorem dX7_copyFrom_4 : decode cX7_copyFrom 4 = .ok (.iconst 0, 1) := by decide +kernel
theorem dX7_copyFrom_5 : decode cX7_copyFrom 5 = .ok (.aload_n 0, 1) := by decide +kernel
theorem dX7_copyFrom_6 : decode cX7_copyFrom 6 = .ok (.getfield 9, 3) := by decide +kernel
theorem dX7_copyFrom_9 : decode cX7_copyFrom 9 = .ok (.iconst 0, 1) := by decide +kernel
theorem dX7_copyFrom_10 : decode cX7_copyFrom 10 = .ok (.bipush 43, 2) := by decide +kernel
theorem dX7_copyFrom_12 : decode cX7_copyFrom 12 = .ok (.invokestatic 15, 3) := by decide +kernel
theorem dX7_copyFrom_15 : decode cX7_copyFrom 15 = .ok (.return_, 1) := by decide +kernel
theorem dX1_after_0 : decode cX1_after 0 = .ok (.aload_n 0, 1) := by decide +kernel
theorem dX1_after_1 : decode cX1_after 1 = .ok (.getfield 13, 3) := by decide +kernel
theorem dX1_after_4 : decode cX1_after 4 = .ok (.iconst 0, 1) := by decide +kernel
theorem dX1_after_5 : decode cX1_after 5 = .ok (.aaload, 1) := by decide +kernel
theorem dX1_after_6 : decode cX1_after 6 = .ok (.astore_n 3, 1) := by decide +kernel
theorem dX1_after_7 : decode cX1_after 7 = .ok (.aload_n 3, 1) := by decide +kernel
theorem dX1_after_8 : decode cX1_after 8 = .ok (.aload_n 1, 1) := by decide +kernel
theorem dX1_after_9 : decode cX1_after 9 = .ok (.invokevirtual 26, 3) := by decide +kernel
theorem dX1_after_12 : decode cX1_after 12 = .ok (.iconst 0, 1) := by decide +kernel
theorem dX1_after_13 : decode cX1_after 13 = .ok (.istore 4, 2) := by decide +kernel
theorem dX1_after_15 : decode cX1_after 15 = .ok (.iload 4, 2) := by decide +kernel
theorem dX1_after_17 : decode cX1_after 17 = .ok (.iload_n 2, 1) := by decide +kernel
theorem dX1_after_18 : decode cX1_after 18 = .ok (.if_icmp .ge 17, 3) := by decide +kernel
theorem dX1_after_21 : decode cX1_after 21 = .ok (.aload_n 0, 1) := by decide +kernel
theorem dX1_after_22 : decode cX1_after 22 = .ok (.getfield 21, 3) := by decide +kernel
theorem dX1_after_25 : decode cX1_after 25 = .ok (.aload_n 3, 1) := by decide +kernel
theorem dX1_after_26 : decode cX1_after 26 = .ok (.invokevirtual 30, 3) := by decide +kernel
theorem dX1_after_29 : decode cX1_after 29 = .ok (.iinc 4 1, 3) := by decide +kernel
theorem dX1_after_32 : decode cX1_after 32 = .ok (.goto (-17), 3) := by decide +kernel
theorem dX1_after_35 : decode cX1_after 35 = .ok (.aload_n 3, 1) := by decide +kernel
theorem dX1_after_36 : decode cX1_after 36 = .ok (.areturn, 1) := by decide +kernel
theorem dX1_firstBite_0 : decode cX1_firstBite 0 = .ok (.aload_n 0, 1) := by decide +kernel
theorem dX1_firstBite_1 : decode cX1_firstBite 1 = .ok (.aload_n 1, 1) := by decide +kernel
theorem dX1_firstBite_2 : decode cX1_firstBite 2 = .ok (.iconst 0, 1) := by decide +kernel
theorem dX1_firstBite_3 : decode cX1_firstBite 3 = .ok (.invokevirtual 35, 3) := by decide +kernel
theorem dX1_firstBite_6 : decode cX1_firstBite 6 = .ok (.astore_n 3, 1) := by decide +kernel
theorem dX1_firstBite_7 : decode cX1_firstBite 7 = .ok (.iconst 0, 1) := by decide +kernel
theorem dX1_firstBite_8 : decode cX1_firstBite 8 = .ok (.istore 4, 2) := by decide +kernel
theorem dX1_firstBite_10 : decode cX1_firstBite 10 = .ok (.iload 4, 2) := by decide +kernel
theorem dX1_firstBite_12 : decode cX1_firstBite 12 = .ok (.bipush 30, 2) := by decide +kernel
theorem dX1_firstBite_14 : decode cX1_firstBite 14 = .ok (.if_icmp .ge 41, 3) := by decide +kernel
theorem dX1_firstBite_17 : decode cX1_firstBite 17 = .ok (.aload_n 0, 1) := by decide +kernel
theorem dX1_firstBite_18 : decode cX1_firstBite 18 = .ok (.getfield 21, 3) := by decide +kernel
theorem dX1_firstBite_21 : decode cX1_firstBite 21 = .ok (.aload_n 3, 1) := by decide +kernel
theorem dX1_firstBite_22 : decode cX1_firstBite 22 = .ok (.invokevirtual 30, 3) := by decide +kernel
theorem dX1_firstBite_25 : decode cX1_firstBite 25 = .ok (.aload_n 3, 1) := by decide +kernel
theorem dX1_firstBite_26 : decode cX1_firstBite 26 = .ok (.getfield 39, 3) := by decide +kernel
theorem dX1_firstBite_29 : decode cX1_firstBite 29 = .ok (.bipush 31, 2) := by decide +kernel
theorem dX1_firstBite_31 : decode cX1_firstBite 31 = .ok (.iload_n 2, 1) := by decide +kernel
theorem dX1_firstBite_32 : decode cX1_firstBite 32 = .ok (.iadd, 1) := by decide +kernel
theorem dX1_firstBite_33 : decode cX1_firstBite 33 = .ok (.iaload, 1) := by decide +kernel
theorem dX1_firstBite_34 : decode cX1_firstBite 34 = .ok (.aload_n 1, 1) := by decide +kernel
theorem dX1_firstBite_35 : decode cX1_firstBite 35 = .ok (.getfield 39, 3) := by decide +kernel
theorem dX1_firstBite_38 : decode cX1_firstBite 38 = .ok (.bipush 31, 2) := by decide +kernel
theorem dX1_firstBite_40 : decode cX1_firstBite 40 = .ok (.iload_n 2, 1) := by decide +kernel
theorem dX1_firstBite_41 : decode cX1_firstBite 41 = .ok (.iadd, 1) := by decide +kernel
theorem dX1_firstBite_42 : decode cX1_firstBite 42 = .ok (.iaload, 1) := by decide +kernel
theorem dX1_firstBite_43 : decode cX1_firstBite 43 = .ok (.if_icmp .le 6, 3) := by decide +kernel
theorem dX1_firstBite_46 : decode cX1_firstBite 46 = .ok (.iload 4, 2) := by decide +kernel
theorem dX1_firstBite_48 : decode cX1_firstBite 48 = .ok (.ireturn, 1) := by decide +kernel
theorem dX1_firstBite_49 : decode cX1_firstBite 49 = .ok (.iinc 4 1, 3) := by decide +kernel
theorem dX1_firstBite_52 : decode cX1_firstBite 52 = .ok (.goto (-42), 3) := by decide +kernel
theorem dX1_firstBite_55 : decode cX1_firstBite 55 = .ok (.iconst (-1), 1) := by decide +kernel
theorem dX1_firstBite_56 : decode cX1_firstBite 56 = .ok (.ireturn, 1) := by decide +kernel
theorem dJ6_numberOfTrailingZeros_0f7a4_0 : decode cJ6_numberOfTrailingZeros_0f7a4 0 = .ok (.iload_n 0, 1) := by decide +kernel
theorem dJ6_numberOfTrailingZeros_0f7a4_1 : decode cJ6_numberOfTrailingZeros_0f7a4 1 = .ok (.iconst (-1), 1) := by decide +kernel
theorem dJ6_numberOfTrailingZeros_0f7a4_2 : decode cJ6_numberOfTrailingZeros_0f7a4 2 = .ok (.ixor, 1) := by decide +kernel
theorem dJ6_numberOfTrailingZeros_0f7a4_3 : decode cJ6_numberOfTrailingZeros_0f7a4 3 = .ok (.iload_n 0, 1) := by decide +kernel
theorem dJ6_numberOfTrailingZeros_0f7a4_4 : decode cJ6_numberOfTrailingZeros_0f7a4 4 = .ok (.iconst 1, 1) := by decide +kernel
theorem dJ6_numberOfTrailingZeros_0f7a4_5 : decode cJ6_numberOfTrailingZeros_0f7a4 5 = .ok (.isub, 1) := by decide +kernel
theorem dJ6_numberOfTrailingZeros_0f7a4_6 : decode cJ6_numberOfTrailingZeros_0f7a4 6 = .ok (.iand, 1) := by decide +kernel
theorem dJ6_numberOfTrailingZeros_0f7a4_7 : decode cJ6_numberOfTrailingZeros_0f7a4 7 = .ok (.istore_n 0, 1) := by decide +kernel
theorem dJ6_numberOfTrailingZeros_0f7a4_8 : decode cJ6_numberOfTrailingZeros_0f7a4 8 = .ok (.iload_n 0, 1) := by decide +kernel
theorem dJ6_numberOfTrailingZeros_0f7a4_9 : decode cJ6_numberOfTrailingZeros_0f7a4 9 = .ok (.ifCond .gt 8, 3) := by decide +kernel
theorem dJ6_numberOfTrailingZeros_0f7a4_12 : decode cJ6_numberOfTrailingZeros_0f7a4 12 = .ok (.iload_n 0, 1) := by decide +kernel
theorem dJ6_numberOfTrailingZeros_0f7a4_13 : decode cJ6_numberOfTrailingZeros_0f7a4 13 = .ok (.bipush 32, 2) := by decide +kernel
theorem dJ6_numberOfTrailingZeros_0f7a4_15 : decode cJ6_numberOfTrailingZeros_0f7a4 15 = .ok (.iand, 1) := by decide +kernel
theorem dJ6_numberOfTrailingZeros_0f7a4_16 : decode cJ6_numberOfTrailingZeros_0f7a4 16 = .ok (.ireturn, 1) := by decide +kernel
theorem dJ6_numberOfTrailingZeros_0f7a4_17 : decode cJ6_numberOfTrailingZeros_0f7a4 17 = .ok (.iconst 1, 1) := by decide +kernel
theorem dJ6_numberOfTrailingZeros_0f7a4_18 : decode cJ6_numberOfTrailingZeros_0f7a4 18 = .ok (.istore_n 1, 1) := by decide +kernel
theorem dJ6_numberOfTrailingZeros_0f7a4_19 : decode cJ6_numberOfTrailingZeros_0f7a4 19 = .ok (.iload_n 0, 1) := by decide +kernel
theorem dJ6_numberOfTrailingZeros_0f7a4_20 : decode cJ6_numberOfTrailingZeros_0f7a4 20 = .ok (.ldc_w 264, 3) := by decide +kernel
theorem dJ6_numberOfTrailingZeros_0f7a4_23 : decode cJ6_numberOfTrailingZeros_0f7a4 23 = .ok (.if_icmp .le 11, 3) := by decide +kernel
theorem dJ6_numberOfTrailingZeros_0f7a4_26 : decode cJ6_numberOfTrailingZeros_0f7a4 26 = .ok (.iinc 1 16, 3) := by decide +kernel
theorem dJ6_numberOfTrailingZeros_0f7a4_29 : decode cJ6_numberOfTrailingZeros_0f7a4 29 = .ok (.iload_n 0, 1) := by decide +kernel
theorem dJ6_numberOfTrailingZeros_0f7a4_30 : decode cJ6_numberOfTrailingZeros_0f7a4 30 = .ok (.bipush 16, 2) := by decide +kernel
theorem dJ6_numberOfTrailingZeros_0f7a4_32 : decode cJ6_numberOfTrailingZeros_0f7a4 32 = .ok (.iushr, 1) := by decide +kernel
theorem dJ6_numberOfTrailingZeros_0f7a4_33 : decode cJ6_numberOfTrailingZeros_0f7a4 33 = .ok (.istore_n 0, 1) := by decide +kernel
theorem dJ6_numberOfTrailingZeros_0f7a4_34 : decode cJ6_numberOfTrailingZeros_0f7a4 34 = .ok (.iload_n 0, 1) := by decide +kernel
theorem dJ6_numberOfTrailingZeros_0f7a4_35 : decode cJ6_numberOfTrailingZeros_0f7a4 35 = .ok (.sipush 256, 3) := by decide +kernel
theorem dJ6_numberOfTrailingZeros_0f7a4_38 : decode cJ6_numberOfTrailingZeros_0f7a4 38 = .ok (.if_icmp .le 11, 3) := by decide +kernel
theorem dJ6_numberOfTrailingZeros_0f7a4_41 : decode cJ6_numberOfTrailingZeros_0f7a4 41 = .ok (.iinc 1 8, 3) := by decide +kernel
theorem dJ6_numberOfTrailingZeros_0f7a4_44 : decode cJ6_numberOfTrailingZeros_0f7a4 44 = .ok (.iload_n 0, 1) := by decide +kernel
theorem dJ6_numberOfTrailingZeros_0f7a4_45 : decode cJ6_numberOfTrailingZeros_0f7a4 45 = .ok (.bipush 8, 2) := by decide +kernel
theorem dJ6_numberOfTrailingZeros_0f7a4_47 : decode cJ6_numberOfTrailingZeros_0f7a4 47 = .ok (.iushr, 1) := by decide +kernel
theorem dJ6_numberOfTrailingZeros_0f7a4_48 : decode cJ6_numberOfTrailingZeros_0f7a4 48 = .ok (.istore_n 0, 1) := by decide +kernel
theorem dJ6_numberOfTrailingZeros_0f7a4_49 : decode cJ6_numberOfTrailingZeros_0f7a4 49 = .ok (.iload_n 0, 1) := by decide +kernel
theorem dJ6_numberOfTrailingZeros_0f7a4_50 : decode cJ6_numberOfTrailingZeros_0f7a4 50 = .ok (.bipush 16, 2) := by decide +kernel
theorem dJ6_numberOfTrailingZeros_0f7a4_52 : decode cJ6_numberOfTrailingZeros_0f7a4 52 = .ok (.if_icmp .le 10, 3) := by decide +kernel
theorem dJ6_numberOfTrailingZeros_0f7a4_55 : decode cJ6_numberOfTrailingZeros_0f7a4 55 = .ok (.iinc 1 4, 3) := by decide +kernel
theorem dJ6_numberOfTrailingZeros_0f7a4_58 : decode cJ6_numberOfTrailingZeros_0f7a4 58 = .ok (.iload_n 0, 1) := by decide +kernel
theorem dJ6_numberOfTrailingZeros_0f7a4_59 : decode cJ6_numberOfTrailingZeros_0f7a4 59 = .ok (.iconst 4, 1) := by decide +kernel
theorem dJ6_numberOfTrailingZeros_0f7a4_60 : decode cJ6_numberOfTrailingZeros_0f7a4 60 = .ok (.iushr, 1) := by decide +kernel
theorem dJ6_numberOfTrailingZeros_0f7a4_61 : decode cJ6_numberOfTrailingZeros_0f7a4 61 = .ok (.istore_n 0, 1) := by decide +kernel
theorem dJ6_numberOfTrailingZeros_0f7a4_62 : decode cJ6_numberOfTrailingZeros_0f7a4 62 = .ok (.iload_n 0, 1) := by decide +kernel
theorem dJ6_numberOfTrailingZeros_0f7a4_63 : decode cJ6_numberOfTrailingZeros_0f7a4 63 = .ok (.iconst 4, 1) := by decide +kernel
theorem dJ6_numberOfTrailingZeros_0f7a4_64 : decode cJ6_numberOfTrailingZeros_0f7a4 64 = .ok (.if_icmp .le 10, 3) := by decide +kernel
theorem dJ6_numberOfTrailingZeros_0f7a4_67 : decode cJ6_numberOfTrailingZeros_0f7a4 67 = .ok (.iinc 1 2, 3) := by decide +kernel
theorem dJ6_numberOfTrailingZeros_0f7a4_70 : decode cJ6_numberOfTrailingZeros_0f7a4 70 = .ok (.iload_n 0, 1) := by decide +kernel
theorem dJ6_numberOfTrailingZeros_0f7a4_71 : decode cJ6_numberOfTrailingZeros_0f7a4 71 = .ok (.iconst 2, 1) := by decide +kernel
theorem dJ6_numberOfTrailingZeros_0f7a4_72 : decode cJ6_numberOfTrailingZeros_0f7a4 72 = .ok (.iushr, 1) := by decide +kernel
theorem dJ6_numberOfTrailingZeros_0f7a4_73 : decode cJ6_numberOfTrailingZeros_0f7a4 73 = .ok (.istore_n 0, 1) := by decide +kernel
theorem dJ6_numberOfTrailingZeros_0f7a4_74 : decode cJ6_numberOfTrailingZeros_0f7a4 74 = .ok (.iload_n 1, 1) := by decide +kernel
theorem dJ6_numberOfTrailingZeros_0f7a4_75 : decode cJ6_numberOfTrailingZeros_0f7a4 75 = .ok (.iload_n 0, 1) := by decide +kernel
theorem dJ6_numberOfTrailingZeros_0f7a4_76 : decode cJ6_numberOfTrailingZeros_0f7a4 76 = .ok (.iconst 1, 1) := by decide +kernel
theorem dJ6_numberOfTrailingZeros_0f7a4_77 : decode cJ6_numberOfTrailingZeros_0f7a4 77 = .ok (.iushr, 1) := by decide +kernel
theorem dJ6_numberOfTrailingZeros_0f7a4_78 : decode cJ6_numberOfTrailingZeros_0f7a4 78 = .ok (.iadd, 1) := by decide +kernel
theorem dJ6_numberOfTrailingZeros_0f7a4_79 : decode cJ6_numberOfTrailingZeros_0f7a4 79 = .ok (.ireturn, 1) := by decide +kernel
theorem dX1_yearsToLoss_0 : decode cX1_yearsToLoss 0 = .ok (.aload_n 0, 1) := by decide +kernel
theorem dX1_yearsToLoss_1 : decode cX1_yearsToLoss 1 = .ok (.getfield 21, 3) := by decide +kernel
theorem dX1_yearsToLoss_4 : decode cX1_yearsToLoss 4 = .ok (.aload_n 1, 1) := by decide +kernel
theorem dX1_yearsToLoss_5 : decode cX1_yearsToLoss 5 = .ok (.invokevirtual 43, 3) := by decide +kernel
theorem dX1_yearsToLoss_8 : decode cX1_yearsToLoss 8 = .ok (.iconst (-1), 1) := by decide +kernel
theorem dX1_yearsToLoss_9 : decode cX1_yearsToLoss 9 = .ok (.ixor, 1) := by decide +kernel
theorem dX1_yearsToLoss_10 : decode cX1_yearsToLoss 10 = .ok (.istore_n 2, 1) := by decide +kernel
theorem dX1_yearsToLoss_11 : decode cX1_yearsToLoss 11 = .ok (.aload_n 0, 1) := by decide +kernel
theorem dX1_yearsToLoss_12 : decode cX1_yearsToLoss 12 = .ok (.aload_n 1, 1) := by decide +kernel
theorem dX1_yearsToLoss_13 : decode cX1_yearsToLoss 13 = .ok (.iconst 0, 1) := by decide +kernel
theorem dX1_yearsToLoss_14 : decode cX1_yearsToLoss 14 = .ok (.invokevirtual 35, 3) := by decide +kernel
theorem dX1_yearsToLoss_17 : decode cX1_yearsToLoss 17 = .ok (.astore_n 3, 1) := by decide +kernel
theorem dX1_yearsToLoss_18 : decode cX1_yearsToLoss 18 = .ok (.aload_n 0, 1) := by decide +kernel
theorem dX1_yearsToLoss_19 : decode cX1_yearsToLoss 19 = .ok (.iconst (-1), 1) := by decide +kernel
theorem dX1_yearsToLoss_20 : decode cX1_yearsToLoss 20 = .ok (.putfield 17, 3) := by decide +kernel
theorem dX1_yearsToLoss_23 : decode cX1_yearsToLoss 23 = .ok (.iconst 1, 1) := by decide +kernel
theorem dX1_yearsToLoss_24 : decode cX1_yearsToLoss 24 = .ok (.istore 4, 2) := by decide +kernel
theorem dX1_yearsToLoss_26 : decode cX1_yearsToLoss 26 = .ok (.iload 4, 2) := by decide +kernel
theorem dX1_yearsToLoss_28 : decode cX1_yearsToLoss 28 = .ok (.bipush 30, 2) := by decide +kernel
theorem dX1_yearsToLoss_30 : decode cX1_yearsToLoss 30 = .ok (.if_icmp .gt 46, 3) := by decide +kernel
theorem dX1_yearsToLoss_33 : decode cX1_yearsToLoss 33 = .ok (.aload_n 0, 1) := by decide +kernel
theorem dX1_yearsToLoss_34 : decode cX1_yearsToLoss 34 = .ok (.getfield 21, 3) := by decide +kernel
theorem dX1_yearsToLoss_37 : decode cX1_yearsToLoss 37 = .ok (.aload_n 3, 1) := by decide +kernel
theorem dX1_yearsToLoss_38 : decode cX1_yearsToLoss 38 = .ok (.invokevirtual 30, 3) := by decide +kernel
theorem dX1_yearsToLoss_41 : decode cX1_yearsToLoss 41 = .ok (.aload_n 0, 1) := by decide +kernel
theorem dX1_yearsToLoss_42 : decode cX1_yearsToLoss 42 = .ok (.getfield 21, 3) := by decide +kernel
theorem dX1_yearsToLoss_45 : decode cX1_yearsToLoss 45 = .ok (.aload_n 3, 1) := by decide +kernel
theorem dX1_yearsToLoss_46 : decode cX1_yearsToLoss 46 = .ok (.invokevirtual 43, 3) := by decide +kernel
theorem dX1_yearsToLoss_49 : decode cX1_yearsToLoss 49 = .ok (.iload_n 2, 1) := by decide +kernel
theorem dX1_yearsToLoss_50 : decode cX1_yearsToLoss 50 = .ok (.iand, 1) := by decide +kernel
theorem dX1_yearsToLoss_51 : decode cX1_yearsToLoss 51 = .ok (.istore 5, 2) := by decide +kernel
theorem dX1_yearsToLoss_53 : decode cX1_yearsToLoss 53 = .ok (.iload 5, 2) := by decide +kernel
theorem dX1_yearsToLoss_55 : decode cX1_yearsToLoss 55 = .ok (.ifCond .eq 15, 3) := by decide +kernel
theorem dX1_yearsToLoss_58 : decode cX1_yearsToLoss 58 = .ok (.aload_n 0, 1) := by decide +kernel
theorem dX1_yearsToLoss_59 : decode cX1_yearsToLoss 59 = .ok (.iload 5, 2) := by decide +kernel
theorem dX1_yearsToLoss_61 : decode cX1_yearsToLoss 61 = .ok (.invokestatic 47, 3) := by decide +kernel
theorem dX1_yearsToLoss_64 : decode cX1_yearsToLoss 64 = .ok (.putfield 17, 3) := by decide +kernel
theorem dX1_yearsToLoss_67 : decode cX1_yearsToLoss 67 = .ok (.iload 4, 2) := by decide +kernel
theorem dX1_yearsToLoss_69 : decode cX1_yearsToLoss 69 = .ok (.ireturn, 1) := by decide +kernel
theorem dX1_yearsToLoss_70 : decode cX1_yearsToLoss 70 = .ok (.iinc 4 1, 3) := by decide +kernel
theorem dX1_yearsToLoss_73 : decode cX1_yearsToLoss 73 = .ok (.goto (-47), 3) := by decide +kernel
theorem dX1_yearsToLoss_76 : decode cX1_yearsToLoss 76 = .ok (.iconst (-1), 1) := by decide +kernel
theorem dX1_yearsToLoss_77 : decode cX1_yearsToLoss 77 = .ok (.ireturn, 1) := by decide +kernel
theorem dJ6_bitCount_0f7a4_0 : decode cJ6_bitCount_0f7a4 0 = .ok (.iload_n 0, 1) := by decide +kernel
theorem dJ6_bitCount_0f7a4_1 : decode cJ6_bitCount_0f7a4 1 = .ok (.iload_n 0, 1) := by decide +kernel
theorem dJ6_bitCount_0f7a4_2 : decode cJ6_bitCount_0f7a4 2 = .ok (.iconst 1, 1) := by decide +kernel
theorem dJ6_bitCount_0f7a4_3 : decode cJ6_bitCount_0f7a4 3 = .ok (.iushr, 1) := by decide +kernel
theorem dJ6_bitCount_0f7a4_4 : decode cJ6_bitCount_0f7a4 4 = .ok (.ldc_w 265, 3) := by decide +kernel
theorem dJ6_bitCount_0f7a4_7 : decode cJ6_bitCount_0f7a4 7 = .ok (.iand, 1) := by decide +kernel
theorem dJ6_bitCount_0f7a4_8 : decode cJ6_bitCount_0f7a4 8 = .ok (.isub, 1) := by decide +kernel
theorem dJ6_bitCount_0f7a4_9 : decode cJ6_bitCount_0f7a4 9 = .ok (.istore_n 0, 1) := by decide +kernel
theorem dJ6_bitCount_0f7a4_10 : decode cJ6_bitCount_0f7a4 10 = .ok (.iload_n 0, 1) := by decide +kernel
theorem dJ6_bitCount_0f7a4_11 : decode cJ6_bitCount_0f7a4 11 = .ok (.ldc_w 266, 3) := by decide +kernel
theorem dJ6_bitCount_0f7a4_14 : decode cJ6_bitCount_0f7a4 14 = .ok (.iand, 1) := by decide +kernel
theorem dJ6_bitCount_0f7a4_15 : decode cJ6_bitCount_0f7a4 15 = .ok (.iload_n 0, 1) := by decide +kernel
theorem dJ6_bitCount_0f7a4_16 : decode cJ6_bitCount_0f7a4 16 = .ok (.iconst 2, 1) := by decide +kernel
theorem dJ6_bitCount_0f7a4_17 : decode cJ6_bitCount_0f7a4 17 = .ok (.iushr, 1) := by decide +kernel
theorem dJ6_bitCount_0f7a4_18 : decode cJ6_bitCount_0f7a4 18 = .ok (.ldc_w 266, 3) := by decide +kernel
theorem dJ6_bitCount_0f7a4_21 : decode cJ6_bitCount_0f7a4 21 = .ok (.iand, 1) := by decide +kernel
theorem dJ6_bitCount_0f7a4_22 : decode cJ6_bitCount_0f7a4 22 = .ok (.iadd, 1) := by decide +kernel
theorem dJ6_bitCount_0f7a4_23 : decode cJ6_bitCount_0f7a4 23 = .ok (.istore_n 0, 1) := by decide +kernel
theorem dJ6_bitCount_0f7a4_24 : decode cJ6_bitCount_0f7a4 24 = .ok (.iload_n 0, 1) := by decide +kernel
theorem dJ6_bitCount_0f7a4_25 : decode cJ6_bitCount_0f7a4 25 = .ok (.iload_n 0, 1) := by decide +kernel
theorem dJ6_bitCount_0f7a4_26 : decode cJ6_bitCount_0f7a4 26 = .ok (.iconst 4, 1) := by decide +kernel
theorem dJ6_bitCount_0f7a4_27 : decode cJ6_bitCount_0f7a4 27 = .ok (.iushr, 1) := by decide +kernel
theorem dJ6_bitCount_0f7a4_28 : decode cJ6_bitCount_0f7a4 28 = .ok (.iadd, 1) := by decide +kernel
theorem dJ6_bitCount_0f7a4_29 : decode cJ6_bitCount_0f7a4 29 = .ok (.ldc_w 267, 3) := by decide +kernel
theorem dJ6_bitCount_0f7a4_32 : decode cJ6_bitCount_0f7a4 32 = .ok (.iand, 1) := by decide +kernel
theorem dJ6_bitCount_0f7a4_33 : decode cJ6_bitCount_0f7a4 33 = .ok (.istore_n 0, 1) := by decide +kernel
theorem dJ6_bitCount_0f7a4_34 : decode cJ6_bitCount_0f7a4 34 = .ok (.iload_n 0, 1) := by decide +kernel
theorem dJ6_bitCount_0f7a4_35 : decode cJ6_bitCount_0f7a4 35 = .ok (.iload_n 0, 1) := by decide +kernel
theorem dJ6_bitCount_0f7a4_36 : decode cJ6_bitCount_0f7a4 36 = .ok (.bipush 8, 2) := by decide +kernel
theorem dJ6_bitCount_0f7a4_38 : decode cJ6_bitCount_0f7a4 38 = .ok (.iushr, 1) := by decide +kernel
theorem dJ6_bitCount_0f7a4_39 : decode cJ6_bitCount_0f7a4 39 = .ok (.iadd, 1) := by decide +kernel
theorem dJ6_bitCount_0f7a4_40 : decode cJ6_bitCount_0f7a4 40 = .ok (.istore_n 0, 1) := by decide +kernel
theorem dJ6_bitCount_0f7a4_41 : decode cJ6_bitCount_0f7a4 41 = .ok (.iload_n 0, 1) := by decide +kernel
theorem dJ6_bitCount_0f7a4_42 : decode cJ6_bitCount_0f7a4 42 = .ok (.iload_n 0, 1) := by decide +kernel
theorem dJ6_bitCount_0f7a4_43 : decode cJ6_bitCount_0f7a4 43 = .ok (.bipush 16, 2) := by decide +kernel
theorem dJ6_bitCount_0f7a4_45 : decode cJ6_bitCount_0f7a4 45 = .ok (.iushr, 1) := by decide +kernel
theorem dJ6_bitCount_0f7a4_46 : decode cJ6_bitCount_0f7a4 46 = .ok (.iadd, 1) := by decide +kernel
theorem dJ6_bitCount_0f7a4_47 : decode cJ6_bitCount_0f7a4 47 = .ok (.istore_n 0, 1) := by decide +kernel
theorem dJ6_bitCount_0f7a4_48 : decode cJ6_bitCount_0f7a4 48 = .ok (.iload_n 0, 1) := by decide +kernel
theorem dJ6_bitCount_0f7a4_49 : decode cJ6_bitCount_0f7a4 49 = .ok (.bipush 63, 2) := by decide +kernel
theorem dJ6_bitCount_0f7a4_51 : decode cJ6_bitCount_0f7a4 51 = .ok (.iand, 1) := by decide +kernel
theorem dJ6_bitCount_0f7a4_52 : decode cJ6_bitCount_0f7a4 52 = .ok (.ireturn, 1) := by decide +kernel
theorem dX1_mapsToFold_0 : decode cX1_mapsToFold 0 = .ok (.aload_n 0, 1) := by decide +kernel
theorem dX1_mapsToFold_1 : decode cX1_mapsToFold 1 = .ok (.getfield 21, 3) := by decide +kernel
theorem dX1_mapsToFold_4 : decode cX1_mapsToFold 4 = .ok (.aload_n 1, 1) := by decide +kernel
theorem dX1_mapsToFold_5 : decode cX1_mapsToFold 5 = .ok (.invokevirtual 43, 3) := by decide +kernel
theorem dX1_mapsToFold_8 : decode cX1_mapsToFold 8 = .ok (.iconst (-1), 1) := by decide +kernel
theorem dX1_mapsToFold_9 : decode cX1_mapsToFold 9 = .ok (.ixor, 1) := by decide +kernel
theorem dX1_mapsToFold_10 : decode cX1_mapsToFold 10 = .ok (.istore_n 3, 1) := by decide +kernel
theorem dX1_mapsToFold_11 : decode cX1_mapsToFold 11 = .ok (.aload_n 1, 1) := by decide +kernel
theorem dX1_mapsToFold_12 : decode cX1_mapsToFold 12 = .ok (.getfield 39, 3) := by decide +kernel
theorem dX1_mapsToFold_15 : decode cX1_mapsToFold 15 = .ok (.bipush 39, 2) := by decide +kernel
theorem dX1_mapsToFold_17 : decode cX1_mapsToFold 17 = .ok (.iaload, 1) := by decide +kernel
theorem dX1_mapsToFold_18 : decode cX1_mapsToFold 18 = .ok (.istore 4, 2) := by decide +kernel
theorem dX1_mapsToFold_20 : decode cX1_mapsToFold 20 = .ok (.iconst 1, 1) := by decide +kernel
theorem dX1_mapsToFold_21 : decode cX1_mapsToFold 21 = .ok (.aload_n 0, 1) := by decide +kernel
theorem dX1_mapsToFold_22 : decode cX1_mapsToFold 22 = .ok (.getfield 21, 3) := by decide +kernel
theorem dX1_mapsToFold_25 : decode cX1_mapsToFold 25 = .ok (.getfield 53, 3) := by decide +kernel
theorem dX1_mapsToFold_28 : decode cX1_mapsToFold 28 = .ok (.getfield 57, 3) := by decide +kernel
theorem dX1_mapsToFold_31 : decode cX1_mapsToFold 31 = .ok (.ishl, 1) := by decide +kernel
theorem dX1_mapsToFold_32 : decode cX1_mapsToFold 32 = .ok (.istore 5, 2) := by decide +kernel
theorem dX1_mapsToFold_34 : decode cX1_mapsToFold 34 = .ok (.aload_n 0, 1) := by decide +kernel
theorem dX1_mapsToFold_35 : decode cX1_mapsToFold 35 = .ok (.getfield 13, 3) := by decide +kernel
theorem dX1_mapsToFold_38 : decode cX1_mapsToFold 38 = .ok (.iconst 1, 1) := by decide +kernel
theorem dX1_mapsToFold_39 : decode cX1_mapsToFold 39 = .ok (.aaload, 1) := by decide +kernel
theorem dX1_mapsToFold_40 : decode cX1_mapsToFold 40 = .ok (.astore 6, 2) := by decide +kernel
theorem dX1_mapsToFold_42 : decode cX1_mapsToFold 42 = .ok (.iconst 0, 1) := by decide +kernel
theorem dX1_mapsToFold_43 : decode cX1_mapsToFold 43 = .ok (.istore 7, 2) := by decide +kernel
theorem dX1_mapsToFold_45 : decode cX1_mapsToFold 45 = .ok (.iload 7, 2) := by decide +kernel
theorem dX1_mapsToFold_47 : decode cX1_mapsToFold 47 = .ok (.iconst 4, 1) := by decide +kernel
theorem dX1_mapsToFold_48 : decode cX1_mapsToFold 48 = .ok (.if_icmp .gt 87, 3) := by decide +kernel
theorem dX1_mapsToFold_51 : decode cX1_mapsToFold 51 = .ok (.iconst 0, 1) := by decide +kernel
theorem dX1_mapsToFold_52 : decode cX1_mapsToFold 52 = .ok (.istore 8, 2) := by decide +kernel
theorem dX1_mapsToFold_54 : decode cX1_mapsToFold 54 = .ok (.iload 8, 2) := by decide +kernel
theorem dX1_mapsToFold_56 : decode cX1_mapsToFold 56 = .ok (.iload 5, 2) := by decide +kernel
theorem dX1_mapsToFold_58 : decode cX1_mapsToFold 58 = .ok (.if_icmp .ge 71, 3) := by decide +kernel
theorem dX1_mapsToFold_61 : decode cX1_mapsToFold 61 = .ok (.iload 8, 2) := by decide +kernel
theorem dX1_mapsToFold_63 : decode cX1_mapsToFold 63 = .ok (.iload 4, 2) := by decide +kernel
theorem dX1_mapsToFold_65 : decode cX1_mapsToFold 65 = .ok (.iand, 1) := by decide +kernel
theorem dX1_mapsToFold_66 : decode cX1_mapsToFold 66 = .ok (.ifCond .ne 57, 3) := by decide +kernel
theorem dX1_mapsToFold_69 : decode cX1_mapsToFold 69 = .ok (.iload 8, 2) := by decide +kernel
theorem dX1_mapsToFold_71 : decode cX1_mapsToFold 71 = .ok (.invokestatic 62, 3) := by decide +kernel
theorem dX1_mapsToFold_74 : decode cX1_mapsToFold 74 = .ok (.iload 7, 2) := by decide +kernel
theorem dX1_mapsToFold_76 : decode cX1_mapsToFold 76 = .ok (.if_icmp .eq 6, 3) := by decide +kernel
theorem dX1_mapsToFold_79 : decode cX1_mapsToFold 79 = .ok (.goto 44, 3) := by decide +kernel
theorem dX1_mapsToFold_82 : decode cX1_mapsToFold 82 = .ok (.aload 6, 2) := by decide +kernel
theorem dX1_mapsToFold_84 : decode cX1_mapsToFold 84 = .ok (.aload_n 1, 1) := by decide +kernel
theorem dX1_mapsToFold_85 : decode cX1_mapsToFold 85 = .ok (.invokevirtual 26, 3) := by decide +kernel
theorem dX1_mapsToFold_88 : decode cX1_mapsToFold 88 = .ok (.aload 6, 2) := by decide +kernel
theorem dX1_mapsToFold_90 : decode cX1_mapsToFold 90 = .ok (.getfield 39, 3) := by decide +kernel
theorem dX1_mapsToFold_93 : decode cX1_mapsToFold 93 = .ok (.bipush 39, 2) := by decide +kernel
theorem dX1_mapsToFold_95 : decode cX1_mapsToFold 95 = .ok (.dup2, 1) := by decide +kernel
theorem dX1_mapsToFold_96 : decode cX1_mapsToFold 96 = .ok (.iaload, 1) := by decide +kernel
theorem dX1_mapsToFold_97 : decode cX1_mapsToFold 97 = .ok (.iload 8, 2) := by decide +kernel
theorem dX1_mapsToFold_99 : decode cX1_mapsToFold 99 = .ok (.ior, 1) := by decide +kernel
theorem dX1_mapsToFold_100 : decode cX1_mapsToFold 100 = .ok (.iastore, 1) := by decide +kernel
theorem dX1_mapsToFold_101 : decode cX1_mapsToFold 101 = .ok (.aload_n 0, 1) := by decide +kernel
theorem dX1_mapsToFold_102 : decode cX1_mapsToFold 102 = .ok (.getfield 21, 3) := by decide +kernel
theorem dX1_mapsToFold_105 : decode cX1_mapsToFold 105 = .ok (.aload_n 0, 1) := by decide +kernel
theorem dX1_mapsToFold_106 : decode cX1_mapsToFold 106 = .ok (.aload 6, 2) := by decide +kernel
theorem dX1_mapsToFold_108 : decode cX1_mapsToFold 108 = .ok (.iload_n 2, 1) := by decide +kernel
theorem dX1_mapsToFold_109 : decode cX1_mapsToFold 109 = .ok (.invokevirtual 35, 3) := by decide +kernel
theorem dX1_mapsToFold_112 : decode cX1_mapsToFold 112 = .ok (.invokevirtual 43, 3) := by decide +kernel
theorem dX1_mapsToFold_115 : decode cX1_mapsToFold 115 = .ok (.iload_n 3, 1) := by decide +kernel
theorem dX1_mapsToFold_116 : decode cX1_mapsToFold 116 = .ok (.iand, 1) := by decide +kernel
theorem dX1_mapsToFold_117 : decode cX1_mapsToFold 117 = .ok (.ifCond .ne 6, 3) := by decide +kernel
theorem dX1_mapsToFold_120 : decode cX1_mapsToFold 120 = .ok (.iload 8, 2) := by decide +kernel
theorem dX1_mapsToFold_122 : decode cX1_mapsToFold 122 = .ok (.ireturn, 1) := by decide +kernel
theorem dX1_mapsToFold_123 : decode cX1_mapsToFold 123 = .ok (.iinc 8 1, 3) := by decide +kernel
theorem dX1_mapsToFold_126 : decode cX1_mapsToFold 126 = .ok (.goto (-72), 3) := by decide +kernel
theorem dX1_mapsToFold_129 : decode cX1_mapsToFold 129 = .ok (.iinc 7 1, 3) := by decide +kernel
theorem dX1_mapsToFold_132 : decode cX1_mapsToFold 132 = .ok (.goto (-87), 3) := by decide +kernel
theorem dX1_mapsToFold_135 : decode cX1_mapsToFold 135 = .ok (.iconst (-1), 1) := by decide +kernel
theorem dX1_mapsToFold_136 : decode cX1_mapsToFold 136 = .ok (.ireturn, 1) := by decide +kernel
theorem dX1_standingFrom_0 : decode cX1_standingFrom 0 = .ok (.iload_n 1, 1) := by decide +kernel
theorem dX1_standingFrom_1 : decode cX1_standingFrom 1 = .ok (.iload_n 3, 1) := by decide +kernel
theorem dX1_standingFrom_2 : decode cX1_standingFrom 2 = .ok (.if_icmp .lt 26, 3) := by decide +kernel
theorem dX1_standingFrom_5 : decode cX1_standingFrom 5 = .ok (.aload_n 0, 1) := by decide +kernel
theorem dX1_standingFrom_6 : decode cX1_standingFrom 6 = .ok (.getfield 13, 3) := by decide +kernel
theorem dX1_standingFrom_9 : decode cX1_standingFrom 9 = .ok (.iload_n 1, 1) := by decide +kernel
theorem dX1_standingFrom_10 : decode cX1_standingFrom 10 = .ok (.aaload, 1) := by decide +kernel
theorem dX1_standingFrom_11 : decode cX1_standingFrom 11 = .ok (.getfield 39, 3) := by decide +kernel
theorem dX1_standingFrom_14 : decode cX1_standingFrom 14 = .ok (.bipush 15, 2) := by decide +kernel
theorem dX1_standingFrom_16 : decode cX1_standingFrom 16 = .ok (.iload_n 2, 1) := by decide +kernel
theorem dX1_standingFrom_17 : decode cX1_standingFrom 17 = .ok (.iadd, 1) := by decide +kernel
theorem dX1_standingFrom_18 : decode cX1_standingFrom 18 = .ok (.iaload, 1) := by decide +kernel
theorem dX1_standingFrom_19 : decode cX1_standingFrom 19 = .ok (.ifCond .le 7, 3) := by decide +kernel
theorem dX1_standingFrom_22 : decode cX1_standingFrom 22 = .ok (.iconst 1, 1) := by decide +kernel
theorem dX1_standingFrom_23 : decode cX1_standingFrom 23 = .ok (.goto 4, 3) := by decide +kernel
theorem dX1_standingFrom_26 : decode cX1_standingFrom 26 = .ok (.iconst 0, 1) := by decide +kernel
theorem dX1_standingFrom_27 : decode cX1_standingFrom 27 = .ok (.ireturn, 1) := by decide +kernel
theorem dX1_standingFrom_28 : decode cX1_standingFrom 28 = .ok (.aload_n 0, 1) := by decide +kernel
theorem dX1_standingFrom_29 : decode cX1_standingFrom 29 = .ok (.getfield 13, 3) := by decide +kernel
theorem dX1_standingFrom_32 : decode cX1_standingFrom 32 = .ok (.iload_n 1, 1) := by decide +kernel
theorem dX1_standingFrom_33 : decode cX1_standingFrom 33 = .ok (.iconst 1, 1) := by decide +kernel
theorem dX1_standingFrom_34 : decode cX1_standingFrom 34 = .ok (.iadd, 1) := by decide +kernel
theorem dX1_standingFrom_35 : decode cX1_standingFrom 35 = .ok (.aaload, 1) := by decide +kernel
theorem dX1_standingFrom_36 : decode cX1_standingFrom 36 = .ok (.astore 4, 2) := by decide +kernel
theorem dX1_standingFrom_38 : decode cX1_standingFrom 38 = .ok (.aload 4, 2) := by decide +kernel
theorem dX1_standingFrom_40 : decode cX1_standingFrom 40 = .ok (.aload_n 0, 1) := by decide +kernel
theorem dX1_standingFrom_41 : decode cX1_standingFrom 41 = .ok (.getfield 13, 3) := by decide +kernel
theorem dX1_standingFrom_44 : decode cX1_standingFrom 44 = .ok (.iload_n 1, 1) := by decide +kernel
theorem dX1_standingFrom_45 : decode cX1_standingFrom 45 = .ok (.aaload, 1) := by decide +kernel
theorem dX1_standingFrom_46 : decode cX1_standingFrom 46 = .ok (.invokevirtual 26, 3) := by decide +kernel
theorem dX1_standingFrom_49 : decode cX1_standingFrom 49 = .ok (.aload_n 0, 1) := by decide +kernel
theorem dX1_standingFrom_50 : decode cX1_standingFrom 50 = .ok (.getfield 21, 3) := by decide +kernel
theorem dX1_standingFrom_53 : decode cX1_standingFrom 53 = .ok (.aload 4, 2) := by decide +kernel
theorem dX1_standingFrom_55 : decode cX1_standingFrom 55 = .ok (.invokevirtual 30, 3) := by decide +kernel
theorem dX1_standingFrom_58 : decode cX1_standingFrom 58 = .ok (.iload_n 1, 1) := by decide +kernel
theorem dX1_standingFrom_59 : decode cX1_standingFrom 59 = .ok (.iconst 1, 1) := by decide +kernel
theorem dX1_standingFrom_60 : decode cX1_standingFrom 60 = .ok (.iadd, 1) := by decide +kernel
theorem dX1_standingFrom_61 : decode cX1_standingFrom 61 = .ok (.iload_n 3, 1) := by decide +kernel
theorem dX1_standingFrom_62 : decode cX1_standingFrom 62 = .ok (.if_icmp .lt 13, 3) := by decide +kernel
theorem dX1_standingFrom_65 : decode cX1_standingFrom 65 = .ok (.aload_n 0, 1) := by decide +kernel
theorem dX1_standingFrom_66 : decode cX1_standingFrom 66 = .ok (.iload_n 1, 1) := by decide +kernel
theorem dX1_standingFrom_67 : decode cX1_standingFrom 67 = .ok (.iconst 1, 1) := by decide +kernel
theorem dX1_standingFrom_68 : decode cX1_standingFrom 68 = .ok (.iadd, 1) := by decide +kernel
theorem dX1_standingFrom_69 : decode cX1_standingFrom 69 = .ok (.iload_n 2, 1) := by decide +kernel
theorem dX1_standingFrom_70 : decode cX1_standingFrom 70 = .ok (.iload_n 3, 1) := by decide +kernel
theorem dX1_standingFrom_71 : decode cX1_standingFrom 71 = .ok (.invokevirtual 71, 3) := by decide +kernel
theorem dX1_standingFrom_74 : decode cX1_standingFrom 74 = .ok (.ireturn, 1) := by decide +kernel
theorem dX1_standingFrom_75 : decode cX1_standingFrom 75 = .ok (.aload 4, 2) := by decide +kernel
theorem dX1_standingFrom_77 : decode cX1_standingFrom 77 = .ok (.getfield 39, 3) := by decide +kernel
theorem dX1_standingFrom_80 : decode cX1_standingFrom 80 = .ok (.bipush 41, 2) := by decide +kernel
theorem dX1_standingFrom_82 : decode cX1_standingFrom 82 = .ok (.iconst 0, 1) := by decide +kernel
theorem dX1_standingFrom_83 : decode cX1_standingFrom 83 = .ok (.iastore, 1) := by decide +kernel
theorem dX1_standingFrom_84 : decode cX1_standingFrom 84 = .ok (.aload_n 0, 1) := by decide +kernel
theorem dX1_standingFrom_85 : decode cX1_standingFrom 85 = .ok (.iload_n 1, 1) := by decide +kernel
theorem dX1_standingFrom_86 : decode cX1_standingFrom 86 = .ok (.iconst 1, 1) := by decide +kernel
theorem dX1_standingFrom_87 : decode cX1_standingFrom 87 = .ok (.iadd, 1) := by decide +kernel
theorem dX1_standingFrom_88 : decode cX1_standingFrom 88 = .ok (.iload_n 2, 1) := by decide +kernel
theorem dX1_standingFrom_89 : decode cX1_standingFrom 89 = .ok (.iload_n 3, 1) := by decide +kernel
theorem dX1_standingFrom_90 : decode cX1_standingFrom 90 = .ok (.invokevirtual 71, 3) := by decide +kernel
theorem dX1_standingFrom_93 : decode cX1_standingFrom 93 = .ok (.istore 5, 2) := by decide +kernel
theorem dX1_standingFrom_95 : decode cX1_standingFrom 95 = .ok (.aload 4, 2) := by decide +kernel
theorem dX1_standingFrom_97 : decode cX1_standingFrom 97 = .ok (.getfield 39, 3) := by decide +kernel
theorem dX1_standingFrom_100 : decode cX1_standingFrom 100 = .ok (.bipush 41, 2) := by decide +kernel
theorem dX1_standingFrom_102 : decode cX1_standingFrom 102 = .ok (.iconst 1, 1) := by decide +kernel
theorem dX1_standingFrom_103 : decode cX1_standingFrom 103 = .ok (.iastore, 1) := by decide +kernel
theorem dX1_standingFrom_104 : decode cX1_standingFrom 104 = .ok (.iload 5, 2) := by decide +kernel
theorem dX1_standingFrom_106 : decode cX1_standingFrom 106 = .ok (.aload_n 0, 1) := by decide +kernel
theorem dX1_standingFrom_107 : decode cX1_standingFrom 107 = .ok (.iload_n 1, 1) := by decide +kernel
theorem dX1_standingFrom_108 : decode cX1_standingFrom 108 = .ok (.iconst 1, 1) := by decide +kernel
theorem dX1_standingFrom_109 : decode cX1_standingFrom 109 = .ok (.iadd, 1) := by decide +kernel
theorem dX1_standingFrom_110 : decode cX1_standingFrom 110 = .ok (.iload_n 2, 1) := by decide +kernel
theorem dX1_standingFrom_111 : decode cX1_standingFrom 111 = .ok (.iload_n 3, 1) := by decide +kernel
theorem dX1_standingFrom_112 : decode cX1_standingFrom 112 = .ok (.invokevirtual 71, 3) := by decide +kernel
theorem dX1_standingFrom_115 : decode cX1_standingFrom 115 = .ok (.iadd, 1) := by decide +kernel
theorem dX1_standingFrom_116 : decode cX1_standingFrom 116 = .ok (.ireturn, 1) := by decide +kernel
set_option maxRecDepth 100000 in
theorem m_J7_rangeCheck_23922 (l : Launch) (D : va_G) (cT : Nat → ClassId) (T : Nat → Option Nat) (q : Nat → Int) (hq : qok q) (y0 : Int32) (j0 : IV y0 43 43) (y1 : Int32) (j1 : IV y1 3 3) (y2 : Int32) (j2 : IV y2 15 15) : th_Met l D cT T (kd q) yJ7_rangeCheck_23922 cJ7_rangeCheck_23922 3 none (rmk 0 0) [.int y0, .int y1, .int y2] (th_R T none) [] := by
  refine th_start (by decide) (Nat.le_of_ble_eq_true rfl) ?_
  intro p e s m below meth c ls S hK hH hr hlocks hnm hl
  have hx := S.1
  have hb := S.2.1
  have hl : lv_has ls 3 [(0, .int y0), (1, .int y1), (2, .int y2)] := hl
  have J0 : ∀ (H : Heap) (locs : List Loc) (ls : Array Slot), th_H D cT T (kd q) H → va_S (th_A T []) s.heap H locs → lv_has ls 3 [(0, .int y0), (1, .int y1), (2, .int y2)] → W p l e (rmk 0 0) s m [.int y0, .int y1, .int y2].toArray below meth c H locs 0 0 (MQ below (th_Q D cT T (kd q) (th_R T none) []) [.int y0, .int y1, .int y2].toArray s 0 0 (th_A T [])) (F0 m 0 ls []) := by
    intro H locs ls hH hS hl
    refine lv_iload_n hx hb dJ7_rangeCheck_23922_0 rfl (lv_at hl 1 rfl) ?_
    refine lv_iload_n hx hb dJ7_rangeCheck_23922_1 rfl (lv_at hl 2 rfl) ?_
    refine lv_icmp_le (tgt := 46) hx hb dJ7_rangeCheck_23922_2 (by decide) (fun c1 => ?_) (fun c1 => ?_)
    · skip
      refine lv_iload_n hx hb dJ7_rangeCheck_23922_46 rfl (lv_at hl 1 rfl) ?_
      refine lv_if_ge (tgt := 59) hx hb dJ7_rangeCheck_23922_47 (by decide) (fun c2 => ?_) (fun c2 => ?_)
      · skip
        refine lv_iload_n hx hb dJ7_rangeCheck_23922_59 rfl (lv_at hl 2 rfl) ?_
        refine lv_iload_n hx hb dJ7_rangeCheck_23922_60 rfl (lv_at hl 0 rfl) ?_
        refine lv_icmp_le (tgt := 73) hx hb dJ7_rangeCheck_23922_61 (by decide) (fun c3 => ?_) (fun c3 => ?_)
        · skip
          exact th_vret S hK hH hS hr hlocks rfl dJ7_rangeCheck_23922_73
        · skip
          exfalso
          have z1 := iv_nle c3
          have z2 := (j0).1
          have z3 := (j0).2
          have z4 := (j2).1
          have z5 := (j2).2
          omega
      · skip
        exfalso
        have z1 := iv_nle c2
        have z2 := (j1).1
        have z3 := (j1).2
        have z4 := ((iv_c (by decide) : IV 0 0 0)).1
        have z5 := ((iv_c (by decide) : IV 0 0 0)).2
        omega
    · skip
      exfalso
      have z1 := iv_nle c1
      have z2 := (j2).1
      have z3 := (j2).2
      have z4 := (j1).1
      have z5 := (j1).2
      omega
  exact J0 s.heap [] ls hH va_S.rf hl

set_option maxRecDepth 100000 in
theorem m_J7_fill_fda19 (l : Launch) (D : va_G) (cT : Nat → ClassId) (T : Nat → Option Nat) (q : Nat → Int) (hq : qok q) (a0 : Nat) (t0 : T a0 = some 29) (y1 : Int32) (j1 : IV y1 3 3) (y2 : Int32) (j2 : IV y2 15 15) (y3 : Int32) (j3 : IV y3 (-2147483648) 2147483647) : th_Met l D cT T (kd q) yJ7_fill_fda19 cJ7_fill_fda19 5 none (rmk 1 22) [.ref a0, .int y1, .int y2, .int y3] (th_R T none) [29] := by
  refine th_start (by decide) (Nat.le_of_ble_eq_true rfl) ?_
  intro p e s m below meth c ls S hK hH hr hlocks hnm hl
  have hx := S.1
  have hb := S.2.1
  have hl : lv_has ls 5 [(0, .ref a0), (1, .int y1), (2, .int y2), (3, .int y3)] := hl
  have J10 : ∀ (n : Nat) (H : Heap) (locs : List Loc) (ls : Array Slot) (v10_4 : Int32), IV v10_4 3 17 → th_H D cT T (kd q) H → va_S (th_A T [29]) s.heap H locs → lv_has ls 5 [(0, .ref a0), (2, .int y2), (3, .int y3), (4, .int v10_4)] → (17 + 1 - v10_4.toInt).toNat < n → W p l e (rmk 1 22) s m [.ref a0, .int y1, .int y2, .int y3].toArray below meth c H locs 0 0 (MQ below (th_Q D cT T (kd q) (th_R T none) [29]) [.ref a0, .int y1, .int y2, .int y3].toArray s 0 0 (th_A T [29])) (F0 m 10 ls []) := by
    intro n
    induction n with
    | zero => intro H locs ls v10_4 iv10_4 hH hS hl hn; exact absurd hn (Nat.not_lt_zero _)
    | succ n ih10 =>
      intro H locs ls v10_4 iv10_4 hH hS hl hn10
      refine lv_iload hx hb dJ7_fill_fda19_10 (lv_at hl 3 rfl) ?_
      refine lv_iload_n hx hb dJ7_fill_fda19_12 rfl (lv_at hl 1 rfl) ?_
      refine lv_icmp_ge (tgt := 27) hx hb dJ7_fill_fda19_13 (by decide) (fun c1 => ?_) (fun c1 => ?_)
      · skip
        have ir2 : IV v10_4 15 17 := iv_vR j2 iv10_4 (iv_le c1) (by decide)
        exact th_vret S hK hH hS hr hlocks rfl dJ7_fill_fda19_27
      · skip
        have ir3 : IV v10_4 3 14 := iv_uL iv10_4 j2 (iv_nle c1) (by decide)
        refine lv_aload_n hx hb dJ7_fill_fda19_16 rfl (lv_at hl 0 rfl) ?_
        refine lv_iload hx hb dJ7_fill_fda19_17 (lv_at hl 3 rfl) ?_
        refine lv_iload_n hx hb dJ7_fill_fda19_19 rfl (lv_at hl 2 rfl) ?_
        refine th_iast S hK hH hS ⟨29, by decide, t0⟩ t0 kd_29 (th_in (hi := 14) (iv_w ir3 (by decide)) (by decide)) (th_iv j3) dJ7_fill_fda19_20 (fun H locs hH hS hq1 => ?_)
        refine th_iinc S dJ7_fill_fda19_21 hl (k := 3) rfl (by decide) ir3 (by decide) (fun x4 ls ex4 ix4 hl => ?_)
        have hl : lv_has ls 5 [(4, .int x4), (0, .ref a0), (2, .int y2), (3, .int y3)] := hl
        have ix4 : IV x4 4 15 := ix4
        refine lv_goto (tgt := 10) hx hb dJ7_fill_fda19_24 (by decide) ?_
        exact ih10 H locs ls x4 (iv_w ix4 (by decide)) hH hS (lv_sub hl [1, 2, 3, 0] rfl) (th_up iv10_4 ex4 (by decide) hn10)
  have J0 : ∀ (H : Heap) (locs : List Loc) (ls : Array Slot), th_H D cT T (kd q) H → va_S (th_A T [29]) s.heap H locs → lv_has ls 5 [(0, .ref a0), (1, .int y1), (2, .int y2), (3, .int y3)] → W p l e (rmk 1 22) s m [.ref a0, .int y1, .int y2, .int y3].toArray below meth c H locs 0 0 (MQ below (th_Q D cT T (kd q) (th_R T none) [29]) [.ref a0, .int y1, .int y2, .int y3].toArray s 0 0 (th_A T [29])) (F0 m 0 ls []) := by
    intro H locs ls hH hS hl
    refine lv_aload_n hx hb dJ7_fill_fda19_0 rfl (lv_at hl 0 rfl) ?_
    refine th_alen S hK hH t0 kd_29 rfl (v := 43) (by decide) dJ7_fill_fda19_1 ?_
    refine lv_iload_n hx hb dJ7_fill_fda19_2 rfl (lv_at hl 1 rfl) ?_
    refine lv_iload_n hx hb dJ7_fill_fda19_3 rfl (lv_at hl 2 rfl) ?_
    refine th_callSv (n := 3) (As := [.int 43, .int y1, .int y2]) S hK hH hS (th_A.sub (by decide)) (m_J7_rangeCheck_23922 l D cT T q hq (43) (iv_c (by decide) : IV 43 43 43) (y1) j1 (y2) j2) gm_933 gm_931 gm_932 gm_131 (by decide +kernel) ⟨rfl, rfl, Nat.le_of_ble_eq_true rfl, Nat.le_of_ble_eq_true rfl⟩ rfl hl.1 rfl (Nat.le_of_ble_eq_true rfl) dJ7_fill_fda19_4 ⟨Nat.zero_le _, Nat.zero_le _⟩ (fun H locs hH hS hF1 => ?_)
    refine lv_iload_n hx hb dJ7_fill_fda19_7 rfl (lv_at hl 1 rfl) ?_
    refine lv_istore (lv' := [(4, .int y1), (0, .ref a0), (1, .int y1), (2, .int y2), (3, .int y3)]) hx hb dJ7_fill_fda19_8 hl (by decide) rfl (fun ls hl => ?_)
    exact J10 ((17 + 1 - Int32.toInt y1).toNat + 1) H locs ls y1 (iv_w j1 (by decide)) hH hS (lv_sub hl [1, 3, 4, 0] rfl) (Nat.lt_succ_self _)
  exact J0 s.heap [] ls hH va_S.rf hl

set_option maxRecDepth 100000 in
theorem m_X0_turnYear (l : Launch) (D : va_G) (cT : Nat → ClassId) (T : Nat → Option Nat) (q : Nat → Int) (hq : qok q) (a0 : Nat) (t0 : T a0 = some 4) (a1 : Nat) (t1 : T a1 = some 10) : th_Met l D cT T (kd q) yX0_turnYear cX0_turnYear 3 none (rmk 2 46) [.ref a0, .ref a1] (th_R T none) [29] := by
  refine th_start (by decide) (Nat.le_of_ble_eq_true rfl) ?_
  intro p e s m below meth c ls S hK hH hr hlocks hnm hl
  have hx := S.1
  have hb := S.2.1
  have hl : lv_has ls 3 [(0, .ref a0), (1, .ref a1)] := hl
  have J0 : ∀ (H : Heap) (locs : List Loc) (ls : Array Slot), th_H D cT T (kd q) H → va_S (th_A T [29]) s.heap H locs → lv_has ls 3 [(0, .ref a0), (1, .ref a1)] → W p l e (rmk 2 46) s m [.ref a0, .ref a1].toArray below meth c H locs 0 0 (MQ below (th_Q D cT T (kd q) (th_R T none) [29]) [.ref a0, .ref a1].toArray s 0 0 (th_A T [29])) (F0 m 0 ls []) := by
    intro H locs ls hH hS hl
    refine lv_aload_n hx hb dX0_turnYear_0 rfl (lv_at hl 1 rfl) ?_
    refine th_get S hK hH inG7 t1 kd_10 rfl 0 (by decide) gm_226 rfl rfl dX0_turnYear_1 (fun v1 hv1 fv1 => ?_)
    obtain ⟨rf2, rfl, trf2⟩ := th_V.ref hv1
    refine lv_astore_n (lv' := [(2, .ref rf2), (0, .ref a0), (1, .ref a1)]) hx hb dX0_turnYear_4 rfl hl (by decide) rfl (fun ls hl => ?_)
    refine lv_aload_n hx hb dX0_turnYear_5 rfl (lv_at hl 0 rfl) ?_
    refine lv_iconst (v := 3) hx hb dX0_turnYear_6 (by decide) ?_
    refine lv_bipush (v := 15) hx hb dX0_turnYear_7 (by decide) ?_
    refine lv_iconst (v := 0) hx hb dX0_turnYear_9 (by decide) ?_
    refine th_callSv (n := 4) (As := [.ref rf2, .int 3, .int 15, .int 0]) S hK hH hS (th_A.sub (by decide)) (m_J7_fill_fda19 l D cT T q hq rf2 trf2 (3) (iv_c (by decide) : IV 3 3 3) (15) (iv_c (by decide) : IV 15 15 15) (0) (iv_top _)) gm_930 gm_928 gm_929 gm_131 (by decide +kernel) ⟨rfl, rfl, Nat.le_of_ble_eq_true rfl, Nat.le_of_ble_eq_true rfl⟩ rfl hl.1 rfl (Nat.le_of_ble_eq_true rfl) dX0_turnYear_10 ⟨Nat.zero_le _, Nat.zero_le _⟩ (fun H locs hH hS hF1 => ?_)
    refine lv_aload_n hx hb dX0_turnYear_13 rfl (lv_at hl 0 rfl) ?_
    refine lv_bipush (v := 42) hx hb dX0_turnYear_14 (by decide) ?_
    refine lv_aload_n hx hb dX0_turnYear_16 rfl (lv_at hl 0 rfl) ?_
    refine lv_bipush (v := 42) hx hb dX0_turnYear_17 (by decide) ?_
    refine th_iald S hK hH trf2 kd_29 (th_in (hi := 42) (iv_w (iv_c (by decide) : IV 42 42 42) (by decide)) (by decide)) dX0_turnYear_19 (fun v3 hv3 => ?_)
    obtain ⟨x4, rfl, ix4⟩ := th_V.int hv3
    refine lv_sipush (v := 137) hx hb dX0_turnYear_20 (by decide) ?_
    refine lv_imul hx hb dX0_turnYear_23 ?_
    refine lv_topi (fun x5 ex5 => ?_)
    have ix5 := iv_top x5
    refine lv_bipush (v := 71) hx hb dX0_turnYear_24 (by decide) ?_
    refine lv_iadd hx hb dX0_turnYear_26 ?_
    refine lv_topi (fun x6 ex6 => ?_)
    have ix6 := iv_top x6
    refine lv_sipush (v := 1000) hx hb dX0_turnYear_27 (by decide) ?_
    refine lv_irem hx hb dX0_turnYear_30 (iv_n0 (iv_c (by decide) : IV 1000 1000 1000) (by decide)) ?_
    refine lv_topi (fun x7 ex7 => ?_)
    have ix7 : IV x7 (-999) 999 := by rw [ex7]; exact iv_rmS (iv_c (by decide) : IV 1000 1000 1000) (by decide)
    refine th_iast S hK hH hS ⟨29, by decide, trf2⟩ trf2 kd_29 (th_in (hi := 42) (iv_w (iv_c (by decide) : IV 42 42 42) (by decide)) (by decide)) (th_iv (iv_top _)) dX0_turnYear_31 (fun H locs hH hS hq1 => ?_)
    refine lv_aload_n hx hb dX0_turnYear_32 rfl (lv_at hl 0 rfl) ?_
    refine lv_bipush (v := 41) hx hb dX0_turnYear_33 (by decide) ?_
    refine lv_aload_n hx hb dX0_turnYear_35 rfl (lv_at hl 0 rfl) ?_
    refine lv_bipush (v := 42) hx hb dX0_turnYear_36 (by decide) ?_
    refine th_iald S hK hH trf2 kd_29 (th_in (hi := 42) (iv_w (iv_c (by decide) : IV 42 42 42) (by decide)) (by decide)) dX0_turnYear_38 (fun v8 hv8 => ?_)
    obtain ⟨x9, rfl, ix9⟩ := th_V.int hv8
    refine lv_bipush (v := 10) hx hb dX0_turnYear_39 (by decide) ?_
    refine lv_idiv hx hb dX0_turnYear_41 (iv_n0 (iv_c (by decide) : IV 10 10 10) (by decide)) ?_
    refine lv_topi (fun x10 ex10 => ?_)
    have ix10 := iv_top x10
    refine lv_iconst (v := 2) hx hb dX0_turnYear_42 (by decide) ?_
    refine lv_irem hx hb dX0_turnYear_43 (iv_n0 (iv_c (by decide) : IV 2 2 2) (by decide)) ?_
    refine lv_topi (fun x11 ex11 => ?_)
    have ix11 : IV x11 (-1) 1 := by rw [ex11]; exact iv_rmS (iv_c (by decide) : IV 2 2 2) (by decide)
    refine th_iast S hK hH hS ⟨29, by decide, trf2⟩ trf2 kd_29 (th_in (hi := 41) (iv_w (iv_c (by decide) : IV 41 41 41) (by decide)) (by decide)) (th_iv (iv_top _)) dX0_turnYear_44 (fun H locs hH hS hq1 => ?_)
    refine lv_aload_n hx hb dX0_turnYear_45 rfl (lv_at hl 0 rfl) ?_
    refine lv_bipush (v := 40) hx hb dX0_turnYear_46 (by decide) ?_
    refine lv_dup2_11 hx hb dX0_turnYear_48 rfl rfl ?_
    refine th_iald S hK hH trf2 kd_29 (th_in (hi := 40) (iv_w (iv_c (by decide) : IV 40 40 40) (by decide)) (by decide)) dX0_turnYear_49 (fun v12 hv12 => ?_)
    obtain ⟨x13, rfl, ix13⟩ := th_V.int hv12
    refine lv_iconst (v := 1) hx hb dX0_turnYear_50 (by decide) ?_
    refine lv_iadd hx hb dX0_turnYear_51 ?_
    refine lv_topi (fun x14 ex14 => ?_)
    have ix14 := iv_top x14
    refine th_iast S hK hH hS ⟨29, by decide, trf2⟩ trf2 kd_29 (th_in (hi := 40) (iv_w (iv_c (by decide) : IV 40 40 40) (by decide)) (by decide)) (th_iv ix14) dX0_turnYear_52 (fun H locs hH hS hq1 => ?_)
    exact th_vret S hK hH hS hr hlocks rfl dX0_turnYear_53
  exact J0 s.heap [] ls hH va_S.rf hl

set_option maxRecDepth 100000 in
theorem m_X0_passYear (l : Launch) (D : va_G) (cT : Nat → ClassId) (T : Nat → Option Nat) (q : Nat → Int) (hq : qok q) (a0 : Nat) (t0 : T a0 = some 4) (a1 : Nat) (t1 : T a1 = some 10) : th_Met l D cT T (kd q) yX0_passYear cX0_passYear 3 none (rmk 4 104) [.ref a0, .ref a1] (th_R T none) [18, 19, 29] := by
  refine th_start (by decide) (Nat.le_of_ble_eq_true rfl) ?_
  intro p e s m below meth c ls S hK hH hr hlocks hnm hl
  have hx := S.1
  have hb := S.2.1
  have hl : lv_has ls 3 [(0, .ref a0), (1, .ref a1)] := hl
  have J2 : ∀ (n : Nat) (H : Heap) (locs : List Loc) (ls : Array Slot) (v2_2 : Int32), IV v2_2 0 4 → th_H D cT T (kd q) H → va_S (th_A T [18, 19, 29]) s.heap H locs → lv_has ls 3 [(0, .ref a0), (1, .ref a1), (2, .int v2_2)] → (4 + 1 - v2_2.toInt).toNat < n → W p l e (rmk 4 104) s m [.ref a0, .ref a1].toArray below meth c H locs 0 0 (MQ below (th_Q D cT T (kd q) (th_R T none) [18, 19, 29]) [.ref a0, .ref a1].toArray s 0 0 (th_A T [18, 19, 29])) (F0 m 2 ls []) := by
    intro n
    induction n with
    | zero => intro H locs ls v2_2 iv2_2 hH hS hl hn; exact absurd hn (Nat.not_lt_zero _)
    | succ n ih2 =>
      intro H locs ls v2_2 iv2_2 hH hS hl hn2
      refine lv_iload_n hx hb dX0_passYear_2 rfl (lv_at hl 2 rfl) ?_
      refine lv_aload_n hx hb dX0_passYear_3 rfl (lv_at hl 0 rfl) ?_
      refine th_get S hK hH inG0 t0 kd_4 rfl 0 (by decide) gm_369 rfl rfl dX0_passYear_4 (fun v1 hv1 fv1 => ?_)
      obtain ⟨rf2, rfl, trf2⟩ := th_V.ref hv1
      refine th_get S hK hH inG4 trf2 kd_3 rfl 12 (by decide) gm_279 rfl rfl dX0_passYear_7 (fun v3 hv3 fv3 => ?_)
      obtain ⟨x4, rfl, ix4⟩ := th_V.int hv3
      refine lv_icmp_ge (tgt := 31) hx hb dX0_passYear_10 (by decide) (fun c5 => ?_) (fun c5 => ?_)
      · skip
        refine lv_aload_n hx hb dX0_passYear_31 rfl (lv_at hl 0 rfl) ?_
        refine lv_aload_n hx hb dX0_passYear_32 rfl (lv_at hl 1 rfl) ?_
        refine th_callVv (n := 1) (As := [.ref a1]) S hK hH hS (th_A.sub (by decide)) (m_X0_turnYear l D cT T q hq a0 t0 a1 t1) gm_927 gm_924 gm_926 gm_29 gm_119 (by decide +kernel) ⟨rfl, rfl, Nat.le_of_ble_eq_true rfl, Nat.le_of_ble_eq_true rfl⟩ t0 kd_4 rfl rfl hl.1 rfl (Nat.le_of_ble_eq_true rfl) dX0_passYear_33 ⟨Nat.zero_le _, Nat.zero_le _⟩ (fun H locs hH hS hF1 => ?_)
        exact th_vret S hK hH hS hr hlocks rfl dX0_passYear_36
      · skip
        have ir6 : IV v2_2 0 3 := iv_uL iv2_2 ix4 (iv_nle c5) (by decide)
        have ir7 : IV x4 1 4 := iv_uR iv2_2 ix4 (iv_nle c5) (by decide)
        refine lv_aload_n hx hb dX0_passYear_13 rfl (lv_at hl 0 rfl) ?_
        refine lv_aload_n hx hb dX0_passYear_14 rfl (lv_at hl 1 rfl) ?_
        refine lv_iload_n hx hb dX0_passYear_15 rfl (lv_at hl 2 rfl) ?_
        refine lv_aload_n hx hb dX0_passYear_16 rfl (lv_at hl 0 rfl) ?_
        refine lv_aload_n hx hb dX0_passYear_17 rfl (lv_at hl 1 rfl) ?_
        refine lv_iload_n hx hb dX0_passYear_18 rfl (lv_at hl 2 rfl) ?_
        refine th_callVi (n := 2) (As := [.ref a1, .int v2_2]) S hK hH hS (th_A.sub (by decide)) (m_X0_hungerOf l D cT T q hq a0 t0 a1 t1 (v2_2) ir6) gm_840 gm_909 gm_838 gm_839 gm_119 (by decide +kernel) ⟨rfl, rfl, Nat.le_of_ble_eq_true rfl, Nat.le_of_ble_eq_true rfl⟩ t0 kd_4 rfl rfl hl.1 rfl (Nat.le_of_ble_eq_true rfl) dX0_passYear_19 ⟨Nat.zero_le _, Nat.zero_le _⟩ (fun x8 H locs ix8 hH hS hF1 => ?_)
        refine th_callVv (n := 3) (As := [.ref a1, .int v2_2, .int x8]) S hK hH hS (th_A.sub (by decide)) (m_X0_eat l D cT T q hq a0 t0 a1 t1 (v2_2) ir6 (x8) (iv_top _)) gm_913 gm_910 gm_911 gm_912 gm_119 (by decide +kernel) ⟨rfl, rfl, Nat.le_of_ble_eq_true rfl, Nat.le_of_ble_eq_true rfl⟩ t0 kd_4 rfl rfl hl.1 rfl (Nat.le_of_ble_eq_true rfl) dX0_passYear_22 ⟨Nat.zero_le _, Nat.zero_le _⟩ (fun H locs hH hS hF1 => ?_)
        refine th_iinc S dX0_passYear_25 hl (k := 2) rfl (by decide) ir6 (by decide) (fun x9 ls ex9 ix9 hl => ?_)
        have hl : lv_has ls 3 [(2, .int x9), (0, .ref a0), (1, .ref a1)] := hl
        have ix9 : IV x9 1 4 := ix9
        refine lv_goto (tgt := 2) hx hb dX0_passYear_28 (by decide) ?_
        exact ih2 H locs ls x9 (iv_w ix9 (by decide)) hH hS (lv_sub hl [1, 2, 0] rfl) (th_up iv2_2 ex9 (by decide) hn2)
  have J0 : ∀ (H : Heap) (locs : List Loc) (ls : Array Slot), th_H D cT T (kd q) H → va_S (th_A T [18, 19, 29]) s.heap H locs → lv_has ls 3 [(0, .ref a0), (1, .ref a1)] → W p l e (rmk 4 104) s m [.ref a0, .ref a1].toArray below meth c H locs 0 0 (MQ below (th_Q D cT T (kd q) (th_R T none) [18, 19, 29]) [.ref a0, .ref a1].toArray s 0 0 (th_A T [18, 19, 29])) (F0 m 0 ls []) := by
    intro H locs ls hH hS hl
    refine lv_iconst (v := 0) hx hb dX0_passYear_0 (by decide) ?_
    refine lv_istore_n (lv' := [(2, .int 0), (0, .ref a0), (1, .ref a1)]) hx hb dX0_passYear_1 rfl hl (by decide) rfl (fun ls hl => ?_)
    exact J2 ((4 + 1 - Int32.toInt 0).toNat + 1) H locs ls 0 (iv_w (iv_c (by decide) : IV 0 0 0) (by decide)) hH hS (lv_sub hl [1, 2, 0] rfl) (Nat.lt_succ_self _)
  exact J0 s.heap [] ls hH va_S.rf hl

set_option maxRecDepth 100000 in
theorem m_X0_smaller (l : Launch) (D : va_G) (cT : Nat → ClassId) (T : Nat → Option Nat) (q : Nat → Int) (hq : qok q) (a0 : Nat) (t0 : T a0 = some 4) (a1 : Nat) (t1 : T a1 = some 10) (a2 : Nat) (t2 : T a2 = some 10) : th_Met l D cT T (kd q) yX0_smaller cX0_smaller 5 (some .int) (rmk 0 0) [.ref a0, .ref a1, .ref a2] (th_R T (some (.inl (-2147483648, 2147483647)))) [] := by
  refine th_start (by decide) (Nat.le_of_ble_eq_true rfl) ?_
  intro p e s m below meth c ls S hK hH hr hlocks hnm hl
  have hx := S.1
  have hb := S.2.1
  have hl : lv_has ls 5 [(0, .ref a0), (1, .ref a1), (2, .ref a2)] := hl
  have J5 : ∀ (n : Nat) (H : Heap) (locs : List Loc) (ls : Array Slot) (v5_3 : Int32) (v5_4 : Int32), IV v5_3 (-2147483648) 2147483647 → IV v5_4 0 8 → th_H D cT T (kd q) H → va_S (th_A T []) s.heap H locs → lv_has ls 5 [(0, .ref a0), (1, .ref a1), (2, .ref a2), (3, .int v5_3), (4, .int v5_4)] → (8 + 1 - v5_4.toInt).toNat < n → W p l e (rmk 0 0) s m [.ref a0, .ref a1, .ref a2].toArray below meth c H locs 0 0 (MQ below (th_Q D cT T (kd q) (th_R T (some (.inl (-2147483648, 2147483647)))) []) [.ref a0, .ref a1, .ref a2].toArray s 0 0 (th_A T [])) (F0 m 5 ls []) := by
    intro n
    induction n with
    | zero => intro H locs ls v5_3 v5_4 iv5_3 iv5_4 hH hS hl hn; exact absurd hn (Nat.not_lt_zero _)
    | succ n ih5 =>
      intro H locs ls v5_3 v5_4 iv5_3 iv5_4 hH hS hl hn5
      have J47 : ∀ (H : Heap) (locs : List Loc) (ls : Array Slot) (v47_3 : Int32), IV v47_3 (-2147483648) 2147483647 → IV v5_4 0 7 → th_H D cT T (kd q) H → va_S (th_A T []) s.heap H locs → lv_has ls 5 [(0, .ref a0), (1, .ref a1), (2, .ref a2), (3, .int v47_3), (4, .int v5_4)] → W p l e (rmk 0 0) s m [.ref a0, .ref a1, .ref a2].toArray below meth c H locs 0 0 (MQ below (th_Q D cT T (kd q) (th_R T (some (.inl (-2147483648, 2147483647)))) []) [.ref a0, .ref a1, .ref a2].toArray s 0 0 (th_A T [])) (F0 m 47 ls []) := by
        intro H locs ls v47_3 iv47_3 f47_v5_4 hH hS hl
        refine th_iinc S dX0_smaller_47 hl (k := 4) rfl (by decide) f47_v5_4 (by decide) (fun x1 ls ex1 ix1 hl => ?_)
        have hl : lv_has ls 5 [(4, .int x1), (0, .ref a0), (1, .ref a1), (2, .ref a2), (3, .int v47_3)] := hl
        have ix1 : IV x1 1 8 := ix1
        refine lv_goto (tgt := 5) hx hb dX0_smaller_50 (by decide) ?_
        exact ih5 H locs ls v47_3 x1 iv47_3 (iv_w ix1 (by decide)) hH hS (lv_sub hl [1, 2, 3, 4, 0] rfl) (th_up iv5_4 ex1 (by decide) hn5)
      refine lv_iload hx hb dX0_smaller_5 (lv_at hl 4 rfl) ?_
      refine lv_aload_n hx hb dX0_smaller_7 rfl (lv_at hl 0 rfl) ?_
      refine th_get S hK hH inG0 t0 kd_4 rfl 0 (by decide) gm_369 rfl rfl dX0_smaller_8 (fun v2 hv2 fv2 => ?_)
      obtain ⟨rf3, rfl, trf3⟩ := th_V.ref hv2
      refine th_get S hK hH inG4 trf3 kd_3 rfl 13 (by decide) gm_286 rfl rfl dX0_smaller_11 (fun v4 hv4 fv4 => ?_)
      obtain ⟨x5, rfl, ix5⟩ := th_V.int hv4
      refine lv_icmp_ge (tgt := 53) hx hb dX0_smaller_14 (by decide) (fun c6 => ?_) (fun c6 => ?_)
      · skip
        refine lv_iload_n hx hb dX0_smaller_53 rfl (lv_at hl 3 rfl) ?_
        exact th_iret S hK hH hS hr hlocks (th_R.i iv5_3) dX0_smaller_54
      · skip
        have ir7 : IV v5_4 0 7 := iv_uL iv5_4 ix5 (iv_nle c6) (by decide)
        have ir8 : IV x5 1 8 := iv_uR iv5_4 ix5 (iv_nle c6) (by decide)
        refine lv_aload_n hx hb dX0_smaller_17 rfl (lv_at hl 2 rfl) ?_
        refine th_get S hK hH inG7 t2 kd_10 rfl 0 (by decide) gm_226 rfl rfl dX0_smaller_18 (fun v9 hv9 fv9 => ?_)
        obtain ⟨rf10, rfl, trf10⟩ := th_V.ref hv9
        refine lv_bipush (v := 15) hx hb dX0_smaller_21 (by decide) ?_
        refine lv_iload hx hb dX0_smaller_23 (lv_at hl 4 rfl) ?_
        refine lv_iadd hx hb dX0_smaller_25 ?_
        refine lv_topi (fun x11 ex11 => ?_)
        have ix11 : IV x11 15 22 := by rw [ex11]; exact iv_add (iv_c (by decide) : IV 15 15 15) ir7 (by decide)
        refine th_iald S hK hH trf10 kd_29 (th_in (hi := 22) (iv_w ix11 (by decide)) (by decide)) dX0_smaller_26 (fun v12 hv12 => ?_)
        obtain ⟨x13, rfl, ix13⟩ := th_V.int hv12
        refine lv_aload_n hx hb dX0_smaller_27 rfl (lv_at hl 1 rfl) ?_
        refine th_get S hK hH inG7 t1 kd_10 rfl 0 (by decide) gm_226 rfl rfl dX0_smaller_28 (fun v14 hv14 fv14 => ?_)
        obtain ⟨rf15, rfl, trf15⟩ := th_V.ref hv14
        refine lv_bipush (v := 15) hx hb dX0_smaller_31 (by decide) ?_
        refine lv_iload hx hb dX0_smaller_33 (lv_at hl 4 rfl) ?_
        refine lv_iadd hx hb dX0_smaller_35 ?_
        refine lv_topi (fun x16 ex16 => ?_)
        have zx16 : x11 = x16 := ex11.trans ex16.symm
        subst zx16
        refine th_iald S hK hH trf15 kd_29 (th_in (hi := 22) (iv_w ix11 (by decide)) (by decide)) dX0_smaller_36 (fun v17 hv17 => ?_)
        obtain ⟨x18, rfl, ix18⟩ := th_V.int hv17
        refine lv_icmp_ge (tgt := 47) hx hb dX0_smaller_37 (by decide) (fun c19 => ?_) (fun c19 => ?_)
        · skip
          exact J47 H locs ls v5_3 iv5_3 ir7 hH hS (lv_sub hl [0, 1, 2, 3, 4] rfl)
        · skip
          have ir20 : IV x13 (-2147483648) 2147483646 := iv_uL ix13 ix18 (iv_nle c19) (by decide)
          have ir21 : IV x18 (-2147483647) 2147483647 := iv_uR ix13 ix18 (iv_nle c19) (by decide)
          refine lv_iload_n hx hb dX0_smaller_40 rfl (lv_at hl 3 rfl) ?_
          refine lv_iconst (v := 1) hx hb dX0_smaller_41 (by decide) ?_
          refine lv_iload hx hb dX0_smaller_42 (lv_at hl 4 rfl) ?_
          refine lv_ishl hx hb dX0_smaller_44 ?_
          refine lv_topi (fun x22 ex22 => ?_)
          have ix22 := iv_top x22
          refine lv_ior hx hb dX0_smaller_45 ?_
          refine lv_topi (fun x23 ex23 => ?_)
          have ix23 := iv_top x23
          refine lv_istore_n (lv' := [(3, .int x23), (0, .ref a0), (1, .ref a1), (2, .ref a2), (4, .int v5_4)]) hx hb dX0_smaller_46 rfl hl (by decide) rfl (fun ls hl => ?_)
          exact J47 H locs ls x23 ix23 ir7 hH hS (lv_sub hl [1, 2, 3, 0, 4] rfl)
  have J0 : ∀ (H : Heap) (locs : List Loc) (ls : Array Slot), th_H D cT T (kd q) H → va_S (th_A T []) s.heap H locs → lv_has ls 5 [(0, .ref a0), (1, .ref a1), (2, .ref a2)] → W p l e (rmk 0 0) s m [.ref a0, .ref a1, .ref a2].toArray below meth c H locs 0 0 (MQ below (th_Q D cT T (kd q) (th_R T (some (.inl (-2147483648, 2147483647)))) []) [.ref a0, .ref a1, .ref a2].toArray s 0 0 (th_A T [])) (F0 m 0 ls []) := by
    intro H locs ls hH hS hl
    refine lv_iconst (v := 0) hx hb dX0_smaller_0 (by decide) ?_
    refine lv_istore_n (lv' := [(3, .int 0), (0, .ref a0), (1, .ref a1), (2, .ref a2)]) hx hb dX0_smaller_1 rfl hl (by decide) rfl (fun ls hl => ?_)
    refine lv_iconst (v := 0) hx hb dX0_smaller_2 (by decide) ?_
    refine lv_istore (lv' := [(4, .int 0), (3, .int 0), (0, .ref a0), (1, .ref a1), (2, .ref a2)]) hx hb dX0_smaller_3 hl (by decide) rfl (fun ls hl => ?_)
    exact J5 ((8 + 1 - Int32.toInt 0).toNat + 1) H locs ls 0 0 (iv_top _) (iv_w (iv_c (by decide) : IV 0 0 0) (by decide)) hH hS (lv_sub hl [2, 3, 4, 1, 0] rfl) (Nat.lt_succ_self _)
  exact J0 s.heap [] ls hH va_S.rf hl

set_option maxRecDepth 100000 in
theorem m_X0_goneIn (l : Launch) (D : va_G) (cT : Nat → ClassId) (T : Nat → Option Nat) (q : Nat → Int) (hq : qok q) (a0 : Nat) (t0 : T a0 = some 4) (a1 : Nat) (t1 : T a1 = some 10) : th_Met l D cT T (kd q) yX0_goneIn cX0_goneIn 4 (some .int) (rmk 0 0) [.ref a0, .ref a1] (th_R T (some (.inl (-2147483648, 2147483647)))) [] := by
  refine th_start (by decide) (Nat.le_of_ble_eq_true rfl) ?_
  intro p e s m below meth c ls S hK hH hr hlocks hnm hl
  have hx := S.1
  have hb := S.2.1
  have hl : lv_has ls 4 [(0, .ref a0), (1, .ref a1)] := hl
  have J4 : ∀ (n : Nat) (H : Heap) (locs : List Loc) (ls : Array Slot) (v4_2 : Int32) (v4_3 : Int32), IV v4_2 (-2147483648) 2147483647 → IV v4_3 0 8 → th_H D cT T (kd q) H → va_S (th_A T []) s.heap H locs → lv_has ls 4 [(0, .ref a0), (1, .ref a1), (2, .int v4_2), (3, .int v4_3)] → (8 + 1 - v4_3.toInt).toNat < n → W p l e (rmk 0 0) s m [.ref a0, .ref a1].toArray below meth c H locs 0 0 (MQ below (th_Q D cT T (kd q) (th_R T (some (.inl (-2147483648, 2147483647)))) []) [.ref a0, .ref a1].toArray s 0 0 (th_A T [])) (F0 m 4 ls []) := by
    intro n
    induction n with
    | zero => intro H locs ls v4_2 v4_3 iv4_2 iv4_3 hH hS hl hn; exact absurd hn (Nat.not_lt_zero _)
    | succ n ih4 =>
      intro H locs ls v4_2 v4_3 iv4_2 iv4_3 hH hS hl hn4
      have J33 : ∀ (H : Heap) (locs : List Loc) (ls : Array Slot) (v33_2 : Int32), IV v33_2 (-2147483648) 2147483647 → IV v4_3 0 7 → th_H D cT T (kd q) H → va_S (th_A T []) s.heap H locs → lv_has ls 4 [(0, .ref a0), (1, .ref a1), (2, .int v33_2), (3, .int v4_3)] → W p l e (rmk 0 0) s m [.ref a0, .ref a1].toArray below meth c H locs 0 0 (MQ below (th_Q D cT T (kd q) (th_R T (some (.inl (-2147483648, 2147483647)))) []) [.ref a0, .ref a1].toArray s 0 0 (th_A T [])) (F0 m 33 ls []) := by
        intro H locs ls v33_2 iv33_2 f33_v4_3 hH hS hl
        refine th_iinc S dX0_goneIn_33 hl (k := 3) rfl (by decide) f33_v4_3 (by decide) (fun x1 ls ex1 ix1 hl => ?_)
        have hl : lv_has ls 4 [(3, .int x1), (0, .ref a0), (1, .ref a1), (2, .int v33_2)] := hl
        have ix1 : IV x1 1 8 := ix1
        refine lv_goto (tgt := 4) hx hb dX0_goneIn_36 (by decide) ?_
        exact ih4 H locs ls v33_2 x1 iv33_2 (iv_w ix1 (by decide)) hH hS (lv_sub hl [1, 2, 3, 0] rfl) (th_up iv4_3 ex1 (by decide) hn4)
      refine lv_iload_n hx hb dX0_goneIn_4 rfl (lv_at hl 3 rfl) ?_
      refine lv_aload_n hx hb dX0_goneIn_5 rfl (lv_at hl 0 rfl) ?_
      refine th_get S hK hH inG0 t0 kd_4 rfl 0 (by decide) gm_369 rfl rfl dX0_goneIn_6 (fun v2 hv2 fv2 => ?_)
      obtain ⟨rf3, rfl, trf3⟩ := th_V.ref hv2
      refine th_get S hK hH inG4 trf3 kd_3 rfl 13 (by decide) gm_286 rfl rfl dX0_goneIn_9 (fun v4 hv4 fv4 => ?_)
      obtain ⟨x5, rfl, ix5⟩ := th_V.int hv4
      refine lv_icmp_ge (tgt := 39) hx hb dX0_goneIn_12 (by decide) (fun c6 => ?_) (fun c6 => ?_)
      · skip
        refine lv_iload_n hx hb dX0_goneIn_39 rfl (lv_at hl 2 rfl) ?_
        exact th_iret S hK hH hS hr hlocks (th_R.i iv4_2) dX0_goneIn_40
      · skip
        have ir7 : IV v4_3 0 7 := iv_uL iv4_3 ix5 (iv_nle c6) (by decide)
        have ir8 : IV x5 1 8 := iv_uR iv4_3 ix5 (iv_nle c6) (by decide)
        refine lv_aload_n hx hb dX0_goneIn_15 rfl (lv_at hl 1 rfl) ?_
        refine th_get S hK hH inG7 t1 kd_10 rfl 0 (by decide) gm_226 rfl rfl dX0_goneIn_16 (fun v9 hv9 fv9 => ?_)
        obtain ⟨rf10, rfl, trf10⟩ := th_V.ref hv9
        refine lv_bipush (v := 15) hx hb dX0_goneIn_19 (by decide) ?_
        refine lv_iload_n hx hb dX0_goneIn_21 rfl (lv_at hl 3 rfl) ?_
        refine lv_iadd hx hb dX0_goneIn_22 ?_
        refine lv_topi (fun x11 ex11 => ?_)
        have ix11 : IV x11 15 22 := by rw [ex11]; exact iv_add (iv_c (by decide) : IV 15 15 15) ir7 (by decide)
        refine th_iald S hK hH trf10 kd_29 (th_in (hi := 22) (iv_w ix11 (by decide)) (by decide)) dX0_goneIn_23 (fun v12 hv12 => ?_)
        obtain ⟨x13, rfl, ix13⟩ := th_V.int hv12
        refine lv_if_gt (tgt := 33) hx hb dX0_goneIn_24 (by decide) (fun c14 => ?_) (fun c14 => ?_)
        · skip
          have ir15 : IV x13 1 2147483647 := iv_uR (iv_c (by decide) : IV 0 0 0) ix13 (iv_lt c14) (by decide)
          exact J33 H locs ls v4_2 iv4_2 ir7 hH hS (lv_sub hl [0, 1, 2, 3] rfl)
        · skip
          have ir16 : IV x13 (-2147483648) 0 := iv_vL ix13 (iv_c (by decide) : IV 0 0 0) (iv_nlt c14) (by decide)
          refine lv_iload_n hx hb dX0_goneIn_27 rfl (lv_at hl 2 rfl) ?_
          refine lv_iconst (v := 1) hx hb dX0_goneIn_28 (by decide) ?_
          refine lv_iload_n hx hb dX0_goneIn_29 rfl (lv_at hl 3 rfl) ?_
          refine lv_ishl hx hb dX0_goneIn_30 ?_
          refine lv_topi (fun x17 ex17 => ?_)
          have ix17 := iv_top x17
          refine lv_ior hx hb dX0_goneIn_31 ?_
          refine lv_topi (fun x18 ex18 => ?_)
          have ix18 := iv_top x18
          refine lv_istore_n (lv' := [(2, .int x18), (0, .ref a0), (1, .ref a1), (3, .int v4_3)]) hx hb dX0_goneIn_32 rfl hl (by decide) rfl (fun ls hl => ?_)
          exact J33 H locs ls x18 ix18 ir7 hH hS (lv_sub hl [1, 2, 0, 3] rfl)
  have J0 : ∀ (H : Heap) (locs : List Loc) (ls : Array Slot), th_H D cT T (kd q) H → va_S (th_A T []) s.heap H locs → lv_has ls 4 [(0, .ref a0), (1, .ref a1)] → W p l e (rmk 0 0) s m [.ref a0, .ref a1].toArray below meth c H locs 0 0 (MQ below (th_Q D cT T (kd q) (th_R T (some (.inl (-2147483648, 2147483647)))) []) [.ref a0, .ref a1].toArray s 0 0 (th_A T [])) (F0 m 0 ls []) := by
    intro H locs ls hH hS hl
    refine lv_iconst (v := 0) hx hb dX0_goneIn_0 (by decide) ?_
    refine lv_istore_n (lv' := [(2, .int 0), (0, .ref a0), (1, .ref a1)]) hx hb dX0_goneIn_1 rfl hl (by decide) rfl (fun ls hl => ?_)
    refine lv_iconst (v := 0) hx hb dX0_goneIn_2 (by decide) ?_
    refine lv_istore_n (lv' := [(3, .int 0), (2, .int 0), (0, .ref a0), (1, .ref a1)]) hx hb dX0_goneIn_3 rfl hl (by decide) rfl (fun ls hl => ?_)
    exact J4 ((8 + 1 - Int32.toInt 0).toNat + 1) H locs ls 0 0 (iv_top _) (iv_w (iv_c (by decide) : IV 0 0 0) (by decide)) hH hS (lv_sub hl [2, 3, 1, 0] rfl) (Nat.lt_succ_self _)
  exact J0 s.heap [] ls hH va_S.rf hl

set_option maxRecDepth 100000 in
theorem m_X0_landIn (l : Launch) (D : va_G) (cT : Nat → ClassId) (T : Nat → Option Nat) (q : Nat → Int) (hq : qok q) (a0 : Nat) (t0 : T a0 = some 4) (a1 : Nat) (t1 : T a1 = some 10) : th_Met l D cT T (kd q) yX0_landIn cX0_landIn 4 (some .int) (rmk 0 0) [.ref a0, .ref a1] (th_R T (some (.inl (-2147483648, 2147483647)))) [] := by
  refine th_start (by decide) (Nat.le_of_ble_eq_true rfl) ?_
  intro p e s m below meth c ls S hK hH hr hlocks hnm hl
  have hx := S.1
  have hb := S.2.1
  have hl : lv_has ls 4 [(0, .ref a0), (1, .ref a1)] := hl
  have J4 : ∀ (n : Nat) (H : Heap) (locs : List Loc) (ls : Array Slot) (v4_2 : Int32) (v4_3 : Int32), IV v4_2 (-2147483648) 2147483647 → IV v4_3 0 8 → th_H D cT T (kd q) H → va_S (th_A T []) s.heap H locs → lv_has ls 4 [(0, .ref a0), (1, .ref a1), (2, .int v4_2), (3, .int v4_3)] → (8 + 1 - v4_3.toInt).toNat < n → W p l e (rmk 0 0) s m [.ref a0, .ref a1].toArray below meth c H locs 0 0 (MQ below (th_Q D cT T (kd q) (th_R T (some (.inl (-2147483648, 2147483647)))) []) [.ref a0, .ref a1].toArray s 0 0 (th_A T [])) (F0 m 4 ls []) := by
    intro n
    induction n with
    | zero => intro H locs ls v4_2 v4_3 iv4_2 iv4_3 hH hS hl hn; exact absurd hn (Nat.not_lt_zero _)
    | succ n ih4 =>
      intro H locs ls v4_2 v4_3 iv4_2 iv4_3 hH hS hl hn4
      refine lv_iload_n hx hb dX0_landIn_4 rfl (lv_at hl 3 rfl) ?_
      refine lv_aload_n hx hb dX0_landIn_5 rfl (lv_at hl 0 rfl) ?_
      refine th_get S hK hH inG0 t0 kd_4 rfl 0 (by decide) gm_369 rfl rfl dX0_landIn_6 (fun v1 hv1 fv1 => ?_)
      obtain ⟨rf2, rfl, trf2⟩ := th_V.ref hv1
      refine th_get S hK hH inG4 trf2 kd_3 rfl 13 (by decide) gm_286 rfl rfl dX0_landIn_9 (fun v3 hv3 fv3 => ?_)
      obtain ⟨x4, rfl, ix4⟩ := th_V.int hv3
      refine lv_icmp_ge (tgt := 43) hx hb dX0_landIn_12 (by decide) (fun c5 => ?_) (fun c5 => ?_)
      · skip
        refine lv_iload_n hx hb dX0_landIn_43 rfl (lv_at hl 2 rfl) ?_
        exact th_iret S hK hH hS hr hlocks (th_R.i iv4_2) dX0_landIn_44
      · skip
        have ir6 : IV v4_3 0 7 := iv_uL iv4_3 ix4 (iv_nle c5) (by decide)
        have ir7 : IV x4 1 8 := iv_uR iv4_3 ix4 (iv_nle c5) (by decide)
        refine lv_iload_n hx hb dX0_landIn_15 rfl (lv_at hl 2 rfl) ?_
        refine lv_aload_n hx hb dX0_landIn_16 rfl (lv_at hl 1 rfl) ?_
        refine th_get S hK hH inG7 t1 kd_10 rfl 0 (by decide) gm_226 rfl rfl dX0_landIn_17 (fun v8 hv8 fv8 => ?_)
        obtain ⟨rf9, rfl, trf9⟩ := th_V.ref hv8
        refine lv_bipush (v := 15) hx hb dX0_landIn_20 (by decide) ?_
        refine lv_iload_n hx hb dX0_landIn_22 rfl (lv_at hl 3 rfl) ?_
        refine lv_iadd hx hb dX0_landIn_23 ?_
        refine lv_topi (fun x10 ex10 => ?_)
        have ix10 : IV x10 15 22 := by rw [ex10]; exact iv_add (iv_c (by decide) : IV 15 15 15) ir6 (by decide)
        refine th_iald S hK hH trf9 kd_29 (th_in (hi := 22) (iv_w ix10 (by decide)) (by decide)) dX0_landIn_24 (fun v11 hv11 => ?_)
        obtain ⟨x12, rfl, ix12⟩ := th_V.int hv11
        refine lv_aload_n hx hb dX0_landIn_25 rfl (lv_at hl 0 rfl) ?_
        refine th_getK S hK fv1 inG0 rfl (by decide) gm_369 rfl dX0_landIn_26 ?_
        refine th_get S hK hH inG4 trf2 kd_3 rfl 4 (by decide) gm_246 rfl rfl dX0_landIn_29 (fun v14 hv14 fv14 => ?_)
        obtain ⟨rf15, rfl, trf15⟩ := th_V.ref hv14
        refine lv_iload_n hx hb dX0_landIn_32 rfl (lv_at hl 3 rfl) ?_
        refine th_iald S hK hH trf15 kd_24 (th_in (hi := 7) ir6 (by decide)) dX0_landIn_33 (fun v16 hv16 => ?_)
        obtain ⟨x17, rfl, ix17⟩ := th_V.int hv16
        refine lv_imul hx hb dX0_landIn_34 ?_
        refine lv_topi (fun x18 ex18 => ?_)
        have ix18 := iv_top x18
        refine lv_iadd hx hb dX0_landIn_35 ?_
        refine lv_topi (fun x19 ex19 => ?_)
        have ix19 := iv_top x19
        refine lv_istore_n (lv' := [(2, .int x19), (0, .ref a0), (1, .ref a1), (3, .int v4_3)]) hx hb dX0_landIn_36 rfl hl (by decide) rfl (fun ls hl => ?_)
        refine th_iinc S dX0_landIn_37 hl (k := 3) rfl (by decide) ir6 (by decide) (fun x20 ls ex20 ix20 hl => ?_)
        have hl : lv_has ls 4 [(3, .int x20), (2, .int x19), (0, .ref a0), (1, .ref a1)] := hl
        have ix20 : IV x20 1 8 := ix20
        refine lv_goto (tgt := 4) hx hb dX0_landIn_40 (by decide) ?_
        exact ih4 H locs ls x19 x20 ix19 (iv_w ix20 (by decide)) hH hS (lv_sub hl [2, 3, 1, 0] rfl) (th_up iv4_3 ex20 (by decide) hn4)
  have J0 : ∀ (H : Heap) (locs : List Loc) (ls : Array Slot), th_H D cT T (kd q) H → va_S (th_A T []) s.heap H locs → lv_has ls 4 [(0, .ref a0), (1, .ref a1)] → W p l e (rmk 0 0) s m [.ref a0, .ref a1].toArray below meth c H locs 0 0 (MQ below (th_Q D cT T (kd q) (th_R T (some (.inl (-2147483648, 2147483647)))) []) [.ref a0, .ref a1].toArray s 0 0 (th_A T [])) (F0 m 0 ls []) := by
    intro H locs ls hH hS hl
    refine lv_iconst (v := 0) hx hb dX0_landIn_0 (by decide) ?_
    refine lv_istore_n (lv' := [(2, .int 0), (0, .ref a0), (1, .ref a1)]) hx hb dX0_landIn_1 rfl hl (by decide) rfl (fun ls hl => ?_)
    refine lv_iconst (v := 0) hx hb dX0_landIn_2 (by decide) ?_
    refine lv_istore_n (lv' := [(3, .int 0), (2, .int 0), (0, .ref a0), (1, .ref a1)]) hx hb dX0_landIn_3 rfl hl (by decide) rfl (fun ls hl => ?_)
    exact J4 ((8 + 1 - Int32.toInt 0).toNat + 1) H locs ls 0 0 (iv_top _) (iv_w (iv_c (by decide) : IV 0 0 0) (by decide)) hH hS (lv_sub hl [2, 3, 1, 0] rfl) (Nat.lt_succ_self _)
  exact J0 s.heap [] ls hH va_S.rf hl

set_option maxRecDepth 100000 in
theorem m_X7_copyFrom (l : Launch) (D : va_G) (cT : Nat → ClassId) (T : Nat → Option Nat) (q : Nat → Int) (hq : qok q) (a0 : Nat) (t0 : T a0 = some 10) (a1 : Nat) (t1 : T a1 = some 10) : th_Met l D cT T (kd q) yX7_copyFrom cX7_copyFrom 2 none (rmk 1 60) [.ref a0, .ref a1] (th_R T none) [29] := by
  refine th_start (by decide) (Nat.le_of_ble_eq_true rfl) ?_
  intro p e s m below meth c ls S hK hH hr hlocks hnm hl
  have hx := S.1
  have hb := S.2.1
  have hl : lv_has ls 2 [(0, .ref a0), (1, .ref a1)] := hl
  have J0 : ∀ (H : Heap) (locs : List Loc) (ls : Array Slot), th_H D cT T (kd q) H → va_S (th_A T [29]) s.heap H locs → lv_has ls 2 [(0, .ref a0), (1, .ref a1)] → W p l e (rmk 1 60) s m [.ref a0, .ref a1].toArray below meth c H locs 0 0 (MQ below (th_Q D cT T (kd q) (th_R T none) [29]) [.ref a0, .ref a1].toArray s 0 0 (th_A T [29])) (F0 m 0 ls []) := by
    intro H locs ls hH hS hl
    refine lv_aload_n hx hb dX7_copyFrom_0 rfl (lv_at hl 1 rfl) ?_
    refine th_get S hK hH inG7 t1 kd_10 rfl 0 (by decide) gm_225 rfl rfl dX7_copyFrom_1 (fun v1 hv1 fv1 => ?_)
    obtain ⟨rf2, rfl, trf2⟩ := th_V.ref hv1
    refine lv_iconst (v := 0) hx hb dX7_copyFrom_4 (by decide) ?_
    refine lv_aload_n hx hb dX7_copyFrom_5 rfl (lv_at hl 0 rfl) ?_
    refine th_get S hK hH inG7 t0 kd_10 rfl 0 (by decide) gm_225 rfl rfl dX7_copyFrom_6 (fun v3 hv3 fv3 => ?_)
    obtain ⟨rf4, rfl, trf4⟩ := th_V.ref hv3
    refine lv_iconst (v := 0) hx hb dX7_copyFrom_9 (by decide) ?_
    refine lv_bipush (v := 43) hx hb dX7_copyFrom_10 (by decide) ?_
    refine th_copy S hK hH hS ⟨29, by decide, trf4⟩ gm_810 gm_812 gm_811 gm_133 trf2 kd_29 trf4 kd_29 (fun _ => ⟨_, rfl⟩) (fun _ _ _ h => h) (by decide) (by decide) (by decide) (by decide) (by decide) (Nat.le_of_ble_eq_true rfl) (Nat.le_of_ble_eq_true rfl) hl.1 dX7_copyFrom_12 (fun H locs hH hS hq1 => ?_)
    have f5 := fv1.kept (hq1 _ (th_ne t1 trf4 (by decide)))
    have f6 := fv3.kept (hq1 _ (th_ne t0 trf4 (by decide)))
    exact th_vret S hK hH hS hr hlocks rfl dX7_copyFrom_15
  exact J0 s.heap [] ls hH va_S.rf hl

set_option maxRecDepth 100000 in
theorem m_X1_after (l : Launch) (D : va_G) (cT : Nat → ClassId) (T : Nat → Option Nat) (q : Nat → Int) (hq : qok q) (a0 : Nat) (t0 : T a0 = some 6) (a1 : Nat) (t1 : T a1 = some 10) (y2 : Int32) (j2 : IV y2 0 40) : th_Met l D cT T (kd q) yX1_after cX1_after 5 (some (.object "HungryMaps$State")) (rmk 5 126) [.ref a0, .ref a1, .int y2] (th_R T (some (.inr 11))) [18, 19, 29] := by
  refine th_start (by decide) (Nat.le_of_ble_eq_true rfl) ?_
  intro p e s m below meth c ls S hK hH hr hlocks hnm hl
  have hx := S.1
  have hb := S.2.1
  have hl : lv_has ls 5 [(0, .ref a0), (1, .ref a1), (2, .int y2)] := hl
  have J15 : ∀ (n : Nat) (H : Heap) (locs : List Loc) (ls : Array Slot) (v15_3 : Nat) (v15_4 : Int32), T v15_3 = some 10 → IV v15_4 0 40 → th_H D cT T (kd q) H → va_S (th_A T [18, 19, 29]) s.heap H locs → lv_has ls 5 [(0, .ref a0), (2, .int y2), (3, .ref v15_3), (4, .int v15_4)] → (40 + 1 - v15_4.toInt).toNat < n → W p l e (rmk 5 126) s m [.ref a0, .ref a1, .int y2].toArray below meth c H locs 0 0 (MQ below (th_Q D cT T (kd q) (th_R T (some (.inr 11))) [18, 19, 29]) [.ref a0, .ref a1, .int y2].toArray s 0 0 (th_A T [18, 19, 29])) (F0 m 15 ls []) := by
    intro n
    induction n with
    | zero => intro H locs ls v15_3 v15_4 tv15_3 iv15_4 hH hS hl hn; exact absurd hn (Nat.not_lt_zero _)
    | succ n ih15 =>
      intro H locs ls v15_3 v15_4 tv15_3 iv15_4 hH hS hl hn15
      refine lv_iload hx hb dX1_after_15 (lv_at hl 3 rfl) ?_
      refine lv_iload_n hx hb dX1_after_17 rfl (lv_at hl 1 rfl) ?_
      refine lv_icmp_ge (tgt := 35) hx hb dX1_after_18 (by decide) (fun c1 => ?_) (fun c1 => ?_)
      · skip
        refine lv_aload_n hx hb dX1_after_35 rfl (lv_at hl 2 rfl) ?_
        exact th_aret S hK hH hS hr hlocks (th_R.r tv15_3) dX1_after_36
      · skip
        have ir2 : IV v15_4 0 39 := iv_uL iv15_4 j2 (iv_nle c1) (by decide)
        have ir3 : IV y2 1 40 := iv_uR iv15_4 j2 (iv_nle c1) (by decide)
        refine lv_aload_n hx hb dX1_after_21 rfl (lv_at hl 0 rfl) ?_
        refine th_get S hK hH inG1 t0 kd_6 rfl 0 (by decide) gm_408 rfl rfl dX1_after_22 (fun v4 hv4 fv4 => ?_)
        obtain ⟨rf5, rfl, trf5⟩ := th_V.ref hv4
        refine lv_aload_n hx hb dX1_after_25 rfl (lv_at hl 2 rfl) ?_
        refine th_callVv (n := 1) (As := [.ref v15_3]) S hK hH hS (th_A.sub (by decide)) (m_X0_passYear l D cT T q hq rf5 trf5 v15_3 tv15_3) gm_908 gm_981 gm_906 gm_907 gm_119 (by decide +kernel) ⟨rfl, rfl, Nat.le_of_ble_eq_true rfl, Nat.le_of_ble_eq_true rfl⟩ trf5 kd_4 rfl rfl hl.1 rfl (Nat.le_of_ble_eq_true rfl) dX1_after_26 ⟨Nat.zero_le _, Nat.zero_le _⟩ (fun H locs hH hS hF1 => ?_)
        refine th_iinc S dX1_after_29 hl (k := 3) rfl (by decide) ir2 (by decide) (fun x6 ls ex6 ix6 hl => ?_)
        have hl : lv_has ls 5 [(4, .int x6), (0, .ref a0), (2, .int y2), (3, .ref v15_3)] := hl
        have ix6 : IV x6 1 40 := ix6
        refine lv_goto (tgt := 15) hx hb dX1_after_32 (by decide) ?_
        exact ih15 H locs ls v15_3 x6 tv15_3 (iv_w ix6 (by decide)) hH hS (lv_sub hl [1, 2, 3, 0] rfl) (th_up iv15_4 ex6 (by decide) hn15)
  have J0 : ∀ (H : Heap) (locs : List Loc) (ls : Array Slot), th_H D cT T (kd q) H → va_S (th_A T [18, 19, 29]) s.heap H locs → lv_has ls 5 [(0, .ref a0), (1, .ref a1), (2, .int y2)] → W p l e (rmk 5 126) s m [.ref a0, .ref a1, .int y2].toArray below meth c H locs 0 0 (MQ below (th_Q D cT T (kd q) (th_R T (some (.inr 11))) [18, 19, 29]) [.ref a0, .ref a1, .int y2].toArray s 0 0 (th_A T [18, 19, 29])) (F0 m 0 ls []) := by
    intro H locs ls hH hS hl
    refine lv_aload_n hx hb dX1_after_0 rfl (lv_at hl 0 rfl) ?_
    refine th_get S hK hH inG1 t0 kd_6 rfl 1 (by decide) gm_409 rfl rfl dX1_after_1 (fun v7 hv7 fv7 => ?_)
    obtain ⟨rf8, rfl, trf8⟩ := th_V.ref hv7
    refine lv_iconst (v := 0) hx hb dX1_after_4 (by decide) ?_
    refine th_aald S hK hH trf8 kd_31 (th_in (hi := 0) (iv_c (by decide) : IV 0 0 0) (by decide)) dX1_after_5 (fun v9 hv9 => ?_)
    obtain ⟨rf10, rfl, trf10⟩ := th_V.ref hv9
    refine lv_astore_n (lv' := [(3, .ref rf10), (0, .ref a0), (1, .ref a1), (2, .int y2)]) hx hb dX1_after_6 rfl hl (by decide) rfl (fun ls hl => ?_)
    refine lv_aload_n hx hb dX1_after_7 rfl (lv_at hl 0 rfl) ?_
    refine lv_aload_n hx hb dX1_after_8 rfl (lv_at hl 2 rfl) ?_
    refine th_callVv (n := 1) (As := [.ref a1]) S hK hH hS (th_A.sub (by decide)) (m_X7_copyFrom l D cT T q hq rf10 trf10 a1 t1) gm_809 gm_980 gm_807 gm_808 gm_118 (by decide +kernel) ⟨rfl, rfl, Nat.le_of_ble_eq_true rfl, Nat.le_of_ble_eq_true rfl⟩ trf10 kd_10 rfl rfl hl.1 rfl (Nat.le_of_ble_eq_true rfl) dX1_after_9 ⟨Nat.zero_le _, Nat.zero_le _⟩ (fun H locs hH hS hF1 => ?_)
    refine lv_iconst (v := 0) hx hb dX1_after_12 (by decide) ?_
    refine lv_istore (lv' := [(4, .int 0), (3, .ref rf10), (0, .ref a0), (1, .ref a1), (2, .int y2)]) hx hb dX1_after_13 hl (by decide) rfl (fun ls hl => ?_)
    exact J15 ((40 + 1 - Int32.toInt 0).toNat + 1) H locs ls rf10 0 trf10 (iv_w (iv_c (by decide) : IV 0 0 0) (by decide)) hH hS (lv_sub hl [2, 4, 1, 0] rfl) (Nat.lt_succ_self _)
  exact J0 s.heap [] ls hH va_S.rf hl

set_option maxRecDepth 100000 in
theorem m_X1_firstBite (l : Launch) (D : va_G) (cT : Nat → ClassId) (T : Nat → Option Nat) (q : Nat → Int) (hq : qok q) (a0 : Nat) (t0 : T a0 = some 6) (a1 : Nat) (t1 : T a1 = some 10) (y2 : Int32) (j2 : IV y2 0 3) : th_Met l D cT T (kd q) yX1_firstBite cX1_firstBite 5 (some .int) (rmk 6 150) [.ref a0, .ref a1, .int y2] (th_R T (some (.inl (-1, 29)))) [18, 19, 29] := by
  refine th_start (by decide) (Nat.le_of_ble_eq_true rfl) ?_
  intro p e s m below meth c ls S hK hH hr hlocks hnm hl
  have hx := S.1
  have hb := S.2.1
  have hl : lv_has ls 5 [(0, .ref a0), (1, .ref a1), (2, .int y2)] := hl
  have J10 : ∀ (n : Nat) (H : Heap) (locs : List Loc) (ls : Array Slot) (v10_3 : Nat) (v10_4 : Int32), T v10_3 = some 10 → IV v10_4 0 30 → th_H D cT T (kd q) H → va_S (th_A T [18, 19, 29]) s.heap H locs → lv_has ls 5 [(0, .ref a0), (1, .ref a1), (2, .int y2), (3, .ref v10_3), (4, .int v10_4)] → (30 + 1 - v10_4.toInt).toNat < n → W p l e (rmk 6 150) s m [.ref a0, .ref a1, .int y2].toArray below meth c H locs 0 0 (MQ below (th_Q D cT T (kd q) (th_R T (some (.inl (-1, 29)))) [18, 19, 29]) [.ref a0, .ref a1, .int y2].toArray s 0 0 (th_A T [18, 19, 29])) (F0 m 10 ls []) := by
    intro n
    induction n with
    | zero => intro H locs ls v10_3 v10_4 tv10_3 iv10_4 hH hS hl hn; exact absurd hn (Nat.not_lt_zero _)
    | succ n ih10 =>
      intro H locs ls v10_3 v10_4 tv10_3 iv10_4 hH hS hl hn10
      refine lv_iload hx hb dX1_firstBite_10 (lv_at hl 4 rfl) ?_
      refine lv_bipush (v := 30) hx hb dX1_firstBite_12 (by decide) ?_
      refine lv_icmp_ge (tgt := 55) hx hb dX1_firstBite_14 (by decide) (fun c1 => ?_) (fun c1 => ?_)
      · skip
        have ir2 : IV v10_4 30 30 := iv_vR (iv_c (by decide) : IV 30 30 30) iv10_4 (iv_le c1) (by decide)
        refine lv_iconst (v := (-1)) hx hb dX1_firstBite_55 (by decide) ?_
        exact th_iret S hK hH hS hr hlocks (th_R.i (iv_w (iv_c (by decide) : IV (-1) (-1) (-1)) (by decide))) dX1_firstBite_56
      · skip
        have ir3 : IV v10_4 0 29 := iv_uL iv10_4 (iv_c (by decide) : IV 30 30 30) (iv_nle c1) (by decide)
        refine lv_aload_n hx hb dX1_firstBite_17 rfl (lv_at hl 0 rfl) ?_
        refine th_get S hK hH inG1 t0 kd_6 rfl 0 (by decide) gm_408 rfl rfl dX1_firstBite_18 (fun v4 hv4 fv4 => ?_)
        obtain ⟨rf5, rfl, trf5⟩ := th_V.ref hv4
        refine lv_aload_n hx hb dX1_firstBite_21 rfl (lv_at hl 3 rfl) ?_
        refine th_callVv (n := 1) (As := [.ref v10_3]) S hK hH hS (th_A.sub (by decide)) (m_X0_passYear l D cT T q hq rf5 trf5 v10_3 tv10_3) gm_908 gm_981 gm_906 gm_907 gm_119 (by decide +kernel) ⟨rfl, rfl, Nat.le_of_ble_eq_true rfl, Nat.le_of_ble_eq_true rfl⟩ trf5 kd_4 rfl rfl hl.1 rfl (Nat.le_of_ble_eq_true rfl) dX1_firstBite_22 ⟨Nat.zero_le _, Nat.zero_le _⟩ (fun H locs hH hS hF1 => ?_)
        refine lv_aload_n hx hb dX1_firstBite_25 rfl (lv_at hl 3 rfl) ?_
        refine th_get S hK hH inG7 tv10_3 kd_10 rfl 0 (by decide) gm_230 rfl rfl dX1_firstBite_26 (fun v6 hv6 fv6 => ?_)
        obtain ⟨rf7, rfl, trf7⟩ := th_V.ref hv6
        refine lv_bipush (v := 31) hx hb dX1_firstBite_29 (by decide) ?_
        refine lv_iload_n hx hb dX1_firstBite_31 rfl (lv_at hl 2 rfl) ?_
        refine lv_iadd hx hb dX1_firstBite_32 ?_
        refine lv_topi (fun x8 ex8 => ?_)
        have ix8 : IV x8 31 34 := by rw [ex8]; exact iv_add (iv_c (by decide) : IV 31 31 31) j2 (by decide)
        refine th_iald S hK hH trf7 kd_29 (th_in (hi := 34) (iv_w ix8 (by decide)) (by decide)) dX1_firstBite_33 (fun v9 hv9 => ?_)
        obtain ⟨x10, rfl, ix10⟩ := th_V.int hv9
        refine lv_aload_n hx hb dX1_firstBite_34 rfl (lv_at hl 1 rfl) ?_
        refine th_get S hK hH inG7 t1 kd_10 rfl 0 (by decide) gm_230 rfl rfl dX1_firstBite_35 (fun v11 hv11 fv11 => ?_)
        obtain ⟨rf12, rfl, trf12⟩ := th_V.ref hv11
        refine lv_bipush (v := 31) hx hb dX1_firstBite_38 (by decide) ?_
        refine lv_iload_n hx hb dX1_firstBite_40 rfl (lv_at hl 2 rfl) ?_
        refine lv_iadd hx hb dX1_firstBite_41 ?_
        refine lv_topi (fun x13 ex13 => ?_)
        have zx13 : x8 = x13 := ex8.trans ex13.symm
        subst zx13
        refine th_iald S hK hH trf12 kd_29 (th_in (hi := 34) (iv_w ix8 (by decide)) (by decide)) dX1_firstBite_42 (fun v14 hv14 => ?_)
        obtain ⟨x15, rfl, ix15⟩ := th_V.int hv14
        refine lv_icmp_le (tgt := 49) hx hb dX1_firstBite_43 (by decide) (fun c16 => ?_) (fun c16 => ?_)
        · skip
          refine th_iinc S dX1_firstBite_49 hl (k := 4) rfl (by decide) ir3 (by decide) (fun x17 ls ex17 ix17 hl => ?_)
          have hl : lv_has ls 5 [(4, .int x17), (0, .ref a0), (1, .ref a1), (2, .int y2), (3, .ref v10_3)] := hl
          have ix17 : IV x17 1 30 := ix17
          refine lv_goto (tgt := 10) hx hb dX1_firstBite_52 (by decide) ?_
          exact ih10 H locs ls v10_3 x17 tv10_3 (iv_w ix17 (by decide)) hH hS (lv_sub hl [1, 2, 3, 4, 0] rfl) (th_up iv10_4 ex17 (by decide) hn10)
        · skip
          have ir18 : IV x15 (-2147483648) 2147483646 := iv_uL ix15 ix10 (iv_nle c16) (by decide)
          have ir19 : IV x10 (-2147483647) 2147483647 := iv_uR ix15 ix10 (iv_nle c16) (by decide)
          refine lv_iload hx hb dX1_firstBite_46 (lv_at hl 4 rfl) ?_
          exact th_iret S hK hH hS hr hlocks (th_R.i (iv_w ir3 (by decide))) dX1_firstBite_48
  have J0 : ∀ (H : Heap) (locs : List Loc) (ls : Array Slot), th_H D cT T (kd q) H → va_S (th_A T [18, 19, 29]) s.heap H locs → lv_has ls 5 [(0, .ref a0), (1, .ref a1), (2, .int y2)] → W p l e (rmk 6 150) s m [.ref a0, .ref a1, .int y2].toArray below meth c H locs 0 0 (MQ below (th_Q D cT T (kd q) (th_R T (some (.inl (-1, 29)))) [18, 19, 29]) [.ref a0, .ref a1, .int y2].toArray s 0 0 (th_A T [18, 19, 29])) (F0 m 0 ls []) := by
    intro H locs ls hH hS hl
    refine lv_aload_n hx hb dX1_firstBite_0 rfl (lv_at hl 0 rfl) ?_
    refine lv_aload_n hx hb dX1_firstBite_1 rfl (lv_at hl 1 rfl) ?_
    refine lv_iconst (v := 0) hx hb dX1_firstBite_2 (by decide) ?_
    refine th_callVr (n := 2) (As := [.ref a1, .int 0]) S hK hH hS (th_A.sub (by decide)) (m_X1_after l D cT T q hq a0 t0 a1 t1 (0) (iv_w (iv_c (by decide) : IV 0 0 0) (by decide))) gm_979 gm_976 gm_977 gm_978 gm_121 (by decide +kernel) ⟨rfl, rfl, Nat.le_of_ble_eq_true rfl, Nat.le_of_ble_eq_true rfl⟩ t0 kd_6 rfl rfl hl.1 rfl (Nat.le_of_ble_eq_true rfl) dX1_firstBite_3 ⟨Nat.zero_le _, Nat.zero_le _⟩ (fun rf20 H locs trf20 hH hS hF1 => ?_)
    refine lv_astore_n (lv' := [(3, .ref rf20), (0, .ref a0), (1, .ref a1), (2, .int y2)]) hx hb dX1_firstBite_6 rfl hl (by decide) rfl (fun ls hl => ?_)
    refine lv_iconst (v := 0) hx hb dX1_firstBite_7 (by decide) ?_
    refine lv_istore (lv' := [(4, .int 0), (3, .ref rf20), (0, .ref a0), (1, .ref a1), (2, .int y2)]) hx hb dX1_firstBite_8 hl (by decide) rfl (fun ls hl => ?_)
    exact J10 ((30 + 1 - Int32.toInt 0).toNat + 1) H locs ls rf20 0 trf20 (iv_w (iv_c (by decide) : IV 0 0 0) (by decide)) hH hS (lv_sub hl [2, 3, 4, 1, 0] rfl) (Nat.lt_succ_self _)
  exact J0 s.heap [] ls hH va_S.rf hl

set_option maxRecDepth 100000 in
theorem m_J6_numberOfTrailingZeros_0f7a4 (l : Launch) (D : va_G) (cT : Nat → ClassId) (T : Nat → Option Nat) (q : Nat → Int) (hq : qok q) (y0 : Int32) (j0 : IV y0 (-2147483648) 2147483647) : th_Met l D cT T (kd q) yJ6_numberOfTrailingZeros_0f7a4 cJ6_numberOfTrailingZeros_0f7a4 2 (some .int) (rmk 0 0) [.int y0] (th_R T (some (.inl (-2147483648, 2147483647)))) [] := by
  refine th_start (by decide) (Nat.le_of_ble_eq_true rfl) ?_
  intro p e s m below meth c ls S hK hH hr hlocks hnm hl
  have hx := S.1
  have hb := S.2.1
  have hl : lv_has ls 2 [(0, .int y0)] := hl
  have J74 : ∀ (H : Heap) (locs : List Loc) (ls : Array Slot) (v74_0 : Int32) (v74_1 : Int32), IV v74_0 (-2147483648) 2147483647 → IV v74_1 1 31 → th_H D cT T (kd q) H → va_S (th_A T []) s.heap H locs → lv_has ls 2 [(0, .int v74_0), (1, .int v74_1)] → W p l e (rmk 0 0) s m [.int y0].toArray below meth c H locs 0 0 (MQ below (th_Q D cT T (kd q) (th_R T (some (.inl (-2147483648, 2147483647)))) []) [.int y0].toArray s 0 0 (th_A T [])) (F0 m 74 ls []) := by
    intro H locs ls v74_0 v74_1 iv74_0 iv74_1 hH hS hl
    refine lv_iload_n hx hb dJ6_numberOfTrailingZeros_0f7a4_74 rfl (lv_at hl 1 rfl) ?_
    refine lv_iload_n hx hb dJ6_numberOfTrailingZeros_0f7a4_75 rfl (lv_at hl 0 rfl) ?_
    refine lv_iconst (v := 1) hx hb dJ6_numberOfTrailingZeros_0f7a4_76 (by decide) ?_
    refine lv_iushr (v := _) hx hb dJ6_numberOfTrailingZeros_0f7a4_77 rfl ?_
    refine lv_topi (fun x1 ex1 => ?_)
    have ix1 := iv_top x1
    refine lv_iadd hx hb dJ6_numberOfTrailingZeros_0f7a4_78 ?_
    refine lv_topi (fun x2 ex2 => ?_)
    have ix2 := iv_top x2
    exact th_iret S hK hH hS hr hlocks (th_R.i ix2) dJ6_numberOfTrailingZeros_0f7a4_79
  have J62 : ∀ (H : Heap) (locs : List Loc) (ls : Array Slot) (v62_0 : Int32) (v62_1 : Int32), IV v62_0 (-2147483648) 2147483647 → IV v62_1 1 29 → th_H D cT T (kd q) H → va_S (th_A T []) s.heap H locs → lv_has ls 2 [(0, .int v62_0), (1, .int v62_1)] → W p l e (rmk 0 0) s m [.int y0].toArray below meth c H locs 0 0 (MQ below (th_Q D cT T (kd q) (th_R T (some (.inl (-2147483648, 2147483647)))) []) [.int y0].toArray s 0 0 (th_A T [])) (F0 m 62 ls []) := by
    intro H locs ls v62_0 v62_1 iv62_0 iv62_1 hH hS hl
    refine lv_iload_n hx hb dJ6_numberOfTrailingZeros_0f7a4_62 rfl (lv_at hl 0 rfl) ?_
    refine lv_iconst (v := 4) hx hb dJ6_numberOfTrailingZeros_0f7a4_63 (by decide) ?_
    refine lv_icmp_le (tgt := 74) hx hb dJ6_numberOfTrailingZeros_0f7a4_64 (by decide) (fun c3 => ?_) (fun c3 => ?_)
    · skip
      have ir4 : IV v62_0 (-2147483648) 4 := iv_vL iv62_0 (iv_c (by decide) : IV 4 4 4) (iv_le c3) (by decide)
      exact J74 H locs ls v62_0 v62_1 (iv_top _) (iv_w iv62_1 (by decide)) hH hS (lv_sub hl [0, 1] rfl)
    · skip
      have ir5 : IV v62_0 5 2147483647 := iv_uR (iv_c (by decide) : IV 4 4 4) iv62_0 (iv_nle c3) (by decide)
      refine th_iinc S dJ6_numberOfTrailingZeros_0f7a4_67 hl (k := 1) rfl (by decide) iv62_1 (by decide) (fun x6 ls ex6 ix6 hl => ?_)
      have hl : lv_has ls 2 [(1, .int x6), (0, .int v62_0)] := hl
      have ix6 : IV x6 3 31 := ix6
      refine lv_iload_n hx hb dJ6_numberOfTrailingZeros_0f7a4_70 rfl (lv_at hl 1 rfl) ?_
      refine lv_iconst (v := 2) hx hb dJ6_numberOfTrailingZeros_0f7a4_71 (by decide) ?_
      refine lv_iushr (v := _) hx hb dJ6_numberOfTrailingZeros_0f7a4_72 rfl ?_
      refine lv_topi (fun x7 ex7 => ?_)
      have ix7 := iv_top x7
      refine lv_istore_n (lv' := [(0, .int x7), (1, .int x6)]) hx hb dJ6_numberOfTrailingZeros_0f7a4_73 rfl hl (by decide) rfl (fun ls hl => ?_)
      exact J74 H locs ls x7 x6 ix7 (iv_w ix6 (by decide)) hH hS (lv_sub hl [0, 1] rfl)
  have J49 : ∀ (H : Heap) (locs : List Loc) (ls : Array Slot) (v49_0 : Int32) (v49_1 : Int32), IV v49_0 (-2147483648) 2147483647 → IV v49_1 1 25 → th_H D cT T (kd q) H → va_S (th_A T []) s.heap H locs → lv_has ls 2 [(0, .int v49_0), (1, .int v49_1)] → W p l e (rmk 0 0) s m [.int y0].toArray below meth c H locs 0 0 (MQ below (th_Q D cT T (kd q) (th_R T (some (.inl (-2147483648, 2147483647)))) []) [.int y0].toArray s 0 0 (th_A T [])) (F0 m 49 ls []) := by
    intro H locs ls v49_0 v49_1 iv49_0 iv49_1 hH hS hl
    refine lv_iload_n hx hb dJ6_numberOfTrailingZeros_0f7a4_49 rfl (lv_at hl 0 rfl) ?_
    refine lv_bipush (v := 16) hx hb dJ6_numberOfTrailingZeros_0f7a4_50 (by decide) ?_
    refine lv_icmp_le (tgt := 62) hx hb dJ6_numberOfTrailingZeros_0f7a4_52 (by decide) (fun c8 => ?_) (fun c8 => ?_)
    · skip
      have ir9 : IV v49_0 (-2147483648) 16 := iv_vL iv49_0 (iv_c (by decide) : IV 16 16 16) (iv_le c8) (by decide)
      exact J62 H locs ls v49_0 v49_1 (iv_top _) (iv_w iv49_1 (by decide)) hH hS (lv_sub hl [0, 1] rfl)
    · skip
      have ir10 : IV v49_0 17 2147483647 := iv_uR (iv_c (by decide) : IV 16 16 16) iv49_0 (iv_nle c8) (by decide)
      refine th_iinc S dJ6_numberOfTrailingZeros_0f7a4_55 hl (k := 1) rfl (by decide) iv49_1 (by decide) (fun x11 ls ex11 ix11 hl => ?_)
      have hl : lv_has ls 2 [(1, .int x11), (0, .int v49_0)] := hl
      have ix11 : IV x11 5 29 := ix11
      refine lv_iload_n hx hb dJ6_numberOfTrailingZeros_0f7a4_58 rfl (lv_at hl 1 rfl) ?_
      refine lv_iconst (v := 4) hx hb dJ6_numberOfTrailingZeros_0f7a4_59 (by decide) ?_
      refine lv_iushr (v := _) hx hb dJ6_numberOfTrailingZeros_0f7a4_60 rfl ?_
      refine lv_topi (fun x12 ex12 => ?_)
      have ix12 := iv_top x12
      refine lv_istore_n (lv' := [(0, .int x12), (1, .int x11)]) hx hb dJ6_numberOfTrailingZeros_0f7a4_61 rfl hl (by decide) rfl (fun ls hl => ?_)
      exact J62 H locs ls x12 x11 ix12 (iv_w ix11 (by decide)) hH hS (lv_sub hl [0, 1] rfl)
  have J34 : ∀ (H : Heap) (locs : List Loc) (ls : Array Slot) (v34_0 : Int32) (v34_1 : Int32), IV v34_0 (-2147483648) 2147483647 → IV v34_1 1 17 → th_H D cT T (kd q) H → va_S (th_A T []) s.heap H locs → lv_has ls 2 [(0, .int v34_0), (1, .int v34_1)] → W p l e (rmk 0 0) s m [.int y0].toArray below meth c H locs 0 0 (MQ below (th_Q D cT T (kd q) (th_R T (some (.inl (-2147483648, 2147483647)))) []) [.int y0].toArray s 0 0 (th_A T [])) (F0 m 34 ls []) := by
    intro H locs ls v34_0 v34_1 iv34_0 iv34_1 hH hS hl
    refine lv_iload_n hx hb dJ6_numberOfTrailingZeros_0f7a4_34 rfl (lv_at hl 0 rfl) ?_
    refine lv_sipush (v := 256) hx hb dJ6_numberOfTrailingZeros_0f7a4_35 (by decide) ?_
    refine lv_icmp_le (tgt := 49) hx hb dJ6_numberOfTrailingZeros_0f7a4_38 (by decide) (fun c13 => ?_) (fun c13 => ?_)
    · skip
      have ir14 : IV v34_0 (-2147483648) 256 := iv_vL iv34_0 (iv_c (by decide) : IV 256 256 256) (iv_le c13) (by decide)
      exact J49 H locs ls v34_0 v34_1 (iv_top _) (iv_w iv34_1 (by decide)) hH hS (lv_sub hl [0, 1] rfl)
    · skip
      have ir15 : IV v34_0 257 2147483647 := iv_uR (iv_c (by decide) : IV 256 256 256) iv34_0 (iv_nle c13) (by decide)
      refine th_iinc S dJ6_numberOfTrailingZeros_0f7a4_41 hl (k := 1) rfl (by decide) iv34_1 (by decide) (fun x16 ls ex16 ix16 hl => ?_)
      have hl : lv_has ls 2 [(1, .int x16), (0, .int v34_0)] := hl
      have ix16 : IV x16 9 25 := ix16
      refine lv_iload_n hx hb dJ6_numberOfTrailingZeros_0f7a4_44 rfl (lv_at hl 1 rfl) ?_
      refine lv_bipush (v := 8) hx hb dJ6_numberOfTrailingZeros_0f7a4_45 (by decide) ?_
      refine lv_iushr (v := _) hx hb dJ6_numberOfTrailingZeros_0f7a4_47 rfl ?_
      refine lv_topi (fun x17 ex17 => ?_)
      have ix17 := iv_top x17
      refine lv_istore_n (lv' := [(0, .int x17), (1, .int x16)]) hx hb dJ6_numberOfTrailingZeros_0f7a4_48 rfl hl (by decide) rfl (fun ls hl => ?_)
      exact J49 H locs ls x17 x16 ix17 (iv_w ix16 (by decide)) hH hS (lv_sub hl [0, 1] rfl)
  have J0 : ∀ (H : Heap) (locs : List Loc) (ls : Array Slot), th_H D cT T (kd q) H → va_S (th_A T []) s.heap H locs → lv_has ls 2 [(0, .int y0)] → W p l e (rmk 0 0) s m [.int y0].toArray below meth c H locs 0 0 (MQ below (th_Q D cT T (kd q) (th_R T (some (.inl (-2147483648, 2147483647)))) []) [.int y0].toArray s 0 0 (th_A T [])) (F0 m 0 ls []) := by
    intro H locs ls hH hS hl
    refine lv_iload_n hx hb dJ6_numberOfTrailingZeros_0f7a4_0 rfl (lv_at hl 0 rfl) ?_
    refine lv_iconst (v := (-1)) hx hb dJ6_numberOfTrailingZeros_0f7a4_1 (by decide) ?_
    refine lv_ixor hx hb dJ6_numberOfTrailingZeros_0f7a4_2 ?_
    refine lv_topi (fun x18 ex18 => ?_)
    have ix18 := iv_top x18
    refine lv_iload_n hx hb dJ6_numberOfTrailingZeros_0f7a4_3 rfl (lv_at hl 0 rfl) ?_
    refine lv_iconst (v := 1) hx hb dJ6_numberOfTrailingZeros_0f7a4_4 (by decide) ?_
    refine lv_isub hx hb dJ6_numberOfTrailingZeros_0f7a4_5 ?_
    refine lv_topi (fun x19 ex19 => ?_)
    have ix19 := iv_top x19
    refine lv_iand hx hb dJ6_numberOfTrailingZeros_0f7a4_6 ?_
    refine lv_topi (fun x20 ex20 => ?_)
    have ix20 := iv_top x20
    refine lv_istore_n (lv' := [(0, .int x20)]) hx hb dJ6_numberOfTrailingZeros_0f7a4_7 rfl hl (by decide) rfl (fun ls hl => ?_)
    refine lv_iload_n hx hb dJ6_numberOfTrailingZeros_0f7a4_8 rfl (lv_at hl 0 rfl) ?_
    refine lv_if_gt (tgt := 17) hx hb dJ6_numberOfTrailingZeros_0f7a4_9 (by decide) (fun c21 => ?_) (fun c21 => ?_)
    · skip
      have ir22 : IV x20 1 2147483647 := iv_uR (iv_c (by decide) : IV 0 0 0) ix20 (iv_lt c21) (by decide)
      refine lv_iconst (v := 1) hx hb dJ6_numberOfTrailingZeros_0f7a4_17 (by decide) ?_
      refine lv_istore_n (lv' := [(1, .int 1), (0, .int x20)]) hx hb dJ6_numberOfTrailingZeros_0f7a4_18 rfl hl (by decide) rfl (fun ls hl => ?_)
      refine lv_iload_n hx hb dJ6_numberOfTrailingZeros_0f7a4_19 rfl (lv_at hl 1 rfl) ?_
      refine lv_ldcw (v := 65536) hx hb S.2.2.2.1 (S.2.2.2.2 _ gm_1002) dJ6_numberOfTrailingZeros_0f7a4_20 ?_
      refine lv_icmp_le (tgt := 34) hx hb dJ6_numberOfTrailingZeros_0f7a4_23 (by decide) (fun c23 => ?_) (fun c23 => ?_)
      · skip
        have ir24 : IV x20 1 65536 := iv_vL ir22 (iv_c (by decide) : IV 65536 65536 65536) (iv_le c23) (by decide)
        exact J34 H locs ls x20 1 (iv_top _) (iv_w (iv_c (by decide) : IV 1 1 1) (by decide)) hH hS (lv_sub hl [1, 0] rfl)
      · skip
        have ir25 : IV x20 65537 2147483647 := iv_uR (iv_c (by decide) : IV 65536 65536 65536) ir22 (iv_nle c23) (by decide)
        refine th_iinc S dJ6_numberOfTrailingZeros_0f7a4_26 hl (k := 0) rfl (by decide) (iv_c (by decide) : IV 1 1 1) (by decide) (fun x26 ls ex26 ix26 hl => ?_)
        have hl : lv_has ls 2 [(1, .int x26), (0, .int x20)] := hl
        have ix26 : IV x26 17 17 := ix26
        refine lv_iload_n hx hb dJ6_numberOfTrailingZeros_0f7a4_29 rfl (lv_at hl 1 rfl) ?_
        refine lv_bipush (v := 16) hx hb dJ6_numberOfTrailingZeros_0f7a4_30 (by decide) ?_
        refine lv_iushr (v := _) hx hb dJ6_numberOfTrailingZeros_0f7a4_32 rfl ?_
        refine lv_topi (fun x27 ex27 => ?_)
        have ix27 := iv_top x27
        refine lv_istore_n (lv' := [(0, .int x27), (1, .int x26)]) hx hb dJ6_numberOfTrailingZeros_0f7a4_33 rfl hl (by decide) rfl (fun ls hl => ?_)
        exact J34 H locs ls x27 x26 ix27 (iv_w ix26 (by decide)) hH hS (lv_sub hl [0, 1] rfl)
    · skip
      have ir28 : IV x20 (-2147483648) 0 := iv_vL ix20 (iv_c (by decide) : IV 0 0 0) (iv_nlt c21) (by decide)
      refine lv_iload_n hx hb dJ6_numberOfTrailingZeros_0f7a4_12 rfl (lv_at hl 0 rfl) ?_
      refine lv_bipush (v := 32) hx hb dJ6_numberOfTrailingZeros_0f7a4_13 (by decide) ?_
      refine lv_iand hx hb dJ6_numberOfTrailingZeros_0f7a4_15 ?_
      refine lv_topi (fun x29 ex29 => ?_)
      have ix29 : IV x29 0 32 := by rw [ex29]; exact iv_and (h2 := 32) (iv_w (iv_c (by decide) : IV 32 32 32) (by decide)) (by decide)
      exact th_iret S hK hH hS hr hlocks (th_R.i (iv_top _)) dJ6_numberOfTrailingZeros_0f7a4_16
  exact J0 s.heap [] ls hH va_S.rf hl

set_option maxRecDepth 100000 in
theorem m_X1_yearsToLoss (l : Launch) (D : va_G) (cT : Nat → ClassId) (T : Nat → Option Nat) (q : Nat → Int) (hq : qok q) (a0 : Nat) (t0 : T a0 = some 6) (a1 : Nat) (t1 : T a1 = some 10) : th_Met l D cT T (kd q) yX1_yearsToLoss cX1_yearsToLoss 6 (some .int) (rmk 6 150) [.ref a0, .ref a1] (th_R T (some (.inl (-1, 30)))) [6, 18, 19, 29] := by
  refine th_start (by decide) (Nat.le_of_ble_eq_true rfl) ?_
  intro p e s m below meth c ls S hK hH hr hlocks hnm hl
  have hx := S.1
  have hb := S.2.1
  have hl : lv_has ls 6 [(0, .ref a0), (1, .ref a1)] := hl
  have J26 : ∀ (n : Nat) (H : Heap) (locs : List Loc) (ls : Array Slot) (v26_2 : Int32) (v26_3 : Nat) (v26_4 : Int32), IV v26_2 (-2147483648) 2147483647 → T v26_3 = some 10 → IV v26_4 1 31 → th_H D cT T (kd q) H → va_S (th_A T [6, 18, 19, 29]) s.heap H locs → lv_has ls 6 [(0, .ref a0), (2, .int v26_2), (3, .ref v26_3), (4, .int v26_4)] → (31 + 1 - v26_4.toInt).toNat < n → W p l e (rmk 6 150) s m [.ref a0, .ref a1].toArray below meth c H locs 0 0 (MQ below (th_Q D cT T (kd q) (th_R T (some (.inl (-1, 30)))) [6, 18, 19, 29]) [.ref a0, .ref a1].toArray s 0 0 (th_A T [6, 18, 19, 29])) (F0 m 26 ls []) := by
    intro n
    induction n with
    | zero => intro H locs ls v26_2 v26_3 v26_4 iv26_2 tv26_3 iv26_4 hH hS hl hn; exact absurd hn (Nat.not_lt_zero _)
    | succ n ih26 =>
      intro H locs ls v26_2 v26_3 v26_4 iv26_2 tv26_3 iv26_4 hH hS hl hn26
      refine lv_iload hx hb dX1_yearsToLoss_26 (lv_at hl 3 rfl) ?_
      refine lv_bipush (v := 30) hx hb dX1_yearsToLoss_28 (by decide) ?_
      refine lv_icmp_gt (tgt := 76) hx hb dX1_yearsToLoss_30 (by decide) (fun c1 => ?_) (fun c1 => ?_)
      · skip
        have ir2 : IV v26_4 31 31 := iv_uR (iv_c (by decide) : IV 30 30 30) iv26_4 (iv_lt c1) (by decide)
        refine lv_iconst (v := (-1)) hx hb dX1_yearsToLoss_76 (by decide) ?_
        exact th_iret S hK hH hS hr hlocks (th_R.i (iv_w (iv_c (by decide) : IV (-1) (-1) (-1)) (by decide))) dX1_yearsToLoss_77
      · skip
        have ir3 : IV v26_4 1 30 := iv_vL iv26_4 (iv_c (by decide) : IV 30 30 30) (iv_nlt c1) (by decide)
        refine lv_aload_n hx hb dX1_yearsToLoss_33 rfl (lv_at hl 0 rfl) ?_
        refine th_get S hK hH inG1 t0 kd_6 rfl 0 (by decide) gm_408 rfl rfl dX1_yearsToLoss_34 (fun v4 hv4 fv4 => ?_)
        obtain ⟨rf5, rfl, trf5⟩ := th_V.ref hv4
        refine lv_aload_n hx hb dX1_yearsToLoss_37 rfl (lv_at hl 2 rfl) ?_
        refine th_callVv (n := 1) (As := [.ref v26_3]) S hK hH hS (th_A.sub (by decide)) (m_X0_passYear l D cT T q hq rf5 trf5 v26_3 tv26_3) gm_908 gm_981 gm_906 gm_907 gm_119 (by decide +kernel) ⟨rfl, rfl, Nat.le_of_ble_eq_true rfl, Nat.le_of_ble_eq_true rfl⟩ trf5 kd_4 rfl rfl hl.1 rfl (Nat.le_of_ble_eq_true rfl) dX1_yearsToLoss_38 ⟨Nat.zero_le _, Nat.zero_le _⟩ (fun H locs hH hS hF1 => ?_)
        have f6 := fv4.kept (hF1 _ fv4.lt (th_off t0 (by decide)))
        refine lv_aload_n hx hb dX1_yearsToLoss_41 rfl (lv_at hl 0 rfl) ?_
        refine th_getK S hK f6 inG1 rfl (by decide) gm_408 rfl dX1_yearsToLoss_42 ?_
        refine lv_aload_n hx hb dX1_yearsToLoss_45 rfl (lv_at hl 2 rfl) ?_
        refine th_callVi (n := 1) (As := [.ref v26_3]) S hK hH hS (th_A.sub (by decide)) (m_X0_goneIn l D cT T q hq rf5 trf5 v26_3 tv26_3) gm_998 gm_995 gm_996 gm_997 gm_119 (by decide +kernel) ⟨rfl, rfl, Nat.le_of_ble_eq_true rfl, Nat.le_of_ble_eq_true rfl⟩ trf5 kd_4 rfl rfl hl.1 rfl (Nat.le_of_ble_eq_true rfl) dX1_yearsToLoss_46 ⟨Nat.zero_le _, Nat.zero_le _⟩ (fun x8 H locs ix8 hH hS hF1 => ?_)
        have f9 := f6.kept (hF1 _ f6.lt (th_off t0 (by decide)))
        refine lv_iload_n hx hb dX1_yearsToLoss_49 rfl (lv_at hl 1 rfl) ?_
        refine lv_iand hx hb dX1_yearsToLoss_50 ?_
        refine lv_topi (fun x10 ex10 => ?_)
        have ix10 := iv_top x10
        refine lv_istore (lv' := [(5, .int x10), (0, .ref a0), (2, .int v26_2), (3, .ref v26_3), (4, .int v26_4)]) hx hb dX1_yearsToLoss_51 hl (by decide) rfl (fun ls hl => ?_)
        refine lv_iload hx hb dX1_yearsToLoss_53 (lv_at hl 0 rfl) ?_
        refine lv_if_eq (tgt := 70) hx hb dX1_yearsToLoss_55 (by decide) (fun c11 => ?_) (fun c11 => ?_)
        · skip
          have ir12 : IV x10 0 0 := iv_eL c11 (iv_c (by decide) : IV 0 0 0)
          refine th_iinc S dX1_yearsToLoss_70 hl (k := 4) rfl (by decide) ir3 (by decide) (fun x13 ls ex13 ix13 hl => ?_)
          have hl : lv_has ls 6 [(4, .int x13), (5, .int x10), (0, .ref a0), (2, .int v26_2), (3, .ref v26_3)] := hl
          have ix13 : IV x13 2 31 := ix13
          refine lv_goto (tgt := 26) hx hb dX1_yearsToLoss_73 (by decide) ?_
          exact ih26 H locs ls v26_2 v26_3 x13 iv26_2 tv26_3 (iv_w ix13 (by decide)) hH hS (lv_sub hl [2, 3, 4, 0] rfl) (th_up iv26_4 ex13 (by decide) hn26)
        · skip
          refine lv_aload_n hx hb dX1_yearsToLoss_58 rfl (lv_at hl 1 rfl) ?_
          refine lv_iload hx hb dX1_yearsToLoss_59 (lv_at hl 0 rfl) ?_
          refine th_callSi (n := 1) (As := [.int x10]) S hK hH hS (th_A.sub (by decide)) (m_J6_numberOfTrailingZeros_0f7a4 l D cT T q hq (x10) ix10) gm_1001 gm_999 gm_1000 gm_132 (by decide +kernel) ⟨rfl, rfl, Nat.le_of_ble_eq_true rfl, Nat.le_of_ble_eq_true rfl⟩ rfl hl.1 rfl (Nat.le_of_ble_eq_true rfl) dX1_yearsToLoss_61 ⟨Nat.zero_le _, Nat.zero_le _⟩ (fun x14 H locs ix14 hH hS hF1 => ?_)
          have f15 := f9.kept (hF1 _ f9.lt (th_off t0 (by decide)))
          refine th_put S hK hH hS ⟨6, by decide, t0⟩ inG1 tyX1 tyX1_ok nmX1 t0 kd_6 rfl 2 (by decide) gm_410 rfl rfl rfl rfl (th_iv ix14) (fun _ _ => trivial) (ty := .int) (by decide +kernel) rfl rfl dX1_yearsToLoss_64 (fun H locs hH hS hq1 hp1 => ?_)
          have f16 := hp1.2 0 _ (by decide) (by decide) f15
          refine lv_iload hx hb dX1_yearsToLoss_67 (lv_at hl 4 rfl) ?_
          exact th_iret S hK hH hS hr hlocks (th_R.i (iv_w ir3 (by decide))) dX1_yearsToLoss_69
  have J0 : ∀ (H : Heap) (locs : List Loc) (ls : Array Slot), th_H D cT T (kd q) H → va_S (th_A T [6, 18, 19, 29]) s.heap H locs → lv_has ls 6 [(0, .ref a0), (1, .ref a1)] → W p l e (rmk 6 150) s m [.ref a0, .ref a1].toArray below meth c H locs 0 0 (MQ below (th_Q D cT T (kd q) (th_R T (some (.inl (-1, 30)))) [6, 18, 19, 29]) [.ref a0, .ref a1].toArray s 0 0 (th_A T [6, 18, 19, 29])) (F0 m 0 ls []) := by
    intro H locs ls hH hS hl
    refine lv_aload_n hx hb dX1_yearsToLoss_0 rfl (lv_at hl 0 rfl) ?_
    refine th_get S hK hH inG1 t0 kd_6 rfl 0 (by decide) gm_408 rfl rfl dX1_yearsToLoss_1 (fun v17 hv17 fv17 => ?_)
    obtain ⟨rf18, rfl, trf18⟩ := th_V.ref hv17
    refine lv_aload_n hx hb dX1_yearsToLoss_4 rfl (lv_at hl 1 rfl) ?_
    refine th_callVi (n := 1) (As := [.ref a1]) S hK hH hS (th_A.sub (by decide)) (m_X0_goneIn l D cT T q hq rf18 trf18 a1 t1) gm_998 gm_995 gm_996 gm_997 gm_119 (by decide +kernel) ⟨rfl, rfl, Nat.le_of_ble_eq_true rfl, Nat.le_of_ble_eq_true rfl⟩ trf18 kd_4 rfl rfl hl.1 rfl (Nat.le_of_ble_eq_true rfl) dX1_yearsToLoss_5 ⟨Nat.zero_le _, Nat.zero_le _⟩ (fun x19 H locs ix19 hH hS hF1 => ?_)
    have f20 := fv17.kept (hF1 _ fv17.lt (th_off t0 (by decide)))
    refine lv_iconst (v := (-1)) hx hb dX1_yearsToLoss_8 (by decide) ?_
    refine lv_ixor hx hb dX1_yearsToLoss_9 ?_
    refine lv_topi (fun x21 ex21 => ?_)
    have ix21 := iv_top x21
    refine lv_istore_n (lv' := [(2, .int x21), (0, .ref a0), (1, .ref a1)]) hx hb dX1_yearsToLoss_10 rfl hl (by decide) rfl (fun ls hl => ?_)
    refine lv_aload_n hx hb dX1_yearsToLoss_11 rfl (lv_at hl 1 rfl) ?_
    refine lv_aload_n hx hb dX1_yearsToLoss_12 rfl (lv_at hl 2 rfl) ?_
    refine lv_iconst (v := 0) hx hb dX1_yearsToLoss_13 (by decide) ?_
    refine th_callVr (n := 2) (As := [.ref a1, .int 0]) S hK hH hS (th_A.sub (by decide)) (m_X1_after l D cT T q hq a0 t0 a1 t1 (0) (iv_w (iv_c (by decide) : IV 0 0 0) (by decide))) gm_979 gm_976 gm_977 gm_978 gm_121 (by decide +kernel) ⟨rfl, rfl, Nat.le_of_ble_eq_true rfl, Nat.le_of_ble_eq_true rfl⟩ t0 kd_6 rfl rfl hl.1 rfl (Nat.le_of_ble_eq_true rfl) dX1_yearsToLoss_14 ⟨Nat.zero_le _, Nat.zero_le _⟩ (fun rf22 H locs trf22 hH hS hF1 => ?_)
    have f23 := f20.kept (hF1 _ f20.lt (th_off t0 (by decide)))
    refine lv_astore_n (lv' := [(3, .ref rf22), (2, .int x21), (0, .ref a0), (1, .ref a1)]) hx hb dX1_yearsToLoss_17 rfl hl (by decide) rfl (fun ls hl => ?_)
    refine lv_aload_n hx hb dX1_yearsToLoss_18 rfl (lv_at hl 2 rfl) ?_
    refine lv_iconst (v := (-1)) hx hb dX1_yearsToLoss_19 (by decide) ?_
    refine th_put S hK hH hS ⟨6, by decide, t0⟩ inG1 tyX1 tyX1_ok nmX1 t0 kd_6 rfl 2 (by decide) gm_410 rfl rfl rfl rfl (th_iv (iv_top _)) (fun _ _ => trivial) (ty := .int) (by decide +kernel) rfl rfl dX1_yearsToLoss_20 (fun H locs hH hS hq1 hp1 => ?_)
    have f24 := hp1.2 0 _ (by decide) (by decide) f23
    refine lv_iconst (v := 1) hx hb dX1_yearsToLoss_23 (by decide) ?_
    refine lv_istore (lv' := [(4, .int 1), (3, .ref rf22), (2, .int x21), (0, .ref a0), (1, .ref a1)]) hx hb dX1_yearsToLoss_24 hl (by decide) rfl (fun ls hl => ?_)
    exact J26 ((31 + 1 - Int32.toInt 1).toNat + 1) H locs ls x21 rf22 1 ix21 trf22 (iv_w (iv_c (by decide) : IV 1 1 1) (by decide)) hH hS (lv_sub hl [3, 2, 1, 0] rfl) (Nat.lt_succ_self _)
  exact J0 s.heap [] ls hH va_S.rf hl

set_option maxRecDepth 100000 in
theorem m_J6_bitCount_0f7a4 (l : Launch) (D : va_G) (cT : Nat → ClassId) (T : Nat → Option Nat) (q : Nat → Int) (hq : qok q) (y0 : Int32) (j0 : IV y0 (-2147483648) 2147483647) : th_Met l D cT T (kd q) yJ6_bitCount_0f7a4 cJ6_bitCount_0f7a4 1 (some .int) (rmk 0 0) [.int y0] (th_R T (some (.inl (0, 63)))) [] := by
  refine th_start (by decide) (Nat.le_of_ble_eq_true rfl) ?_
  intro p e s m below meth c ls S hK hH hr hlocks hnm hl
  have hx := S.1
  have hb := S.2.1
  have hl : lv_has ls 1 [(0, .int y0)] := hl
  have J0 : ∀ (H : Heap) (locs : List Loc) (ls : Array Slot), th_H D cT T (kd q) H → va_S (th_A T []) s.heap H locs → lv_has ls 1 [(0, .int y0)] → W p l e (rmk 0 0) s m [.int y0].toArray below meth c H locs 0 0 (MQ below (th_Q D cT T (kd q) (th_R T (some (.inl (0, 63)))) []) [.int y0].toArray s 0 0 (th_A T [])) (F0 m 0 ls []) := by
    intro H locs ls hH hS hl
    refine lv_iload_n hx hb dJ6_bitCount_0f7a4_0 rfl (lv_at hl 0 rfl) ?_
    refine lv_iload_n hx hb dJ6_bitCount_0f7a4_1 rfl (lv_at hl 0 rfl) ?_
    refine lv_iconst (v := 1) hx hb dJ6_bitCount_0f7a4_2 (by decide) ?_
    refine lv_iushr (v := _) hx hb dJ6_bitCount_0f7a4_3 rfl ?_
    refine lv_topi (fun x1 ex1 => ?_)
    have ix1 := iv_top x1
    refine lv_ldcw (v := 1431655765) hx hb S.2.2.2.1 (S.2.2.2.2 _ gm_716) dJ6_bitCount_0f7a4_4 ?_
    refine lv_iand hx hb dJ6_bitCount_0f7a4_7 ?_
    refine lv_topi (fun x2 ex2 => ?_)
    have ix2 : IV x2 0 1431655765 := by rw [ex2]; exact iv_and (h2 := 1431655765) (iv_w (iv_c (by decide) : IV 1431655765 1431655765 1431655765) (by decide)) (by decide)
    refine lv_isub hx hb dJ6_bitCount_0f7a4_8 ?_
    refine lv_topi (fun x3 ex3 => ?_)
    have ix3 := iv_top x3
    refine lv_istore_n (lv' := [(0, .int x3)]) hx hb dJ6_bitCount_0f7a4_9 rfl hl (by decide) rfl (fun ls hl => ?_)
    refine lv_iload_n hx hb dJ6_bitCount_0f7a4_10 rfl (lv_at hl 0 rfl) ?_
    refine lv_ldcw (v := 858993459) hx hb S.2.2.2.1 (S.2.2.2.2 _ gm_717) dJ6_bitCount_0f7a4_11 ?_
    refine lv_iand hx hb dJ6_bitCount_0f7a4_14 ?_
    refine lv_topi (fun x4 ex4 => ?_)
    have ix4 : IV x4 0 858993459 := by rw [ex4]; exact iv_and (h2 := 858993459) (iv_w (iv_c (by decide) : IV 858993459 858993459 858993459) (by decide)) (by decide)
    refine lv_iload_n hx hb dJ6_bitCount_0f7a4_15 rfl (lv_at hl 0 rfl) ?_
    refine lv_iconst (v := 2) hx hb dJ6_bitCount_0f7a4_16 (by decide) ?_
    refine lv_iushr (v := _) hx hb dJ6_bitCount_0f7a4_17 rfl ?_
    refine lv_topi (fun x5 ex5 => ?_)
    have ix5 := iv_top x5
    refine lv_ldcw (v := 858993459) hx hb S.2.2.2.1 (S.2.2.2.2 _ gm_717) dJ6_bitCount_0f7a4_18 ?_
    refine lv_iand hx hb dJ6_bitCount_0f7a4_21 ?_
    refine lv_topi (fun x6 ex6 => ?_)
    have ix6 : IV x6 0 858993459 := by rw [ex6]; exact iv_and (h2 := 858993459) (iv_w (iv_c (by decide) : IV 858993459 858993459 858993459) (by decide)) (by decide)
    refine lv_iadd hx hb dJ6_bitCount_0f7a4_22 ?_
    refine lv_topi (fun x7 ex7 => ?_)
    have ix7 : IV x7 0 1717986918 := by rw [ex7]; exact iv_add ix4 ix6 (by decide)
    refine lv_istore_n (lv' := [(0, .int x7)]) hx hb dJ6_bitCount_0f7a4_23 rfl hl (by decide) rfl (fun ls hl => ?_)
    refine lv_iload_n hx hb dJ6_bitCount_0f7a4_24 rfl (lv_at hl 0 rfl) ?_
    refine lv_iload_n hx hb dJ6_bitCount_0f7a4_25 rfl (lv_at hl 0 rfl) ?_
    refine lv_iconst (v := 4) hx hb dJ6_bitCount_0f7a4_26 (by decide) ?_
    refine lv_iushr (v := _) hx hb dJ6_bitCount_0f7a4_27 rfl ?_
    refine lv_topi (fun x8 ex8 => ?_)
    have ix8 := iv_top x8
    refine lv_iadd hx hb dJ6_bitCount_0f7a4_28 ?_
    refine lv_topi (fun x9 ex9 => ?_)
    have ix9 := iv_top x9
    refine lv_ldcw (v := 252645135) hx hb S.2.2.2.1 (S.2.2.2.2 _ gm_718) dJ6_bitCount_0f7a4_29 ?_
    refine lv_iand hx hb dJ6_bitCount_0f7a4_32 ?_
    refine lv_topi (fun x10 ex10 => ?_)
    have ix10 : IV x10 0 252645135 := by rw [ex10]; exact iv_and (h2 := 252645135) (iv_w (iv_c (by decide) : IV 252645135 252645135 252645135) (by decide)) (by decide)
    refine lv_istore_n (lv' := [(0, .int x10)]) hx hb dJ6_bitCount_0f7a4_33 rfl hl (by decide) rfl (fun ls hl => ?_)
    refine lv_iload_n hx hb dJ6_bitCount_0f7a4_34 rfl (lv_at hl 0 rfl) ?_
    refine lv_iload_n hx hb dJ6_bitCount_0f7a4_35 rfl (lv_at hl 0 rfl) ?_
    refine lv_bipush (v := 8) hx hb dJ6_bitCount_0f7a4_36 (by decide) ?_
    refine lv_iushr (v := _) hx hb dJ6_bitCount_0f7a4_38 rfl ?_
    refine lv_topi (fun x11 ex11 => ?_)
    have ix11 := iv_top x11
    refine lv_iadd hx hb dJ6_bitCount_0f7a4_39 ?_
    refine lv_topi (fun x12 ex12 => ?_)
    have ix12 := iv_top x12
    refine lv_istore_n (lv' := [(0, .int x12)]) hx hb dJ6_bitCount_0f7a4_40 rfl hl (by decide) rfl (fun ls hl => ?_)
    refine lv_iload_n hx hb dJ6_bitCount_0f7a4_41 rfl (lv_at hl 0 rfl) ?_
    refine lv_iload_n hx hb dJ6_bitCount_0f7a4_42 rfl (lv_at hl 0 rfl) ?_
    refine lv_bipush (v := 16) hx hb dJ6_bitCount_0f7a4_43 (by decide) ?_
    refine lv_iushr (v := _) hx hb dJ6_bitCount_0f7a4_45 rfl ?_
    refine lv_topi (fun x13 ex13 => ?_)
    have ix13 := iv_top x13
    refine lv_iadd hx hb dJ6_bitCount_0f7a4_46 ?_
    refine lv_topi (fun x14 ex14 => ?_)
    have ix14 := iv_top x14
    refine lv_istore_n (lv' := [(0, .int x14)]) hx hb dJ6_bitCount_0f7a4_47 rfl hl (by decide) rfl (fun ls hl => ?_)
    refine lv_iload_n hx hb dJ6_bitCount_0f7a4_48 rfl (lv_at hl 0 rfl) ?_
    refine lv_bipush (v := 63) hx hb dJ6_bitCount_0f7a4_49 (by decide) ?_
    refine lv_iand hx hb dJ6_bitCount_0f7a4_51 ?_
    refine lv_topi (fun x15 ex15 => ?_)
    have ix15 : IV x15 0 63 := by rw [ex15]; exact iv_and (h2 := 63) (iv_w (iv_c (by decide) : IV 63 63 63) (by decide)) (by decide)
    exact th_iret S hK hH hS hr hlocks (th_R.i ix15) dJ6_bitCount_0f7a4_52
  exact J0 s.heap [] ls hH va_S.rf hl

set_option maxRecDepth 100000 in
theorem m_X1_mapsToFold (l : Launch) (D : va_G) (cT : Nat → ClassId) (T : Nat → Option Nat) (q : Nat → Int) (hq : qok q) (a0 : Nat) (t0 : T a0 = some 6) (a1 : Nat) (t1 : T a1 = some 10) (y2 : Int32) (j2 : IV y2 1 20) : th_Met l D cT T (kd q) yX1_mapsToFold cX1_mapsToFold 9 (some .int) (rmk 6 150) [.ref a0, .ref a1, .int y2] (th_R T (some (.inl (-1, 2147483646)))) [18, 19, 29] := by
  refine th_start (by decide) (Nat.le_of_ble_eq_true rfl) ?_
  intro p e s m below meth c ls S hK hH hr hlocks hnm hl
  have hx := S.1
  have hb := S.2.1
  have hl : lv_has ls 9 [(0, .ref a0), (1, .ref a1), (2, .int y2)] := hl
  have J45 : ∀ (n : Nat) (H : Heap) (locs : List Loc) (ls : Array Slot) (v45_3 : Int32) (v45_4 : Int32) (v45_5 : Int32) (v45_6 : Nat) (v45_7 : Int32), IV v45_3 (-2147483648) 2147483647 → IV v45_4 (-2147483648) 2147483647 → IV v45_5 (-2147483648) 2147483647 → T v45_6 = some 10 → IV v45_7 0 5 → th_H D cT T (kd q) H → va_S (th_A T [18, 19, 29]) s.heap H locs → lv_has ls 9 [(0, .ref a0), (1, .ref a1), (2, .int y2), (3, .int v45_3), (4, .int v45_4), (5, .int v45_5), (6, .ref v45_6), (7, .int v45_7)] → (5 + 1 - v45_7.toInt).toNat < n → W p l e (rmk 6 150) s m [.ref a0, .ref a1, .int y2].toArray below meth c H locs 0 0 (MQ below (th_Q D cT T (kd q) (th_R T (some (.inl (-1, 2147483646)))) [18, 19, 29]) [.ref a0, .ref a1, .int y2].toArray s 0 0 (th_A T [18, 19, 29])) (F0 m 45 ls []) := by
    intro n
    induction n with
    | zero => intro H locs ls v45_3 v45_4 v45_5 v45_6 v45_7 iv45_3 iv45_4 iv45_5 tv45_6 iv45_7 hH hS hl hn; exact absurd hn (Nat.not_lt_zero _)
    | succ n ih45 =>
      intro H locs ls v45_3 v45_4 v45_5 v45_6 v45_7 iv45_3 iv45_4 iv45_5 tv45_6 iv45_7 hH hS hl hn45
      have J54 : ∀ (n : Nat) (H : Heap) (locs : List Loc) (ls : Array Slot) (v54_8 : Int32), IV v54_8 0 2147483647 → IV v45_7 0 4 → th_H D cT T (kd q) H → va_S (th_A T [18, 19, 29]) s.heap H locs → lv_has ls 9 [(0, .ref a0), (1, .ref a1), (2, .int y2), (3, .int v45_3), (4, .int v45_4), (5, .int v45_5), (6, .ref v45_6), (7, .int v45_7), (8, .int v54_8)] → (2147483647 + 1 - v54_8.toInt).toNat < n → W p l e (rmk 6 150) s m [.ref a0, .ref a1, .int y2].toArray below meth c H locs 0 0 (MQ below (th_Q D cT T (kd q) (th_R T (some (.inl (-1, 2147483646)))) [18, 19, 29]) [.ref a0, .ref a1, .int y2].toArray s 0 0 (th_A T [18, 19, 29])) (F0 m 54 ls []) := by
        intro n
        induction n with
        | zero => intro H locs ls v54_8 iv54_8 f54_v45_7 hH hS hl hn; exact absurd hn (Nat.not_lt_zero _)
        | succ n ih54 =>
          intro H locs ls v54_8 iv54_8 f54_v45_7 hH hS hl hn54
          have J123 : ∀ (H : Heap) (locs : List Loc) (ls : Array Slot), IV v45_5 1 2147483647 → IV v45_7 0 4 → IV v54_8 0 2147483646 → th_H D cT T (kd q) H → va_S (th_A T [18, 19, 29]) s.heap H locs → lv_has ls 9 [(0, .ref a0), (1, .ref a1), (2, .int y2), (3, .int v45_3), (4, .int v45_4), (5, .int v45_5), (6, .ref v45_6), (7, .int v45_7), (8, .int v54_8)] → W p l e (rmk 6 150) s m [.ref a0, .ref a1, .int y2].toArray below meth c H locs 0 0 (MQ below (th_Q D cT T (kd q) (th_R T (some (.inl (-1, 2147483646)))) [18, 19, 29]) [.ref a0, .ref a1, .int y2].toArray s 0 0 (th_A T [18, 19, 29])) (F0 m 123 ls []) := by
            intro H locs ls f123_v45_5 f123_v45_7 f123_v54_8 hH hS hl
            refine th_iinc S dX1_mapsToFold_123 hl (k := 8) rfl (by decide) f123_v54_8 (by decide) (fun x1 ls ex1 ix1 hl => ?_)
            have hl : lv_has ls 9 [(8, .int x1), (0, .ref a0), (1, .ref a1), (2, .int y2), (3, .int v45_3), (4, .int v45_4), (5, .int v45_5), (6, .ref v45_6), (7, .int v45_7)] := hl
            have ix1 : IV x1 1 2147483647 := ix1
            refine lv_goto (tgt := 54) hx hb dX1_mapsToFold_126 (by decide) ?_
            exact ih54 H locs ls x1 (iv_w ix1 (by decide)) f123_v45_7 hH hS (lv_sub hl [1, 2, 3, 4, 5, 6, 7, 8, 0] rfl) (th_up iv54_8 ex1 (by decide) hn54)
          refine lv_iload hx hb dX1_mapsToFold_54 (lv_at hl 8 rfl) ?_
          refine lv_iload hx hb dX1_mapsToFold_56 (lv_at hl 5 rfl) ?_
          refine lv_icmp_ge (tgt := 129) hx hb dX1_mapsToFold_58 (by decide) (fun c2 => ?_) (fun c2 => ?_)
          · skip
            refine th_iinc S dX1_mapsToFold_129 hl (k := 7) rfl (by decide) f54_v45_7 (by decide) (fun x3 ls ex3 ix3 hl => ?_)
            have hl : lv_has ls 9 [(7, .int x3), (0, .ref a0), (1, .ref a1), (2, .int y2), (3, .int v45_3), (4, .int v45_4), (5, .int v45_5), (6, .ref v45_6), (8, .int v54_8)] := hl
            have ix3 : IV x3 1 5 := ix3
            refine lv_goto (tgt := 45) hx hb dX1_mapsToFold_132 (by decide) ?_
            exact ih45 H locs ls v45_3 v45_4 v45_5 v45_6 x3 iv45_3 iv45_4 iv45_5 tv45_6 (iv_w ix3 (by decide)) hH hS (lv_sub hl [1, 2, 3, 4, 5, 6, 7, 0] rfl) (th_up iv45_7 ex3 (by decide) hn45)
          · skip
            have ir4 : IV v54_8 0 2147483646 := iv_uL iv54_8 iv45_5 (iv_nle c2) (by decide)
            have ir5 : IV v45_5 1 2147483647 := iv_uR iv54_8 iv45_5 (iv_nle c2) (by decide)
            refine lv_iload hx hb dX1_mapsToFold_61 (lv_at hl 8 rfl) ?_
            refine lv_iload hx hb dX1_mapsToFold_63 (lv_at hl 4 rfl) ?_
            refine lv_iand hx hb dX1_mapsToFold_65 ?_
            refine lv_topi (fun x6 ex6 => ?_)
            have ix6 : IV x6 0 2147483646 := by rw [ex6]; exact iv_andL (h1 := 2147483646) ir4 (by decide)
            refine lv_if_ne (tgt := 123) hx hb dX1_mapsToFold_66 (by decide) (fun c7 => ?_) (fun c7 => ?_)
            · skip
              have ir8 : IV x6 1 2147483646 := iv_cutL ix6 (iv_c (by decide) : IV 0 0 0) c7 (by decide)
              exact J123 H locs ls ir5 f54_v45_7 ir4 hH hS (lv_sub hl [0, 1, 2, 3, 4, 5, 6, 7, 8] rfl)
            · skip
              have ir9 : IV x6 0 0 := iv_eL c7 (iv_c (by decide) : IV 0 0 0)
              refine lv_iload hx hb dX1_mapsToFold_69 (lv_at hl 8 rfl) ?_
              refine th_callSi (n := 1) (As := [.int v54_8]) S hK hH hS (th_A.sub (by decide)) (m_J6_bitCount_0f7a4 l D cT T q hq (v54_8) (iv_top _)) gm_715 gm_1085 gm_714 gm_132 (by decide +kernel) ⟨rfl, rfl, Nat.le_of_ble_eq_true rfl, Nat.le_of_ble_eq_true rfl⟩ rfl hl.1 rfl (Nat.le_of_ble_eq_true rfl) dX1_mapsToFold_71 ⟨Nat.zero_le _, Nat.zero_le _⟩ (fun x10 H locs ix10 hH hS hF1 => ?_)
              refine lv_iload hx hb dX1_mapsToFold_74 (lv_at hl 7 rfl) ?_
              refine lv_icmp_eq (tgt := 82) hx hb dX1_mapsToFold_76 (by decide) (fun c11 => ?_) (fun c11 => ?_)
              · skip
                have ir12 : IV x10 0 4 := iv_eL c11 f54_v45_7
                refine lv_aload hx hb dX1_mapsToFold_82 (lv_at hl 6 rfl) ?_
                refine lv_aload_n hx hb dX1_mapsToFold_84 rfl (lv_at hl 1 rfl) ?_
                refine th_callVv (n := 1) (As := [.ref a1]) S hK hH hS (th_A.sub (by decide)) (m_X7_copyFrom l D cT T q hq v45_6 tv45_6 a1 t1) gm_809 gm_980 gm_807 gm_808 gm_118 (by decide +kernel) ⟨rfl, rfl, Nat.le_of_ble_eq_true rfl, Nat.le_of_ble_eq_true rfl⟩ tv45_6 kd_10 rfl rfl hl.1 rfl (Nat.le_of_ble_eq_true rfl) dX1_mapsToFold_85 ⟨Nat.zero_le _, Nat.zero_le _⟩ (fun H locs hH hS hF1 => ?_)
                refine lv_aload hx hb dX1_mapsToFold_88 (lv_at hl 6 rfl) ?_
                refine th_get S hK hH inG7 tv45_6 kd_10 rfl 0 (by decide) gm_230 rfl rfl dX1_mapsToFold_90 (fun v13 hv13 fv13 => ?_)
                obtain ⟨rf14, rfl, trf14⟩ := th_V.ref hv13
                refine lv_bipush (v := 39) hx hb dX1_mapsToFold_93 (by decide) ?_
                refine lv_dup2_11 hx hb dX1_mapsToFold_95 rfl rfl ?_
                refine th_iald S hK hH trf14 kd_29 (th_in (hi := 39) (iv_w (iv_c (by decide) : IV 39 39 39) (by decide)) (by decide)) dX1_mapsToFold_96 (fun v15 hv15 => ?_)
                obtain ⟨x16, rfl, ix16⟩ := th_V.int hv15
                refine lv_iload hx hb dX1_mapsToFold_97 (lv_at hl 8 rfl) ?_
                refine lv_ior hx hb dX1_mapsToFold_99 ?_
                refine lv_topi (fun x17 ex17 => ?_)
                have ix17 := iv_top x17
                refine th_iast S hK hH hS ⟨29, by decide, trf14⟩ trf14 kd_29 (th_in (hi := 39) (iv_w (iv_c (by decide) : IV 39 39 39) (by decide)) (by decide)) (th_iv ix17) dX1_mapsToFold_100 (fun H locs hH hS hq1 => ?_)
                have f18 := fv13.kept (hq1 _ (th_ne tv45_6 trf14 (by decide)))
                refine lv_aload_n hx hb dX1_mapsToFold_101 rfl (lv_at hl 0 rfl) ?_
                refine th_get S hK hH inG1 t0 kd_6 rfl 0 (by decide) gm_408 rfl rfl dX1_mapsToFold_102 (fun v19 hv19 fv19 => ?_)
                obtain ⟨rf20, rfl, trf20⟩ := th_V.ref hv19
                refine lv_aload_n hx hb dX1_mapsToFold_105 rfl (lv_at hl 0 rfl) ?_
                refine lv_aload hx hb dX1_mapsToFold_106 (lv_at hl 6 rfl) ?_
                refine lv_iload_n hx hb dX1_mapsToFold_108 rfl (lv_at hl 2 rfl) ?_
                refine th_callVr (n := 2) (As := [.ref v45_6, .int y2]) S hK hH hS (th_A.sub (by decide)) (m_X1_after l D cT T q hq a0 t0 v45_6 tv45_6 (y2) (iv_w j2 (by decide))) gm_979 gm_976 gm_977 gm_978 gm_121 (by decide +kernel) ⟨rfl, rfl, Nat.le_of_ble_eq_true rfl, Nat.le_of_ble_eq_true rfl⟩ t0 kd_6 rfl rfl hl.1 rfl (Nat.le_of_ble_eq_true rfl) dX1_mapsToFold_109 ⟨Nat.zero_le _, Nat.zero_le _⟩ (fun rf21 H locs trf21 hH hS hF1 => ?_)
                have f22 := f18.kept (hF1 _ f18.lt (th_off tv45_6 (by decide)))
                have f23 := fv19.kept (hF1 _ fv19.lt (th_off t0 (by decide)))
                refine th_callVi (n := 1) (As := [.ref rf21]) S hK hH hS (th_A.sub (by decide)) (m_X0_goneIn l D cT T q hq rf20 trf20 rf21 trf21) gm_998 gm_995 gm_996 gm_997 gm_119 (by decide +kernel) ⟨rfl, rfl, Nat.le_of_ble_eq_true rfl, Nat.le_of_ble_eq_true rfl⟩ trf20 kd_4 rfl rfl hl.1 rfl (Nat.le_of_ble_eq_true rfl) dX1_mapsToFold_112 ⟨Nat.zero_le _, Nat.zero_le _⟩ (fun x24 H locs ix24 hH hS hF1 => ?_)
                have f25 := f22.kept (hF1 _ f22.lt (th_off tv45_6 (by decide)))
                have f26 := f23.kept (hF1 _ f23.lt (th_off t0 (by decide)))
                refine lv_iload_n hx hb dX1_mapsToFold_115 rfl (lv_at hl 3 rfl) ?_
                refine lv_iand hx hb dX1_mapsToFold_116 ?_
                refine lv_topi (fun x27 ex27 => ?_)
                have ix27 := iv_top x27
                refine lv_if_ne (tgt := 123) hx hb dX1_mapsToFold_117 (by decide) (fun c28 => ?_) (fun c28 => ?_)
                · skip
                  exact J123 H locs ls ir5 f54_v45_7 ir4 hH hS (lv_sub hl [0, 1, 2, 3, 4, 5, 6, 7, 8] rfl)
                · skip
                  have ir29 : IV x27 0 0 := iv_eL c28 (iv_c (by decide) : IV 0 0 0)
                  refine lv_iload hx hb dX1_mapsToFold_120 (lv_at hl 8 rfl) ?_
                  exact th_iret S hK hH hS hr hlocks (th_R.i (iv_w ir4 (by decide))) dX1_mapsToFold_122
              · skip
                refine lv_goto (tgt := 123) hx hb dX1_mapsToFold_79 (by decide) ?_
                exact J123 H locs ls ir5 f54_v45_7 ir4 hH hS (lv_sub hl [0, 1, 2, 3, 4, 5, 6, 7, 8] rfl)
      refine lv_iload hx hb dX1_mapsToFold_45 (lv_at hl 7 rfl) ?_
      refine lv_iconst (v := 4) hx hb dX1_mapsToFold_47 (by decide) ?_
      refine lv_icmp_gt (tgt := 135) hx hb dX1_mapsToFold_48 (by decide) (fun c30 => ?_) (fun c30 => ?_)
      · skip
        have ir31 : IV v45_7 5 5 := iv_uR (iv_c (by decide) : IV 4 4 4) iv45_7 (iv_lt c30) (by decide)
        refine lv_iconst (v := (-1)) hx hb dX1_mapsToFold_135 (by decide) ?_
        exact th_iret S hK hH hS hr hlocks (th_R.i (iv_w (iv_c (by decide) : IV (-1) (-1) (-1)) (by decide))) dX1_mapsToFold_136
      · skip
        have ir32 : IV v45_7 0 4 := iv_vL iv45_7 (iv_c (by decide) : IV 4 4 4) (iv_nlt c30) (by decide)
        refine lv_iconst (v := 0) hx hb dX1_mapsToFold_51 (by decide) ?_
        refine lv_istore (lv' := [(8, .int 0), (0, .ref a0), (1, .ref a1), (2, .int y2), (3, .int v45_3), (4, .int v45_4), (5, .int v45_5), (6, .ref v45_6), (7, .int v45_7)]) hx hb dX1_mapsToFold_52 hl (by decide) rfl (fun ls hl => ?_)
        exact J54 ((2147483647 + 1 - Int32.toInt 0).toNat + 1) H locs ls 0 (iv_w (iv_c (by decide) : IV 0 0 0) (by decide)) ir32 hH hS (lv_sub hl [1, 2, 3, 4, 5, 6, 7, 8, 0] rfl) (Nat.lt_succ_self _)
  have J0 : ∀ (H : Heap) (locs : List Loc) (ls : Array Slot), th_H D cT T (kd q) H → va_S (th_A T [18, 19, 29]) s.heap H locs → lv_has ls 9 [(0, .ref a0), (1, .ref a1), (2, .int y2)] → W p l e (rmk 6 150) s m [.ref a0, .ref a1, .int y2].toArray below meth c H locs 0 0 (MQ below (th_Q D cT T (kd q) (th_R T (some (.inl (-1, 2147483646)))) [18, 19, 29]) [.ref a0, .ref a1, .int y2].toArray s 0 0 (th_A T [18, 19, 29])) (F0 m 0 ls []) := by
    intro H locs ls hH hS hl
    refine lv_aload_n hx hb dX1_mapsToFold_0 rfl (lv_at hl 0 rfl) ?_
    refine th_get S hK hH inG1 t0 kd_6 rfl 0 (by decide) gm_408 rfl rfl dX1_mapsToFold_1 (fun v33 hv33 fv33 => ?_)
    obtain ⟨rf34, rfl, trf34⟩ := th_V.ref hv33
    refine lv_aload_n hx hb dX1_mapsToFold_4 rfl (lv_at hl 1 rfl) ?_
    refine th_callVi (n := 1) (As := [.ref a1]) S hK hH hS (th_A.sub (by decide)) (m_X0_goneIn l D cT T q hq rf34 trf34 a1 t1) gm_998 gm_995 gm_996 gm_997 gm_119 (by decide +kernel) ⟨rfl, rfl, Nat.le_of_ble_eq_true rfl, Nat.le_of_ble_eq_true rfl⟩ trf34 kd_4 rfl rfl hl.1 rfl (Nat.le_of_ble_eq_true rfl) dX1_mapsToFold_5 ⟨Nat.zero_le _, Nat.zero_le _⟩ (fun x35 H locs ix35 hH hS hF1 => ?_)
    have f36 := fv33.kept (hF1 _ fv33.lt (th_off t0 (by decide)))
    refine lv_iconst (v := (-1)) hx hb dX1_mapsToFold_8 (by decide) ?_
    refine lv_ixor hx hb dX1_mapsToFold_9 ?_
    refine lv_topi (fun x37 ex37 => ?_)
    have ix37 := iv_top x37
    refine lv_istore_n (lv' := [(3, .int x37), (0, .ref a0), (1, .ref a1), (2, .int y2)]) hx hb dX1_mapsToFold_10 rfl hl (by decide) rfl (fun ls hl => ?_)
    refine lv_aload_n hx hb dX1_mapsToFold_11 rfl (lv_at hl 2 rfl) ?_
    refine th_get S hK hH inG7 t1 kd_10 rfl 0 (by decide) gm_230 rfl rfl dX1_mapsToFold_12 (fun v38 hv38 fv38 => ?_)
    obtain ⟨rf39, rfl, trf39⟩ := th_V.ref hv38
    refine lv_bipush (v := 39) hx hb dX1_mapsToFold_15 (by decide) ?_
    refine th_iald S hK hH trf39 kd_29 (th_in (hi := 39) (iv_w (iv_c (by decide) : IV 39 39 39) (by decide)) (by decide)) dX1_mapsToFold_17 (fun v40 hv40 => ?_)
    obtain ⟨x41, rfl, ix41⟩ := th_V.int hv40
    refine lv_istore (lv' := [(4, .int x41), (3, .int x37), (0, .ref a0), (1, .ref a1), (2, .int y2)]) hx hb dX1_mapsToFold_18 hl (by decide) rfl (fun ls hl => ?_)
    refine lv_iconst (v := 1) hx hb dX1_mapsToFold_20 (by decide) ?_
    refine lv_aload_n hx hb dX1_mapsToFold_21 rfl (lv_at hl 2 rfl) ?_
    refine th_getK S hK f36 inG1 rfl (by decide) gm_408 rfl dX1_mapsToFold_22 ?_
    refine th_get S hK hH inG0 trf34 kd_4 rfl 0 (by decide) gm_372 rfl rfl dX1_mapsToFold_25 (fun v43 hv43 fv43 => ?_)
    obtain ⟨rf44, rfl, trf44⟩ := th_V.ref hv43
    refine th_get S hK hH inG4 trf44 kd_3 rfl 12 (by decide) gm_283 rfl rfl dX1_mapsToFold_28 (fun v45 hv45 fv45 => ?_)
    obtain ⟨x46, rfl, ix46⟩ := th_V.int hv45
    refine lv_ishl hx hb dX1_mapsToFold_31 ?_
    refine lv_topi (fun x47 ex47 => ?_)
    have ix47 := iv_top x47
    refine lv_istore (lv' := [(5, .int x47), (4, .int x41), (3, .int x37), (0, .ref a0), (1, .ref a1), (2, .int y2)]) hx hb dX1_mapsToFold_32 hl (by decide) rfl (fun ls hl => ?_)
    refine lv_aload_n hx hb dX1_mapsToFold_34 rfl (lv_at hl 3 rfl) ?_
    refine th_get S hK hH inG1 t0 kd_6 rfl 1 (by decide) gm_409 rfl rfl dX1_mapsToFold_35 (fun v48 hv48 fv48 => ?_)
    obtain ⟨rf49, rfl, trf49⟩ := th_V.ref hv48
    refine lv_iconst (v := 1) hx hb dX1_mapsToFold_38 (by decide) ?_
    refine th_aald S hK hH trf49 kd_31 (th_in (hi := 1) (iv_w (iv_c (by decide) : IV 1 1 1) (by decide)) (by decide)) dX1_mapsToFold_39 (fun v50 hv50 => ?_)
    obtain ⟨rf51, rfl, trf51⟩ := th_V.ref hv50
    refine lv_astore (lv' := [(6, .ref rf51), (5, .int x47), (4, .int x41), (3, .int x37), (0, .ref a0), (1, .ref a1), (2, .int y2)]) hx hb dX1_mapsToFold_40 hl (by decide) rfl (fun ls hl => ?_)
    refine lv_iconst (v := 0) hx hb dX1_mapsToFold_42 (by decide) ?_
    refine lv_istore (lv' := [(7, .int 0), (6, .ref rf51), (5, .int x47), (4, .int x41), (3, .int x37), (0, .ref a0), (1, .ref a1), (2, .int y2)]) hx hb dX1_mapsToFold_43 hl (by decide) rfl (fun ls hl => ?_)
    exact J45 ((5 + 1 - Int32.toInt 0).toNat + 1) H locs ls x37 x41 x47 rf51 0 ix37 ix41 ix47 trf51 (iv_w (iv_c (by decide) : IV 0 0 0) (by decide)) hH hS (lv_sub hl [5, 6, 7, 4, 3, 2, 1, 0] rfl) (Nat.lt_succ_self _)
  exact J0 s.heap [] ls hH va_S.rf hl

set_option maxRecDepth 100000 in
theorem m_X1_standingFrom_v0 (l : Launch) (D : va_G) (cT : Nat → ClassId) (T : Nat → Option Nat) (q : Nat → Int) (hq : qok q) (a0 : Nat) (t0 : T a0 = some 6) (y1 : Int32) (j1 : IV y1 7 7) (y2 : Int32) (j2 : IV y2 0 7) (y3 : Int32) (j3 : IV y3 0 7) : th_Met l D cT T (kd q) yX1_standingFrom cX1_standingFrom 6 (some .int) (rmk 0 0) [.ref a0, .int y1, .int y2, .int y3] (th_R T (some (.inl (0, 1)))) [] := by
  refine th_start (by decide) (Nat.le_of_ble_eq_true rfl) ?_
  intro p e s m below meth c ls S hK hH hr hlocks hnm hl
  have hx := S.1
  have hb := S.2.1
  have hl : lv_has ls 6 [(0, .ref a0), (1, .int y1), (2, .int y2), (3, .int y3)] := hl
  have J27_s0_0 : ∀ (H : Heap) (locs : List Loc) (ls : Array Slot), th_H D cT T (kd q) H → va_S (th_A T []) s.heap H locs → lv_has ls 6 [] → W p l e (rmk 0 0) s m [.ref a0, .int y1, .int y2, .int y3].toArray below meth c H locs 0 0 (MQ below (th_Q D cT T (kd q) (th_R T (some (.inl (0, 1)))) []) [.ref a0, .int y1, .int y2, .int y3].toArray s 0 0 (th_A T [])) (F0 m 27 ls [.int 0]) := by
    intro H locs ls hH hS hl
    exact th_iret S hK hH hS hr hlocks (th_R.i (iv_w (iv_c (by decide) : IV 0 0 0) (by decide))) dX1_standingFrom_27
  have J27_s0_1 : ∀ (H : Heap) (locs : List Loc) (ls : Array Slot), th_H D cT T (kd q) H → va_S (th_A T []) s.heap H locs → lv_has ls 6 [] → W p l e (rmk 0 0) s m [.ref a0, .int y1, .int y2, .int y3].toArray below meth c H locs 0 0 (MQ below (th_Q D cT T (kd q) (th_R T (some (.inl (0, 1)))) []) [.ref a0, .int y1, .int y2, .int y3].toArray s 0 0 (th_A T [])) (F0 m 27 ls [.int 1]) := by
    intro H locs ls hH hS hl
    exact th_iret S hK hH hS hr hlocks (th_R.i (iv_w (iv_c (by decide) : IV 1 1 1) (by decide))) dX1_standingFrom_27
  have J0 : ∀ (H : Heap) (locs : List Loc) (ls : Array Slot), th_H D cT T (kd q) H → va_S (th_A T []) s.heap H locs → lv_has ls 6 [(0, .ref a0), (1, .int y1), (2, .int y2), (3, .int y3)] → W p l e (rmk 0 0) s m [.ref a0, .int y1, .int y2, .int y3].toArray below meth c H locs 0 0 (MQ below (th_Q D cT T (kd q) (th_R T (some (.inl (0, 1)))) []) [.ref a0, .int y1, .int y2, .int y3].toArray s 0 0 (th_A T [])) (F0 m 0 ls []) := by
    intro H locs ls hH hS hl
    refine lv_iload_n hx hb dX1_standingFrom_0 rfl (lv_at hl 1 rfl) ?_
    refine lv_iload_n hx hb dX1_standingFrom_1 rfl (lv_at hl 3 rfl) ?_
    refine lv_icmp_lt (tgt := 28) hx hb dX1_standingFrom_2 (by decide) (fun c1 => ?_) (fun c1 => ?_)
    · skip
      exfalso
      have z1 := iv_lt c1
      have z2 := (j1).1
      have z3 := (j1).2
      have z4 := (j3).1
      have z5 := (j3).2
      omega
    · skip
      refine lv_aload_n hx hb dX1_standingFrom_5 rfl (lv_at hl 0 rfl) ?_
      refine th_get S hK hH inG1 t0 kd_6 rfl 1 (by decide) gm_409 rfl rfl dX1_standingFrom_6 (fun v2 hv2 fv2 => ?_)
      obtain ⟨rf3, rfl, trf3⟩ := th_V.ref hv2
      refine lv_iload_n hx hb dX1_standingFrom_9 rfl (lv_at hl 1 rfl) ?_
      refine th_aald S hK hH trf3 kd_31 (th_in (hi := 7) (iv_w j1 (by decide)) (by decide)) dX1_standingFrom_10 (fun v4 hv4 => ?_)
      obtain ⟨rf5, rfl, trf5⟩ := th_V.ref hv4
      refine th_get S hK hH inG7 trf5 kd_10 rfl 0 (by decide) gm_230 rfl rfl dX1_standingFrom_11 (fun v6 hv6 fv6 => ?_)
      obtain ⟨rf7, rfl, trf7⟩ := th_V.ref hv6
      refine lv_bipush (v := 15) hx hb dX1_standingFrom_14 (by decide) ?_
      refine lv_iload_n hx hb dX1_standingFrom_16 rfl (lv_at hl 2 rfl) ?_
      refine lv_iadd hx hb dX1_standingFrom_17 ?_
      refine lv_topi (fun x8 ex8 => ?_)
      have ix8 : IV x8 15 22 := by rw [ex8]; exact iv_add (iv_c (by decide) : IV 15 15 15) j2 (by decide)
      refine th_iald S hK hH trf7 kd_29 (th_in (hi := 22) (iv_w ix8 (by decide)) (by decide)) dX1_standingFrom_18 (fun v9 hv9 => ?_)
      obtain ⟨x10, rfl, ix10⟩ := th_V.int hv9
      refine lv_if_le (tgt := 26) hx hb dX1_standingFrom_19 (by decide) (fun c11 => ?_) (fun c11 => ?_)
      · skip
        have ir12 : IV x10 (-2147483648) 0 := iv_vL ix10 (iv_c (by decide) : IV 0 0 0) (iv_le c11) (by decide)
        refine lv_iconst (v := 0) hx hb dX1_standingFrom_26 (by decide) ?_
        exact J27_s0_0 H locs ls  hH hS (lv_sub hl [] rfl)
      · skip
        have ir13 : IV x10 1 2147483647 := iv_uR (iv_c (by decide) : IV 0 0 0) ix10 (iv_nle c11) (by decide)
        refine lv_iconst (v := 1) hx hb dX1_standingFrom_22 (by decide) ?_
        refine lv_goto (tgt := 27) hx hb dX1_standingFrom_23 (by decide) ?_
        exact J27_s0_1 H locs ls  hH hS (lv_sub hl [] rfl)
  exact J0 s.heap [] ls hH va_S.rf hl

set_option maxRecDepth 100000 in
theorem m_X1_standingFrom_v1 (l : Launch) (D : va_G) (cT : Nat → ClassId) (T : Nat → Option Nat) (q : Nat → Int) (hq : qok q) (a0 : Nat) (t0 : T a0 = some 6) (y1 : Int32) (j1 : IV y1 6 6) (y2 : Int32) (j2 : IV y2 0 7) (y3 : Int32) (j3 : IV y3 0 7) : th_Met l D cT T (kd q) yX1_standingFrom cX1_standingFrom 6 (some .int) (rmk 5 126) [.ref a0, .int y1, .int y2, .int y3] (th_R T (some (.inl (0, 1)))) [18, 19, 29] := by
  refine th_start (by decide) (Nat.le_of_ble_eq_true rfl) ?_
  intro p e s m below meth c ls S hK hH hr hlocks hnm hl
  have hx := S.1
  have hb := S.2.1
  have hl : lv_has ls 6 [(0, .ref a0), (1, .int y1), (2, .int y2), (3, .int y3)] := hl
  have J27_s0_0 : ∀ (H : Heap) (locs : List Loc) (ls : Array Slot), th_H D cT T (kd q) H → va_S (th_A T [18, 19, 29]) s.heap H locs → lv_has ls 6 [] → W p l e (rmk 5 126) s m [.ref a0, .int y1, .int y2, .int y3].toArray below meth c H locs 0 0 (MQ below (th_Q D cT T (kd q) (th_R T (some (.inl (0, 1)))) [18, 19, 29]) [.ref a0, .int y1, .int y2, .int y3].toArray s 0 0 (th_A T [18, 19, 29])) (F0 m 27 ls [.int 0]) := by
    intro H locs ls hH hS hl
    exact th_iret S hK hH hS hr hlocks (th_R.i (iv_w (iv_c (by decide) : IV 0 0 0) (by decide))) dX1_standingFrom_27
  have J27_s0_1 : ∀ (H : Heap) (locs : List Loc) (ls : Array Slot), th_H D cT T (kd q) H → va_S (th_A T [18, 19, 29]) s.heap H locs → lv_has ls 6 [] → W p l e (rmk 5 126) s m [.ref a0, .int y1, .int y2, .int y3].toArray below meth c H locs 0 0 (MQ below (th_Q D cT T (kd q) (th_R T (some (.inl (0, 1)))) [18, 19, 29]) [.ref a0, .int y1, .int y2, .int y3].toArray s 0 0 (th_A T [18, 19, 29])) (F0 m 27 ls [.int 1]) := by
    intro H locs ls hH hS hl
    exact th_iret S hK hH hS hr hlocks (th_R.i (iv_w (iv_c (by decide) : IV 1 1 1) (by decide))) dX1_standingFrom_27
  have J0 : ∀ (H : Heap) (locs : List Loc) (ls : Array Slot), th_H D cT T (kd q) H → va_S (th_A T [18, 19, 29]) s.heap H locs → lv_has ls 6 [(0, .ref a0), (1, .int y1), (2, .int y2), (3, .int y3)] → W p l e (rmk 5 126) s m [.ref a0, .int y1, .int y2, .int y3].toArray below meth c H locs 0 0 (MQ below (th_Q D cT T (kd q) (th_R T (some (.inl (0, 1)))) [18, 19, 29]) [.ref a0, .int y1, .int y2, .int y3].toArray s 0 0 (th_A T [18, 19, 29])) (F0 m 0 ls []) := by
    intro H locs ls hH hS hl
    refine lv_iload_n hx hb dX1_standingFrom_0 rfl (lv_at hl 1 rfl) ?_
    refine lv_iload_n hx hb dX1_standingFrom_1 rfl (lv_at hl 3 rfl) ?_
    refine lv_icmp_lt (tgt := 28) hx hb dX1_standingFrom_2 (by decide) (fun c1 => ?_) (fun c1 => ?_)
    · skip
      have ir2 : IV y3 7 7 := iv_uR j1 j3 (iv_lt c1) (by decide)
      refine lv_aload_n hx hb dX1_standingFrom_28 rfl (lv_at hl 0 rfl) ?_
      refine th_get S hK hH inG1 t0 kd_6 rfl 1 (by decide) gm_409 rfl rfl dX1_standingFrom_29 (fun v3 hv3 fv3 => ?_)
      obtain ⟨rf4, rfl, trf4⟩ := th_V.ref hv3
      refine lv_iload_n hx hb dX1_standingFrom_32 rfl (lv_at hl 1 rfl) ?_
      refine lv_iconst (v := 1) hx hb dX1_standingFrom_33 (by decide) ?_
      refine lv_iadd hx hb dX1_standingFrom_34 ?_
      refine lv_topi (fun x5 ex5 => ?_)
      have ix5 : IV x5 7 7 := by rw [ex5]; exact iv_add j1 (iv_c (by decide) : IV 1 1 1) (by decide)
      refine th_aald S hK hH trf4 kd_31 (th_in (hi := 7) (iv_w ix5 (by decide)) (by decide)) dX1_standingFrom_35 (fun v6 hv6 => ?_)
      obtain ⟨rf7, rfl, trf7⟩ := th_V.ref hv6
      refine lv_astore (lv' := [(4, .ref rf7), (0, .ref a0), (1, .int y1), (2, .int y2), (3, .int y3)]) hx hb dX1_standingFrom_36 hl (by decide) rfl (fun ls hl => ?_)
      refine lv_aload hx hb dX1_standingFrom_38 (lv_at hl 0 rfl) ?_
      refine lv_aload_n hx hb dX1_standingFrom_40 rfl (lv_at hl 1 rfl) ?_
      refine th_getK S hK fv3 inG1 rfl (by decide) gm_409 rfl dX1_standingFrom_41 ?_
      refine lv_iload_n hx hb dX1_standingFrom_44 rfl (lv_at hl 2 rfl) ?_
      refine th_aald S hK hH trf4 kd_31 (th_in (hi := 6) (iv_w j1 (by decide)) (by decide)) dX1_standingFrom_45 (fun v9 hv9 => ?_)
      obtain ⟨rf10, rfl, trf10⟩ := th_V.ref hv9
      refine th_callVv (n := 1) (As := [.ref rf10]) S hK hH hS (th_A.sub (by decide)) (m_X7_copyFrom l D cT T q hq rf7 trf7 rf10 trf10) gm_809 gm_980 gm_807 gm_808 gm_118 (by decide +kernel) ⟨rfl, rfl, Nat.le_of_ble_eq_true rfl, Nat.le_of_ble_eq_true rfl⟩ trf7 kd_10 rfl rfl hl.1 rfl (Nat.le_of_ble_eq_true rfl) dX1_standingFrom_46 ⟨Nat.zero_le _, Nat.zero_le _⟩ (fun H locs hH hS hF1 => ?_)
      have f11 := fv3.kept (hF1 _ fv3.lt (th_off t0 (by decide)))
      refine lv_aload_n hx hb dX1_standingFrom_49 rfl (lv_at hl 1 rfl) ?_
      refine th_get S hK hH inG1 t0 kd_6 rfl 0 (by decide) gm_408 rfl rfl dX1_standingFrom_50 (fun v12 hv12 fv12 => ?_)
      obtain ⟨rf13, rfl, trf13⟩ := th_V.ref hv12
      refine lv_aload hx hb dX1_standingFrom_53 (lv_at hl 0 rfl) ?_
      refine th_callVv (n := 1) (As := [.ref rf7]) S hK hH hS (th_A.sub (by decide)) (m_X0_passYear l D cT T q hq rf13 trf13 rf7 trf7) gm_908 gm_981 gm_906 gm_907 gm_119 (by decide +kernel) ⟨rfl, rfl, Nat.le_of_ble_eq_true rfl, Nat.le_of_ble_eq_true rfl⟩ trf13 kd_4 rfl rfl hl.1 rfl (Nat.le_of_ble_eq_true rfl) dX1_standingFrom_55 ⟨Nat.zero_le _, Nat.zero_le _⟩ (fun H locs hH hS hF1 => ?_)
      have f14 := f11.kept (hF1 _ f11.lt (th_off t0 (by decide)))
      refine lv_iload_n hx hb dX1_standingFrom_58 rfl (lv_at hl 2 rfl) ?_
      refine lv_iconst (v := 1) hx hb dX1_standingFrom_59 (by decide) ?_
      refine lv_iadd hx hb dX1_standingFrom_60 ?_
      refine lv_topi (fun x15 ex15 => ?_)
      have zx15 : x5 = x15 := ex5.trans ex15.symm
      subst zx15
      refine lv_iload_n hx hb dX1_standingFrom_61 rfl (lv_at hl 4 rfl) ?_
      refine lv_icmp_lt (tgt := 75) hx hb dX1_standingFrom_62 (by decide) (fun c16 => ?_) (fun c16 => ?_)
      · skip
        exfalso
        have z1 := iv_lt c16
        have z2 := (ix5).1
        have z3 := (ix5).2
        have z4 := (ir2).1
        have z5 := (ir2).2
        omega
      · skip
        refine lv_aload_n hx hb dX1_standingFrom_65 rfl (lv_at hl 1 rfl) ?_
        refine lv_iload_n hx hb dX1_standingFrom_66 rfl (lv_at hl 2 rfl) ?_
        refine lv_iconst (v := 1) hx hb dX1_standingFrom_67 (by decide) ?_
        refine lv_iadd hx hb dX1_standingFrom_68 ?_
        refine lv_topi (fun x17 ex17 => ?_)
        have zx17 : x5 = x17 := ex5.trans ex17.symm
        subst zx17
        refine lv_iload_n hx hb dX1_standingFrom_69 rfl (lv_at hl 3 rfl) ?_
        refine lv_iload_n hx hb dX1_standingFrom_70 rfl (lv_at hl 4 rfl) ?_
        refine th_callVi (n := 3) (As := [.int x5, .int y2, .int y3]) S hK hH hS (th_A.sub (by decide)) (m_X1_standingFrom_v0 l D cT T q hq a0 t0 (x5) ix5 (y2) j2 (y3) (iv_w ir2 (by decide))) gm_1128 gm_1125 gm_1127 gm_40 gm_121 (by decide +kernel) ⟨rfl, rfl, Nat.le_of_ble_eq_true rfl, Nat.le_of_ble_eq_true rfl⟩ t0 kd_6 rfl rfl hl.1 rfl (Nat.le_of_ble_eq_true rfl) dX1_standingFrom_71 ⟨Nat.zero_le _, Nat.zero_le _⟩ (fun x18 H locs ix18 hH hS hF1 => ?_)
        have f19 := f14.kept (hF1 _ f14.lt (th_off t0 (by decide)))
        exact th_iret S hK hH hS hr hlocks (th_R.i ix18) dX1_standingFrom_74
    · skip
      have ir20 : IV y3 0 6 := iv_vL j3 j1 (iv_nlt c1) (by decide)
      refine lv_aload_n hx hb dX1_standingFrom_5 rfl (lv_at hl 0 rfl) ?_
      refine th_get S hK hH inG1 t0 kd_6 rfl 1 (by decide) gm_409 rfl rfl dX1_standingFrom_6 (fun v21 hv21 fv21 => ?_)
      obtain ⟨rf22, rfl, trf22⟩ := th_V.ref hv21
      refine lv_iload_n hx hb dX1_standingFrom_9 rfl (lv_at hl 1 rfl) ?_
      refine th_aald S hK hH trf22 kd_31 (th_in (hi := 6) (iv_w j1 (by decide)) (by decide)) dX1_standingFrom_10 (fun v23 hv23 => ?_)
      obtain ⟨rf24, rfl, trf24⟩ := th_V.ref hv23
      refine th_get S hK hH inG7 trf24 kd_10 rfl 0 (by decide) gm_230 rfl rfl dX1_standingFrom_11 (fun v25 hv25 fv25 => ?_)
      obtain ⟨rf26, rfl, trf26⟩ := th_V.ref hv25
      refine lv_bipush (v := 15) hx hb dX1_standingFrom_14 (by decide) ?_
      refine lv_iload_n hx hb dX1_standingFrom_16 rfl (lv_at hl 2 rfl) ?_
      refine lv_iadd hx hb dX1_standingFrom_17 ?_
      refine lv_topi (fun x27 ex27 => ?_)
      have ix27 : IV x27 15 22 := by rw [ex27]; exact iv_add (iv_c (by decide) : IV 15 15 15) j2 (by decide)
      refine th_iald S hK hH trf26 kd_29 (th_in (hi := 22) (iv_w ix27 (by decide)) (by decide)) dX1_standingFrom_18 (fun v28 hv28 => ?_)
      obtain ⟨x29, rfl, ix29⟩ := th_V.int hv28
      refine lv_if_le (tgt := 26) hx hb dX1_standingFrom_19 (by decide) (fun c30 => ?_) (fun c30 => ?_)
      · skip
        have ir31 : IV x29 (-2147483648) 0 := iv_vL ix29 (iv_c (by decide) : IV 0 0 0) (iv_le c30) (by decide)
        refine lv_iconst (v := 0) hx hb dX1_standingFrom_26 (by decide) ?_
        exact J27_s0_0 H locs ls  hH hS (lv_sub hl [] rfl)
      · skip
        have ir32 : IV x29 1 2147483647 := iv_uR (iv_c (by decide) : IV 0 0 0) ix29 (iv_nle c30) (by decide)
        refine lv_iconst (v := 1) hx hb dX1_standingFrom_22 (by decide) ?_
        refine lv_goto (tgt := 27) hx hb dX1_standingFrom_23 (by decide) ?_
        exact J27_s0_1 H locs ls  hH hS (lv_sub hl [] rfl)
  exact J0 s.heap [] ls hH va_S.rf hl

set_option maxRecDepth 100000 in
theorem m_X1_standingFrom_v2 (l : Launch) (D : va_G) (cT : Nat → ClassId) (T : Nat → Option Nat) (q : Nat → Int) (hq : qok q) (a0 : Nat) (t0 : T a0 = some 6) (y1 : Int32) (j1 : IV y1 5 5) (y2 : Int32) (j2 : IV y2 0 7) (y3 : Int32) (j3 : IV y3 0 7) : th_Met l D cT T (kd q) yX1_standingFrom cX1_standingFrom 6 (some .int) (rmk 6 151) [.ref a0, .int y1, .int y2, .int y3] (th_R T (some (.inl (0, 2)))) [18, 19, 29] := by
  refine th_start (by decide) (Nat.le_of_ble_eq_true rfl) ?_
  intro p e s m below meth c ls S hK hH hr hlocks hnm hl
  have hx := S.1
  have hb := S.2.1
  have hl : lv_has ls 6 [(0, .ref a0), (1, .int y1), (2, .int y2), (3, .int y3)] := hl
  have J27_s0_0 : ∀ (H : Heap) (locs : List Loc) (ls : Array Slot), th_H D cT T (kd q) H → va_S (th_A T [18, 19, 29]) s.heap H locs → lv_has ls 6 [] → W p l e (rmk 6 151) s m [.ref a0, .int y1, .int y2, .int y3].toArray below meth c H locs 0 0 (MQ below (th_Q D cT T (kd q) (th_R T (some (.inl (0, 2)))) [18, 19, 29]) [.ref a0, .int y1, .int y2, .int y3].toArray s 0 0 (th_A T [18, 19, 29])) (F0 m 27 ls [.int 0]) := by
    intro H locs ls hH hS hl
    exact th_iret S hK hH hS hr hlocks (th_R.i (iv_w (iv_c (by decide) : IV 0 0 0) (by decide))) dX1_standingFrom_27
  have J27_s0_1 : ∀ (H : Heap) (locs : List Loc) (ls : Array Slot), th_H D cT T (kd q) H → va_S (th_A T [18, 19, 29]) s.heap H locs → lv_has ls 6 [] → W p l e (rmk 6 151) s m [.ref a0, .int y1, .int y2, .int y3].toArray below meth c H locs 0 0 (MQ below (th_Q D cT T (kd q) (th_R T (some (.inl (0, 2)))) [18, 19, 29]) [.ref a0, .int y1, .int y2, .int y3].toArray s 0 0 (th_A T [18, 19, 29])) (F0 m 27 ls [.int 1]) := by
    intro H locs ls hH hS hl
    exact th_iret S hK hH hS hr hlocks (th_R.i (iv_w (iv_c (by decide) : IV 1 1 1) (by decide))) dX1_standingFrom_27
  have J0 : ∀ (H : Heap) (locs : List Loc) (ls : Array Slot), th_H D cT T (kd q) H → va_S (th_A T [18, 19, 29]) s.heap H locs → lv_has ls 6 [(0, .ref a0), (1, .int y1), (2, .int y2), (3, .int y3)] → W p l e (rmk 6 151) s m [.ref a0, .int y1, .int y2, .int y3].toArray below meth c H locs 0 0 (MQ below (th_Q D cT T (kd q) (th_R T (some (.inl (0, 2)))) [18, 19, 29]) [.ref a0, .int y1, .int y2, .int y3].toArray s 0 0 (th_A T [18, 19, 29])) (F0 m 0 ls []) := by
    intro H locs ls hH hS hl
    refine lv_iload_n hx hb dX1_standingFrom_0 rfl (lv_at hl 1 rfl) ?_
    refine lv_iload_n hx hb dX1_standingFrom_1 rfl (lv_at hl 3 rfl) ?_
    refine lv_icmp_lt (tgt := 28) hx hb dX1_standingFrom_2 (by decide) (fun c1 => ?_) (fun c1 => ?_)
    · skip
      have ir2 : IV y3 6 7 := iv_uR j1 j3 (iv_lt c1) (by decide)
      refine lv_aload_n hx hb dX1_standingFrom_28 rfl (lv_at hl 0 rfl) ?_
      refine th_get S hK hH inG1 t0 kd_6 rfl 1 (by decide) gm_409 rfl rfl dX1_standingFrom_29 (fun v3 hv3 fv3 => ?_)
      obtain ⟨rf4, rfl, trf4⟩ := th_V.ref hv3
      refine lv_iload_n hx hb dX1_standingFrom_32 rfl (lv_at hl 1 rfl) ?_
      refine lv_iconst (v := 1) hx hb dX1_standingFrom_33 (by decide) ?_
      refine lv_iadd hx hb dX1_standingFrom_34 ?_
      refine lv_topi (fun x5 ex5 => ?_)
      have ix5 : IV x5 6 6 := by rw [ex5]; exact iv_add j1 (iv_c (by decide) : IV 1 1 1) (by decide)
      refine th_aald S hK hH trf4 kd_31 (th_in (hi := 6) (iv_w ix5 (by decide)) (by decide)) dX1_standingFrom_35 (fun v6 hv6 => ?_)
      obtain ⟨rf7, rfl, trf7⟩ := th_V.ref hv6
      refine lv_astore (lv' := [(4, .ref rf7), (0, .ref a0), (1, .int y1), (2, .int y2), (3, .int y3)]) hx hb dX1_standingFrom_36 hl (by decide) rfl (fun ls hl => ?_)
      refine lv_aload hx hb dX1_standingFrom_38 (lv_at hl 0 rfl) ?_
      refine lv_aload_n hx hb dX1_standingFrom_40 rfl (lv_at hl 1 rfl) ?_
      refine th_getK S hK fv3 inG1 rfl (by decide) gm_409 rfl dX1_standingFrom_41 ?_
      refine lv_iload_n hx hb dX1_standingFrom_44 rfl (lv_at hl 2 rfl) ?_
      refine th_aald S hK hH trf4 kd_31 (th_in (hi := 5) (iv_w j1 (by decide)) (by decide)) dX1_standingFrom_45 (fun v9 hv9 => ?_)
      obtain ⟨rf10, rfl, trf10⟩ := th_V.ref hv9
      refine th_callVv (n := 1) (As := [.ref rf10]) S hK hH hS (th_A.sub (by decide)) (m_X7_copyFrom l D cT T q hq rf7 trf7 rf10 trf10) gm_809 gm_980 gm_807 gm_808 gm_118 (by decide +kernel) ⟨rfl, rfl, Nat.le_of_ble_eq_true rfl, Nat.le_of_ble_eq_true rfl⟩ trf7 kd_10 rfl rfl hl.1 rfl (Nat.le_of_ble_eq_true rfl) dX1_standingFrom_46 ⟨Nat.zero_le _, Nat.zero_le _⟩ (fun H locs hH hS hF1 => ?_)
      have f11 := fv3.kept (hF1 _ fv3.lt (th_off t0 (by decide)))
      refine lv_aload_n hx hb dX1_standingFrom_49 rfl (lv_at hl 1 rfl) ?_
      refine th_get S hK hH inG1 t0 kd_6 rfl 0 (by decide) gm_408 rfl rfl dX1_standingFrom_50 (fun v12 hv12 fv12 => ?_)
      obtain ⟨rf13, rfl, trf13⟩ := th_V.ref hv12
      refine lv_aload hx hb dX1_standingFrom_53 (lv_at hl 0 rfl) ?_
      refine th_callVv (n := 1) (As := [.ref rf7]) S hK hH hS (th_A.sub (by decide)) (m_X0_passYear l D cT T q hq rf13 trf13 rf7 trf7) gm_908 gm_981 gm_906 gm_907 gm_119 (by decide +kernel) ⟨rfl, rfl, Nat.le_of_ble_eq_true rfl, Nat.le_of_ble_eq_true rfl⟩ trf13 kd_4 rfl rfl hl.1 rfl (Nat.le_of_ble_eq_true rfl) dX1_standingFrom_55 ⟨Nat.zero_le _, Nat.zero_le _⟩ (fun H locs hH hS hF1 => ?_)
      have f14 := f11.kept (hF1 _ f11.lt (th_off t0 (by decide)))
      refine lv_iload_n hx hb dX1_standingFrom_58 rfl (lv_at hl 2 rfl) ?_
      refine lv_iconst (v := 1) hx hb dX1_standingFrom_59 (by decide) ?_
      refine lv_iadd hx hb dX1_standingFrom_60 ?_
      refine lv_topi (fun x15 ex15 => ?_)
      have zx15 : x5 = x15 := ex5.trans ex15.symm
      subst zx15
      refine lv_iload_n hx hb dX1_standingFrom_61 rfl (lv_at hl 4 rfl) ?_
      refine lv_icmp_lt (tgt := 75) hx hb dX1_standingFrom_62 (by decide) (fun c16 => ?_) (fun c16 => ?_)
      · skip
        have ir17 : IV y3 7 7 := iv_uR ix5 ir2 (iv_lt c16) (by decide)
        refine lv_aload hx hb dX1_standingFrom_75 (lv_at hl 0 rfl) ?_
        refine th_get S hK hH inG7 trf7 kd_10 rfl 0 (by decide) gm_230 rfl rfl dX1_standingFrom_77 (fun v18 hv18 fv18 => ?_)
        obtain ⟨rf19, rfl, trf19⟩ := th_V.ref hv18
        refine lv_bipush (v := 41) hx hb dX1_standingFrom_80 (by decide) ?_
        refine lv_iconst (v := 0) hx hb dX1_standingFrom_82 (by decide) ?_
        refine th_iast S hK hH hS ⟨29, by decide, trf19⟩ trf19 kd_29 (th_in (hi := 41) (iv_w (iv_c (by decide) : IV 41 41 41) (by decide)) (by decide)) (th_iv (iv_top _)) dX1_standingFrom_83 (fun H locs hH hS hq1 => ?_)
        have f20 := f14.kept (hq1 _ (th_ne t0 trf19 (by decide)))
        have f21 := fv18.kept (hq1 _ (th_ne trf7 trf19 (by decide)))
        refine lv_aload_n hx hb dX1_standingFrom_84 rfl (lv_at hl 1 rfl) ?_
        refine lv_iload_n hx hb dX1_standingFrom_85 rfl (lv_at hl 2 rfl) ?_
        refine lv_iconst (v := 1) hx hb dX1_standingFrom_86 (by decide) ?_
        refine lv_iadd hx hb dX1_standingFrom_87 ?_
        refine lv_topi (fun x22 ex22 => ?_)
        have zx22 : x5 = x22 := ex5.trans ex22.symm
        subst zx22
        refine lv_iload_n hx hb dX1_standingFrom_88 rfl (lv_at hl 3 rfl) ?_
        refine lv_iload_n hx hb dX1_standingFrom_89 rfl (lv_at hl 4 rfl) ?_
        refine th_callVi (n := 3) (As := [.int x5, .int y2, .int y3]) S hK hH hS (th_A.sub (by decide)) (m_X1_standingFrom_v1 l D cT T q hq a0 t0 (x5) ix5 (y2) j2 (y3) (iv_w ir17 (by decide))) gm_1128 gm_1125 gm_1127 gm_40 gm_121 (by decide +kernel) ⟨rfl, rfl, Nat.le_of_ble_eq_true rfl, Nat.le_of_ble_eq_true rfl⟩ t0 kd_6 rfl rfl hl.1 rfl (Nat.le_of_ble_eq_true rfl) dX1_standingFrom_90 ⟨Nat.zero_le _, Nat.zero_le _⟩ (fun x23 H locs ix23 hH hS hF1 => ?_)
        have f24 := f20.kept (hF1 _ f20.lt (th_off t0 (by decide)))
        have f25 := f21.kept (hF1 _ f21.lt (th_off trf7 (by decide)))
        refine lv_istore (lv' := [(5, .int x23), (4, .ref rf7), (0, .ref a0), (1, .int y1), (2, .int y2), (3, .int y3)]) hx hb dX1_standingFrom_93 hl (by decide) rfl (fun ls hl => ?_)
        refine lv_aload hx hb dX1_standingFrom_95 (lv_at hl 1 rfl) ?_
        refine th_getK S hK f25 inG7 rfl (by decide) gm_230 rfl dX1_standingFrom_97 ?_
        refine lv_bipush (v := 41) hx hb dX1_standingFrom_100 (by decide) ?_
        refine lv_iconst (v := 1) hx hb dX1_standingFrom_102 (by decide) ?_
        refine th_iast S hK hH hS ⟨29, by decide, trf19⟩ trf19 kd_29 (th_in (hi := 41) (iv_w (iv_c (by decide) : IV 41 41 41) (by decide)) (by decide)) (th_iv (iv_top _)) dX1_standingFrom_103 (fun H locs hH hS hq1 => ?_)
        have f27 := f24.kept (hq1 _ (th_ne t0 trf19 (by decide)))
        have f28 := f25.kept (hq1 _ (th_ne trf7 trf19 (by decide)))
        refine lv_iload hx hb dX1_standingFrom_104 (lv_at hl 0 rfl) ?_
        refine lv_aload_n hx hb dX1_standingFrom_106 rfl (lv_at hl 2 rfl) ?_
        refine lv_iload_n hx hb dX1_standingFrom_107 rfl (lv_at hl 3 rfl) ?_
        refine lv_iconst (v := 1) hx hb dX1_standingFrom_108 (by decide) ?_
        refine lv_iadd hx hb dX1_standingFrom_109 ?_
        refine lv_topi (fun x29 ex29 => ?_)
        have zx29 : x5 = x29 := ex5.trans ex29.symm
        subst zx29
        refine lv_iload_n hx hb dX1_standingFrom_110 rfl (lv_at hl 4 rfl) ?_
        refine lv_iload_n hx hb dX1_standingFrom_111 rfl (lv_at hl 5 rfl) ?_
        refine th_callVi (n := 3) (As := [.int x5, .int y2, .int y3]) S hK hH hS (th_A.sub (by decide)) (m_X1_standingFrom_v1 l D cT T q hq a0 t0 (x5) ix5 (y2) j2 (y3) (iv_w ir17 (by decide))) gm_1128 gm_1125 gm_1127 gm_40 gm_121 (by decide +kernel) ⟨rfl, rfl, Nat.le_of_ble_eq_true rfl, Nat.le_of_ble_eq_true rfl⟩ t0 kd_6 rfl rfl hl.1 rfl (Nat.le_of_ble_eq_true rfl) dX1_standingFrom_112 ⟨Nat.zero_le _, Nat.zero_le _⟩ (fun x30 H locs ix30 hH hS hF1 => ?_)
        have f31 := f27.kept (hF1 _ f27.lt (th_off t0 (by decide)))
        have f32 := f28.kept (hF1 _ f28.lt (th_off trf7 (by decide)))
        refine lv_iadd hx hb dX1_standingFrom_115 ?_
        refine lv_topi (fun x33 ex33 => ?_)
        have ix33 : IV x33 0 2 := by rw [ex33]; exact iv_add ix23 ix30 (by decide)
        exact th_iret S hK hH hS hr hlocks (th_R.i ix33) dX1_standingFrom_116
      · skip
        have ir34 : IV y3 6 6 := iv_vL ir2 ix5 (iv_nlt c16) (by decide)
        refine lv_aload_n hx hb dX1_standingFrom_65 rfl (lv_at hl 1 rfl) ?_
        refine lv_iload_n hx hb dX1_standingFrom_66 rfl (lv_at hl 2 rfl) ?_
        refine lv_iconst (v := 1) hx hb dX1_standingFrom_67 (by decide) ?_
        refine lv_iadd hx hb dX1_standingFrom_68 ?_
        refine lv_topi (fun x35 ex35 => ?_)
        have zx35 : x5 = x35 := ex5.trans ex35.symm
        subst zx35
        refine lv_iload_n hx hb dX1_standingFrom_69 rfl (lv_at hl 3 rfl) ?_
        refine lv_iload_n hx hb dX1_standingFrom_70 rfl (lv_at hl 4 rfl) ?_
        refine th_callVi (n := 3) (As := [.int x5, .int y2, .int y3]) S hK hH hS (th_A.sub (by decide)) (m_X1_standingFrom_v1 l D cT T q hq a0 t0 (x5) ix5 (y2) j2 (y3) (iv_w ir34 (by decide))) gm_1128 gm_1125 gm_1127 gm_40 gm_121 (by decide +kernel) ⟨rfl, rfl, Nat.le_of_ble_eq_true rfl, Nat.le_of_ble_eq_true rfl⟩ t0 kd_6 rfl rfl hl.1 rfl (Nat.le_of_ble_eq_true rfl) dX1_standingFrom_71 ⟨Nat.zero_le _, Nat.zero_le _⟩ (fun x36 H locs ix36 hH hS hF1 => ?_)
        have f37 := f14.kept (hF1 _ f14.lt (th_off t0 (by decide)))
        exact th_iret S hK hH hS hr hlocks (th_R.i (iv_w ix36 (by decide))) dX1_standingFrom_74
    · skip
      have ir38 : IV y3 0 5 := iv_vL j3 j1 (iv_nlt c1) (by decide)
      refine lv_aload_n hx hb dX1_standingFrom_5 rfl (lv_at hl 0 rfl) ?_
      refine th_get S hK hH inG1 t0 kd_6 rfl 1 (by decide) gm_409 rfl rfl dX1_standingFrom_6 (fun v39 hv39 fv39 => ?_)
      obtain ⟨rf40, rfl, trf40⟩ := th_V.ref hv39
      refine lv_iload_n hx hb dX1_standingFrom_9 rfl (lv_at hl 1 rfl) ?_
      refine th_aald S hK hH trf40 kd_31 (th_in (hi := 5) (iv_w j1 (by decide)) (by decide)) dX1_standingFrom_10 (fun v41 hv41 => ?_)
      obtain ⟨rf42, rfl, trf42⟩ := th_V.ref hv41
      refine th_get S hK hH inG7 trf42 kd_10 rfl 0 (by decide) gm_230 rfl rfl dX1_standingFrom_11 (fun v43 hv43 fv43 => ?_)
      obtain ⟨rf44, rfl, trf44⟩ := th_V.ref hv43
      refine lv_bipush (v := 15) hx hb dX1_standingFrom_14 (by decide) ?_
      refine lv_iload_n hx hb dX1_standingFrom_16 rfl (lv_at hl 2 rfl) ?_
      refine lv_iadd hx hb dX1_standingFrom_17 ?_
      refine lv_topi (fun x45 ex45 => ?_)
      have ix45 : IV x45 15 22 := by rw [ex45]; exact iv_add (iv_c (by decide) : IV 15 15 15) j2 (by decide)
      refine th_iald S hK hH trf44 kd_29 (th_in (hi := 22) (iv_w ix45 (by decide)) (by decide)) dX1_standingFrom_18 (fun v46 hv46 => ?_)
      obtain ⟨x47, rfl, ix47⟩ := th_V.int hv46
      refine lv_if_le (tgt := 26) hx hb dX1_standingFrom_19 (by decide) (fun c48 => ?_) (fun c48 => ?_)
      · skip
        have ir49 : IV x47 (-2147483648) 0 := iv_vL ix47 (iv_c (by decide) : IV 0 0 0) (iv_le c48) (by decide)
        refine lv_iconst (v := 0) hx hb dX1_standingFrom_26 (by decide) ?_
        exact J27_s0_0 H locs ls  hH hS (lv_sub hl [] rfl)
      · skip
        have ir50 : IV x47 1 2147483647 := iv_uR (iv_c (by decide) : IV 0 0 0) ix47 (iv_nle c48) (by decide)
        refine lv_iconst (v := 1) hx hb dX1_standingFrom_22 (by decide) ?_
        refine lv_goto (tgt := 27) hx hb dX1_standingFrom_23 (by decide) ?_
        exact J27_s0_1 H locs ls  hH hS (lv_sub hl [] rfl)
  exact J0 s.heap [] ls hH va_S.rf hl

set_option maxRecDepth 100000 in
theorem m_X1_standingFrom_v3 (l : Launch) (D : va_G) (cT : Nat → ClassId) (T : Nat → Option Nat) (q : Nat → Int) (hq : qok q) (a0 : Nat) (t0 : T a0 = some 6) (y1 : Int32) (j1 : IV y1 4 4) (y2 : Int32) (j2 : IV y2 0 7) (y3 : Int32) (j3 : IV y3 0 7) : th_Met l D cT T (kd q) yX1_standingFrom cX1_standingFrom 6 (some .int) (rmk 7 176) [.ref a0, .int y1, .int y2, .int y3] (th_R T (some (.inl (0, 4)))) [18, 19, 29] := by
  refine th_start (by decide) (Nat.le_of_ble_eq_true rfl) ?_
  intro p e s m below meth c ls S hK hH hr hlocks hnm hl
  have hx := S.1
  have hb := S.2.1
  have hl : lv_has ls 6 [(0, .ref a0), (1, .int y1), (2, .int y2), (3, .int y3)] := hl
  have J27_s0_0 : ∀ (H : Heap) (locs : List Loc) (ls : Array Slot), th_H D cT T (kd q) H → va_S (th_A T [18, 19, 29]) s.heap H locs → lv_has ls 6 [] → W p l e (rmk 7 176) s m [.ref a0, .int y1, .int y2, .int y3].toArray below meth c H locs 0 0 (MQ below (th_Q D cT T (kd q) (th_R T (some (.inl (0, 4)))) [18, 19, 29]) [.ref a0, .int y1, .int y2, .int y3].toArray s 0 0 (th_A T [18, 19, 29])) (F0 m 27 ls [.int 0]) := by
    intro H locs ls hH hS hl
    exact th_iret S hK hH hS hr hlocks (th_R.i (iv_w (iv_c (by decide) : IV 0 0 0) (by decide))) dX1_standingFrom_27
  have J27_s0_1 : ∀ (H : Heap) (locs : List Loc) (ls : Array Slot), th_H D cT T (kd q) H → va_S (th_A T [18, 19, 29]) s.heap H locs → lv_has ls 6 [] → W p l e (rmk 7 176) s m [.ref a0, .int y1, .int y2, .int y3].toArray below meth c H locs 0 0 (MQ below (th_Q D cT T (kd q) (th_R T (some (.inl (0, 4)))) [18, 19, 29]) [.ref a0, .int y1, .int y2, .int y3].toArray s 0 0 (th_A T [18, 19, 29])) (F0 m 27 ls [.int 1]) := by
    intro H locs ls hH hS hl
    exact th_iret S hK hH hS hr hlocks (th_R.i (iv_w (iv_c (by decide) : IV 1 1 1) (by decide))) dX1_standingFrom_27
  have J0 : ∀ (H : Heap) (locs : List Loc) (ls : Array Slot), th_H D cT T (kd q) H → va_S (th_A T [18, 19, 29]) s.heap H locs → lv_has ls 6 [(0, .ref a0), (1, .int y1), (2, .int y2), (3, .int y3)] → W p l e (rmk 7 176) s m [.ref a0, .int y1, .int y2, .int y3].toArray below meth c H locs 0 0 (MQ below (th_Q D cT T (kd q) (th_R T (some (.inl (0, 4)))) [18, 19, 29]) [.ref a0, .int y1, .int y2, .int y3].toArray s 0 0 (th_A T [18, 19, 29])) (F0 m 0 ls []) := by
    intro H locs ls hH hS hl
    refine lv_iload_n hx hb dX1_standingFrom_0 rfl (lv_at hl 1 rfl) ?_
    refine lv_iload_n hx hb dX1_standingFrom_1 rfl (lv_at hl 3 rfl) ?_
    refine lv_icmp_lt (tgt := 28) hx hb dX1_standingFrom_2 (by decide) (fun c1 => ?_) (fun c1 => ?_)
    · skip
      have ir2 : IV y3 5 7 := iv_uR j1 j3 (iv_lt c1) (by decide)
      refine lv_aload_n hx hb dX1_standingFrom_28 rfl (lv_at hl 0 rfl) ?_
      refine th_get S hK hH inG1 t0 kd_6 rfl 1 (by decide) gm_409 rfl rfl dX1_standingFrom_29 (fun v3 hv3 fv3 => ?_)
      obtain ⟨rf4, rfl, trf4⟩ := th_V.ref hv3
      refine lv_iload_n hx hb dX1_standingFrom_32 rfl (lv_at hl 1 rfl) ?_
      refine lv_iconst (v := 1) hx hb dX1_standingFrom_33 (by decide) ?_
      refine lv_iadd hx hb dX1_standingFrom_34 ?_
      refine lv_topi (fun x5 ex5 => ?_)
      have ix5 : IV x5 5 5 := by rw [ex5]; exact iv_add j1 (iv_c (by decide) : IV 1 1 1) (by decide)
      refine th_aald S hK hH trf4 kd_31 (th_in (hi := 5) (iv_w ix5 (by decide)) (by decide)) dX1_standingFrom_35 (fun v6 hv6 => ?_)
      obtain ⟨rf7, rfl, trf7⟩ := th_V.ref hv6
      refine lv_astore (lv' := [(4, .ref rf7), (0, .ref a0), (1, .int y1), (2, .int y2), (3, .int y3)]) hx hb dX1_standingFrom_36 hl (by decide) rfl (fun ls hl => ?_)
      refine lv_aload hx hb dX1_standingFrom_38 (lv_at hl 0 rfl) ?_
      refine lv_aload_n hx hb dX1_standingFrom_40 rfl (lv_at hl 1 rfl) ?_
      refine th_getK S hK fv3 inG1 rfl (by decide) gm_409 rfl dX1_standingFrom_41 ?_
      refine lv_iload_n hx hb dX1_standingFrom_44 rfl (lv_at hl 2 rfl) ?_
      refine th_aald S hK hH trf4 kd_31 (th_in (hi := 4) (iv_w j1 (by decide)) (by decide)) dX1_standingFrom_45 (fun v9 hv9 => ?_)
      obtain ⟨rf10, rfl, trf10⟩ := th_V.ref hv9
      refine th_callVv (n := 1) (As := [.ref rf10]) S hK hH hS (th_A.sub (by decide)) (m_X7_copyFrom l D cT T q hq rf7 trf7 rf10 trf10) gm_809 gm_980 gm_807 gm_808 gm_118 (by decide +kernel) ⟨rfl, rfl, Nat.le_of_ble_eq_true rfl, Nat.le_of_ble_eq_true rfl⟩ trf7 kd_10 rfl rfl hl.1 rfl (Nat.le_of_ble_eq_true rfl) dX1_standingFrom_46 ⟨Nat.zero_le _, Nat.zero_le _⟩ (fun H locs hH hS hF1 => ?_)
      have f11 := fv3.kept (hF1 _ fv3.lt (th_off t0 (by decide)))
      refine lv_aload_n hx hb dX1_standingFrom_49 rfl (lv_at hl 1 rfl) ?_
      refine th_get S hK hH inG1 t0 kd_6 rfl 0 (by decide) gm_408 rfl rfl dX1_standingFrom_50 (fun v12 hv12 fv12 => ?_)
      obtain ⟨rf13, rfl, trf13⟩ := th_V.ref hv12
      refine lv_aload hx hb dX1_standingFrom_53 (lv_at hl 0 rfl) ?_
      refine th_callVv (n := 1) (As := [.ref rf7]) S hK hH hS (th_A.sub (by decide)) (m_X0_passYear l D cT T q hq rf13 trf13 rf7 trf7) gm_908 gm_981 gm_906 gm_907 gm_119 (by decide +kernel) ⟨rfl, rfl, Nat.le_of_ble_eq_true rfl, Nat.le_of_ble_eq_true rfl⟩ trf13 kd_4 rfl rfl hl.1 rfl (Nat.le_of_ble_eq_true rfl) dX1_standingFrom_55 ⟨Nat.zero_le _, Nat.zero_le _⟩ (fun H locs hH hS hF1 => ?_)
      have f14 := f11.kept (hF1 _ f11.lt (th_off t0 (by decide)))
      refine lv_iload_n hx hb dX1_standingFrom_58 rfl (lv_at hl 2 rfl) ?_
      refine lv_iconst (v := 1) hx hb dX1_standingFrom_59 (by decide) ?_
      refine lv_iadd hx hb dX1_standingFrom_60 ?_
      refine lv_topi (fun x15 ex15 => ?_)
      have zx15 : x5 = x15 := ex5.trans ex15.symm
      subst zx15
      refine lv_iload_n hx hb dX1_standingFrom_61 rfl (lv_at hl 4 rfl) ?_
      refine lv_icmp_lt (tgt := 75) hx hb dX1_standingFrom_62 (by decide) (fun c16 => ?_) (fun c16 => ?_)
      · skip
        have ir17 : IV y3 6 7 := iv_uR ix5 ir2 (iv_lt c16) (by decide)
        refine lv_aload hx hb dX1_standingFrom_75 (lv_at hl 0 rfl) ?_
        refine th_get S hK hH inG7 trf7 kd_10 rfl 0 (by decide) gm_230 rfl rfl dX1_standingFrom_77 (fun v18 hv18 fv18 => ?_)
        obtain ⟨rf19, rfl, trf19⟩ := th_V.ref hv18
        refine lv_bipush (v := 41) hx hb dX1_standingFrom_80 (by decide) ?_
        refine lv_iconst (v := 0) hx hb dX1_standingFrom_82 (by decide) ?_
        refine th_iast S hK hH hS ⟨29, by decide, trf19⟩ trf19 kd_29 (th_in (hi := 41) (iv_w (iv_c (by decide) : IV 41 41 41) (by decide)) (by decide)) (th_iv (iv_top _)) dX1_standingFrom_83 (fun H locs hH hS hq1 => ?_)
        have f20 := f14.kept (hq1 _ (th_ne t0 trf19 (by decide)))
        have f21 := fv18.kept (hq1 _ (th_ne trf7 trf19 (by decide)))
        refine lv_aload_n hx hb dX1_standingFrom_84 rfl (lv_at hl 1 rfl) ?_
        refine lv_iload_n hx hb dX1_standingFrom_85 rfl (lv_at hl 2 rfl) ?_
        refine lv_iconst (v := 1) hx hb dX1_standingFrom_86 (by decide) ?_
        refine lv_iadd hx hb dX1_standingFrom_87 ?_
        refine lv_topi (fun x22 ex22 => ?_)
        have zx22 : x5 = x22 := ex5.trans ex22.symm
        subst zx22
        refine lv_iload_n hx hb dX1_standingFrom_88 rfl (lv_at hl 3 rfl) ?_
        refine lv_iload_n hx hb dX1_standingFrom_89 rfl (lv_at hl 4 rfl) ?_
        refine th_callVi (n := 3) (As := [.int x5, .int y2, .int y3]) S hK hH hS (th_A.sub (by decide)) (m_X1_standingFrom_v2 l D cT T q hq a0 t0 (x5) ix5 (y2) j2 (y3) (iv_w ir17 (by decide))) gm_1128 gm_1125 gm_1127 gm_40 gm_121 (by decide +kernel) ⟨rfl, rfl, Nat.le_of_ble_eq_true rfl, Nat.le_of_ble_eq_true rfl⟩ t0 kd_6 rfl rfl hl.1 rfl (Nat.le_of_ble_eq_true rfl) dX1_standingFrom_90 ⟨Nat.zero_le _, Nat.zero_le _⟩ (fun x23 H locs ix23 hH hS hF1 => ?_)
        have f24 := f20.kept (hF1 _ f20.lt (th_off t0 (by decide)))
        have f25 := f21.kept (hF1 _ f21.lt (th_off trf7 (by decide)))
        refine lv_istore (lv' := [(5, .int x23), (4, .ref rf7), (0, .ref a0), (1, .int y1), (2, .int y2), (3, .int y3)]) hx hb dX1_standingFrom_93 hl (by decide) rfl (fun ls hl => ?_)
        refine lv_aload hx hb dX1_standingFrom_95 (lv_at hl 1 rfl) ?_
        refine th_getK S hK f25 inG7 rfl (by decide) gm_230 rfl dX1_standingFrom_97 ?_
        refine lv_bipush (v := 41) hx hb dX1_standingFrom_100 (by decide) ?_
        refine lv_iconst (v := 1) hx hb dX1_standingFrom_102 (by decide) ?_
        refine th_iast S hK hH hS ⟨29, by decide, trf19⟩ trf19 kd_29 (th_in (hi := 41) (iv_w (iv_c (by decide) : IV 41 41 41) (by decide)) (by decide)) (th_iv (iv_top _)) dX1_standingFrom_103 (fun H locs hH hS hq1 => ?_)
        have f27 := f24.kept (hq1 _ (th_ne t0 trf19 (by decide)))
        have f28 := f25.kept (hq1 _ (th_ne trf7 trf19 (by decide)))
        refine lv_iload hx hb dX1_standingFrom_104 (lv_at hl 0 rfl) ?_
        refine lv_aload_n hx hb dX1_standingFrom_106 rfl (lv_at hl 2 rfl) ?_
        refine lv_iload_n hx hb dX1_standingFrom_107 rfl (lv_at hl 3 rfl) ?_
        refine lv_iconst (v := 1) hx hb dX1_standingFrom_108 (by decide) ?_
        refine lv_iadd hx hb dX1_standingFrom_109 ?_
        refine lv_topi (fun x29 ex29 => ?_)
        have zx29 : x5 = x29 := ex5.trans ex29.symm
        subst zx29
        refine lv_iload_n hx hb dX1_standingFrom_110 rfl (lv_at hl 4 rfl) ?_
        refine lv_iload_n hx hb dX1_standingFrom_111 rfl (lv_at hl 5 rfl) ?_
        refine th_callVi (n := 3) (As := [.int x5, .int y2, .int y3]) S hK hH hS (th_A.sub (by decide)) (m_X1_standingFrom_v2 l D cT T q hq a0 t0 (x5) ix5 (y2) j2 (y3) (iv_w ir17 (by decide))) gm_1128 gm_1125 gm_1127 gm_40 gm_121 (by decide +kernel) ⟨rfl, rfl, Nat.le_of_ble_eq_true rfl, Nat.le_of_ble_eq_true rfl⟩ t0 kd_6 rfl rfl hl.1 rfl (Nat.le_of_ble_eq_true rfl) dX1_standingFrom_112 ⟨Nat.zero_le _, Nat.zero_le _⟩ (fun x30 H locs ix30 hH hS hF1 => ?_)
        have f31 := f27.kept (hF1 _ f27.lt (th_off t0 (by decide)))
        have f32 := f28.kept (hF1 _ f28.lt (th_off trf7 (by decide)))
        refine lv_iadd hx hb dX1_standingFrom_115 ?_
        refine lv_topi (fun x33 ex33 => ?_)
        have ix33 : IV x33 0 4 := by rw [ex33]; exact iv_add ix23 ix30 (by decide)
        exact th_iret S hK hH hS hr hlocks (th_R.i ix33) dX1_standingFrom_116
      · skip
        have ir34 : IV y3 5 5 := iv_vL ir2 ix5 (iv_nlt c16) (by decide)
        refine lv_aload_n hx hb dX1_standingFrom_65 rfl (lv_at hl 1 rfl) ?_
        refine lv_iload_n hx hb dX1_standingFrom_66 rfl (lv_at hl 2 rfl) ?_
        refine lv_iconst (v := 1) hx hb dX1_standingFrom_67 (by decide) ?_
        refine lv_iadd hx hb dX1_standingFrom_68 ?_
        refine lv_topi (fun x35 ex35 => ?_)
        have zx35 : x5 = x35 := ex5.trans ex35.symm
        subst zx35
        refine lv_iload_n hx hb dX1_standingFrom_69 rfl (lv_at hl 3 rfl) ?_
        refine lv_iload_n hx hb dX1_standingFrom_70 rfl (lv_at hl 4 rfl) ?_
        refine th_callVi (n := 3) (As := [.int x5, .int y2, .int y3]) S hK hH hS (th_A.sub (by decide)) (m_X1_standingFrom_v2 l D cT T q hq a0 t0 (x5) ix5 (y2) j2 (y3) (iv_w ir34 (by decide))) gm_1128 gm_1125 gm_1127 gm_40 gm_121 (by decide +kernel) ⟨rfl, rfl, Nat.le_of_ble_eq_true rfl, Nat.le_of_ble_eq_true rfl⟩ t0 kd_6 rfl rfl hl.1 rfl (Nat.le_of_ble_eq_true rfl) dX1_standingFrom_71 ⟨Nat.zero_le _, Nat.zero_le _⟩ (fun x36 H locs ix36 hH hS hF1 => ?_)
        have f37 := f14.kept (hF1 _ f14.lt (th_off t0 (by decide)))
        exact th_iret S hK hH hS hr hlocks (th_R.i (iv_w ix36 (by decide))) dX1_standingFrom_74
    · skip
      have ir38 : IV y3 0 4 := iv_vL j3 j1 (iv_nlt c1) (by decide)
      refine lv_aload_n hx hb dX1_standingFrom_5 rfl (lv_at hl 0 rfl) ?_
      refine th_get S hK hH inG1 t0 kd_6 rfl 1 (by decide) gm_409 rfl rfl dX1_standingFrom_6 (fun v39 hv39 fv39 => ?_)
      obtain ⟨rf40, rfl, trf40⟩ := th_V.ref hv39
      refine lv_iload_n hx hb dX1_standingFrom_9 rfl (lv_at hl 1 rfl) ?_
      refine th_aald S hK hH trf40 kd_31 (th_in (hi := 4) (iv_w j1 (by decide)) (by decide)) dX1_standingFrom_10 (fun v41 hv41 => ?_)
      obtain ⟨rf42, rfl, trf42⟩ := th_V.ref hv41
      refine th_get S hK hH inG7 trf42 kd_10 rfl 0 (by decide) gm_230 rfl rfl dX1_standingFrom_11 (fun v43 hv43 fv43 => ?_)
      obtain ⟨rf44, rfl, trf44⟩ := th_V.ref hv43
      refine lv_bipush (v := 15) hx hb dX1_standingFrom_14 (by decide) ?_
      refine lv_iload_n hx hb dX1_standingFrom_16 rfl (lv_at hl 2 rfl) ?_
      refine lv_iadd hx hb dX1_standingFrom_17 ?_
      refine lv_topi (fun x45 ex45 => ?_)
      have ix45 : IV x45 15 22 := by rw [ex45]; exact iv_add (iv_c (by decide) : IV 15 15 15) j2 (by decide)
      refine th_iald S hK hH trf44 kd_29 (th_in (hi := 22) (iv_w ix45 (by decide)) (by decide)) dX1_standingFrom_18 (fun v46 hv46 => ?_)
      obtain ⟨x47, rfl, ix47⟩ := th_V.int hv46
      refine lv_if_le (tgt := 26) hx hb dX1_standingFrom_19 (by decide) (fun c48 => ?_) (fun c48 => ?_)
      · skip
        have ir49 : IV x47 (-2147483648) 0 := iv_vL ix47 (iv_c (by decide) : IV 0 0 0) (iv_le c48) (by decide)
        refine lv_iconst (v := 0) hx hb dX1_standingFrom_26 (by decide) ?_
        exact J27_s0_0 H locs ls  hH hS (lv_sub hl [] rfl)
      · skip
        have ir50 : IV x47 1 2147483647 := iv_uR (iv_c (by decide) : IV 0 0 0) ix47 (iv_nle c48) (by decide)
        refine lv_iconst (v := 1) hx hb dX1_standingFrom_22 (by decide) ?_
        refine lv_goto (tgt := 27) hx hb dX1_standingFrom_23 (by decide) ?_
        exact J27_s0_1 H locs ls  hH hS (lv_sub hl [] rfl)
  exact J0 s.heap [] ls hH va_S.rf hl

set_option maxRecDepth 100000 in
theorem m_X1_standingFrom_v4 (l : Launch) (D : va_G) (cT : Nat → ClassId) (T : Nat → Option Nat) (q : Nat → Int) (hq : qok q) (a0 : Nat) (t0 : T a0 = some 6) (y1 : Int32) (j1 : IV y1 3 3) (y2 : Int32) (j2 : IV y2 0 7) (y3 : Int32) (j3 : IV y3 0 7) : th_Met l D cT T (kd q) yX1_standingFrom cX1_standingFrom 6 (some .int) (rmk 8 201) [.ref a0, .int y1, .int y2, .int y3] (th_R T (some (.inl (0, 8)))) [18, 19, 29] := by
  refine th_start (by decide) (Nat.le_of_ble_eq_true rfl) ?_
  intro p e s m below meth c ls S hK hH hr hlocks hnm hl
  have hx := S.1
  have hb := S.2.1
  have hl : lv_has ls 6 [(0, .ref a0), (1, .int y1), (2, .int y2), (3, .int y3)] := hl
  have J27_s0_0 : ∀ (H : Heap) (locs : List Loc) (ls : Array Slot), th_H D cT T (kd q) H → va_S (th_A T [18, 19, 29]) s.heap H locs → lv_has ls 6 [] → W p l e (rmk 8 201) s m [.ref a0, .int y1, .int y2, .int y3].toArray below meth c H locs 0 0 (MQ below (th_Q D cT T (kd q) (th_R T (some (.inl (0, 8)))) [18, 19, 29]) [.ref a0, .int y1, .int y2, .int y3].toArray s 0 0 (th_A T [18, 19, 29])) (F0 m 27 ls [.int 0]) := by
    intro H locs ls hH hS hl
    exact th_iret S hK hH hS hr hlocks (th_R.i (iv_w (iv_c (by decide) : IV 0 0 0) (by decide))) dX1_standingFrom_27
  have J27_s0_1 : ∀ (H : Heap) (locs : List Loc) (ls : Array Slot), th_H D cT T (kd q) H → va_S (th_A T [18, 19, 29]) s.heap H locs → lv_has ls 6 [] → W p l e (rmk 8 201) s m [.ref a0, .int y1, .int y2, .int y3].toArray below meth c H locs 0 0 (MQ below (th_Q D cT T (kd q) (th_R T (some (.inl (0, 8)))) [18, 19, 29]) [.ref a0, .int y1, .int y2, .int y3].toArray s 0 0 (th_A T [18, 19, 29])) (F0 m 27 ls [.int 1]) := by
    intro H locs ls hH hS hl
    exact th_iret S hK hH hS hr hlocks (th_R.i (iv_w (iv_c (by decide) : IV 1 1 1) (by decide))) dX1_standingFrom_27
  have J0 : ∀ (H : Heap) (locs : List Loc) (ls : Array Slot), th_H D cT T (kd q) H → va_S (th_A T [18, 19, 29]) s.heap H locs → lv_has ls 6 [(0, .ref a0), (1, .int y1), (2, .int y2), (3, .int y3)] → W p l e (rmk 8 201) s m [.ref a0, .int y1, .int y2, .int y3].toArray below meth c H locs 0 0 (MQ below (th_Q D cT T (kd q) (th_R T (some (.inl (0, 8)))) [18, 19, 29]) [.ref a0, .int y1, .int y2, .int y3].toArray s 0 0 (th_A T [18, 19, 29])) (F0 m 0 ls []) := by
    intro H locs ls hH hS hl
    refine lv_iload_n hx hb dX1_standingFrom_0 rfl (lv_at hl 1 rfl) ?_
    refine lv_iload_n hx hb dX1_standingFrom_1 rfl (lv_at hl 3 rfl) ?_
    refine lv_icmp_lt (tgt := 28) hx hb dX1_standingFrom_2 (by decide) (fun c1 => ?_) (fun c1 => ?_)
    · skip
      have ir2 : IV y3 4 7 := iv_uR j1 j3 (iv_lt c1) (by decide)
      refine lv_aload_n hx hb dX1_standingFrom_28 rfl (lv_at hl 0 rfl) ?_
      refine th_get S hK hH inG1 t0 kd_6 rfl 1 (by decide) gm_409 rfl rfl dX1_standingFrom_29 (fun v3 hv3 fv3 => ?_)
      obtain ⟨rf4, rfl, trf4⟩ := th_V.ref hv3
      refine lv_iload_n hx hb dX1_standingFrom_32 rfl (lv_at hl 1 rfl) ?_
      refine lv_iconst (v := 1) hx hb dX1_standingFrom_33 (by decide) ?_
      refine lv_iadd hx hb dX1_standingFrom_34 ?_
      refine lv_topi (fun x5 ex5 => ?_)
      have ix5 : IV x5 4 4 := by rw [ex5]; exact iv_add j1 (iv_c (by decide) : IV 1 1 1) (by decide)
      refine th_aald S hK hH trf4 kd_31 (th_in (hi := 4) (iv_w ix5 (by decide)) (by decide)) dX1_standingFrom_35 (fun v6 hv6 => ?_)
      obtain ⟨rf7, rfl, trf7⟩ := th_V.ref hv6
      refine lv_astore (lv' := [(4, .ref rf7), (0, .ref a0), (1, .int y1), (2, .int y2), (3, .int y3)]) hx hb dX1_standingFrom_36 hl (by decide) rfl (fun ls hl => ?_)
      refine lv_aload hx hb dX1_standingFrom_38 (lv_at hl 0 rfl) ?_
      refine lv_aload_n hx hb dX1_standingFrom_40 rfl (lv_at hl 1 rfl) ?_
      refine th_getK S hK fv3 inG1 rfl (by decide) gm_409 rfl dX1_standingFrom_41 ?_
      refine lv_iload_n hx hb dX1_standingFrom_44 rfl (lv_at hl 2 rfl) ?_
      refine th_aald S hK hH trf4 kd_31 (th_in (hi := 3) (iv_w j1 (by decide)) (by decide)) dX1_standingFrom_45 (fun v9 hv9 => ?_)
      obtain ⟨rf10, rfl, trf10⟩ := th_V.ref hv9
      refine th_callVv (n := 1) (As := [.ref rf10]) S hK hH hS (th_A.sub (by decide)) (m_X7_copyFrom l D cT T q hq rf7 trf7 rf10 trf10) gm_809 gm_980 gm_807 gm_808 gm_118 (by decide +kernel) ⟨rfl, rfl, Nat.le_of_ble_eq_true rfl, Nat.le_of_ble_eq_true rfl⟩ trf7 kd_10 rfl rfl hl.1 rfl (Nat.le_of_ble_eq_true rfl) dX1_standingFrom_46 ⟨Nat.zero_le _, Nat.zero_le _⟩ (fun H locs hH hS hF1 => ?_)
      have f11 := fv3.kept (hF1 _ fv3.lt (th_off t0 (by decide)))
      refine lv_aload_n hx hb dX1_standingFrom_49 rfl (lv_at hl 1 rfl) ?_
      refine th_get S hK hH inG1 t0 kd_6 rfl 0 (by decide) gm_408 rfl rfl dX1_standingFrom_50 (fun v12 hv12 fv12 => ?_)
      obtain ⟨rf13, rfl, trf13⟩ := th_V.ref hv12
      refine lv_aload hx hb dX1_standingFrom_53 (lv_at hl 0 rfl) ?_
      refine th_callVv (n := 1) (As := [.ref rf7]) S hK hH hS (th_A.sub (by decide)) (m_X0_passYear l D cT T q hq rf13 trf13 rf7 trf7) gm_908 gm_981 gm_906 gm_907 gm_119 (by decide +kernel) ⟨rfl, rfl, Nat.le_of_ble_eq_true rfl, Nat.le_of_ble_eq_true rfl⟩ trf13 kd_4 rfl rfl hl.1 rfl (Nat.le_of_ble_eq_true rfl) dX1_standingFrom_55 ⟨Nat.zero_le _, Nat.zero_le _⟩ (fun H locs hH hS hF1 => ?_)
      have f14 := f11.kept (hF1 _ f11.lt (th_off t0 (by decide)))
      refine lv_iload_n hx hb dX1_standingFrom_58 rfl (lv_at hl 2 rfl) ?_
      refine lv_iconst (v := 1) hx hb dX1_standingFrom_59 (by decide) ?_
      refine lv_iadd hx hb dX1_standingFrom_60 ?_
      refine lv_topi (fun x15 ex15 => ?_)
      have zx15 : x5 = x15 := ex5.trans ex15.symm
      subst zx15
      refine lv_iload_n hx hb dX1_standingFrom_61 rfl (lv_at hl 4 rfl) ?_
      refine lv_icmp_lt (tgt := 75) hx hb dX1_standingFrom_62 (by decide) (fun c16 => ?_) (fun c16 => ?_)
      · skip
        have ir17 : IV y3 5 7 := iv_uR ix5 ir2 (iv_lt c16) (by decide)
        refine lv_aload hx hb dX1_standingFrom_75 (lv_at hl 0 rfl) ?_
        refine th_get S hK hH inG7 trf7 kd_10 rfl 0 (by decide) gm_230 rfl rfl dX1_standingFrom_77 (fun v18 hv18 fv18 => ?_)
        obtain ⟨rf19, rfl, trf19⟩ := th_V.ref hv18
        refine lv_bipush (v := 41) hx hb dX1_standingFrom_80 (by decide) ?_
        refine lv_iconst (v := 0) hx hb dX1_standingFrom_82 (by decide) ?_
        refine th_iast S hK hH hS ⟨29, by decide, trf19⟩ trf19 kd_29 (th_in (hi := 41) (iv_w (iv_c (by decide) : IV 41 41 41) (by decide)) (by decide)) (th_iv (iv_top _)) dX1_standingFrom_83 (fun H locs hH hS hq1 => ?_)
        have f20 := f14.kept (hq1 _ (th_ne t0 trf19 (by decide)))
        have f21 := fv18.kept (hq1 _ (th_ne trf7 trf19 (by decide)))
        refine lv_aload_n hx hb dX1_standingFrom_84 rfl (lv_at hl 1 rfl) ?_
        refine lv_iload_n hx hb dX1_standingFrom_85 rfl (lv_at hl 2 rfl) ?_
        refine lv_iconst (v := 1) hx hb dX1_standingFrom_86 (by decide) ?_
        refine lv_iadd hx hb dX1_standingFrom_87 ?_
        refine lv_topi (fun x22 ex22 => ?_)
        have zx22 : x5 = x22 := ex5.trans ex22.symm
        subst zx22
        refine lv_iload_n hx hb dX1_standingFrom_88 rfl (lv_at hl 3 rfl) ?_
        refine lv_iload_n hx hb dX1_standingFrom_89 rfl (lv_at hl 4 rfl) ?_
        refine th_callVi (n := 3) (As := [.int x5, .int y2, .int y3]) S hK hH hS (th_A.sub (by decide)) (m_X1_standingFrom_v3 l D cT T q hq a0 t0 (x5) ix5 (y2) j2 (y3) (iv_w ir17 (by decide))) gm_1128 gm_1125 gm_1127 gm_40 gm_121 (by decide +kernel) ⟨rfl, rfl, Nat.le_of_ble_eq_true rfl, Nat.le_of_ble_eq_true rfl⟩ t0 kd_6 rfl rfl hl.1 rfl (Nat.le_of_ble_eq_true rfl) dX1_standingFrom_90 ⟨Nat.zero_le _, Nat.zero_le _⟩ (fun x23 H locs ix23 hH hS hF1 => ?_)
        have f24 := f20.kept (hF1 _ f20.lt (th_off t0 (by decide)))
        have f25 := f21.kept (hF1 _ f21.lt (th_off trf7 (by decide)))
        refine lv_istore (lv' := [(5, .int x23), (4, .ref rf7), (0, .ref a0), (1, .int y1), (2, .int y2), (3, .int y3)]) hx hb dX1_standingFrom_93 hl (by decide) rfl (fun ls hl => ?_)
        refine lv_aload hx hb dX1_standingFrom_95 (lv_at hl 1 rfl) ?_
        refine th_getK S hK f25 inG7 rfl (by decide) gm_230 rfl dX1_standingFrom_97 ?_
        refine lv_bipush (v := 41) hx hb dX1_standingFrom_100 (by decide) ?_
        refine lv_iconst (v := 1) hx hb dX1_standingFrom_102 (by decide) ?_
        refine th_iast S hK hH hS ⟨29, by decide, trf19⟩ trf19 kd_29 (th_in (hi := 41) (iv_w (iv_c (by decide) : IV 41 41 41) (by decide)) (by decide)) (th_iv (iv_top _)) dX1_standingFrom_103 (fun H locs hH hS hq1 => ?_)
        have f27 := f24.kept (hq1 _ (th_ne t0 trf19 (by decide)))
        have f28 := f25.kept (hq1 _ (th_ne trf7 trf19 (by decide)))
        refine lv_iload hx hb dX1_standingFrom_104 (lv_at hl 0 rfl) ?_
        refine lv_aload_n hx hb dX1_standingFrom_106 rfl (lv_at hl 2 rfl) ?_
        refine lv_iload_n hx hb dX1_standingFrom_107 rfl (lv_at hl 3 rfl) ?_
        refine lv_iconst (v := 1) hx hb dX1_standingFrom_108 (by decide) ?_
        refine lv_iadd hx hb dX1_standingFrom_109 ?_
        refine lv_topi (fun x29 ex29 => ?_)
        have zx29 : x5 = x29 := ex5.trans ex29.symm
        subst zx29
        refine lv_iload_n hx hb dX1_standingFrom_110 rfl (lv_at hl 4 rfl) ?_
        refine lv_iload_n hx hb dX1_standingFrom_111 rfl (lv_at hl 5 rfl) ?_
        refine th_callVi (n := 3) (As := [.int x5, .int y2, .int y3]) S hK hH hS (th_A.sub (by decide)) (m_X1_standingFrom_v3 l D cT T q hq a0 t0 (x5) ix5 (y2) j2 (y3) (iv_w ir17 (by decide))) gm_1128 gm_1125 gm_1127 gm_40 gm_121 (by decide +kernel) ⟨rfl, rfl, Nat.le_of_ble_eq_true rfl, Nat.le_of_ble_eq_true rfl⟩ t0 kd_6 rfl rfl hl.1 rfl (Nat.le_of_ble_eq_true rfl) dX1_standingFrom_112 ⟨Nat.zero_le _, Nat.zero_le _⟩ (fun x30 H locs ix30 hH hS hF1 => ?_)
        have f31 := f27.kept (hF1 _ f27.lt (th_off t0 (by decide)))
        have f32 := f28.kept (hF1 _ f28.lt (th_off trf7 (by decide)))
        refine lv_iadd hx hb dX1_standingFrom_115 ?_
        refine lv_topi (fun x33 ex33 => ?_)
        have ix33 : IV x33 0 8 := by rw [ex33]; exact iv_add ix23 ix30 (by decide)
        exact th_iret S hK hH hS hr hlocks (th_R.i ix33) dX1_standingFrom_116
      · skip
        have ir34 : IV y3 4 4 := iv_vL ir2 ix5 (iv_nlt c16) (by decide)
        refine lv_aload_n hx hb dX1_standingFrom_65 rfl (lv_at hl 1 rfl) ?_
        refine lv_iload_n hx hb dX1_standingFrom_66 rfl (lv_at hl 2 rfl) ?_
        refine lv_iconst (v := 1) hx hb dX1_standingFrom_67 (by decide) ?_
        refine lv_iadd hx hb dX1_standingFrom_68 ?_
        refine lv_topi (fun x35 ex35 => ?_)
        have zx35 : x5 = x35 := ex5.trans ex35.symm
        subst zx35
        refine lv_iload_n hx hb dX1_standingFrom_69 rfl (lv_at hl 3 rfl) ?_
        refine lv_iload_n hx hb dX1_standingFrom_70 rfl (lv_at hl 4 rfl) ?_
        refine th_callVi (n := 3) (As := [.int x5, .int y2, .int y3]) S hK hH hS (th_A.sub (by decide)) (m_X1_standingFrom_v3 l D cT T q hq a0 t0 (x5) ix5 (y2) j2 (y3) (iv_w ir34 (by decide))) gm_1128 gm_1125 gm_1127 gm_40 gm_121 (by decide +kernel) ⟨rfl, rfl, Nat.le_of_ble_eq_true rfl, Nat.le_of_ble_eq_true rfl⟩ t0 kd_6 rfl rfl hl.1 rfl (Nat.le_of_ble_eq_true rfl) dX1_standingFrom_71 ⟨Nat.zero_le _, Nat.zero_le _⟩ (fun x36 H locs ix36 hH hS hF1 => ?_)
        have f37 := f14.kept (hF1 _ f14.lt (th_off t0 (by decide)))
        exact th_iret S hK hH hS hr hlocks (th_R.i (iv_w ix36 (by decide))) dX1_standingFrom_74
    · skip
      have ir38 : IV y3 0 3 := iv_vL j3 j1 (iv_nlt c1) (by decide)
      refine lv_aload_n hx hb dX1_standingFrom_5 rfl (lv_at hl 0 rfl) ?_
      refine th_get S hK hH inG1 t0 kd_6 rfl 1 (by decide) gm_409 rfl rfl dX1_standingFrom_6 (fun v39 hv39 fv39 => ?_)
      obtain ⟨rf40, rfl, trf40⟩ := th_V.ref hv39
      refine lv_iload_n hx hb dX1_standingFrom_9 rfl (lv_at hl 1 rfl) ?_
      refine th_aald S hK hH trf40 kd_31 (th_in (hi := 3) (iv_w j1 (by decide)) (by decide)) dX1_standingFrom_10 (fun v41 hv41 => ?_)
      obtain ⟨rf42, rfl, trf42⟩ := th_V.ref hv41
      refine th_get S hK hH inG7 trf42 kd_10 rfl 0 (by decide) gm_230 rfl rfl dX1_standingFrom_11 (fun v43 hv43 fv43 => ?_)
      obtain ⟨rf44, rfl, trf44⟩ := th_V.ref hv43
      refine lv_bipush (v := 15) hx hb dX1_standingFrom_14 (by decide) ?_
      refine lv_iload_n hx hb dX1_standingFrom_16 rfl (lv_at hl 2 rfl) ?_
      refine lv_iadd hx hb dX1_standingFrom_17 ?_
      refine lv_topi (fun x45 ex45 => ?_)
      have ix45 : IV x45 15 22 := by rw [ex45]; exact iv_add (iv_c (by decide) : IV 15 15 15) j2 (by decide)
      refine th_iald S hK hH trf44 kd_29 (th_in (hi := 22) (iv_w ix45 (by decide)) (by decide)) dX1_standingFrom_18 (fun v46 hv46 => ?_)
      obtain ⟨x47, rfl, ix47⟩ := th_V.int hv46
      refine lv_if_le (tgt := 26) hx hb dX1_standingFrom_19 (by decide) (fun c48 => ?_) (fun c48 => ?_)
      · skip
        have ir49 : IV x47 (-2147483648) 0 := iv_vL ix47 (iv_c (by decide) : IV 0 0 0) (iv_le c48) (by decide)
        refine lv_iconst (v := 0) hx hb dX1_standingFrom_26 (by decide) ?_
        exact J27_s0_0 H locs ls  hH hS (lv_sub hl [] rfl)
      · skip
        have ir50 : IV x47 1 2147483647 := iv_uR (iv_c (by decide) : IV 0 0 0) ix47 (iv_nle c48) (by decide)
        refine lv_iconst (v := 1) hx hb dX1_standingFrom_22 (by decide) ?_
        refine lv_goto (tgt := 27) hx hb dX1_standingFrom_23 (by decide) ?_
        exact J27_s0_1 H locs ls  hH hS (lv_sub hl [] rfl)
  exact J0 s.heap [] ls hH va_S.rf hl
