theorem dX11_bitten_0 : decode cX11_bitten 0 = .ok (.aload_n 0, 1) := by decide +kernel
theorem dX11_bitten_1 : decode cX11_bitten 1 = .ok (.invokevirtual 453, 3) := by decide +kernel
theorem dX11_bitten_4 : decode cX11_bitten 4 = .ok (.aload_n 0, 1) := by decide +kernel
theorem dX11_bitten_5 : decode cX11_bitten 5 = .ok (.invokevirtual 456, 3) := by decide +kernel
theorem dX11_bitten_8 : decode cX11_bitten 8 = .ok (.aload_n 0, 1) := by decide +kernel
theorem dX11_bitten_9 : decode cX11_bitten 9 = .ok (.invokevirtual 459, 3) := by decide +kernel
theorem dX11_bitten_12 : decode cX11_bitten 12 = .ok (.istore_n 1, 1) := by decide +kernel
theorem dX11_bitten_13 : decode cX11_bitten 13 = .ok (.aload_n 0, 1) := by decide +kernel
theorem dX11_bitten_14 : decode cX11_bitten 14 = .ok (.invokevirtual 468, 3) := by decide +kernel
theorem dX11_bitten_17 : decode cX11_bitten 17 = .ok (.iload_n 1, 1) := by decide +kernel
theorem dX11_bitten_18 : decode cX11_bitten 18 = .ok (.ireturn, 1) := by decide +kernel
theorem dX11_gone_0 : decode cX11_gone 0 = .ok (.iconst 0, 1) := by decide +kernel
theorem dX11_gone_1 : decode cX11_gone 1 = .ok (.istore_n 1, 1) := by decide +kernel
theorem dX11_gone_2 : decode cX11_gone 2 = .ok (.iconst 0, 1) := by decide +kernel
theorem dX11_gone_3 : decode cX11_gone 3 = .ok (.istore_n 2, 1) := by decide +kernel
theorem dX11_gone_4 : decode cX11_gone 4 = .ok (.iload_n 2, 1) := by decide +kernel
theorem dX11_gone_5 : decode cX11_gone 5 = .ok (.aload_n 0, 1) := by decide +kernel
theorem dX11_gone_6 : decode cX11_gone 6 = .ok (.getfield 27, 3) := by decide +kernel
theorem dX11_gone_9 : decode cX11_gone 9 = .ok (.aload_n 0, 1) := by decide +kernel
theorem dX11_gone_10 : decode cX11_gone 10 = .ok (.getfield 273, 3) := by decide +kernel
theorem dX11_gone_13 : decode cX11_gone 13 = .ok (.iaload, 1) := by decide +kernel
theorem dX11_gone_14 : decode cX11_gone 14 = .ok (.if_icmp .ge 27, 3) := by decide +kernel
theorem dX11_gone_17 : decode cX11_gone 17 = .ok (.aload_n 0, 1) := by decide +kernel
theorem dX11_gone_18 : decode cX11_gone 18 = .ok (.getfield 113, 3) := by decide +kernel
theorem dX11_gone_21 : decode cX11_gone 21 = .ok (.bipush 15, 2) := by decide +kernel
theorem dX11_gone_23 : decode cX11_gone 23 = .ok (.iload_n 2, 1) := by decide +kernel
theorem dX11_gone_24 : decode cX11_gone 24 = .ok (.iadd, 1) := by decide +kernel
theorem dX11_gone_25 : decode cX11_gone 25 = .ok (.iaload, 1) := by decide +kernel
theorem dX11_gone_26 : decode cX11_gone 26 = .ok (.ifCond .ne 9, 3) := by decide +kernel
theorem dX11_gone_29 : decode cX11_gone 29 = .ok (.iload_n 1, 1) := by decide +kernel
theorem dX11_gone_30 : decode cX11_gone 30 = .ok (.iconst 1, 1) := by decide +kernel
theorem dX11_gone_31 : decode cX11_gone 31 = .ok (.iload_n 2, 1) := by decide +kernel
theorem dX11_gone_32 : decode cX11_gone 32 = .ok (.ishl, 1) := by decide +kernel
theorem dX11_gone_33 : decode cX11_gone 33 = .ok (.ior, 1) := by decide +kernel
theorem dX11_gone_34 : decode cX11_gone 34 = .ok (.istore_n 1, 1) := by decide +kernel
theorem dX11_gone_35 : decode cX11_gone 35 = .ok (.iinc 2 1, 3) := by decide +kernel
theorem dX11_gone_38 : decode cX11_gone 38 = .ok (.goto (-34), 3) := by decide +kernel
theorem dX11_gone_41 : decode cX11_gone 41 = .ok (.iload_n 1, 1) := by decide +kernel
theorem dX11_gone_42 : decode cX11_gone 42 = .ok (.ireturn, 1) := by decide +kernel
theorem dX11_land_0 : decode cX11_land 0 = .ok (.iload_n 1, 1) := by decide +kernel
theorem dX11_land_1 : decode cX11_land 1 = .ok (.iconst 0, 1) := by decide +kernel
theorem dX11_land_2 : decode cX11_land 2 = .ok (.bipush 40, 2) := by decide +kernel
theorem dX11_land_4 : decode cX11_land 4 = .ok (.invokestatic 387, 3) := by decide +kernel
theorem dX11_land_7 : decode cX11_land 7 = .ok (.ifCond .ne 5, 3) := by decide +kernel
theorem dX11_land_10 : decode cX11_land 10 = .ok (.iconst (-1), 1) := by decide +kernel
theorem dX11_land_11 : decode cX11_land 11 = .ok (.ireturn, 1) := by decide +kernel
theorem dX11_land_12 : decode cX11_land 12 = .ok (.aload_n 0, 1) := by decide +kernel
theorem dX11_land_13 : decode cX11_land 13 = .ok (.invokevirtual 453, 3) := by decide +kernel
theorem dX11_land_16 : decode cX11_land 16 = .ok (.iconst 0, 1) := by decide +kernel
theorem dX11_land_17 : decode cX11_land 17 = .ok (.istore_n 2, 1) := by decide +kernel
theorem dX11_land_18 : decode cX11_land 18 = .ok (.iload_n 2, 1) := by decide +kernel
theorem dX11_land_19 : decode cX11_land 19 = .ok (.iload_n 1, 1) := by decide +kernel
theorem dX11_land_20 : decode cX11_land 20 = .ok (.if_icmp .ge 13, 3) := by decide +kernel
theorem dX11_land_23 : decode cX11_land 23 = .ok (.aload_n 0, 1) := by decide +kernel
theorem dX11_land_24 : decode cX11_land 24 = .ok (.invokevirtual 456, 3) := by decide +kernel
theorem dX11_land_27 : decode cX11_land 27 = .ok (.iinc 2 1, 3) := by decide +kernel
theorem dX11_land_30 : decode cX11_land 30 = .ok (.goto (-12), 3) := by decide +kernel
theorem dX11_land_33 : decode cX11_land 33 = .ok (.aload_n 0, 1) := by decide +kernel
theorem dX11_land_34 : decode cX11_land 34 = .ok (.invokevirtual 474, 3) := by decide +kernel
theorem dX11_land_37 : decode cX11_land 37 = .ok (.istore_n 2, 1) := by decide +kernel
theorem dX11_land_38 : decode cX11_land 38 = .ok (.aload_n 0, 1) := by decide +kernel
theorem dX11_land_39 : decode cX11_land 39 = .ok (.invokevirtual 468, 3) := by decide +kernel
theorem dX11_land_42 : decode cX11_land 42 = .ok (.iload_n 2, 1) := by decide +kernel
theorem dX11_land_43 : decode cX11_land 43 = .ok (.ireturn, 1) := by decide +kernel
theorem dX11_lies_0 : decode cX11_lies 0 = .ok (.iload_n 1, 1) := by decide +kernel
theorem dX11_lies_1 : decode cX11_lies 1 = .ok (.iconst 0, 1) := by decide +kernel
theorem dX11_lies_2 : decode cX11_lies 2 = .ok (.aload_n 0, 1) := by decide +kernel
theorem dX11_lies_3 : decode cX11_lies 3 = .ok (.getfield 404, 3) := by decide +kernel
theorem dX11_lies_6 : decode cX11_lies 6 = .ok (.iconst 1, 1) := by decide +kernel
theorem dX11_lies_7 : decode cX11_lies 7 = .ok (.isub, 1) := by decide +kernel
theorem dX11_lies_8 : decode cX11_lies 8 = .ok (.invokestatic 387, 3) := by decide +kernel
theorem dX11_lies_11 : decode cX11_lies 11 = .ok (.ifCond .eq 12, 3) := by decide +kernel
theorem dX11_lies_14 : decode cX11_lies 14 = .ok (.aload_n 0, 1) := by decide +kernel
theorem dX11_lies_15 : decode cX11_lies 15 = .ok (.getfield 122, 3) := by decide +kernel
theorem dX11_lies_18 : decode cX11_lies 18 = .ok (.iload_n 1, 1) := by decide +kernel
theorem dX11_lies_19 : decode cX11_lies 19 = .ok (.iaload, 1) := by decide +kernel
theorem dX11_lies_20 : decode cX11_lies 20 = .ok (.goto 4, 3) := by decide +kernel
theorem dX11_lies_23 : decode cX11_lies 23 = .ok (.iconst (-1), 1) := by decide +kernel
theorem dX11_lies_24 : decode cX11_lies 24 = .ok (.ireturn, 1) := by decide +kernel
theorem dX11_firstWay_0 : decode cX11_firstWay 0 = .ok (.iconst 0, 1) := by decide +kernel
theorem dX11_firstWay_1 : decode cX11_firstWay 1 = .ok (.istore_n 2, 1) := by decide +kernel
theorem dX11_firstWay_2 : decode cX11_firstWay 2 = .ok (.iload_n 2, 1) := by decide +kernel
theorem dX11_firstWay_3 : decode cX11_firstWay 3 = .ok (.iconst 4, 1) := by decide +kernel
theorem dX11_firstWay_4 : decode cX11_firstWay 4 = .ok (.if_icmp .ge 16, 3) := by decide +kernel
theorem dX11_firstWay_7 : decode cX11_firstWay 7 = .ok (.aload_n 0, 1) := by decide +kernel
theorem dX11_firstWay_8 : decode cX11_firstWay 8 = .ok (.getfield 125, 3) := by decide +kernel
theorem dX11_firstWay_11 : decode cX11_firstWay 11 = .ok (.iload_n 2, 1) := by decide +kernel
theorem dX11_firstWay_12 : decode cX11_firstWay 12 = .ok (.iconst 0, 1) := by decide +kernel
theorem dX11_firstWay_13 : decode cX11_firstWay 13 = .ok (.iastore, 1) := by decide +kernel
theorem dX11_firstWay_14 : decode cX11_firstWay 14 = .ok (.iinc 2 1, 3) := by decide +kernel
theorem dX11_firstWay_17 : decode cX11_firstWay 17 = .ok (.goto (-15), 3) := by decide +kernel
theorem dX11_firstWay_20 : decode cX11_firstWay 20 = .ok (.aload_n 0, 1) := by decide +kernel
theorem dX11_firstWay_21 : decode cX11_firstWay 21 = .ok (.getfield 125, 3) := by decide +kernel
theorem dX11_firstWay_24 : decode cX11_firstWay 24 = .ok (.aload_n 0, 1) := by decide +kernel
theorem dX11_firstWay_25 : decode cX11_firstWay 25 = .ok (.invokevirtual 384, 3) := by decide +kernel
theorem dX11_firstWay_28 : decode cX11_firstWay 28 = .ok (.iconst 1, 1) := by decide +kernel
theorem dX11_firstWay_29 : decode cX11_firstWay 29 = .ok (.isub, 1) := by decide +kernel
theorem dX11_firstWay_30 : decode cX11_firstWay 30 = .ok (.iload_n 1, 1) := by decide +kernel
theorem dX11_firstWay_31 : decode cX11_firstWay 31 = .ok (.iastore, 1) := by decide +kernel
theorem dX11_firstWay_32 : decode cX11_firstWay 32 = .ok (.return_, 1) := by decide +kernel
theorem dX11_nextWay_0 : decode cX11_nextWay 0 = .ok (.aload_n 0, 1) := by decide +kernel
theorem dX11_nextWay_1 : decode cX11_nextWay 1 = .ok (.invokevirtual 384, 3) := by decide +kernel
theorem dX11_nextWay_4 : decode cX11_nextWay 4 = .ok (.iconst 1, 1) := by decide +kernel
theorem dX11_nextWay_5 : decode cX11_nextWay 5 = .ok (.isub, 1) := by decide +kernel
theorem dX11_nextWay_6 : decode cX11_nextWay 6 = .ok (.istore_n 1, 1) := by decide +kernel
theorem dX11_nextWay_7 : decode cX11_nextWay 7 = .ok (.iload_n 1, 1) := by decide +kernel
theorem dX11_nextWay_8 : decode cX11_nextWay 8 = .ok (.istore_n 2, 1) := by decide +kernel
theorem dX11_nextWay_9 : decode cX11_nextWay 9 = .ok (.iload_n 2, 1) := by decide +kernel
theorem dX11_nextWay_10 : decode cX11_nextWay 10 = .ok (.ifCond .le 18, 3) := by decide +kernel
theorem dX11_nextWay_13 : decode cX11_nextWay 13 = .ok (.aload_n 0, 1) := by decide +kernel
theorem dX11_nextWay_14 : decode cX11_nextWay 14 = .ok (.getfield 125, 3) := by decide +kernel
theorem dX11_nextWay_17 : decode cX11_nextWay 17 = .ok (.iload_n 2, 1) := by decide +kernel
theorem dX11_nextWay_18 : decode cX11_nextWay 18 = .ok (.iaload, 1) := by decide +kernel
theorem dX11_nextWay_19 : decode cX11_nextWay 19 = .ok (.ifCond .ne 9, 3) := by decide +kernel
theorem dX11_nextWay_22 : decode cX11_nextWay 22 = .ok (.iinc 2 (-1), 3) := by decide +kernel
theorem dX11_nextWay_25 : decode cX11_nextWay 25 = .ok (.goto (-16), 3) := by decide +kernel
theorem dX11_nextWay_28 : decode cX11_nextWay 28 = .ok (.iload_n 2, 1) := by decide +kernel
theorem dX11_nextWay_29 : decode cX11_nextWay 29 = .ok (.ifCond .ne 5, 3) := by decide +kernel
theorem dX11_nextWay_32 : decode cX11_nextWay 32 = .ok (.iconst 0, 1) := by decide +kernel
theorem dX11_nextWay_33 : decode cX11_nextWay 33 = .ok (.ireturn, 1) := by decide +kernel
theorem dX11_nextWay_34 : decode cX11_nextWay 34 = .ok (.aload_n 0, 1) := by decide +kernel
theorem dX11_nextWay_35 : decode cX11_nextWay 35 = .ok (.getfield 125, 3) := by decide +kernel
theorem dX11_nextWay_38 : decode cX11_nextWay 38 = .ok (.iload_n 2, 1) := by decide +kernel
theorem dX11_nextWay_39 : decode cX11_nextWay 39 = .ok (.iaload, 1) := by decide +kernel
theorem dX11_nextWay_40 : decode cX11_nextWay 40 = .ok (.iconst 1, 1) := by decide +kernel
theorem dX11_nextWay_41 : decode cX11_nextWay 41 = .ok (.isub, 1) := by decide +kernel
theorem dX11_nextWay_42 : decode cX11_nextWay 42 = .ok (.istore_n 3, 1) := by decide +kernel
theorem dX11_nextWay_43 : decode cX11_nextWay 43 = .ok (.aload_n 0, 1) := by decide +kernel
theorem dX11_nextWay_44 : decode cX11_nextWay 44 = .ok (.getfield 125, 3) := by decide +kernel
theorem dX11_nextWay_47 : decode cX11_nextWay 47 = .ok (.iload_n 2, 1) := by decide +kernel
theorem dX11_nextWay_48 : decode cX11_nextWay 48 = .ok (.iconst 0, 1) := by decide +kernel
theorem dX11_nextWay_49 : decode cX11_nextWay 49 = .ok (.iastore, 1) := by decide +kernel
theorem dX11_nextWay_50 : decode cX11_nextWay 50 = .ok (.aload_n 0, 1) := by decide +kernel
theorem dX11_nextWay_51 : decode cX11_nextWay 51 = .ok (.getfield 125, 3) := by decide +kernel
theorem dX11_nextWay_54 : decode cX11_nextWay 54 = .ok (.iload_n 2, 1) := by decide +kernel
theorem dX11_nextWay_55 : decode cX11_nextWay 55 = .ok (.iconst 1, 1) := by decide +kernel
theorem dX11_nextWay_56 : decode cX11_nextWay 56 = .ok (.isub, 1) := by decide +kernel
theorem dX11_nextWay_57 : decode cX11_nextWay 57 = .ok (.dup2, 1) := by decide +kernel
theorem dX11_nextWay_58 : decode cX11_nextWay 58 = .ok (.iaload, 1) := by decide +kernel
theorem dX11_nextWay_59 : decode cX11_nextWay 59 = .ok (.iconst 1, 1) := by decide +kernel
theorem dX11_nextWay_60 : decode cX11_nextWay 60 = .ok (.iadd, 1) := by decide +kernel
theorem dX11_nextWay_61 : decode cX11_nextWay 61 = .ok (.iastore, 1) := by decide +kernel
theorem dX11_nextWay_62 : decode cX11_nextWay 62 = .ok (.aload_n 0, 1) := by decide +kernel
theorem dX11_nextWay_63 : decode cX11_nextWay 63 = .ok (.getfield 125, 3) := by decide +kernel
theorem dX11_nextWay_66 : decode cX11_nextWay 66 = .ok (.iload_n 1, 1) := by decide +kernel
theorem dX11_nextWay_67 : decode cX11_nextWay 67 = .ok (.iload_n 3, 1) := by decide +kernel
theorem dX11_nextWay_68 : decode cX11_nextWay 68 = .ok (.iastore, 1) := by decide +kernel
theorem dX11_nextWay_69 : decode cX11_nextWay 69 = .ok (.iconst 1, 1) := by decide +kernel
theorem dX11_nextWay_70 : decode cX11_nextWay 70 = .ok (.ireturn, 1) := by decide +kernel
theorem dX11_putAll_0 : decode cX11_putAll 0 = .ok (.iconst 0, 1) := by decide +kernel
theorem dX11_putAll_1 : decode cX11_putAll 1 = .ok (.istore_n 2, 1) := by decide +kernel
theorem dX11_putAll_2 : decode cX11_putAll 2 = .ok (.iload_n 2, 1) := by decide +kernel
theorem dX11_putAll_3 : decode cX11_putAll 3 = .ok (.aload_n 0, 1) := by decide +kernel
theorem dX11_putAll_4 : decode cX11_putAll 4 = .ok (.invokevirtual 384, 3) := by decide +kernel
theorem dX11_putAll_7 : decode cX11_putAll 7 = .ok (.if_icmp .ge 30, 3) := by decide +kernel
theorem dX11_putAll_10 : decode cX11_putAll 10 = .ok (.aload_n 0, 1) := by decide +kernel
theorem dX11_putAll_11 : decode cX11_putAll 11 = .ok (.getfield 113, 3) := by decide +kernel
theorem dX11_putAll_14 : decode cX11_putAll 14 = .ok (.iconst 3, 1) := by decide +kernel
theorem dX11_putAll_15 : decode cX11_putAll 15 = .ok (.iconst 3, 1) := by decide +kernel
theorem dX11_putAll_16 : decode cX11_putAll 16 = .ok (.iload_n 2, 1) := by decide +kernel
theorem dX11_putAll_17 : decode cX11_putAll 17 = .ok (.imul, 1) := by decide +kernel
theorem dX11_putAll_18 : decode cX11_putAll 18 = .ok (.iadd, 1) := by decide +kernel
theorem dX11_putAll_19 : decode cX11_putAll 19 = .ok (.iload_n 1, 1) := by decide +kernel
theorem dX11_putAll_20 : decode cX11_putAll 20 = .ok (.iadd, 1) := by decide +kernel
theorem dX11_putAll_21 : decode cX11_putAll 21 = .ok (.dup2, 1) := by decide +kernel
theorem dX11_putAll_22 : decode cX11_putAll 22 = .ok (.iaload, 1) := by decide +kernel
theorem dX11_putAll_23 : decode cX11_putAll 23 = .ok (.aload_n 0, 1) := by decide +kernel
theorem dX11_putAll_24 : decode cX11_putAll 24 = .ok (.getfield 125, 3) := by decide +kernel
theorem dX11_putAll_27 : decode cX11_putAll 27 = .ok (.iload_n 2, 1) := by decide +kernel
theorem dX11_putAll_28 : decode cX11_putAll 28 = .ok (.iaload, 1) := by decide +kernel
theorem dX11_putAll_29 : decode cX11_putAll 29 = .ok (.iadd, 1) := by decide +kernel
theorem dX11_putAll_30 : decode cX11_putAll 30 = .ok (.iastore, 1) := by decide +kernel
theorem dX11_putAll_31 : decode cX11_putAll 31 = .ok (.iinc 2 1, 3) := by decide +kernel
theorem dX11_putAll_34 : decode cX11_putAll 34 = .ok (.goto (-32), 3) := by decide +kernel
theorem dX11_putAll_37 : decode cX11_putAll 37 = .ok (.return_, 1) := by decide +kernel
theorem dX11_layRow_0 : decode cX11_layRow 0 = .ok (.iconst 0, 1) := by decide +kernel
theorem dX11_layRow_1 : decode cX11_layRow 1 = .ok (.istore_n 1, 1) := by decide +kernel
theorem dX11_layRow_2 : decode cX11_layRow 2 = .ok (.iload_n 1, 1) := by decide +kernel
theorem dX11_layRow_3 : decode cX11_layRow 3 = .ok (.aload_n 0, 1) := by decide +kernel
theorem dX11_layRow_4 : decode cX11_layRow 4 = .ok (.invokevirtual 384, 3) := by decide +kernel
theorem dX11_layRow_7 : decode cX11_layRow 7 = .ok (.if_icmp .ge 21, 3) := by decide +kernel
theorem dX11_layRow_10 : decode cX11_layRow 10 = .ok (.aload_n 0, 1) := by decide +kernel
theorem dX11_layRow_11 : decode cX11_layRow 11 = .ok (.getfield 122, 3) := by decide +kernel
theorem dX11_layRow_14 : decode cX11_layRow 14 = .ok (.iload_n 1, 1) := by decide +kernel
theorem dX11_layRow_15 : decode cX11_layRow 15 = .ok (.aload_n 0, 1) := by decide +kernel
theorem dX11_layRow_16 : decode cX11_layRow 16 = .ok (.getfield 125, 3) := by decide +kernel
theorem dX11_layRow_19 : decode cX11_layRow 19 = .ok (.iload_n 1, 1) := by decide +kernel
theorem dX11_layRow_20 : decode cX11_layRow 20 = .ok (.iaload, 1) := by decide +kernel
theorem dX11_layRow_21 : decode cX11_layRow 21 = .ok (.iastore, 1) := by decide +kernel
theorem dX11_layRow_22 : decode cX11_layRow 22 = .ok (.iinc 1 1, 3) := by decide +kernel
theorem dX11_layRow_25 : decode cX11_layRow 25 = .ok (.goto (-23), 3) := by decide +kernel
theorem dX11_layRow_28 : decode cX11_layRow 28 = .ok (.aload_n 0, 1) := by decide +kernel
theorem dX11_layRow_29 : decode cX11_layRow 29 = .ok (.aload_n 0, 1) := by decide +kernel
theorem dX11_layRow_30 : decode cX11_layRow 30 = .ok (.invokevirtual 384, 3) := by decide +kernel
theorem dX11_layRow_33 : decode cX11_layRow 33 = .ok (.putfield 404, 3) := by decide +kernel
theorem dX11_layRow_36 : decode cX11_layRow 36 = .ok (.return_, 1) := by decide +kernel
theorem dX11_ration_0 : decode cX11_ration 0 = .ok (.aload_n 0, 1) := by decide +kernel
theorem dX11_ration_1 : decode cX11_ration 1 = .ok (.iconst 0, 1) := by decide +kernel
theorem dX11_ration_2 : decode cX11_ration 2 = .ok (.putfield 404, 3) := by decide +kernel
theorem dX11_ration_5 : decode cX11_ration 5 = .ok (.aload_n 0, 1) := by decide +kernel
theorem dX11_ration_6 : decode cX11_ration 6 = .ok (.iload_n 1, 1) := by decide +kernel
theorem dX11_ration_7 : decode cX11_ration 7 = .ok (.invokevirtual 437, 3) := by decide +kernel
theorem dX11_ration_10 : decode cX11_ration 10 = .ok (.ifCond .eq 31, 3) := by decide +kernel
theorem dX11_ration_13 : decode cX11_ration 13 = .ok (.iload_n 2, 1) := by decide +kernel
theorem dX11_ration_14 : decode cX11_ration 14 = .ok (.iconst 0, 1) := by decide +kernel
theorem dX11_ration_15 : decode cX11_ration 15 = .ok (.iconst 1, 1) := by decide +kernel
theorem dX11_ration_16 : decode cX11_ration 16 = .ok (.aload_n 0, 1) := by decide +kernel
theorem dX11_ration_17 : decode cX11_ration 17 = .ok (.getfield 27, 3) := by decide +kernel
theorem dX11_ration_20 : decode cX11_ration 20 = .ok (.aload_n 0, 1) := by decide +kernel
theorem dX11_ration_21 : decode cX11_ration 21 = .ok (.getfield 273, 3) := by decide +kernel
theorem dX11_ration_24 : decode cX11_ration 24 = .ok (.iaload, 1) := by decide +kernel
theorem dX11_ration_25 : decode cX11_ration 25 = .ok (.ishl, 1) := by decide +kernel
theorem dX11_ration_26 : decode cX11_ration 26 = .ok (.iconst 1, 1) := by decide +kernel
theorem dX11_ration_27 : decode cX11_ration 27 = .ok (.isub, 1) := by decide +kernel
theorem dX11_ration_28 : decode cX11_ration 28 = .ok (.invokestatic 387, 3) := by decide +kernel
theorem dX11_ration_31 : decode cX11_ration 31 = .ok (.ifCond .eq 10, 3) := by decide +kernel
theorem dX11_ration_34 : decode cX11_ration 34 = .ok (.aload_n 0, 1) := by decide +kernel
theorem dX11_ration_35 : decode cX11_ration 35 = .ok (.invokevirtual 384, 3) := by decide +kernel
theorem dX11_ration_38 : decode cX11_ration 38 = .ok (.ifCond .ne 21, 3) := by decide +kernel
theorem dX11_ration_41 : decode cX11_ration 41 = .ok (.aload_n 0, 1) := by decide +kernel
theorem dX11_ration_42 : decode cX11_ration 42 = .ok (.iload_n 1, 1) := by decide +kernel
theorem dX11_ration_43 : decode cX11_ration 43 = .ok (.invokevirtual 437, 3) := by decide +kernel
theorem dX11_ration_46 : decode cX11_ration 46 = .ok (.ifCond .eq 11, 3) := by decide +kernel
theorem dX11_ration_49 : decode cX11_ration 49 = .ok (.iload_n 2, 1) := by decide +kernel
theorem dX11_ration_50 : decode cX11_ration 50 = .ok (.ifCond .ne 7, 3) := by decide +kernel
theorem dX11_ration_53 : decode cX11_ration 53 = .ok (.iconst 0, 1) := by decide +kernel
theorem dX11_ration_54 : decode cX11_ration 54 = .ok (.goto 4, 3) := by decide +kernel
theorem dX11_ration_57 : decode cX11_ration 57 = .ok (.iconst (-1), 1) := by decide +kernel
theorem dX11_ration_58 : decode cX11_ration 58 = .ok (.ireturn, 1) := by decide +kernel
theorem dX11_ration_59 : decode cX11_ration 59 = .ok (.aload_n 0, 1) := by decide +kernel
theorem dX11_ration_60 : decode cX11_ration 60 = .ok (.invokevirtual 453, 3) := by decide +kernel
theorem dX11_ration_63 : decode cX11_ration 63 = .ok (.iconst 0, 1) := by decide +kernel
theorem dX11_ration_64 : decode cX11_ration 64 = .ok (.istore_n 3, 1) := by decide +kernel
theorem dX11_ration_65 : decode cX11_ration 65 = .ok (.iload_n 3, 1) := by decide +kernel
theorem dX11_ration_66 : decode cX11_ration 66 = .ok (.bipush 24, 2) := by decide +kernel
theorem dX11_ration_68 : decode cX11_ration 68 = .ok (.if_icmp .gt 83, 3) := by decide +kernel
theorem dX11_ration_71 : decode cX11_ration 71 = .ok (.iload_n 3, 1) := by decide +kernel
theorem dX11_ration_72 : decode cX11_ration 72 = .ok (.aload_n 0, 1) := by decide +kernel
theorem dX11_ration_73 : decode cX11_ration 73 = .ok (.getfield 113, 3) := by decide +kernel
theorem dX11_ration_76 : decode cX11_ration 76 = .ok (.iconst 0, 1) := by decide +kernel
theorem dX11_ration_77 : decode cX11_ration 77 = .ok (.iload_n 1, 1) := by decide +kernel
theorem dX11_ration_78 : decode cX11_ration 78 = .ok (.iadd, 1) := by decide +kernel
theorem dX11_ration_79 : decode cX11_ration 79 = .ok (.iaload, 1) := by decide +kernel
theorem dX11_ration_80 : decode cX11_ration 80 = .ok (.if_icmp .gt 71, 3) := by decide +kernel
theorem dX11_ration_83 : decode cX11_ration 83 = .ok (.aload_n 0, 1) := by decide +kernel
theorem dX11_ration_84 : decode cX11_ration 84 = .ok (.iload_n 3, 1) := by decide +kernel
theorem dX11_ration_85 : decode cX11_ration 85 = .ok (.invokevirtual 477, 3) := by decide +kernel
theorem dX11_ration_88 : decode cX11_ration 88 = .ok (.iconst 1, 1) := by decide +kernel
theorem dX11_ration_89 : decode cX11_ration 89 = .ok (.istore 4, 2) := by decide +kernel
theorem dX11_ration_91 : decode cX11_ration 91 = .ok (.iload 4, 2) := by decide +kernel
theorem dX11_ration_93 : decode cX11_ration 93 = .ok (.ifCond .eq 52, 3) := by decide +kernel
theorem dX11_ration_96 : decode cX11_ration 96 = .ok (.aload_n 0, 1) := by decide +kernel
theorem dX11_ration_97 : decode cX11_ration 97 = .ok (.iload_n 1, 1) := by decide +kernel
theorem dX11_ration_98 : decode cX11_ration 98 = .ok (.invokevirtual 480, 3) := by decide +kernel
theorem dX11_ration_101 : decode cX11_ration 101 = .ok (.aload_n 0, 1) := by decide +kernel
theorem dX11_ration_102 : decode cX11_ration 102 = .ok (.invokevirtual 434, 3) := by decide +kernel
theorem dX11_ration_105 : decode cX11_ration 105 = .ok (.aload_n 0, 1) := by decide +kernel
theorem dX11_ration_106 : decode cX11_ration 106 = .ok (.invokevirtual 459, 3) := by decide +kernel
theorem dX11_ration_109 : decode cX11_ration 109 = .ok (.iload_n 2, 1) := by decide +kernel
theorem dX11_ration_110 : decode cX11_ration 110 = .ok (.iand, 1) := by decide +kernel
theorem dX11_ration_111 : decode cX11_ration 111 = .ok (.ifCond .ne 7, 3) := by decide +kernel
theorem dX11_ration_114 : decode cX11_ration 114 = .ok (.iconst 1, 1) := by decide +kernel
theorem dX11_ration_115 : decode cX11_ration 115 = .ok (.goto 4, 3) := by decide +kernel
theorem dX11_ration_118 : decode cX11_ration 118 = .ok (.iconst 0, 1) := by decide +kernel
theorem dX11_ration_119 : decode cX11_ration 119 = .ok (.istore 5, 2) := by decide +kernel
theorem dX11_ration_121 : decode cX11_ration 121 = .ok (.aload_n 0, 1) := by decide +kernel
theorem dX11_ration_122 : decode cX11_ration 122 = .ok (.invokevirtual 468, 3) := by decide +kernel
theorem dX11_ration_125 : decode cX11_ration 125 = .ok (.iload 5, 2) := by decide +kernel
theorem dX11_ration_127 : decode cX11_ration 127 = .ok (.ifCond .eq 9, 3) := by decide +kernel
theorem dX11_ration_130 : decode cX11_ration 130 = .ok (.aload_n 0, 1) := by decide +kernel
theorem dX11_ration_131 : decode cX11_ration 131 = .ok (.invokevirtual 483, 3) := by decide +kernel
theorem dX11_ration_134 : decode cX11_ration 134 = .ok (.iload_n 3, 1) := by decide +kernel
theorem dX11_ration_135 : decode cX11_ration 135 = .ok (.ireturn, 1) := by decide +kernel
theorem dX11_ration_136 : decode cX11_ration 136 = .ok (.aload_n 0, 1) := by decide +kernel
theorem dX11_ration_137 : decode cX11_ration 137 = .ok (.invokevirtual 486, 3) := by decide +kernel
theorem dX11_ration_140 : decode cX11_ration 140 = .ok (.istore 4, 2) := by decide +kernel
theorem dX11_ration_142 : decode cX11_ration 142 = .ok (.goto (-51), 3) := by decide +kernel
theorem dX11_ration_145 : decode cX11_ration 145 = .ok (.iinc 3 1, 3) := by decide +kernel
theorem dX11_ration_148 : decode cX11_ration 148 = .ok (.goto (-83), 3) := by decide +kernel
theorem dX11_ration_151 : decode cX11_ration 151 = .ok (.iconst (-1), 1) := by decide +kernel
theorem dX11_ration_152 : decode cX11_ration 152 = .ok (.ireturn, 1) := by decide +kernel
theorem dX11_keep_0 : decode cX11_keep 0 = .ok (.aload_n 0, 1) := by decide +kernel
theorem dX11_keep_1 : decode cX11_keep 1 = .ok (.iconst 0, 1) := by decide +kernel
theorem dX11_keep_2 : decode cX11_keep 2 = .ok (.putfield 404, 3) := by decide +kernel
theorem dX11_keep_5 : decode cX11_keep 5 = .ok (.aload_n 0, 1) := by decide +kernel
theorem dX11_keep_6 : decode cX11_keep 6 = .ok (.iload_n 1, 1) := by decide +kernel
theorem dX11_keep_7 : decode cX11_keep 7 = .ok (.invokevirtual 437, 3) := by decide +kernel
theorem dX11_keep_10 : decode cX11_keep 10 = .ok (.ifCond .eq 32, 3) := by decide +kernel
theorem dX11_keep_13 : decode cX11_keep 13 = .ok (.iload_n 2, 1) := by decide +kernel
theorem dX11_keep_14 : decode cX11_keep 14 = .ok (.iconst 0, 1) := by decide +kernel
theorem dX11_keep_15 : decode cX11_keep 15 = .ok (.bipush 12, 2) := by decide +kernel
theorem dX11_keep_17 : decode cX11_keep 17 = .ok (.invokestatic 387, 3) := by decide +kernel
theorem dX11_keep_20 : decode cX11_keep 20 = .ok (.ifCond .eq 22, 3) := by decide +kernel
theorem dX11_keep_23 : decode cX11_keep 23 = .ok (.aload_n 0, 1) := by decide +kernel
theorem dX11_keep_24 : decode cX11_keep 24 = .ok (.invokevirtual 384, 3) := by decide +kernel
theorem dX11_keep_27 : decode cX11_keep 27 = .ok (.ifCond .eq 15, 3) := by decide +kernel
theorem dX11_keep_30 : decode cX11_keep 30 = .ok (.aload_n 0, 1) := by decide +kernel
theorem dX11_keep_31 : decode cX11_keep 31 = .ok (.getfield 113, 3) := by decide +kernel
theorem dX11_keep_34 : decode cX11_keep 34 = .ok (.iconst 0, 1) := by decide +kernel
theorem dX11_keep_35 : decode cX11_keep 35 = .ok (.iload_n 1, 1) := by decide +kernel
theorem dX11_keep_36 : decode cX11_keep 36 = .ok (.iadd, 1) := by decide +kernel
theorem dX11_keep_37 : decode cX11_keep 37 = .ok (.iaload, 1) := by decide +kernel
theorem dX11_keep_38 : decode cX11_keep 38 = .ok (.iload_n 2, 1) := by decide +kernel
theorem dX11_keep_39 : decode cX11_keep 39 = .ok (.if_icmp .ge 5, 3) := by decide +kernel
theorem dX11_keep_42 : decode cX11_keep 42 = .ok (.iconst (-1), 1) := by decide +kernel
theorem dX11_keep_43 : decode cX11_keep 43 = .ok (.ireturn, 1) := by decide +kernel
theorem dX11_keep_44 : decode cX11_keep 44 = .ok (.aload_n 0, 1) := by decide +kernel
theorem dX11_keep_45 : decode cX11_keep 45 = .ok (.invokevirtual 453, 3) := by decide +kernel
theorem dX11_keep_48 : decode cX11_keep 48 = .ok (.iconst (-1), 1) := by decide +kernel
theorem dX11_keep_49 : decode cX11_keep 49 = .ok (.istore_n 3, 1) := by decide +kernel
theorem dX11_keep_50 : decode cX11_keep 50 = .ok (.aload_n 0, 1) := by decide +kernel
theorem dX11_keep_51 : decode cX11_keep 51 = .ok (.iload_n 2, 1) := by decide +kernel
theorem dX11_keep_52 : decode cX11_keep 52 = .ok (.invokevirtual 477, 3) := by decide +kernel
theorem dX11_keep_55 : decode cX11_keep 55 = .ok (.iconst 1, 1) := by decide +kernel
theorem dX11_keep_56 : decode cX11_keep 56 = .ok (.istore 4, 2) := by decide +kernel
theorem dX11_keep_58 : decode cX11_keep 58 = .ok (.iload 4, 2) := by decide +kernel
theorem dX11_keep_60 : decode cX11_keep 60 = .ok (.ifCond .eq 44, 3) := by decide +kernel
theorem dX11_keep_63 : decode cX11_keep 63 = .ok (.aload_n 0, 1) := by decide +kernel
theorem dX11_keep_64 : decode cX11_keep 64 = .ok (.iload_n 1, 1) := by decide +kernel
theorem dX11_keep_65 : decode cX11_keep 65 = .ok (.invokevirtual 480, 3) := by decide +kernel
theorem dX11_keep_68 : decode cX11_keep 68 = .ok (.aload_n 0, 1) := by decide +kernel
theorem dX11_keep_69 : decode cX11_keep 69 = .ok (.invokevirtual 434, 3) := by decide +kernel
theorem dX11_keep_72 : decode cX11_keep 72 = .ok (.aload_n 0, 1) := by decide +kernel
theorem dX11_keep_73 : decode cX11_keep 73 = .ok (.invokevirtual 474, 3) := by decide +kernel
theorem dX11_keep_76 : decode cX11_keep 76 = .ok (.istore 5, 2) := by decide +kernel
theorem dX11_keep_78 : decode cX11_keep 78 = .ok (.aload_n 0, 1) := by decide +kernel
theorem dX11_keep_79 : decode cX11_keep 79 = .ok (.invokevirtual 468, 3) := by decide +kernel
theorem dX11_keep_82 : decode cX11_keep 82 = .ok (.iload 5, 2) := by decide +kernel
theorem dX11_keep_84 : decode cX11_keep 84 = .ok (.iload_n 3, 1) := by decide +kernel
theorem dX11_keep_85 : decode cX11_keep 85 = .ok (.if_icmp .le 10, 3) := by decide +kernel
theorem dX11_keep_88 : decode cX11_keep 88 = .ok (.iload 5, 2) := by decide +kernel
theorem dX11_keep_90 : decode cX11_keep 90 = .ok (.istore_n 3, 1) := by decide +kernel
theorem dX11_keep_91 : decode cX11_keep 91 = .ok (.aload_n 0, 1) := by decide +kernel
theorem dX11_keep_92 : decode cX11_keep 92 = .ok (.invokevirtual 483, 3) := by decide +kernel
theorem dX11_keep_95 : decode cX11_keep 95 = .ok (.aload_n 0, 1) := by decide +kernel
theorem dX11_keep_96 : decode cX11_keep 96 = .ok (.invokevirtual 486, 3) := by decide +kernel
theorem dX11_keep_99 : decode cX11_keep 99 = .ok (.istore 4, 2) := by decide +kernel
theorem dX11_keep_101 : decode cX11_keep 101 = .ok (.goto (-43), 3) := by decide +kernel
theorem dX11_keep_104 : decode cX11_keep 104 = .ok (.iload_n 3, 1) := by decide +kernel
theorem dX11_keep_105 : decode cX11_keep 105 = .ok (.ireturn, 1) := by decide +kernel
theorem dX11_folds_0 : decode cX11_folds 0 = .ok (.iload_n 1, 1) := by decide +kernel
theorem dX11_folds_1 : decode cX11_folds 1 = .ok (.iconst 1, 1) := by decide +kernel
theorem dX11_folds_2 : decode cX11_folds 2 = .ok (.bipush 20, 2) := by decide +kernel
theorem dX11_folds_4 : decode cX11_folds 4 = .ok (.invokestatic 387, 3) := by decide +kernel
theorem dX11_folds_7 : decode cX11_folds 7 = .ok (.ifCond .eq 12, 3) := by decide +kernel
theorem dX11_folds_10 : decode cX11_folds 10 = .ok (.iload_n 2, 1) := by decide +kernel
theorem dX11_folds_11 : decode cX11_folds 11 = .ok (.iconst 0, 1) := by decide +kernel
theorem dX11_folds_12 : decode cX11_folds 12 = .ok (.iconst 1, 1) := by decide +kernel
theorem dX11_folds_13 : decode cX11_folds 13 = .ok (.invokestatic 387, 3) := by decide +kernel
theorem dX11_folds_16 : decode cX11_folds 16 = .ok (.ifCond .ne 5, 3) := by decide +kernel
theorem dX11_folds_19 : decode cX11_folds 19 = .ok (.iconst (-1), 1) := by decide +kernel
theorem dX11_folds_20 : decode cX11_folds 20 = .ok (.ireturn, 1) := by decide +kernel
theorem dX11_folds_21 : decode cX11_folds 21 = .ok (.aload_n 0, 1) := by decide +kernel
theorem dX11_folds_22 : decode cX11_folds 22 = .ok (.invokevirtual 453, 3) := by decide +kernel
theorem dX11_folds_25 : decode cX11_folds 25 = .ok (.iconst (-1), 1) := by decide +kernel
theorem dX11_folds_26 : decode cX11_folds 26 = .ok (.istore_n 3, 1) := by decide +kernel
theorem dX11_folds_27 : decode cX11_folds 27 = .ok (.iconst 0, 1) := by decide +kernel
theorem dX11_folds_28 : decode cX11_folds 28 = .ok (.istore 4, 2) := by decide +kernel
theorem dX11_folds_30 : decode cX11_folds 30 = .ok (.iload 4, 2) := by decide +kernel
theorem dX11_folds_32 : decode cX11_folds 32 = .ok (.iconst 1, 1) := by decide +kernel
theorem dX11_folds_33 : decode cX11_folds 33 = .ok (.aload_n 0, 1) := by decide +kernel
theorem dX11_folds_34 : decode cX11_folds 34 = .ok (.invokevirtual 384, 3) := by decide +kernel
theorem dX11_folds_37 : decode cX11_folds 37 = .ok (.ishl, 1) := by decide +kernel
theorem dX11_folds_38 : decode cX11_folds 38 = .ok (.if_icmp .ge 93, 3) := by decide +kernel
theorem dX11_folds_41 : decode cX11_folds 41 = .ok (.iload 4, 2) := by decide +kernel
theorem dX11_folds_43 : decode cX11_folds 43 = .ok (.aload_n 0, 1) := by decide +kernel
theorem dX11_folds_44 : decode cX11_folds 44 = .ok (.getfield 113, 3) := by decide +kernel
theorem dX11_folds_47 : decode cX11_folds 47 = .ok (.bipush 39, 2) := by decide +kernel
theorem dX11_folds_49 : decode cX11_folds 49 = .ok (.iaload, 1) := by decide +kernel
theorem dX11_folds_50 : decode cX11_folds 50 = .ok (.iand, 1) := by decide +kernel
theorem dX11_folds_51 : decode cX11_folds 51 = .ok (.ifCond .ne 74, 3) := by decide +kernel
theorem dX11_folds_54 : decode cX11_folds 54 = .ok (.iload_n 3, 1) := by decide +kernel
theorem dX11_folds_55 : decode cX11_folds 55 = .ok (.ifCond .lt 18, 3) := by decide +kernel
theorem dX11_folds_58 : decode cX11_folds 58 = .ok (.iload 4, 2) := by decide +kernel
theorem dX11_folds_60 : decode cX11_folds 60 = .ok (.invokestatic 462, 3) := by decide +kernel
theorem dX11_folds_63 : decode cX11_folds 63 = .ok (.iload_n 3, 1) := by decide +kernel
theorem dX11_folds_64 : decode cX11_folds 64 = .ok (.invokestatic 462, 3) := by decide +kernel
theorem dX11_folds_67 : decode cX11_folds 67 = .ok (.if_icmp .lt 6, 3) := by decide +kernel
theorem dX11_folds_70 : decode cX11_folds 70 = .ok (.goto 55, 3) := by decide +kernel
theorem dX11_folds_73 : decode cX11_folds 73 = .ok (.aload_n 0, 1) := by decide +kernel
theorem dX11_folds_74 : decode cX11_folds 74 = .ok (.getfield 113, 3) := by decide +kernel
theorem dX11_folds_77 : decode cX11_folds 77 = .ok (.bipush 39, 2) := by decide +kernel
theorem dX11_folds_79 : decode cX11_folds 79 = .ok (.dup2, 1) := by decide +kernel
theorem dX11_folds_80 : decode cX11_folds 80 = .ok (.iaload, 1) := by decide +kernel
theorem dX11_folds_81 : decode cX11_folds 81 = .ok (.iload 4, 2) := by decide +kernel
theorem dX11_folds_83 : decode cX11_folds 83 = .ok (.ior, 1) := by decide +kernel
theorem dX11_folds_84 : decode cX11_folds 84 = .ok (.iastore, 1) := by decide +kernel
theorem dX11_folds_85 : decode cX11_folds 85 = .ok (.iconst 0, 1) := by decide +kernel
theorem dX11_folds_86 : decode cX11_folds 86 = .ok (.istore 5, 2) := by decide +kernel
theorem dX11_folds_88 : decode cX11_folds 88 = .ok (.iload 5, 2) := by decide +kernel
theorem dX11_folds_90 : decode cX11_folds 90 = .ok (.iload_n 1, 1) := by decide +kernel
theorem dX11_folds_91 : decode cX11_folds 91 = .ok (.if_icmp .ge 20, 3) := by decide +kernel
theorem dX11_folds_94 : decode cX11_folds 94 = .ok (.aload_n 0, 1) := by decide +kernel
theorem dX11_folds_95 : decode cX11_folds 95 = .ok (.invokevirtual 471, 3) := by decide +kernel
theorem dX11_folds_98 : decode cX11_folds 98 = .ok (.ifCond .ne 13, 3) := by decide +kernel
theorem dX11_folds_101 : decode cX11_folds 101 = .ok (.aload_n 0, 1) := by decide +kernel
theorem dX11_folds_102 : decode cX11_folds 102 = .ok (.invokevirtual 456, 3) := by decide +kernel
theorem dX11_folds_105 : decode cX11_folds 105 = .ok (.iinc 5 1, 3) := by decide +kernel
theorem dX11_folds_108 : decode cX11_folds 108 = .ok (.goto (-20), 3) := by decide +kernel
theorem dX11_folds_111 : decode cX11_folds 111 = .ok (.aload_n 0, 1) := by decide +kernel
theorem dX11_folds_112 : decode cX11_folds 112 = .ok (.invokevirtual 471, 3) := by decide +kernel
theorem dX11_folds_115 : decode cX11_folds 115 = .ok (.ifCond .ne 6, 3) := by decide +kernel
theorem dX11_folds_118 : decode cX11_folds 118 = .ok (.iload 4, 2) := by decide +kernel
theorem dX11_folds_120 : decode cX11_folds 120 = .ok (.istore_n 3, 1) := by decide +kernel
theorem dX11_folds_121 : decode cX11_folds 121 = .ok (.aload_n 0, 1) := by decide +kernel
theorem dX11_folds_122 : decode cX11_folds 122 = .ok (.invokevirtual 468, 3) := by decide +kernel
theorem dX11_folds_125 : decode cX11_folds 125 = .ok (.iinc 4 1, 3) := by decide +kernel
theorem dX11_folds_128 : decode cX11_folds 128 = .ok (.goto (-98), 3) := by decide +kernel
theorem dX11_folds_131 : decode cX11_folds 131 = .ok (.iload_n 3, 1) := by decide +kernel
theorem dX11_folds_132 : decode cX11_folds 132 = .ok (.ifCond .ge 7, 3) := by decide +kernel
theorem dX11_folds_135 : decode cX11_folds 135 = .ok (.iconst (-1), 1) := by decide +kernel
theorem dX11_folds_136 : decode cX11_folds 136 = .ok (.goto 15, 3) := by decide +kernel
theorem dX11_folds_139 : decode cX11_folds 139 = .ok (.iload_n 2, 1) := by decide +kernel
theorem dX11_folds_140 : decode cX11_folds 140 = .ok (.ifCond .ne 10, 3) := by decide +kernel
theorem dX11_folds_143 : decode cX11_folds 143 = .ok (.iload_n 3, 1) := by decide +kernel
theorem dX11_folds_144 : decode cX11_folds 144 = .ok (.invokestatic 462, 3) := by decide +kernel
theorem dX11_folds_147 : decode cX11_folds 147 = .ok (.goto 4, 3) := by decide +kernel
theorem dX11_folds_150 : decode cX11_folds 150 = .ok (.iload_n 3, 1) := by decide +kernel
theorem dX11_folds_151 : decode cX11_folds 151 = .ok (.ireturn, 1) := by decide +kernel
theorem dX11_drawerIn_0 : decode cX11_drawerIn 0 = .ok (.iload_n 1, 1) := by decide +kernel
theorem dX11_drawerIn_1 : decode cX11_drawerIn 1 = .ok (.istore 4, 2) := by decide +kernel
theorem dX11_drawerIn_3 : decode cX11_drawerIn 3 = .ok (.aload_n 0, 1) := by decide +kernel
theorem dX11_drawerIn_4 : decode cX11_drawerIn 4 = .ok (.invokevirtual 384, 3) := by decide +kernel
theorem dX11_drawerIn_7 : decode cX11_drawerIn 7 = .ok (.iconst 1, 1) := by decide +kernel
theorem dX11_drawerIn_8 : decode cX11_drawerIn 8 = .ok (.isub, 1) := by decide +kernel
theorem dX11_drawerIn_9 : decode cX11_drawerIn 9 = .ok (.istore 5, 2) := by decide +kernel
theorem dX11_drawerIn_11 : decode cX11_drawerIn 11 = .ok (.iload 5, 2) := by decide +kernel
theorem dX11_drawerIn_13 : decode cX11_drawerIn 13 = .ok (.iload_n 3, 1) := by decide +kernel
theorem dX11_drawerIn_14 : decode cX11_drawerIn 14 = .ok (.if_icmp .le 15, 3) := by decide +kernel
theorem dX11_drawerIn_17 : decode cX11_drawerIn 17 = .ok (.iload 4, 2) := by decide +kernel
theorem dX11_drawerIn_19 : decode cX11_drawerIn 19 = .ok (.iload_n 2, 1) := by decide +kernel
theorem dX11_drawerIn_20 : decode cX11_drawerIn 20 = .ok (.idiv, 1) := by decide +kernel
theorem dX11_drawerIn_21 : decode cX11_drawerIn 21 = .ok (.istore 4, 2) := by decide +kernel
theorem dX11_drawerIn_23 : decode cX11_drawerIn 23 = .ok (.iinc 5 (-1), 3) := by decide +kernel
theorem dX11_drawerIn_26 : decode cX11_drawerIn 26 = .ok (.goto (-15), 3) := by decide +kernel
theorem dX11_drawerIn_29 : decode cX11_drawerIn 29 = .ok (.iload 4, 2) := by decide +kernel
theorem dX11_drawerIn_31 : decode cX11_drawerIn 31 = .ok (.iload_n 2, 1) := by decide +kernel
theorem dX11_drawerIn_32 : decode cX11_drawerIn 32 = .ok (.irem, 1) := by decide +kernel
theorem dX11_drawerIn_33 : decode cX11_drawerIn 33 = .ok (.ireturn, 1) := by decide +kernel
theorem dX11_isParted_0 : decode cX11_isParted 0 = .ok (.iconst 0, 1) := by decide +kernel
theorem dX11_isParted_1 : decode cX11_isParted 1 = .ok (.istore_n 3, 1) := by decide +kernel
theorem dX11_isParted_2 : decode cX11_isParted 2 = .ok (.iload_n 3, 1) := by decide +kernel
theorem dX11_isParted_3 : decode cX11_isParted 3 = .ok (.aload_n 0, 1) := by decide +kernel
theorem dX11_isParted_4 : decode cX11_isParted 4 = .ok (.invokevirtual 384, 3) := by decide +kernel
theorem dX11_isParted_7 : decode cX11_isParted 7 = .ok (.if_icmp .ge 65, 3) := by decide +kernel
theorem dX11_isParted_10 : decode cX11_isParted 10 = .ok (.iconst 0, 1) := by decide +kernel
theorem dX11_isParted_11 : decode cX11_isParted 11 = .ok (.istore 4, 2) := by decide +kernel
theorem dX11_isParted_13 : decode cX11_isParted 13 = .ok (.iload 4, 2) := by decide +kernel
theorem dX11_isParted_15 : decode cX11_isParted 15 = .ok (.iload_n 3, 1) := by decide +kernel
theorem dX11_isParted_16 : decode cX11_isParted 16 = .ok (.if_icmp .ge 50, 3) := by decide +kernel
theorem dX11_isParted_19 : decode cX11_isParted 19 = .ok (.aload_n 0, 1) := by decide +kernel
theorem dX11_isParted_20 : decode cX11_isParted 20 = .ok (.getfield 54, 3) := by decide +kernel
theorem dX11_isParted_23 : decode cX11_isParted 23 = .ok (.iconst 4, 1) := by decide +kernel
theorem dX11_isParted_24 : decode cX11_isParted 24 = .ok (.aload_n 0, 1) := by decide +kernel
theorem dX11_isParted_25 : decode cX11_isParted 25 = .ok (.getfield 273, 3) := by decide +kernel
theorem dX11_isParted_28 : decode cX11_isParted 28 = .ok (.imul, 1) := by decide +kernel
theorem dX11_isParted_29 : decode cX11_isParted 29 = .ok (.iload_n 3, 1) := by decide +kernel
theorem dX11_isParted_30 : decode cX11_isParted 30 = .ok (.iadd, 1) := by decide +kernel
theorem dX11_isParted_31 : decode cX11_isParted 31 = .ok (.iaload, 1) := by decide +kernel
theorem dX11_isParted_32 : decode cX11_isParted 32 = .ok (.iload 4, 2) := by decide +kernel
theorem dX11_isParted_34 : decode cX11_isParted 34 = .ok (.invokestatic 391, 3) := by decide +kernel
theorem dX11_isParted_37 : decode cX11_isParted 37 = .ok (.ifCond .eq 23, 3) := by decide +kernel
theorem dX11_isParted_40 : decode cX11_isParted 40 = .ok (.aload_n 0, 1) := by decide +kernel
theorem dX11_isParted_41 : decode cX11_isParted 41 = .ok (.iload_n 1, 1) := by decide +kernel
theorem dX11_isParted_42 : decode cX11_isParted 42 = .ok (.iload_n 2, 1) := by decide +kernel
theorem dX11_isParted_43 : decode cX11_isParted 43 = .ok (.iload_n 3, 1) := by decide +kernel
theorem dX11_isParted_44 : decode cX11_isParted 44 = .ok (.invokevirtual 489, 3) := by decide +kernel
theorem dX11_isParted_47 : decode cX11_isParted 47 = .ok (.aload_n 0, 1) := by decide +kernel
theorem dX11_isParted_48 : decode cX11_isParted 48 = .ok (.iload_n 1, 1) := by decide +kernel
theorem dX11_isParted_49 : decode cX11_isParted 49 = .ok (.iload_n 2, 1) := by decide +kernel
theorem dX11_isParted_50 : decode cX11_isParted 50 = .ok (.iload 4, 2) := by decide +kernel
theorem dX11_isParted_52 : decode cX11_isParted 52 = .ok (.invokevirtual 489, 3) := by decide +kernel
theorem dX11_isParted_55 : decode cX11_isParted 55 = .ok (.if_icmp .ne 5, 3) := by decide +kernel
theorem dX11_isParted_58 : decode cX11_isParted 58 = .ok (.iconst 0, 1) := by decide +kernel
theorem dX11_isParted_59 : decode cX11_isParted 59 = .ok (.ireturn, 1) := by decide +kernel
theorem dX11_isParted_60 : decode cX11_isParted 60 = .ok (.iinc 4 1, 3) := by decide +kernel
theorem dX11_isParted_63 : decode cX11_isParted 63 = .ok (.goto (-50), 3) := by decide +kernel
theorem dX11_isParted_66 : decode cX11_isParted 66 = .ok (.iinc 3 1, 3) := by decide +kernel
theorem dX11_isParted_69 : decode cX11_isParted 69 = .ok (.goto (-67), 3) := by decide +kernel
theorem dX11_isParted_72 : decode cX11_isParted 72 = .ok (.iconst 1, 1) := by decide +kernel
theorem dX11_isParted_73 : decode cX11_isParted 73 = .ok (.ireturn, 1) := by decide +kernel
theorem dX11_waysInto_0 : decode cX11_waysInto 0 = .ok (.iconst 1, 1) := by decide +kernel
theorem dX11_waysInto_1 : decode cX11_waysInto 1 = .ok (.istore_n 2, 1) := by decide +kernel
theorem dX11_waysInto_2 : decode cX11_waysInto 2 = .ok (.iconst 0, 1) := by decide +kernel
theorem dX11_waysInto_3 : decode cX11_waysInto 3 = .ok (.istore_n 3, 1) := by decide +kernel
theorem dX11_waysInto_4 : decode cX11_waysInto 4 = .ok (.iload_n 3, 1) := by decide +kernel
theorem dX11_waysInto_5 : decode cX11_waysInto 5 = .ok (.aload_n 0, 1) := by decide +kernel
theorem dX11_waysInto_6 : decode cX11_waysInto 6 = .ok (.invokevirtual 384, 3) := by decide +kernel
theorem dX11_waysInto_9 : decode cX11_waysInto 9 = .ok (.if_icmp .ge 13, 3) := by decide +kernel
theorem dX11_waysInto_12 : decode cX11_waysInto 12 = .ok (.iload_n 2, 1) := by decide +kernel
theorem dX11_waysInto_13 : decode cX11_waysInto 13 = .ok (.iload_n 1, 1) := by decide +kernel
theorem dX11_waysInto_14 : decode cX11_waysInto 14 = .ok (.imul, 1) := by decide +kernel
theorem dX11_waysInto_15 : decode cX11_waysInto 15 = .ok (.istore_n 2, 1) := by decide +kernel
theorem dX11_waysInto_16 : decode cX11_waysInto 16 = .ok (.iinc 3 1, 3) := by decide +kernel
theorem dX11_waysInto_19 : decode cX11_waysInto 19 = .ok (.goto (-15), 3) := by decide +kernel
theorem dX11_waysInto_22 : decode cX11_waysInto 22 = .ok (.iconst 0, 1) := by decide +kernel
theorem dX11_waysInto_23 : decode cX11_waysInto 23 = .ok (.istore_n 3, 1) := by decide +kernel
theorem dX11_waysInto_24 : decode cX11_waysInto 24 = .ok (.iconst 0, 1) := by decide +kernel
theorem dX11_waysInto_25 : decode cX11_waysInto 25 = .ok (.istore 4, 2) := by decide +kernel
theorem dX11_waysInto_27 : decode cX11_waysInto 27 = .ok (.iload 4, 2) := by decide +kernel
theorem dX11_waysInto_29 : decode cX11_waysInto 29 = .ok (.iload_n 2, 1) := by decide +kernel
theorem dX11_waysInto_30 : decode cX11_waysInto 30 = .ok (.if_icmp .ge 71, 3) := by decide +kernel
theorem dX11_waysInto_33 : decode cX11_waysInto 33 = .ok (.aload_n 0, 1) := by decide +kernel
theorem dX11_waysInto_34 : decode cX11_waysInto 34 = .ok (.iload 4, 2) := by decide +kernel
theorem dX11_waysInto_36 : decode cX11_waysInto 36 = .ok (.iload_n 1, 1) := by decide +kernel
theorem dX11_waysInto_37 : decode cX11_waysInto 37 = .ok (.invokevirtual 492, 3) := by decide +kernel
theorem dX11_waysInto_40 : decode cX11_waysInto 40 = .ok (.ifCond .ne 6, 3) := by decide +kernel
theorem dX11_waysInto_43 : decode cX11_waysInto 43 = .ok (.goto 52, 3) := by decide +kernel
theorem dX11_waysInto_46 : decode cX11_waysInto 46 = .ok (.iload_n 3, 1) := by decide +kernel
theorem dX11_waysInto_47 : decode cX11_waysInto 47 = .ok (.ifCond .ne 45, 3) := by decide +kernel
theorem dX11_waysInto_50 : decode cX11_waysInto 50 = .ok (.iconst 0, 1) := by decide +kernel
theorem dX11_waysInto_51 : decode cX11_waysInto 51 = .ok (.istore 5, 2) := by decide +kernel
theorem dX11_waysInto_53 : decode cX11_waysInto 53 = .ok (.iload 5, 2) := by decide +kernel
theorem dX11_waysInto_55 : decode cX11_waysInto 55 = .ok (.aload_n 0, 1) := by decide +kernel
theorem dX11_waysInto_56 : decode cX11_waysInto 56 = .ok (.invokevirtual 384, 3) := by decide +kernel
theorem dX11_waysInto_59 : decode cX11_waysInto 59 = .ok (.if_icmp .ge 25, 3) := by decide +kernel
theorem dX11_waysInto_62 : decode cX11_waysInto 62 = .ok (.aload_n 0, 1) := by decide +kernel
theorem dX11_waysInto_63 : decode cX11_waysInto 63 = .ok (.getfield 122, 3) := by decide +kernel
theorem dX11_waysInto_66 : decode cX11_waysInto 66 = .ok (.iload 5, 2) := by decide +kernel
theorem dX11_waysInto_68 : decode cX11_waysInto 68 = .ok (.aload_n 0, 1) := by decide +kernel
theorem dX11_waysInto_69 : decode cX11_waysInto 69 = .ok (.iload 4, 2) := by decide +kernel
theorem dX11_waysInto_71 : decode cX11_waysInto 71 = .ok (.iload_n 1, 1) := by decide +kernel
theorem dX11_waysInto_72 : decode cX11_waysInto 72 = .ok (.iload 5, 2) := by decide +kernel
theorem dX11_waysInto_74 : decode cX11_waysInto 74 = .ok (.invokevirtual 489, 3) := by decide +kernel
theorem dX11_waysInto_77 : decode cX11_waysInto 77 = .ok (.iastore, 1) := by decide +kernel
theorem dX11_waysInto_78 : decode cX11_waysInto 78 = .ok (.iinc 5 1, 3) := by decide +kernel
theorem dX11_waysInto_81 : decode cX11_waysInto 81 = .ok (.goto (-28), 3) := by decide +kernel
theorem dX11_waysInto_84 : decode cX11_waysInto 84 = .ok (.aload_n 0, 1) := by decide +kernel
theorem dX11_waysInto_85 : decode cX11_waysInto 85 = .ok (.aload_n 0, 1) := by decide +kernel
theorem dX11_waysInto_86 : decode cX11_waysInto 86 = .ok (.invokevirtual 384, 3) := by decide +kernel
theorem dX11_waysInto_89 : decode cX11_waysInto 89 = .ok (.putfield 404, 3) := by decide +kernel
theorem dX11_waysInto_92 : decode cX11_waysInto 92 = .ok (.iinc 3 1, 3) := by decide +kernel
theorem dX11_waysInto_95 : decode cX11_waysInto 95 = .ok (.iinc 4 1, 3) := by decide +kernel
theorem dX11_waysInto_98 : decode cX11_waysInto 98 = .ok (.goto (-71), 3) := by decide +kernel
theorem dX11_waysInto_101 : decode cX11_waysInto 101 = .ok (.iload_n 3, 1) := by decide +kernel
theorem dX11_waysInto_102 : decode cX11_waysInto 102 = .ok (.ireturn, 1) := by decide +kernel
set_option maxRecDepth 100000 in
theorem m_X11_bitten (l : Launch) (D : va_G) (cT : Nat → ClassId) (T : Nat → Option Nat) (q : Nat → Int) (hT : tokm T) (hq : qkm q) (a0 : Nat) (t0 : T a0 = some 0) : th_Met l D cT T (km q) yX11_bitten cX11_bitten 2 (some .int) (rmk 6 138) [.ref a0] (th_R T (some (.inl (-2147483648, 2147483647)))) [0, 32, 33, 35] := by
  refine th_start (by decide) (Nat.le_of_ble_eq_true rfl) ?_
  intro p e s m below meth c ls S hK hH hr hlocks hnm hl
  have hx := S.1
  have hb := S.2.1
  have hl : lv_has ls 2 [(0, .ref a0)] := hl
  have J0 : ∀ (H : Heap) (locs : List Loc) (ls : Array Slot), th_H D cT T (km q) H → va_S (th_A T [0, 32, 33, 35]) s.heap H locs → lv_has ls 2 [(0, .ref a0)] → W p l e (rmk 6 138) s m [.ref a0].toArray below meth c H locs 0 0 (MQ below (th_Q D cT T (km q) (th_R T (some (.inl (-2147483648, 2147483647)))) [0, 32, 33, 35]) [.ref a0].toArray s 0 0 (th_A T [0, 32, 33, 35])) (F0 m 0 ls []) := by
    intro H locs ls hH hS hl
    refine lv_aload_n hx hb dX11_bitten_0 rfl (lv_at hl 0 rfl) ?_
    refine th_callVv (n := 0) (As := []) S hK hH hS (th_A.sub (by decide)) (m_X11_keepNow l D cT T q hT hq a0 t0) gm_1713 gm_1710 gm_1712 gm_92 gm_124 (by decide +kernel) ⟨rfl, rfl, Nat.le_of_ble_eq_true rfl, Nat.le_of_ble_eq_true rfl⟩ t0 km_0 rfl rfl hl.1 rfl (Nat.le_of_ble_eq_true rfl) dX11_bitten_1 ⟨Nat.zero_le _, Nat.zero_le _⟩ (fun H locs hH hS hF1 => ?_)
    refine lv_aload_n hx hb dX11_bitten_4 rfl (lv_at hl 0 rfl) ?_
    refine th_callVv (n := 0) (As := []) S hK hH hS (th_A.sub (by decide)) (m_X11_goYear l D cT T q hT hq a0 t0) gm_1717 gm_1714 gm_1716 gm_93 gm_124 (by decide +kernel) ⟨rfl, rfl, Nat.le_of_ble_eq_true rfl, Nat.le_of_ble_eq_true rfl⟩ t0 km_0 rfl rfl hl.1 rfl (Nat.le_of_ble_eq_true rfl) dX11_bitten_5 ⟨Nat.zero_le _, Nat.zero_le _⟩ (fun H locs hH hS hF1 => ?_)
    refine lv_aload_n hx hb dX11_bitten_8 rfl (lv_at hl 0 rfl) ?_
    refine th_callVi (n := 0) (As := []) S hK hH hS (th_A.sub (by decide)) (m_X11_smaller l D cT T q hT hq a0 t0) gm_1733 gm_1730 gm_1732 gm_97 gm_124 (by decide +kernel) ⟨rfl, rfl, Nat.le_of_ble_eq_true rfl, Nat.le_of_ble_eq_true rfl⟩ t0 km_0 rfl rfl hl.1 rfl (Nat.le_of_ble_eq_true rfl) dX11_bitten_9 ⟨Nat.zero_le _, Nat.zero_le _⟩ (fun x1 H locs ix1 hH hS hF1 => ?_)
    refine lv_istore_n (lv' := [(1, .int x1), (0, .ref a0)]) hx hb dX11_bitten_12 rfl hl (by decide) rfl (fun ls hl => ?_)
    refine lv_aload_n hx hb dX11_bitten_13 rfl (lv_at hl 1 rfl) ?_
    refine th_callVv (n := 0) (As := []) S hK hH hS (th_A.sub (by decide)) (m_X11_bringBack l D cT T q hT hq a0 t0) gm_1768 gm_1765 gm_1767 gm_99 gm_124 (by decide +kernel) ⟨rfl, rfl, Nat.le_of_ble_eq_true rfl, Nat.le_of_ble_eq_true rfl⟩ t0 km_0 rfl rfl hl.1 rfl (Nat.le_of_ble_eq_true rfl) dX11_bitten_14 ⟨Nat.zero_le _, Nat.zero_le _⟩ (fun H locs hH hS hF1 => ?_)
    refine lv_iload_n hx hb dX11_bitten_17 rfl (lv_at hl 0 rfl) ?_
    exact th_iret S hK hH hS hr hlocks (th_R.i ix1) dX11_bitten_18
  exact J0 s.heap [] ls hH va_S.rf hl

set_option maxRecDepth 100000 in
theorem m_X11_gone (l : Launch) (D : va_G) (cT : Nat → ClassId) (T : Nat → Option Nat) (q : Nat → Int) (hT : tokm T) (hq : qkm q) (a0 : Nat) (t0 : T a0 = some 0) : th_Met l D cT T (km q) yX11_gone cX11_gone 3 (some .int) (rmk 0 0) [.ref a0] (th_R T (some (.inl (-2147483648, 2147483647)))) [] := by
  refine th_start (by decide) (Nat.le_of_ble_eq_true rfl) ?_
  intro p e s m below meth c ls S hK hH hr hlocks hnm hl
  have hx := S.1
  have hb := S.2.1
  have hl : lv_has ls 3 [(0, .ref a0)] := hl
  have J4 : ∀ (n : Nat) (H : Heap) (locs : List Loc) (ls : Array Slot) (v4_1 : Int32) (v4_2 : Int32), IV v4_1 (-2147483648) 2147483647 → IV v4_2 0 8 → th_H D cT T (km q) H → va_S (th_A T []) s.heap H locs → lv_has ls 3 [(0, .ref a0), (1, .int v4_1), (2, .int v4_2)] → (8 + 1 - Int32.toInt v4_2).toNat < n → W p l e (rmk 0 0) s m [.ref a0].toArray below meth c H locs 0 0 (MQ below (th_Q D cT T (km q) (th_R T (some (.inl (-2147483648, 2147483647)))) []) [.ref a0].toArray s 0 0 (th_A T [])) (F0 m 4 ls []) := by
    intro n
    induction n with
    | zero => intro H locs ls v4_1 v4_2 iv4_1 iv4_2 hH hS hl hn; exact absurd hn (Nat.not_lt_zero _)
    | succ n ih4 =>
      intro H locs ls v4_1 v4_2 iv4_1 iv4_2 hH hS hl hn4
      have J35 : ∀ (H : Heap) (locs : List Loc) (ls : Array Slot) (v35_1 : Int32), IV v35_1 (-2147483648) 2147483647 → IV v4_2 0 7 → th_H D cT T (km q) H → va_S (th_A T []) s.heap H locs → lv_has ls 3 [(0, .ref a0), (1, .int v35_1), (2, .int v4_2)] → W p l e (rmk 0 0) s m [.ref a0].toArray below meth c H locs 0 0 (MQ below (th_Q D cT T (km q) (th_R T (some (.inl (-2147483648, 2147483647)))) []) [.ref a0].toArray s 0 0 (th_A T [])) (F0 m 35 ls []) := by
        intro H locs ls v35_1 iv35_1 f35_v4_2 hH hS hl
        refine th_iinc S dX11_gone_35 hl (k := 2) rfl (by decide) f35_v4_2 (by decide) (fun x1 ls ex1 ix1 hl => ?_)
        have hl : lv_has ls 3 [(2, .int x1), (0, .ref a0), (1, .int v35_1)] := hl
        have ix1 : IV x1 1 8 := ix1
        refine lv_goto (tgt := 4) hx hb dX11_gone_38 (by decide) ?_
        exact ih4 H locs ls v35_1 x1 iv35_1 (iv_w ix1 (by decide)) hH hS (lv_sub hl [1, 2, 0] rfl) (th_up iv4_2 ex1 (by decide) hn4)
      have l1v4_2 := iv4_2.1; have l2v4_2 := iv4_2.2
      refine lv_iload_n hx hb dX11_gone_4 rfl (lv_at hl 2 rfl) ?_
      refine lv_aload_n hx hb dX11_gone_5 rfl (lv_at hl 0 rfl) ?_
      refine th_get S hK hH inG11 t0 km_0 rfl 13 (by decide) gm_1243 rfl rfl dX11_gone_6 (fun v2 hv2 fv2 => ?_)
      obtain ⟨rf3, rfl, trf3⟩ := th_V.ref hv2
      refine lv_aload_n hx hb dX11_gone_9 rfl (lv_at hl 0 rfl) ?_
      refine th_get S hK hH inG11 t0 km_0 rfl 41 (by decide) gm_1271 rfl rfl dX11_gone_10 (fun v4 hv4 fv4 => ?_)
      obtain ⟨x5, rfl, ix5⟩ := th_V.int hv4
      have kx5a : q 10 ≤ x5.toInt := ix5.1
      have kx5b : x5.toInt ≤ q 10 := ix5.2
      have ix5 : IV x5 0 1 := iv_w ix5 (qkm_10 hq)
      refine th_iald S hK hH trf3 km_5 (th_in (hi := 1) ix5 (by decide)) dX11_gone_13 (fun v6 hv6 => ?_)
      obtain ⟨x7, rfl, ix7⟩ := th_bkA hv6 ix5 (by omega)
      have kx7a : q 18 ≤ x7.toInt := ix7.1
      have kx7b : x7.toInt ≤ q 18 := ix7.2
      have ix7 : IV x7 0 8 := iv_w ix7 (qkm_18 hq)
      refine lv_icmp_ge (tgt := 41) hx hb dX11_gone_14 (by decide) (fun c8 => ?_) (fun c8 => ?_)
      · skip
        have rlc8 : x7.toInt ≤ v4_2.toInt := iv_le c8
        refine lv_iload_n hx hb dX11_gone_41 rfl (lv_at hl 1 rfl) ?_
        exact th_iret S hK hH hS hr hlocks (th_R.i iv4_1) dX11_gone_42
      · skip
        have rlc8 : v4_2.toInt < x7.toInt := iv_nle c8
        have ir9 : IV v4_2 0 7 := iv_uL iv4_2 ix7 (iv_nle c8) (by decide)
        have ir9a := ir9.1; have ir9b := ir9.2
        have ir10 : IV x7 1 8 := iv_uR iv4_2 ix7 (iv_nle c8) (by decide)
        have ir10a := ir10.1; have ir10b := ir10.2
        refine lv_aload_n hx hb dX11_gone_17 rfl (lv_at hl 0 rfl) ?_
        refine th_get S hK hH inG11 t0 km_0 rfl 52 (by decide) gm_1282 rfl rfl dX11_gone_18 (fun v11 hv11 fv11 => ?_)
        obtain ⟨rf12, rfl, trf12⟩ := th_V.ref hv11
        refine lv_bipush (v := 15) hx hb dX11_gone_21 (by decide) ?_
        refine lv_iload_n hx hb dX11_gone_23 rfl (lv_at hl 2 rfl) ?_
        refine lv_iadd hx hb dX11_gone_24 ?_
        refine lv_topi (fun x13 ex13 => ?_)
        have ix13 : IV x13 15 22 := by rw [ex13]; exact iv_add (iv_c (by decide) : IV 15 15 15) ir9 (by decide)
        have ux13 : x13.toInt = (15 : Int) + v4_2.toInt := by rw [ex13]; exact iv_addE (by have z1 := ((iv_c (by decide) : IV 15 15 15)).1; have z2 := ((iv_c (by decide) : IV 15 15 15)).2; have z3 := (ir9).1; have z4 := (ir9).2; omega)
        refine th_iald S hK hH trf12 km_33 (th_in (hi := 22) (iv_w ix13 (by decide)) (by decide)) dX11_gone_25 (fun v14 hv14 => ?_)
        obtain ⟨x15, rfl, ix15⟩ := th_V.int hv14
        refine lv_if_ne (tgt := 35) hx hb dX11_gone_26 (by decide) (fun c16 => ?_) (fun c16 => ?_)
        · skip
          have rlc16 : x15.toInt ≠ (0 : Int) := iv_ne c16
          exact J35 H locs ls v4_1 iv4_1 ir9 hH hS (lv_sub hl [0, 1, 2] rfl)
        · skip
          have rlc16 : x15.toInt = (0 : Int) := congrArg Int32.toInt c16
          have ir17 : IV x15 0 0 := iv_eL c16 (iv_c (by decide) : IV 0 0 0)
          have ir17a := ir17.1; have ir17b := ir17.2
          refine lv_iload_n hx hb dX11_gone_29 rfl (lv_at hl 1 rfl) ?_
          refine lv_iconst (v := 1) hx hb dX11_gone_30 (by decide) ?_
          refine lv_iload_n hx hb dX11_gone_31 rfl (lv_at hl 2 rfl) ?_
          refine lv_ishl hx hb dX11_gone_32 ?_
          refine lv_topi (fun x18 ex18 => ?_)
          have ix18 := iv_top x18
          have ix18 : IV x18 1 1073741824 := by rw [ex18]; exact iv_shl1 (iv_w ir9 (by decide))
          refine lv_ior hx hb dX11_gone_33 ?_
          refine lv_topi (fun x19 ex19 => ?_)
          have ix19 := iv_top x19
          refine lv_istore_n (lv' := [(1, .int x19), (0, .ref a0), (2, .int v4_2)]) hx hb dX11_gone_34 rfl hl (by decide) rfl (fun ls hl => ?_)
          exact J35 H locs ls x19 ix19 ir9 hH hS (lv_sub hl [1, 0, 2] rfl)
  have J0 : ∀ (H : Heap) (locs : List Loc) (ls : Array Slot), th_H D cT T (km q) H → va_S (th_A T []) s.heap H locs → lv_has ls 3 [(0, .ref a0)] → W p l e (rmk 0 0) s m [.ref a0].toArray below meth c H locs 0 0 (MQ below (th_Q D cT T (km q) (th_R T (some (.inl (-2147483648, 2147483647)))) []) [.ref a0].toArray s 0 0 (th_A T [])) (F0 m 0 ls []) := by
    intro H locs ls hH hS hl
    refine lv_iconst (v := 0) hx hb dX11_gone_0 (by decide) ?_
    refine lv_istore_n (lv' := [(1, .int 0), (0, .ref a0)]) hx hb dX11_gone_1 rfl hl (by decide) rfl (fun ls hl => ?_)
    refine lv_iconst (v := 0) hx hb dX11_gone_2 (by decide) ?_
    refine lv_istore_n (lv' := [(2, .int 0), (1, .int 0), (0, .ref a0)]) hx hb dX11_gone_3 rfl hl (by decide) rfl (fun ls hl => ?_)
    exact J4 ((8 + 1 - Int32.toInt 0).toNat + 1) H locs ls 0 0 (iv_top _) (iv_w (iv_c (by decide) : IV 0 0 0) (by decide)) hH hS (lv_sub hl [2, 1, 0] rfl) (Nat.lt_succ_self _)
  exact J0 s.heap [] ls hH va_S.rf hl

set_option maxRecDepth 100000 in
theorem m_X11_land (l : Launch) (D : va_G) (cT : Nat → ClassId) (T : Nat → Option Nat) (q : Nat → Int) (hT : tokm T) (hq : qkm q) (a0 : Nat) (t0 : T a0 = some 0) (y1 : Int32) (j1 : IV y1 (-2147483648) 2147483647) : th_Met l D cT T (km q) yX11_land cX11_land 3 (some .int) (rmk 6 138) [.ref a0, .int y1] (th_R T (some (.inl (-2147483648, 2147483647)))) [0, 32, 33, 35] := by
  refine th_start (by decide) (Nat.le_of_ble_eq_true rfl) ?_
  intro p e s m below meth c ls S hK hH hr hlocks hnm hl
  have hx := S.1
  have hb := S.2.1
  have hl : lv_has ls 3 [(0, .ref a0), (1, .int y1)] := hl
  have J18 : ∀ (n : Nat) (H : Heap) (locs : List Loc) (ls : Array Slot) (v18_2 : Int32), IV v18_2 0 40 → IV y1 0 40 → th_H D cT T (km q) H → va_S (th_A T [0, 32, 33, 35]) s.heap H locs → lv_has ls 3 [(0, .ref a0), (1, .int y1), (2, .int v18_2)] → (40 + 1 - Int32.toInt v18_2).toNat < n → W p l e (rmk 6 138) s m [.ref a0, .int y1].toArray below meth c H locs 0 0 (MQ below (th_Q D cT T (km q) (th_R T (some (.inl (-2147483648, 2147483647)))) [0, 32, 33, 35]) [.ref a0, .int y1].toArray s 0 0 (th_A T [0, 32, 33, 35])) (F0 m 18 ls []) := by
    intro n
    induction n with
    | zero => intro H locs ls v18_2 iv18_2 f18_y1 hH hS hl hn; exact absurd hn (Nat.not_lt_zero _)
    | succ n ih18 =>
      intro H locs ls v18_2 iv18_2 f18_y1 hH hS hl hn18
      have l1v18_2 := iv18_2.1; have l2v18_2 := iv18_2.2
      refine lv_iload_n hx hb dX11_land_18 rfl (lv_at hl 2 rfl) ?_
      refine lv_iload_n hx hb dX11_land_19 rfl (lv_at hl 1 rfl) ?_
      refine lv_icmp_ge (tgt := 33) hx hb dX11_land_20 (by decide) (fun c1 => ?_) (fun c1 => ?_)
      · skip
        have rlc1 : y1.toInt ≤ v18_2.toInt := iv_le c1
        refine lv_aload_n hx hb dX11_land_33 rfl (lv_at hl 0 rfl) ?_
        refine th_callVi (n := 0) (As := []) S hK hH hS (th_A.sub (by decide)) (m_X11_landNow l D cT T q hT hq a0 t0) gm_1796 gm_1793 gm_1795 gm_101 gm_124 (by decide +kernel) ⟨rfl, rfl, Nat.le_of_ble_eq_true rfl, Nat.le_of_ble_eq_true rfl⟩ t0 km_0 rfl rfl hl.1 rfl (Nat.le_of_ble_eq_true rfl) dX11_land_34 ⟨Nat.zero_le _, Nat.zero_le _⟩ (fun x2 H locs ix2 hH hS hF1 => ?_)
        refine lv_istore_n (lv' := [(2, .int x2), (0, .ref a0), (1, .int y1)]) hx hb dX11_land_37 rfl hl (by decide) rfl (fun ls hl => ?_)
        refine lv_aload_n hx hb dX11_land_38 rfl (lv_at hl 1 rfl) ?_
        refine th_callVv (n := 0) (As := []) S hK hH hS (th_A.sub (by decide)) (m_X11_bringBack l D cT T q hT hq a0 t0) gm_1768 gm_1765 gm_1767 gm_99 gm_124 (by decide +kernel) ⟨rfl, rfl, Nat.le_of_ble_eq_true rfl, Nat.le_of_ble_eq_true rfl⟩ t0 km_0 rfl rfl hl.1 rfl (Nat.le_of_ble_eq_true rfl) dX11_land_39 ⟨Nat.zero_le _, Nat.zero_le _⟩ (fun H locs hH hS hF1 => ?_)
        refine lv_iload_n hx hb dX11_land_42 rfl (lv_at hl 0 rfl) ?_
        exact th_iret S hK hH hS hr hlocks (th_R.i ix2) dX11_land_43
      · skip
        have rlc1 : v18_2.toInt < y1.toInt := iv_nle c1
        have ir3 : IV v18_2 0 39 := iv_uL iv18_2 f18_y1 (iv_nle c1) (by decide)
        have ir3a := ir3.1; have ir3b := ir3.2
        have ir4 : IV y1 1 40 := iv_uR iv18_2 f18_y1 (iv_nle c1) (by decide)
        have ir4a := ir4.1; have ir4b := ir4.2
        refine lv_aload_n hx hb dX11_land_23 rfl (lv_at hl 0 rfl) ?_
        refine th_callVv (n := 0) (As := []) S hK hH hS (th_A.sub (by decide)) (m_X11_goYear l D cT T q hT hq a0 t0) gm_1717 gm_1714 gm_1716 gm_93 gm_124 (by decide +kernel) ⟨rfl, rfl, Nat.le_of_ble_eq_true rfl, Nat.le_of_ble_eq_true rfl⟩ t0 km_0 rfl rfl hl.1 rfl (Nat.le_of_ble_eq_true rfl) dX11_land_24 ⟨Nat.zero_le _, Nat.zero_le _⟩ (fun H locs hH hS hF1 => ?_)
        refine th_iinc S dX11_land_27 hl (k := 2) rfl (by decide) ir3 (by decide) (fun x5 ls ex5 ix5 hl => ?_)
        have hl : lv_has ls 3 [(2, .int x5), (0, .ref a0), (1, .int y1)] := hl
        have ix5 : IV x5 1 40 := ix5
        refine lv_goto (tgt := 18) hx hb dX11_land_30 (by decide) ?_
        exact ih18 H locs ls x5 (iv_w ix5 (by decide)) (iv_w ir4 (by decide)) hH hS (lv_sub hl [1, 2, 0] rfl) (th_up iv18_2 ex5 (by decide) hn18)
  have J0 : ∀ (H : Heap) (locs : List Loc) (ls : Array Slot), th_H D cT T (km q) H → va_S (th_A T [0, 32, 33, 35]) s.heap H locs → lv_has ls 3 [(0, .ref a0), (1, .int y1)] → W p l e (rmk 6 138) s m [.ref a0, .int y1].toArray below meth c H locs 0 0 (MQ below (th_Q D cT T (km q) (th_R T (some (.inl (-2147483648, 2147483647)))) [0, 32, 33, 35]) [.ref a0, .int y1].toArray s 0 0 (th_A T [0, 32, 33, 35])) (F0 m 0 ls []) := by
    intro H locs ls hH hS hl
    refine lv_iload_n hx hb dX11_land_0 rfl (lv_at hl 1 rfl) ?_
    refine lv_iconst (v := 0) hx hb dX11_land_1 (by decide) ?_
    refine lv_bipush (v := 40) hx hb dX11_land_2 (by decide) ?_
    refine th_callSp (n := 3) (As := [.int y1, .int 0, .int 40]) S hK hH hS (th_A.sub (by decide)) (m_X11_isIn l D cT T q hT hq (y1) j1 (0) (iv_top _) (40) (iv_top _)) gm_1618 gm_1616 gm_1617 gm_124 (by decide +kernel) ⟨rfl, rfl, Nat.le_of_ble_eq_true rfl, Nat.le_of_ble_eq_true rfl⟩ rfl hl.1 rfl (Nat.le_of_ble_eq_true rfl) dX11_land_4 ⟨Nat.zero_le _, Nat.zero_le _⟩ (fun x6 H locs ix6 ox6 hH hS hF1 => ?_)
    obtain ⟨ox6_0, ox6_1⟩ := ox6
    have ox6_0 : x6.toInt ≠ 0 → (0 : Int) ≤ y1.toInt ∧ y1.toInt ≤ (40 : Int) := ox6_0
    have ox6_1 : x6.toInt = 0 → y1.toInt < (0 : Int) ∨ (40 : Int) < y1.toInt := ox6_1
    refine lv_if_ne (tgt := 12) hx hb dX11_land_7 (by decide) (fun c7 => ?_) (fun c7 => ?_)
    · skip
      have rlc7 : x6.toInt ≠ (0 : Int) := iv_ne c7
      have ir8 : IV x6 1 1 := iv_cutL ix6 (iv_c (by decide) : IV 0 0 0) c7 (by decide)
      have ir8a := ir8.1; have ir8b := ir8.2
      have ir9 : IV y1 0 40 := ((fun z => by have z1 := iv_ne z; have z2 : x6.toInt ≠ 0 := z1; have z4 := ((iv_c (by decide) : IV 0 0 0)).1; have z5 := ((iv_c (by decide) : IV 40 40 40)).2; exact ⟨by omega, by omega⟩) : ¬ x6 = 0 → IV y1 0 40) c7
      have ir9a := ir9.1; have ir9b := ir9.2
      refine lv_aload_n hx hb dX11_land_12 rfl (lv_at hl 0 rfl) ?_
      refine th_callVv (n := 0) (As := []) S hK hH hS (th_A.sub (by decide)) (m_X11_keepNow l D cT T q hT hq a0 t0) gm_1713 gm_1710 gm_1712 gm_92 gm_124 (by decide +kernel) ⟨rfl, rfl, Nat.le_of_ble_eq_true rfl, Nat.le_of_ble_eq_true rfl⟩ t0 km_0 rfl rfl hl.1 rfl (Nat.le_of_ble_eq_true rfl) dX11_land_13 ⟨Nat.zero_le _, Nat.zero_le _⟩ (fun H locs hH hS hF1 => ?_)
      refine lv_iconst (v := 0) hx hb dX11_land_16 (by decide) ?_
      refine lv_istore_n (lv' := [(2, .int 0), (0, .ref a0), (1, .int y1)]) hx hb dX11_land_17 rfl hl (by decide) rfl (fun ls hl => ?_)
      exact J18 ((40 + 1 - Int32.toInt 0).toNat + 1) H locs ls 0 (iv_w (iv_c (by decide) : IV 0 0 0) (by decide)) ir9 hH hS (lv_sub hl [1, 2, 0] rfl) (Nat.lt_succ_self _)
    · skip
      have rlc7 : x6.toInt = (0 : Int) := congrArg Int32.toInt c7
      have ir10 : IV x6 0 0 := iv_eL c7 (iv_c (by decide) : IV 0 0 0)
      have ir10a := ir10.1; have ir10b := ir10.2
      refine lv_iconst (v := (-1)) hx hb dX11_land_10 (by decide) ?_
      exact th_iret S hK hH hS hr hlocks (th_R.i (iv_top _)) dX11_land_11
  exact J0 s.heap [] ls hH va_S.rf hl

set_option maxRecDepth 100000 in
theorem m_X11_lies (l : Launch) (D : va_G) (cT : Nat → ClassId) (T : Nat → Option Nat) (q : Nat → Int) (hT : tokm T) (hq : qkm q) (a0 : Nat) (t0 : T a0 = some 0) (y1 : Int32) (j1 : IV y1 (-2147483648) 2147483647) : th_Met l D cT T (km q) yX11_lies cX11_lies 2 (some .int) (rmk 1 22) [.ref a0, .int y1] (th_R T (some (.inl (-2147483648, 2147483647)))) [] := by
  refine th_start (by decide) (Nat.le_of_ble_eq_true rfl) ?_
  intro p e s m below meth c ls S hK hH hr hlocks hnm hl
  have hx := S.1
  have hb := S.2.1
  have hl : lv_has ls 2 [(0, .ref a0), (1, .int y1)] := hl
  have J24 : ∀ (H : Heap) (locs : List Loc) (ls : Array Slot) (w24_0 : Int32), IV w24_0 (-2147483648) 2147483647 → th_H D cT T (km q) H → va_S (th_A T []) s.heap H locs → lv_has ls 2 [] → W p l e (rmk 1 22) s m [.ref a0, .int y1].toArray below meth c H locs 0 0 (MQ below (th_Q D cT T (km q) (th_R T (some (.inl (-2147483648, 2147483647)))) []) [.ref a0, .int y1].toArray s 0 0 (th_A T [])) (F0 m 24 ls [.int w24_0]) := by
    intro H locs ls w24_0 iw24_0 hH hS hl
    exact th_iret S hK hH hS hr hlocks (th_R.i iw24_0) dX11_lies_24
  have J24_s0_m1 : ∀ (H : Heap) (locs : List Loc) (ls : Array Slot), th_H D cT T (km q) H → va_S (th_A T []) s.heap H locs → lv_has ls 2 [] → W p l e (rmk 1 22) s m [.ref a0, .int y1].toArray below meth c H locs 0 0 (MQ below (th_Q D cT T (km q) (th_R T (some (.inl (-2147483648, 2147483647)))) []) [.ref a0, .int y1].toArray s 0 0 (th_A T [])) (F0 m 24 ls [.int (-1)]) := by
    intro H locs ls hH hS hl
    exact th_iret S hK hH hS hr hlocks (th_R.i (iv_top _)) dX11_lies_24
  have J0 : ∀ (H : Heap) (locs : List Loc) (ls : Array Slot), th_H D cT T (km q) H → va_S (th_A T []) s.heap H locs → lv_has ls 2 [(0, .ref a0), (1, .int y1)] → W p l e (rmk 1 22) s m [.ref a0, .int y1].toArray below meth c H locs 0 0 (MQ below (th_Q D cT T (km q) (th_R T (some (.inl (-2147483648, 2147483647)))) []) [.ref a0, .int y1].toArray s 0 0 (th_A T [])) (F0 m 0 ls []) := by
    intro H locs ls hH hS hl
    refine lv_iload_n hx hb dX11_lies_0 rfl (lv_at hl 1 rfl) ?_
    refine lv_iconst (v := 0) hx hb dX11_lies_1 (by decide) ?_
    refine lv_aload_n hx hb dX11_lies_2 rfl (lv_at hl 0 rfl) ?_
    refine th_get S hK hH inG11 t0 km_0 rfl 59 (by decide) gm_1289 rfl rfl dX11_lies_3 (fun v1 hv1 fv1 => ?_)
    obtain ⟨x2, rfl, ix2⟩ := th_V.int hv1
    refine lv_iconst (v := 1) hx hb dX11_lies_6 (by decide) ?_
    refine lv_isub hx hb dX11_lies_7 ?_
    refine lv_topi (fun x3 ex3 => ?_)
    have ix3 : IV x3 (-1) 3 := by rw [ex3]; exact iv_sub ix2 (iv_c (by decide) : IV 1 1 1) (by decide)
    have ux3 : x3.toInt = x2.toInt - (1 : Int) := by rw [ex3]; exact iv_subE (by have z1 := (ix2).1; have z2 := (ix2).2; have z3 := ((iv_c (by decide) : IV 1 1 1)).1; have z4 := ((iv_c (by decide) : IV 1 1 1)).2; omega)
    refine th_callSp (n := 3) (As := [.int y1, .int 0, .int x3]) S hK hH hS (th_A.sub (by decide)) (m_X11_isIn l D cT T q hT hq (y1) j1 (0) (iv_top _) (x3) (iv_top _)) gm_1618 gm_1616 gm_1617 gm_124 (by decide +kernel) ⟨rfl, rfl, Nat.le_of_ble_eq_true rfl, Nat.le_of_ble_eq_true rfl⟩ rfl hl.1 rfl (Nat.le_of_ble_eq_true rfl) dX11_lies_8 ⟨Nat.zero_le _, Nat.zero_le _⟩ (fun x4 H locs ix4 ox4 hH hS hF1 => ?_)
    obtain ⟨ox4_0, ox4_1⟩ := ox4
    have ox4_0 : x4.toInt ≠ 0 → (0 : Int) ≤ y1.toInt ∧ y1.toInt ≤ x3.toInt := ox4_0
    have ox4_1 : x4.toInt = 0 → y1.toInt < (0 : Int) ∨ x3.toInt < y1.toInt := ox4_1
    refine lv_if_eq (tgt := 23) hx hb dX11_lies_11 (by decide) (fun c5 => ?_) (fun c5 => ?_)
    · skip
      have rlc5 : x4.toInt = (0 : Int) := congrArg Int32.toInt c5
      have ir6 : IV x4 0 0 := iv_eL c5 (iv_c (by decide) : IV 0 0 0)
      have ir6a := ir6.1; have ir6b := ir6.2
      refine lv_iconst (v := (-1)) hx hb dX11_lies_23 (by decide) ?_
      exact J24_s0_m1 H locs ls  hH hS (lv_sub hl [] rfl)
    · skip
      have rlc5 : x4.toInt ≠ (0 : Int) := iv_ne c5
      have ir7 : IV x4 1 1 := iv_cutL ix4 (iv_c (by decide) : IV 0 0 0) c5 (by decide)
      have ir7a := ir7.1; have ir7b := ir7.2
      have ir8 : IV y1 0 3 := ((fun z => by have z1 := iv_ne z; have z2 : x4.toInt ≠ 0 := z1; have z4 := ((iv_c (by decide) : IV 0 0 0)).1; have z5 := (ix3).2; exact ⟨by omega, by omega⟩) : ¬ x4 = 0 → IV y1 0 3) c5
      have ir8a := ir8.1; have ir8b := ir8.2
      refine lv_aload_n hx hb dX11_lies_14 rfl (lv_at hl 0 rfl) ?_
      refine th_get S hK hH inG11 t0 km_0 rfl 57 (by decide) gm_1287 rfl rfl dX11_lies_15 (fun v9 hv9 fv9 => ?_)
      obtain ⟨rf10, rfl, trf10⟩ := th_V.ref hv9
      refine lv_iload_n hx hb dX11_lies_18 rfl (lv_at hl 1 rfl) ?_
      refine th_iald S hK hH trf10 km_36 (th_in (hi := 3) ir8 (by decide)) dX11_lies_19 (fun v11 hv11 => ?_)
      obtain ⟨x12, rfl, ix12⟩ := th_V.int hv11
      refine lv_goto (tgt := 24) hx hb dX11_lies_20 (by decide) ?_
      exact J24 H locs ls x12 ix12 hH hS (lv_sub hl [] rfl)
  exact J0 s.heap [] ls hH va_S.rf hl

set_option maxRecDepth 100000 in
theorem m_X11_firstWay (l : Launch) (D : va_G) (cT : Nat → ClassId) (T : Nat → Option Nat) (q : Nat → Int) (hT : tokm T) (hq : qkm q) (a0 : Nat) (t0 : T a0 = some 0) (y1 : Int32) (j1 : IV y1 0 24) (hp0 : 1 ≤ q 11) : th_MetM l D cT T q yX11_firstWay cX11_firstWay 3 none (rmk 1 20) [.ref a0, .int y1] (fun v q2 => v = none ∧ qkm q2 ∧ fr [40, 41, 42, 43] q q2 ∧ (0 ≤ q2 40 ∧ 0 ≤ q2 41 ∧ 0 ≤ q2 42 ∧ 0 ≤ q2 43 ∧ q2 40 + q2 41 + q2 42 + q2 43 ≤ 24)) [37] := by
  refine th_startM (by decide) (Nat.le_of_ble_eq_true rfl) ?_
  intro p e s m below meth c ls S hK hH hr hlocks hnm hl
  have hx := S.1
  have hb := S.2.1
  have l1y1 := j1.1; have l2y1 := j1.2
  have hl : lv_has ls 3 [(0, .ref a0), (1, .int y1)] := hl
  have J2 : ∀ (n : Nat) (q2 : Nat → Int) (H : Heap) (locs : List Loc) (ls : Array Slot) (v2_2 : Int32), qkm q2 → fr [40, 41, 42, 43] q q2 → IV v2_2 0 4 → ((0 < v2_2.toInt → q2 40 = 0) ∧ (1 < v2_2.toInt → q2 41 = 0) ∧ (2 < v2_2.toInt → q2 42 = 0) ∧ (3 < v2_2.toInt → q2 43 = 0)) → th_H D cT T (km q2) H → va_S (th_A T [37]) s.heap H locs → lv_has ls 3 [(0, .ref a0), (1, .int y1), (2, .int v2_2)] → (4 + 1 - Int32.toInt v2_2).toNat < n → W p l e (rmk 1 20) s m [.ref a0, .int y1].toArray below meth c H locs 0 0 (MQ below (th_QM D cT T (fun v q2 => v = none ∧ qkm q2 ∧ fr [40, 41, 42, 43] q q2 ∧ (0 ≤ q2 40 ∧ 0 ≤ q2 41 ∧ 0 ≤ q2 42 ∧ 0 ≤ q2 43 ∧ q2 40 + q2 41 + q2 42 + q2 43 ≤ 24)) [37]) [.ref a0, .int y1].toArray s 0 0 (th_A T [37])) (F0 m 2 ls []) := by
    intro n
    induction n with
    | zero => intro q2 H locs ls v2_2 hq2 h02 iv2_2 v2_inv0 hH hS hl hn; exact absurd hn (Nat.not_lt_zero _)
    | succ n ih2 =>
      intro q2 H locs ls v2_2 hq2 h02 iv2_2 v2_inv0 hH hS hl hn2
      have w2_11 : q2 11 = q 11 := h02 11 (by decide) (Or.inl (by decide))
      have l1v2_2 := iv2_2.1; have l2v2_2 := iv2_2.2
      refine lv_iload_n hx hb dX11_firstWay_2 rfl (lv_at hl 2 rfl) ?_
      refine lv_iconst (v := 4) hx hb dX11_firstWay_3 (by decide) ?_
      refine lv_icmp_ge (tgt := 20) hx hb dX11_firstWay_4 (by decide) (fun c1 => ?_) (fun c1 => ?_)
      · skip
        have rlc1 : (4 : Int) ≤ v2_2.toInt := iv_le c1
        have ir2 : IV v2_2 4 4 := iv_vR (iv_c (by decide) : IV 4 4 4) iv2_2 (iv_le c1) (by decide)
        have ir2a := ir2.1; have ir2b := ir2.2
        refine lv_aload_n hx hb dX11_firstWay_20 rfl (lv_at hl 0 rfl) ?_
        refine th_get S hK hH inG11 t0 km_0 rfl 58 (by decide) gm_1288 rfl rfl dX11_firstWay_21 (fun v3 hv3 fv3 => ?_)
        obtain ⟨rf4, rfl, trf4⟩ := th_V.ref hv3
        refine lv_aload_n hx hb dX11_firstWay_24 rfl (lv_at hl 0 rfl) ?_
        refine th_callVp (n := 0) (As := []) S hK hH hS (th_A.sub (by decide)) (m_X11_many l D cT T q2 hT hq2 a0 t0) gm_1229 gm_1226 gm_1228 gm_46 gm_124 (by decide +kernel) ⟨rfl, rfl, Nat.le_of_ble_eq_true rfl, Nat.le_of_ble_eq_true rfl⟩ t0 km_0 rfl rfl hl.1 rfl (Nat.le_of_ble_eq_true rfl) dX11_firstWay_25 ⟨Nat.zero_le _, Nat.zero_le _⟩ (fun x5 H locs ix5 ox5 hH hS hF1 => ?_)
        have ox5 : x5.toInt = q2 11 := ox5
        have bx5 := qkm_11 hq2
        have ix5 : IV x5 1 4 := ⟨by omega, by omega⟩
        have l1x5 := ix5.1; have l2x5 := ix5.2
        have f6 := fv3.kept (hF1 _ fv3.lt (th_off t0 (by decide)))
        refine lv_iconst (v := 1) hx hb dX11_firstWay_28 (by decide) ?_
        refine lv_isub hx hb dX11_firstWay_29 ?_
        refine lv_topi (fun x7 ex7 => ?_)
        have ix7 : IV x7 0 3 := by rw [ex7]; exact iv_sub ix5 (iv_c (by decide) : IV 1 1 1) (by decide)
        have ux7 : x7.toInt = x5.toInt - (1 : Int) := by rw [ex7]; exact iv_subE (by have z1 := (ix5).1; have z2 := (ix5).2; have z3 := ((iv_c (by decide) : IV 1 1 1)).1; have z4 := ((iv_c (by decide) : IV 1 1 1)).2; omega)
        refine lv_iload_n hx hb dX11_firstWay_30 rfl (lv_at hl 1 rfl) ?_
        obtain ⟨n8, en8⟩ : ∃ z : Int, z = Int32.toInt y1 := ⟨_, rfl⟩
        have jq9 := th_nat (hi := 3) ix7
        refine mst_37 S hK hH hS ⟨37, by decide, trf4⟩ hT trf4 en8 (th_in (hi := 3) ix7 (by decide)) dX11_firstWay_31 (fun q9 H locs eq9 hH hS hq1 => ?_)
        have hqq9 : qkm q9 := by rw [eq9]; exact qkm_row hq2 (th_lt (th_in (hi := 3) ix7 (by decide)))
        have h0q9 : fr [40, 41, 42, 43] q q9 := by rw [eq9]; exact fr_row h02 (th_lt (th_in (hi := 3) ix7 (by decide))) (by decide)
        have yq9_0 : (x7.toInt = 0 → q9 40 = n8) ∧ (x7.toInt ≠ 0 → q9 40 = q2 40) := row_at eq9 jq9 0
        have yq9_1 : (x7.toInt = 1 → q9 41 = n8) ∧ (x7.toInt ≠ 1 → q9 41 = q2 41) := row_at eq9 jq9 1
        have yq9_2 : (x7.toInt = 2 → q9 42 = n8) ∧ (x7.toInt ≠ 2 → q9 42 = q2 42) := row_at eq9 jq9 2
        have yq9_3 : (x7.toInt = 3 → q9 43 = n8) ∧ (x7.toInt ≠ 3 → q9 43 = q2 43) := row_at eq9 jq9 3
        have wq9_11 : q9 11 = q2 11 := by rw [eq9]; exact if_neg (by omega)
        have f10 := f6.kept (hq1 _ (th_ne t0 trf4 (by decide)))
        exact th_vretM S hK hH hS hr hlocks ⟨rfl, hqq9, h0q9, (show 0 ≤ q9 40 ∧ 0 ≤ q9 41 ∧ 0 ≤ q9 42 ∧ 0 ≤ q9 43 ∧ q9 40 + q9 41 + q9 42 + q9 43 ≤ 24 by omega)⟩ dX11_firstWay_32
      · skip
        have rlc1 : v2_2.toInt < (4 : Int) := iv_nle c1
        have ir11 : IV v2_2 0 3 := iv_uL iv2_2 (iv_c (by decide) : IV 4 4 4) (iv_nle c1) (by decide)
        have ir11a := ir11.1; have ir11b := ir11.2
        refine lv_aload_n hx hb dX11_firstWay_7 rfl (lv_at hl 0 rfl) ?_
        refine th_get S hK hH inG11 t0 km_0 rfl 58 (by decide) gm_1288 rfl rfl dX11_firstWay_8 (fun v12 hv12 fv12 => ?_)
        obtain ⟨rf13, rfl, trf13⟩ := th_V.ref hv12
        refine lv_iload_n hx hb dX11_firstWay_11 rfl (lv_at hl 2 rfl) ?_
        refine lv_iconst (v := 0) hx hb dX11_firstWay_12 (by decide) ?_
        obtain ⟨n14, en14⟩ : ∃ z : Int, z = Int32.toInt 0 := ⟨_, rfl⟩
        have fn14 : n14 = 0 := by rw [en14]; rfl
        have jq15 := th_nat (hi := 3) ir11
        refine mst_37 S hK hH hS ⟨37, by decide, trf13⟩ hT trf13 en14 (th_in (hi := 3) ir11 (by decide)) dX11_firstWay_13 (fun q15 H locs eq15 hH hS hq1 => ?_)
        have hqq15 : qkm q15 := by rw [eq15]; exact qkm_row hq2 (th_lt (th_in (hi := 3) ir11 (by decide)))
        have h0q15 : fr [40, 41, 42, 43] q q15 := by rw [eq15]; exact fr_row h02 (th_lt (th_in (hi := 3) ir11 (by decide))) (by decide)
        have yq15_0 : (v2_2.toInt = 0 → q15 40 = n14) ∧ (v2_2.toInt ≠ 0 → q15 40 = q2 40) := row_at eq15 jq15 0
        have yq15_1 : (v2_2.toInt = 1 → q15 41 = n14) ∧ (v2_2.toInt ≠ 1 → q15 41 = q2 41) := row_at eq15 jq15 1
        have yq15_2 : (v2_2.toInt = 2 → q15 42 = n14) ∧ (v2_2.toInt ≠ 2 → q15 42 = q2 42) := row_at eq15 jq15 2
        have yq15_3 : (v2_2.toInt = 3 → q15 43 = n14) ∧ (v2_2.toInt ≠ 3 → q15 43 = q2 43) := row_at eq15 jq15 3
        have wq15_11 : q15 11 = q2 11 := by rw [eq15]; exact if_neg (by omega)
        have f16 := fv12.kept (hq1 _ (th_ne t0 trf13 (by decide)))
        refine th_iinc S dX11_firstWay_14 hl (k := 2) rfl (by decide) ir11 (by decide) (fun x17 ls ex17 ix17 hl => ?_)
        have hl : lv_has ls 3 [(2, .int x17), (0, .ref a0), (1, .int y1)] := hl
        have ix17 : IV x17 1 4 := ix17
        refine lv_goto (tgt := 2) hx hb dX11_firstWay_17 (by decide) ?_
        exact ih2 q15 H locs ls x17 hqq15 h0q15 (iv_w ix17 (by decide)) (show (0 < x17.toInt → q15 40 = 0) ∧ (1 < x17.toInt → q15 41 = 0) ∧ (2 < x17.toInt → q15 42 = 0) ∧ (3 < x17.toInt → q15 43 = 0) by omega) hH hS (lv_sub hl [1, 2, 0] rfl) (th_up iv2_2 ex17 (by decide) hn2)
  have J0 : ∀ (H : Heap) (locs : List Loc) (ls : Array Slot), th_H D cT T (km q) H → va_S (th_A T [37]) s.heap H locs → lv_has ls 3 [(0, .ref a0), (1, .int y1)] → W p l e (rmk 1 20) s m [.ref a0, .int y1].toArray below meth c H locs 0 0 (MQ below (th_QM D cT T (fun v q2 => v = none ∧ qkm q2 ∧ fr [40, 41, 42, 43] q q2 ∧ (0 ≤ q2 40 ∧ 0 ≤ q2 41 ∧ 0 ≤ q2 42 ∧ 0 ≤ q2 43 ∧ q2 40 + q2 41 + q2 42 + q2 43 ≤ 24)) [37]) [.ref a0, .int y1].toArray s 0 0 (th_A T [37])) (F0 m 0 ls []) := by
    intro H locs ls hH hS hl
    refine lv_iconst (v := 0) hx hb dX11_firstWay_0 (by decide) ?_
    refine lv_istore_n (lv' := [(2, .int 0), (0, .ref a0), (1, .int y1)]) hx hb dX11_firstWay_1 rfl hl (by decide) rfl (fun ls hl => ?_)
    exact J2 ((4 + 1 - Int32.toInt 0).toNat + 1) q H locs ls 0 hq fr_rf (iv_w (iv_c (by decide) : IV 0 0 0) (by decide)) (show (0 < (0 : Int) → q 40 = 0) ∧ (1 < (0 : Int) → q 41 = 0) ∧ (2 < (0 : Int) → q 42 = 0) ∧ (3 < (0 : Int) → q 43 = 0) by omega) hH hS (lv_sub hl [1, 2, 0] rfl) (Nat.lt_succ_self _)
  exact J0 s.heap [] ls hH va_S.rf hl

set_option maxRecDepth 100000 in
theorem m_X11_nextWay (l : Launch) (D : va_G) (cT : Nat → ClassId) (T : Nat → Option Nat) (q : Nat → Int) (hT : tokm T) (hq : qkm q) (a0 : Nat) (t0 : T a0 = some 0) (hp0 : 1 ≤ q 11) (hp1 : 0 ≤ q 40 ∧ 0 ≤ q 41 ∧ 0 ≤ q 42 ∧ 0 ≤ q 43 ∧ q 40 + q 41 + q 42 + q 43 ≤ 24) : th_MetM l D cT T q yX11_nextWay cX11_nextWay 4 (some .boolean) (rmk 1 20) [.ref a0] (fun v q2 => ∃ r : Int32, v = some (.int r) ∧ IV r 0 1 ∧ qkm q2 ∧ fr [40, 41, 42, 43] q q2 ∧ (0 ≤ q2 40 ∧ 0 ≤ q2 41 ∧ 0 ≤ q2 42 ∧ 0 ≤ q2 43 ∧ q2 40 + q2 41 + q2 42 + q2 43 ≤ 24) ∧ (r.toInt ≠ 0 → 15625 * q 40 + 625 * q 41 + 25 * q 42 + q 43 < 15625 * q2 40 + 625 * q2 41 + 25 * q2 42 + q2 43) ∧ (r.toInt = 0 → 15625 * q2 40 + 625 * q2 41 + 25 * q2 42 + q2 43 = 15625 * q 40 + 625 * q 41 + 25 * q 42 + q 43)) [37] := by
  refine th_startM (by decide) (Nat.le_of_ble_eq_true rfl) ?_
  intro p e s m below meth c ls S hK hH hr hlocks hnm hl
  have hx := S.1
  have hb := S.2.1
  have hl : lv_has ls 4 [(0, .ref a0)] := hl
  have J28 : ∀ (H : Heap) (locs : List Loc) (ls : Array Slot) (v28_1 : Int32) (v28_2 : Int32), IV v28_1 0 3 → IV v28_2 0 3 → (v28_2.toInt ≤ v28_1.toInt) → ((v28_2.toInt = 1 → q 41 ≠ 0) ∧ (v28_2.toInt = 2 → q 42 ≠ 0) ∧ (v28_2.toInt = 3 → q 43 ≠ 0)) → th_H D cT T (km q) H → va_S (th_A T [37]) s.heap H locs → lv_has ls 4 [(0, .ref a0), (1, .int v28_1), (2, .int v28_2)] → W p l e (rmk 1 20) s m [.ref a0].toArray below meth c H locs 0 0 (MQ below (th_QM D cT T (fun v q2 => ∃ r : Int32, v = some (.int r) ∧ IV r 0 1 ∧ qkm q2 ∧ fr [40, 41, 42, 43] q q2 ∧ (0 ≤ q2 40 ∧ 0 ≤ q2 41 ∧ 0 ≤ q2 42 ∧ 0 ≤ q2 43 ∧ q2 40 + q2 41 + q2 42 + q2 43 ≤ 24) ∧ (r.toInt ≠ 0 → 15625 * q 40 + 625 * q 41 + 25 * q 42 + q 43 < 15625 * q2 40 + 625 * q2 41 + 25 * q2 42 + q2 43) ∧ (r.toInt = 0 → 15625 * q2 40 + 625 * q2 41 + 25 * q2 42 + q2 43 = 15625 * q 40 + 625 * q 41 + 25 * q 42 + q 43)) [37]) [.ref a0].toArray s 0 0 (th_A T [37])) (F0 m 28 ls []) := by
    intro H locs ls v28_1 v28_2 iv28_1 iv28_2 v28_inv0 v28_inv1 hH hS hl
    have l1v28_1 := iv28_1.1; have l2v28_1 := iv28_1.2
    have l1v28_2 := iv28_2.1; have l2v28_2 := iv28_2.2
    refine lv_iload_n hx hb dX11_nextWay_28 rfl (lv_at hl 2 rfl) ?_
    refine lv_if_ne (tgt := 34) hx hb dX11_nextWay_29 (by decide) (fun c1 => ?_) (fun c1 => ?_)
    · skip
      have rlc1 : v28_2.toInt ≠ (0 : Int) := iv_ne c1
      have ir2 : IV v28_2 1 3 := iv_cutL iv28_2 (iv_c (by decide) : IV 0 0 0) c1 (by decide)
      have ir2a := ir2.1; have ir2b := ir2.2
      refine lv_aload_n hx hb dX11_nextWay_34 rfl (lv_at hl 0 rfl) ?_
      refine th_get S hK hH inG11 t0 km_0 rfl 58 (by decide) gm_1288 rfl rfl dX11_nextWay_35 (fun v3 hv3 fv3 => ?_)
      obtain ⟨rf4, rfl, trf4⟩ := th_V.ref hv3
      refine lv_iload_n hx hb dX11_nextWay_38 rfl (lv_at hl 2 rfl) ?_
      refine th_iald S hK hH trf4 km_37 (th_in (hi := 3) (iv_w ir2 (by decide)) (by decide)) dX11_nextWay_39 (fun v5 hv5 => ?_)
      obtain ⟨x6, rfl, kx6⟩ := th_eaR hv5 (th_lt (th_in (hi := 3) (iv_w ir2 (by decide)) (by decide)))
      have ix6 := iv_top x6
      have jx6 := th_nat (hi := 3) (iv_w ir2 (by decide))
      have yx6_0 : v28_2.toInt = 0 → x6.toInt = q 40 := row_rd kx6 jx6 0
      have yx6_1 : v28_2.toInt = 1 → x6.toInt = q 41 := row_rd kx6 jx6 1
      have yx6_2 : v28_2.toInt = 2 → x6.toInt = q 42 := row_rd kx6 jx6 2
      have yx6_3 : v28_2.toInt = 3 → x6.toInt = q 43 := row_rd kx6 jx6 3
      have ir7 : IV x6 1 24 := ⟨by omega, by omega⟩
      have ir7a := ir7.1; have ir7b := ir7.2
      refine lv_iconst (v := 1) hx hb dX11_nextWay_40 (by decide) ?_
      refine lv_isub hx hb dX11_nextWay_41 ?_
      refine lv_topi (fun x8 ex8 => ?_)
      have ix8 : IV x8 0 23 := by rw [ex8]; exact iv_sub ir7 (iv_c (by decide) : IV 1 1 1) (by decide)
      have ux8 : x8.toInt = x6.toInt - (1 : Int) := by rw [ex8]; exact iv_subE (by have z1 := (ir7).1; have z2 := (ir7).2; have z3 := ((iv_c (by decide) : IV 1 1 1)).1; have z4 := ((iv_c (by decide) : IV 1 1 1)).2; omega)
      refine lv_istore_n (lv' := [(3, .int x8), (0, .ref a0), (1, .int v28_1), (2, .int v28_2)]) hx hb dX11_nextWay_42 rfl hl (by decide) rfl (fun ls hl => ?_)
      refine lv_aload_n hx hb dX11_nextWay_43 rfl (lv_at hl 1 rfl) ?_
      refine th_getK S hK fv3 inG11 rfl (by decide) gm_1288 rfl dX11_nextWay_44 ?_
      refine lv_iload_n hx hb dX11_nextWay_47 rfl (lv_at hl 3 rfl) ?_
      refine lv_iconst (v := 0) hx hb dX11_nextWay_48 (by decide) ?_
      obtain ⟨n10, en10⟩ : ∃ z : Int, z = Int32.toInt 0 := ⟨_, rfl⟩
      have fn10 : n10 = 0 := by rw [en10]; rfl
      have jq11 := th_nat (hi := 3) (iv_w ir2 (by decide))
      refine mst_37 S hK hH hS ⟨37, by decide, trf4⟩ hT trf4 en10 (th_in (hi := 3) (iv_w ir2 (by decide)) (by decide)) dX11_nextWay_49 (fun q11 H locs eq11 hH hS hq1 => ?_)
      have hqq11 : qkm q11 := by rw [eq11]; exact qkm_row hq (th_lt (th_in (hi := 3) (iv_w ir2 (by decide)) (by decide)))
      have h0q11 : fr [40, 41, 42, 43] q q11 := by rw [eq11]; exact fr_row fr_rf (th_lt (th_in (hi := 3) (iv_w ir2 (by decide)) (by decide))) (by decide)
      have yq11_0 : (v28_2.toInt = 0 → q11 40 = n10) ∧ (v28_2.toInt ≠ 0 → q11 40 = q 40) := row_at eq11 jq11 0
      have yq11_1 : (v28_2.toInt = 1 → q11 41 = n10) ∧ (v28_2.toInt ≠ 1 → q11 41 = q 41) := row_at eq11 jq11 1
      have yq11_2 : (v28_2.toInt = 2 → q11 42 = n10) ∧ (v28_2.toInt ≠ 2 → q11 42 = q 42) := row_at eq11 jq11 2
      have yq11_3 : (v28_2.toInt = 3 → q11 43 = n10) ∧ (v28_2.toInt ≠ 3 → q11 43 = q 43) := row_at eq11 jq11 3
      have wq11_11 : q11 11 = q 11 := by rw [eq11]; exact if_neg (by omega)
      have f12 := fv3.kept (hq1 _ (th_ne t0 trf4 (by decide)))
      refine lv_aload_n hx hb dX11_nextWay_50 rfl (lv_at hl 1 rfl) ?_
      refine th_getK S hK f12 inG11 rfl (by decide) gm_1288 rfl dX11_nextWay_51 ?_
      refine lv_iload_n hx hb dX11_nextWay_54 rfl (lv_at hl 3 rfl) ?_
      refine lv_iconst (v := 1) hx hb dX11_nextWay_55 (by decide) ?_
      refine lv_isub hx hb dX11_nextWay_56 ?_
      refine lv_topi (fun x14 ex14 => ?_)
      have ix14 : IV x14 0 2 := by rw [ex14]; exact iv_sub ir2 (iv_c (by decide) : IV 1 1 1) (by decide)
      have ux14 : x14.toInt = v28_2.toInt - (1 : Int) := by rw [ex14]; exact iv_subE (by have z1 := (ir2).1; have z2 := (ir2).2; have z3 := ((iv_c (by decide) : IV 1 1 1)).1; have z4 := ((iv_c (by decide) : IV 1 1 1)).2; omega)
      refine lv_dup2_11 hx hb dX11_nextWay_57 rfl rfl ?_
      refine th_iald S hK hH trf4 km_37 (th_in (hi := 2) ix14 (by decide)) dX11_nextWay_58 (fun v15 hv15 => ?_)
      obtain ⟨x16, rfl, kx16⟩ := th_eaR hv15 (th_lt (th_in (hi := 2) ix14 (by decide)))
      have ix16 := iv_top x16
      have jx16 := th_nat (hi := 2) ix14
      have yx16_0 : x14.toInt = 0 → x16.toInt = q11 40 := row_rd kx16 jx16 0
      have yx16_1 : x14.toInt = 1 → x16.toInt = q11 41 := row_rd kx16 jx16 1
      have yx16_2 : x14.toInt = 2 → x16.toInt = q11 42 := row_rd kx16 jx16 2
      have yx16_3 : x14.toInt = 3 → x16.toInt = q11 43 := row_rd kx16 jx16 3
      have ir17 : IV x16 0 24 := ⟨by omega, by omega⟩
      have ir17a := ir17.1; have ir17b := ir17.2
      refine lv_iconst (v := 1) hx hb dX11_nextWay_59 (by decide) ?_
      refine lv_iadd hx hb dX11_nextWay_60 ?_
      refine lv_topi (fun x18 ex18 => ?_)
      have ix18 : IV x18 1 25 := by rw [ex18]; exact iv_add ir17 (iv_c (by decide) : IV 1 1 1) (by decide)
      have ux18 : x18.toInt = x16.toInt + (1 : Int) := by rw [ex18]; exact iv_addE (by have z1 := (ir17).1; have z2 := (ir17).2; have z3 := ((iv_c (by decide) : IV 1 1 1)).1; have z4 := ((iv_c (by decide) : IV 1 1 1)).2; omega)
      obtain ⟨n19, en19⟩ : ∃ z : Int, z = Int32.toInt x18 := ⟨_, rfl⟩
      have jq20 := th_nat (hi := 2) ix14
      refine mst_37 S hK hH hS ⟨37, by decide, trf4⟩ hT trf4 en19 (th_in (hi := 2) ix14 (by decide)) dX11_nextWay_61 (fun q20 H locs eq20 hH hS hq1 => ?_)
      have hqq20 : qkm q20 := by rw [eq20]; exact qkm_row hqq11 (th_lt (th_in (hi := 2) ix14 (by decide)))
      have h0q20 : fr [40, 41, 42, 43] q q20 := by rw [eq20]; exact fr_row h0q11 (th_lt (th_in (hi := 2) ix14 (by decide))) (by decide)
      have wq20_11 : q20 11 = q11 11 := by rw [eq20]; exact if_neg (by omega)
      have f21 := f12.kept (hq1 _ (th_ne t0 trf4 (by decide)))
      refine lv_aload_n hx hb dX11_nextWay_62 rfl (lv_at hl 1 rfl) ?_
      refine th_getK S hK f21 inG11 rfl (by decide) gm_1288 rfl dX11_nextWay_63 ?_
      refine lv_iload_n hx hb dX11_nextWay_66 rfl (lv_at hl 2 rfl) ?_
      refine lv_iload_n hx hb dX11_nextWay_67 rfl (lv_at hl 0 rfl) ?_
      obtain ⟨n23, en23⟩ : ∃ z : Int, z = Int32.toInt x8 := ⟨_, rfl⟩
      have jq24 := th_nat (hi := 3) iv28_1
      refine mst_37 S hK hH hS ⟨37, by decide, trf4⟩ hT trf4 en23 (th_in (hi := 3) iv28_1 (by decide)) dX11_nextWay_68 (fun q24 H locs eq24 hH hS hq1 => ?_)
      have hqq24 : qkm q24 := by rw [eq24]; exact qkm_row hqq20 (th_lt (th_in (hi := 3) iv28_1 (by decide)))
      have h0q24 : fr [40, 41, 42, 43] q q24 := by rw [eq24]; exact fr_row h0q20 (th_lt (th_in (hi := 3) iv28_1 (by decide))) (by decide)
      have wq24_11 : q24 11 = q20 11 := by rw [eq24]; exact if_neg (by omega)
      have f25 := f21.kept (hq1 _ (th_ne t0 trf4 (by decide)))
      have hN := nw_end eq11 eq20 eq24 (m := v28_2.toInt.toNat) (l := v28_1.toInt.toNat) (by omega) (by omega) (by omega) (by omega) (by omega) (by omega) (by omega) (by omega) (by omega) (by omega) hp1
      refine lv_iconst (v := 1) hx hb dX11_nextWay_69 (by decide) ?_
      exact th_zretM S hK hH hS hr hlocks (iv_w (iv_c (by decide) : IV 1 1 1) (by decide)) ⟨_, rfl, (iv_w (iv_c (by decide) : IV 1 1 1) (by decide)), hqq24, h0q24, (show 0 ≤ q24 40 ∧ 0 ≤ q24 41 ∧ 0 ≤ q24 42 ∧ 0 ≤ q24 43 ∧ q24 40 + q24 41 + q24 42 + q24 43 ≤ 24 by exact hN.1), (show (1 : Int) ≠ 0 → 15625 * q 40 + 625 * q 41 + 25 * q 42 + q 43 < 15625 * q24 40 + 625 * q24 41 + 25 * q24 42 + q24 43 by exact fun _ => hN.2), (show (1 : Int) = 0 → 15625 * q24 40 + 625 * q24 41 + 25 * q24 42 + q24 43 = 15625 * q 40 + 625 * q 41 + 25 * q 42 + q 43 by exact fun z => absurd z (by decide))⟩ dX11_nextWay_70
    · skip
      have rlc1 : v28_2.toInt = (0 : Int) := congrArg Int32.toInt c1
      have ir26 : IV v28_2 0 0 := iv_eL c1 (iv_c (by decide) : IV 0 0 0)
      have ir26a := ir26.1; have ir26b := ir26.2
      refine lv_iconst (v := 0) hx hb dX11_nextWay_32 (by decide) ?_
      exact th_zretM S hK hH hS hr hlocks (iv_w (iv_c (by decide) : IV 0 0 0) (by decide)) ⟨_, rfl, (iv_w (iv_c (by decide) : IV 0 0 0) (by decide)), hq, fr_rf, (show 0 ≤ q 40 ∧ 0 ≤ q 41 ∧ 0 ≤ q 42 ∧ 0 ≤ q 43 ∧ q 40 + q 41 + q 42 + q 43 ≤ 24 by omega), (show (0 : Int) ≠ 0 → 15625 * q 40 + 625 * q 41 + 25 * q 42 + q 43 < 15625 * q 40 + 625 * q 41 + 25 * q 42 + q 43 by omega), (show (0 : Int) = 0 → 15625 * q 40 + 625 * q 41 + 25 * q 42 + q 43 = 15625 * q 40 + 625 * q 41 + 25 * q 42 + q 43 by omega)⟩ dX11_nextWay_33
  have J9 : ∀ (n : Nat) (H : Heap) (locs : List Loc) (ls : Array Slot) (v9_1 : Int32) (v9_2 : Int32), IV v9_1 0 3 → IV v9_2 0 3 → (v9_2.toInt ≤ v9_1.toInt) → th_H D cT T (km q) H → va_S (th_A T [37]) s.heap H locs → lv_has ls 4 [(0, .ref a0), (1, .int v9_1), (2, .int v9_2)] → (Int32.toInt v9_2 + 1 - 0).toNat < n → W p l e (rmk 1 20) s m [.ref a0].toArray below meth c H locs 0 0 (MQ below (th_QM D cT T (fun v q2 => ∃ r : Int32, v = some (.int r) ∧ IV r 0 1 ∧ qkm q2 ∧ fr [40, 41, 42, 43] q q2 ∧ (0 ≤ q2 40 ∧ 0 ≤ q2 41 ∧ 0 ≤ q2 42 ∧ 0 ≤ q2 43 ∧ q2 40 + q2 41 + q2 42 + q2 43 ≤ 24) ∧ (r.toInt ≠ 0 → 15625 * q 40 + 625 * q 41 + 25 * q 42 + q 43 < 15625 * q2 40 + 625 * q2 41 + 25 * q2 42 + q2 43) ∧ (r.toInt = 0 → 15625 * q2 40 + 625 * q2 41 + 25 * q2 42 + q2 43 = 15625 * q 40 + 625 * q 41 + 25 * q 42 + q 43)) [37]) [.ref a0].toArray s 0 0 (th_A T [37])) (F0 m 9 ls []) := by
    intro n
    induction n with
    | zero => intro H locs ls v9_1 v9_2 iv9_1 iv9_2 v9_inv0 hH hS hl hn; exact absurd hn (Nat.not_lt_zero _)
    | succ n ih9 =>
      intro H locs ls v9_1 v9_2 iv9_1 iv9_2 v9_inv0 hH hS hl hn9
      have l1v9_1 := iv9_1.1; have l2v9_1 := iv9_1.2
      have l1v9_2 := iv9_2.1; have l2v9_2 := iv9_2.2
      refine lv_iload_n hx hb dX11_nextWay_9 rfl (lv_at hl 2 rfl) ?_
      refine lv_if_le (tgt := 28) hx hb dX11_nextWay_10 (by decide) (fun c27 => ?_) (fun c27 => ?_)
      · skip
        have rlc27 : v9_2.toInt ≤ (0 : Int) := iv_le c27
        have ir28 : IV v9_2 0 0 := iv_vL iv9_2 (iv_c (by decide) : IV 0 0 0) (iv_le c27) (by decide)
        have ir28a := ir28.1; have ir28b := ir28.2
        exact J28 H locs ls v9_1 v9_2 iv9_1 (iv_w ir28 (by decide)) (show v9_2.toInt ≤ v9_1.toInt by omega) (show (v9_2.toInt = 1 → q 41 ≠ 0) ∧ (v9_2.toInt = 2 → q 42 ≠ 0) ∧ (v9_2.toInt = 3 → q 43 ≠ 0) by omega) hH hS (lv_sub hl [0, 1, 2] rfl)
      · skip
        have rlc27 : (0 : Int) < v9_2.toInt := iv_nle c27
        have ir29 : IV v9_2 1 3 := iv_uR (iv_c (by decide) : IV 0 0 0) iv9_2 (iv_nle c27) (by decide)
        have ir29a := ir29.1; have ir29b := ir29.2
        refine lv_aload_n hx hb dX11_nextWay_13 rfl (lv_at hl 0 rfl) ?_
        refine th_get S hK hH inG11 t0 km_0 rfl 58 (by decide) gm_1288 rfl rfl dX11_nextWay_14 (fun v30 hv30 fv30 => ?_)
        obtain ⟨rf31, rfl, trf31⟩ := th_V.ref hv30
        refine lv_iload_n hx hb dX11_nextWay_17 rfl (lv_at hl 2 rfl) ?_
        refine th_iald S hK hH trf31 km_37 (th_in (hi := 3) (iv_w ir29 (by decide)) (by decide)) dX11_nextWay_18 (fun v32 hv32 => ?_)
        obtain ⟨x33, rfl, kx33⟩ := th_eaR hv32 (th_lt (th_in (hi := 3) (iv_w ir29 (by decide)) (by decide)))
        have ix33 := iv_top x33
        have jx33 := th_nat (hi := 3) (iv_w ir29 (by decide))
        have yx33_0 : v9_2.toInt = 0 → x33.toInt = q 40 := row_rd kx33 jx33 0
        have yx33_1 : v9_2.toInt = 1 → x33.toInt = q 41 := row_rd kx33 jx33 1
        have yx33_2 : v9_2.toInt = 2 → x33.toInt = q 42 := row_rd kx33 jx33 2
        have yx33_3 : v9_2.toInt = 3 → x33.toInt = q 43 := row_rd kx33 jx33 3
        refine lv_if_ne (tgt := 28) hx hb dX11_nextWay_19 (by decide) (fun c34 => ?_) (fun c34 => ?_)
        · skip
          have rlc34 : x33.toInt ≠ (0 : Int) := iv_ne c34
          exact J28 H locs ls v9_1 v9_2 iv9_1 (iv_w ir29 (by decide)) (show v9_2.toInt ≤ v9_1.toInt by omega) (show (v9_2.toInt = 1 → q 41 ≠ 0) ∧ (v9_2.toInt = 2 → q 42 ≠ 0) ∧ (v9_2.toInt = 3 → q 43 ≠ 0) by omega) hH hS (lv_sub hl [0, 1, 2] rfl)
        · skip
          have rlc34 : x33.toInt = (0 : Int) := congrArg Int32.toInt c34
          have ir35 : IV x33 0 0 := iv_eL c34 (iv_c (by decide) : IV 0 0 0)
          have ir35a := ir35.1; have ir35b := ir35.2
          refine th_iinc S dX11_nextWay_22 hl (k := 2) rfl (by decide) ir29 (by decide) (fun x36 ls ex36 ix36 hl => ?_)
          have hl : lv_has ls 4 [(2, .int x36), (0, .ref a0), (1, .int v9_1)] := hl
          have ix36 : IV x36 0 2 := ix36
          refine lv_goto (tgt := 9) hx hb dX11_nextWay_25 (by decide) ?_
          exact ih9 H locs ls v9_1 x36 iv9_1 (iv_w ix36 (by decide)) (show x36.toInt ≤ v9_1.toInt by omega) hH hS (lv_sub hl [1, 2, 0] rfl) (th_down iv9_2 ex36 (by decide) hn9)
  have J0 : ∀ (H : Heap) (locs : List Loc) (ls : Array Slot), th_H D cT T (km q) H → va_S (th_A T [37]) s.heap H locs → lv_has ls 4 [(0, .ref a0)] → W p l e (rmk 1 20) s m [.ref a0].toArray below meth c H locs 0 0 (MQ below (th_QM D cT T (fun v q2 => ∃ r : Int32, v = some (.int r) ∧ IV r 0 1 ∧ qkm q2 ∧ fr [40, 41, 42, 43] q q2 ∧ (0 ≤ q2 40 ∧ 0 ≤ q2 41 ∧ 0 ≤ q2 42 ∧ 0 ≤ q2 43 ∧ q2 40 + q2 41 + q2 42 + q2 43 ≤ 24) ∧ (r.toInt ≠ 0 → 15625 * q 40 + 625 * q 41 + 25 * q 42 + q 43 < 15625 * q2 40 + 625 * q2 41 + 25 * q2 42 + q2 43) ∧ (r.toInt = 0 → 15625 * q2 40 + 625 * q2 41 + 25 * q2 42 + q2 43 = 15625 * q 40 + 625 * q 41 + 25 * q 42 + q 43)) [37]) [.ref a0].toArray s 0 0 (th_A T [37])) (F0 m 0 ls []) := by
    intro H locs ls hH hS hl
    refine lv_aload_n hx hb dX11_nextWay_0 rfl (lv_at hl 0 rfl) ?_
    refine th_callVp (n := 0) (As := []) S hK hH hS (th_A.sub (by decide)) (m_X11_many l D cT T q hT hq a0 t0) gm_1229 gm_1226 gm_1228 gm_46 gm_124 (by decide +kernel) ⟨rfl, rfl, Nat.le_of_ble_eq_true rfl, Nat.le_of_ble_eq_true rfl⟩ t0 km_0 rfl rfl hl.1 rfl (Nat.le_of_ble_eq_true rfl) dX11_nextWay_1 ⟨Nat.zero_le _, Nat.zero_le _⟩ (fun x37 H locs ix37 ox37 hH hS hF1 => ?_)
    have ox37 : x37.toInt = q 11 := ox37
    have bx37 := qkm_11 hq
    have ix37 : IV x37 1 4 := ⟨by omega, by omega⟩
    have l1x37 := ix37.1; have l2x37 := ix37.2
    refine lv_iconst (v := 1) hx hb dX11_nextWay_4 (by decide) ?_
    refine lv_isub hx hb dX11_nextWay_5 ?_
    refine lv_topi (fun x38 ex38 => ?_)
    have ix38 : IV x38 0 3 := by rw [ex38]; exact iv_sub ix37 (iv_c (by decide) : IV 1 1 1) (by decide)
    have ux38 : x38.toInt = x37.toInt - (1 : Int) := by rw [ex38]; exact iv_subE (by have z1 := (ix37).1; have z2 := (ix37).2; have z3 := ((iv_c (by decide) : IV 1 1 1)).1; have z4 := ((iv_c (by decide) : IV 1 1 1)).2; omega)
    refine lv_istore_n (lv' := [(1, .int x38), (0, .ref a0)]) hx hb dX11_nextWay_6 rfl hl (by decide) rfl (fun ls hl => ?_)
    refine lv_iload_n hx hb dX11_nextWay_7 rfl (lv_at hl 0 rfl) ?_
    refine lv_istore_n (lv' := [(2, .int x38), (1, .int x38), (0, .ref a0)]) hx hb dX11_nextWay_8 rfl hl (by decide) rfl (fun ls hl => ?_)
    exact J9 ((Int32.toInt x38 + 1 - 0).toNat + 1) H locs ls x38 x38 ix38 ix38 (show x38.toInt ≤ x38.toInt by omega) hH hS (lv_sub hl [2, 1, 0] rfl) (Nat.lt_succ_self _)
  exact J0 s.heap [] ls hH va_S.rf hl

set_option maxRecDepth 100000 in
theorem m_X11_putAll (l : Launch) (D : va_G) (cT : Nat → ClassId) (T : Nat → Option Nat) (q : Nat → Int) (hT : tokm T) (hq : qkm q) (a0 : Nat) (t0 : T a0 = some 0) (y1 : Int32) (j1 : IV y1 0 2) : th_Met l D cT T (km q) yX11_putAll cX11_putAll 3 none (rmk 1 20) [.ref a0, .int y1] (th_R T none) [33] := by
  refine th_start (by decide) (Nat.le_of_ble_eq_true rfl) ?_
  intro p e s m below meth c ls S hK hH hr hlocks hnm hl
  have hx := S.1
  have hb := S.2.1
  have l1y1 := j1.1; have l2y1 := j1.2
  have hl : lv_has ls 3 [(0, .ref a0), (1, .int y1)] := hl
  have J2 : ∀ (n : Nat) (H : Heap) (locs : List Loc) (ls : Array Slot) (v2_2 : Int32), IV v2_2 0 4 → th_H D cT T (km q) H → va_S (th_A T [33]) s.heap H locs → lv_has ls 3 [(0, .ref a0), (1, .int y1), (2, .int v2_2)] → (4 + 1 - Int32.toInt v2_2).toNat < n → W p l e (rmk 1 20) s m [.ref a0, .int y1].toArray below meth c H locs 0 0 (MQ below (th_Q D cT T (km q) (th_R T none) [33]) [.ref a0, .int y1].toArray s 0 0 (th_A T [33])) (F0 m 2 ls []) := by
    intro n
    induction n with
    | zero => intro H locs ls v2_2 iv2_2 hH hS hl hn; exact absurd hn (Nat.not_lt_zero _)
    | succ n ih2 =>
      intro H locs ls v2_2 iv2_2 hH hS hl hn2
      have l1v2_2 := iv2_2.1; have l2v2_2 := iv2_2.2
      refine lv_iload_n hx hb dX11_putAll_2 rfl (lv_at hl 2 rfl) ?_
      refine lv_aload_n hx hb dX11_putAll_3 rfl (lv_at hl 0 rfl) ?_
      refine th_callVp (n := 0) (As := []) S hK hH hS (th_A.sub (by decide)) (m_X11_many l D cT T q hT hq a0 t0) gm_1229 gm_1226 gm_1228 gm_46 gm_124 (by decide +kernel) ⟨rfl, rfl, Nat.le_of_ble_eq_true rfl, Nat.le_of_ble_eq_true rfl⟩ t0 km_0 rfl rfl hl.1 rfl (Nat.le_of_ble_eq_true rfl) dX11_putAll_4 ⟨Nat.zero_le _, Nat.zero_le _⟩ (fun x1 H locs ix1 ox1 hH hS hF1 => ?_)
      have ox1 : x1.toInt = q 11 := ox1
      refine lv_icmp_ge (tgt := 37) hx hb dX11_putAll_7 (by decide) (fun c2 => ?_) (fun c2 => ?_)
      · skip
        have rlc2 : x1.toInt ≤ v2_2.toInt := iv_le c2
        exact th_vret S hK hH hS hr hlocks rfl dX11_putAll_37
      · skip
        have rlc2 : v2_2.toInt < x1.toInt := iv_nle c2
        have ir3 : IV v2_2 0 3 := iv_uL iv2_2 ix1 (iv_nle c2) (by decide)
        have ir3a := ir3.1; have ir3b := ir3.2
        have ir4 : IV x1 1 4 := iv_uR iv2_2 ix1 (iv_nle c2) (by decide)
        have ir4a := ir4.1; have ir4b := ir4.2
        refine lv_aload_n hx hb dX11_putAll_10 rfl (lv_at hl 0 rfl) ?_
        refine th_get S hK hH inG11 t0 km_0 rfl 52 (by decide) gm_1282 rfl rfl dX11_putAll_11 (fun v5 hv5 fv5 => ?_)
        obtain ⟨rf6, rfl, trf6⟩ := th_V.ref hv5
        refine lv_iconst (v := 3) hx hb dX11_putAll_14 (by decide) ?_
        refine lv_iconst (v := 3) hx hb dX11_putAll_15 (by decide) ?_
        refine lv_iload_n hx hb dX11_putAll_16 rfl (lv_at hl 2 rfl) ?_
        refine lv_imul hx hb dX11_putAll_17 ?_
        refine lv_topi (fun x7 ex7 => ?_)
        have ix7 : IV x7 0 9 := by rw [ex7]; exact iv_mul (iv_c (by decide) : IV 3 3 3) ir3 (by decide) (by decide)
        have ux7 : x7.toInt = (3 : Int) * v2_2.toInt := by rw [ex7]; exact iv_mulE (iv_corner ((iv_c (by decide) : IV 3 3 3)).1 ((iv_c (by decide) : IV 3 3 3)).2 (ir3).1 (ir3).2 (by decide))
        refine lv_iadd hx hb dX11_putAll_18 ?_
        refine lv_topi (fun x8 ex8 => ?_)
        have ix8 : IV x8 3 12 := by rw [ex8]; exact iv_add (iv_c (by decide) : IV 3 3 3) ix7 (by decide)
        have ux8 : x8.toInt = (3 : Int) + x7.toInt := by rw [ex8]; exact iv_addE (by have z1 := ((iv_c (by decide) : IV 3 3 3)).1; have z2 := ((iv_c (by decide) : IV 3 3 3)).2; have z3 := (ix7).1; have z4 := (ix7).2; omega)
        refine lv_iload_n hx hb dX11_putAll_19 rfl (lv_at hl 1 rfl) ?_
        refine lv_iadd hx hb dX11_putAll_20 ?_
        refine lv_topi (fun x9 ex9 => ?_)
        have ix9 : IV x9 3 14 := by rw [ex9]; exact iv_add ix8 j1 (by decide)
        have ux9 : x9.toInt = x8.toInt + y1.toInt := by rw [ex9]; exact iv_addE (by have z1 := (ix8).1; have z2 := (ix8).2; have z3 := (j1).1; have z4 := (j1).2; omega)
        refine lv_dup2_11 hx hb dX11_putAll_21 rfl rfl ?_
        refine th_iald S hK hH trf6 km_33 (th_in (hi := 14) (iv_w ix9 (by decide)) (by decide)) dX11_putAll_22 (fun v10 hv10 => ?_)
        obtain ⟨x11, rfl, ix11⟩ := th_V.int hv10
        refine lv_aload_n hx hb dX11_putAll_23 rfl (lv_at hl 0 rfl) ?_
        refine th_get S hK hH inG11 t0 km_0 rfl 58 (by decide) gm_1288 rfl rfl dX11_putAll_24 (fun v12 hv12 fv12 => ?_)
        obtain ⟨rf13, rfl, trf13⟩ := th_V.ref hv12
        refine lv_iload_n hx hb dX11_putAll_27 rfl (lv_at hl 2 rfl) ?_
        refine th_iald S hK hH trf13 km_37 (th_in (hi := 3) ir3 (by decide)) dX11_putAll_28 (fun v14 hv14 => ?_)
        obtain ⟨x15, rfl, kx15⟩ := th_eaR hv14 (th_lt (th_in (hi := 3) ir3 (by decide)))
        have ix15 := iv_top x15
        have jx15 := th_nat (hi := 3) ir3
        have yx15_0 : v2_2.toInt = 0 → x15.toInt = q 40 := row_rd kx15 jx15 0
        have yx15_1 : v2_2.toInt = 1 → x15.toInt = q 41 := row_rd kx15 jx15 1
        have yx15_2 : v2_2.toInt = 2 → x15.toInt = q 42 := row_rd kx15 jx15 2
        have yx15_3 : v2_2.toInt = 3 → x15.toInt = q 43 := row_rd kx15 jx15 3
        refine lv_iadd hx hb dX11_putAll_29 ?_
        refine lv_topi (fun x16 ex16 => ?_)
        have ix16 := iv_top x16
        refine th_iast S hK hH hS ⟨33, by decide, trf6⟩ trf6 km_33 (th_in (hi := 14) (iv_w ix9 (by decide)) (by decide)) (th_iv ix16) dX11_putAll_30 (fun H locs hH hS hq1 => ?_)
        refine th_iinc S dX11_putAll_31 hl (k := 2) rfl (by decide) ir3 (by decide) (fun x17 ls ex17 ix17 hl => ?_)
        have hl : lv_has ls 3 [(2, .int x17), (0, .ref a0), (1, .int y1)] := hl
        have ix17 : IV x17 1 4 := ix17
        refine lv_goto (tgt := 2) hx hb dX11_putAll_34 (by decide) ?_
        exact ih2 H locs ls x17 (iv_w ix17 (by decide)) hH hS (lv_sub hl [1, 2, 0] rfl) (th_up iv2_2 ex17 (by decide) hn2)
  have J0 : ∀ (H : Heap) (locs : List Loc) (ls : Array Slot), th_H D cT T (km q) H → va_S (th_A T [33]) s.heap H locs → lv_has ls 3 [(0, .ref a0), (1, .int y1)] → W p l e (rmk 1 20) s m [.ref a0, .int y1].toArray below meth c H locs 0 0 (MQ below (th_Q D cT T (km q) (th_R T none) [33]) [.ref a0, .int y1].toArray s 0 0 (th_A T [33])) (F0 m 0 ls []) := by
    intro H locs ls hH hS hl
    refine lv_iconst (v := 0) hx hb dX11_putAll_0 (by decide) ?_
    refine lv_istore_n (lv' := [(2, .int 0), (0, .ref a0), (1, .int y1)]) hx hb dX11_putAll_1 rfl hl (by decide) rfl (fun ls hl => ?_)
    exact J2 ((4 + 1 - Int32.toInt 0).toNat + 1) H locs ls 0 (iv_w (iv_c (by decide) : IV 0 0 0) (by decide)) hH hS (lv_sub hl [1, 2, 0] rfl) (Nat.lt_succ_self _)
  exact J0 s.heap [] ls hH va_S.rf hl

set_option maxRecDepth 100000 in
theorem m_X11_layRow (l : Launch) (D : va_G) (cT : Nat → ClassId) (T : Nat → Option Nat) (q : Nat → Int) (hT : tokm T) (hq : qkm q) (a0 : Nat) (t0 : T a0 = some 0) : th_Met l D cT T (km q) yX11_layRow cX11_layRow 2 none (rmk 1 20) [.ref a0] (th_R T none) [0, 36] := by
  refine th_start (by decide) (Nat.le_of_ble_eq_true rfl) ?_
  intro p e s m below meth c ls S hK hH hr hlocks hnm hl
  have hx := S.1
  have hb := S.2.1
  have hl : lv_has ls 2 [(0, .ref a0)] := hl
  have J2 : ∀ (n : Nat) (H : Heap) (locs : List Loc) (ls : Array Slot) (v2_1 : Int32), IV v2_1 0 4 → th_H D cT T (km q) H → va_S (th_A T [0, 36]) s.heap H locs → lv_has ls 2 [(0, .ref a0), (1, .int v2_1)] → (4 + 1 - Int32.toInt v2_1).toNat < n → W p l e (rmk 1 20) s m [.ref a0].toArray below meth c H locs 0 0 (MQ below (th_Q D cT T (km q) (th_R T none) [0, 36]) [.ref a0].toArray s 0 0 (th_A T [0, 36])) (F0 m 2 ls []) := by
    intro n
    induction n with
    | zero => intro H locs ls v2_1 iv2_1 hH hS hl hn; exact absurd hn (Nat.not_lt_zero _)
    | succ n ih2 =>
      intro H locs ls v2_1 iv2_1 hH hS hl hn2
      have l1v2_1 := iv2_1.1; have l2v2_1 := iv2_1.2
      refine lv_iload_n hx hb dX11_layRow_2 rfl (lv_at hl 1 rfl) ?_
      refine lv_aload_n hx hb dX11_layRow_3 rfl (lv_at hl 0 rfl) ?_
      refine th_callVp (n := 0) (As := []) S hK hH hS (th_A.sub (by decide)) (m_X11_many l D cT T q hT hq a0 t0) gm_1229 gm_1226 gm_1228 gm_46 gm_124 (by decide +kernel) ⟨rfl, rfl, Nat.le_of_ble_eq_true rfl, Nat.le_of_ble_eq_true rfl⟩ t0 km_0 rfl rfl hl.1 rfl (Nat.le_of_ble_eq_true rfl) dX11_layRow_4 ⟨Nat.zero_le _, Nat.zero_le _⟩ (fun x1 H locs ix1 ox1 hH hS hF1 => ?_)
      have ox1 : x1.toInt = q 11 := ox1
      refine lv_icmp_ge (tgt := 28) hx hb dX11_layRow_7 (by decide) (fun c2 => ?_) (fun c2 => ?_)
      · skip
        have rlc2 : x1.toInt ≤ v2_1.toInt := iv_le c2
        refine lv_aload_n hx hb dX11_layRow_28 rfl (lv_at hl 0 rfl) ?_
        refine lv_aload_n hx hb dX11_layRow_29 rfl (lv_at hl 0 rfl) ?_
        refine th_callVp (n := 0) (As := []) S hK hH hS (th_A.sub (by decide)) (m_X11_many l D cT T q hT hq a0 t0) gm_1229 gm_1226 gm_1228 gm_46 gm_124 (by decide +kernel) ⟨rfl, rfl, Nat.le_of_ble_eq_true rfl, Nat.le_of_ble_eq_true rfl⟩ t0 km_0 rfl rfl hl.1 rfl (Nat.le_of_ble_eq_true rfl) dX11_layRow_30 ⟨Nat.zero_le _, Nat.zero_le _⟩ (fun x3 H locs ix3 ox3 hH hS hF1 => ?_)
        have ox3 : x3.toInt = q 11 := ox3
        refine th_put S hK hH hS ⟨0, by decide, t0⟩ inG11 tyX11 tyX11_ok nmX11 t0 km_0 rfl 59 (by decide) gm_1289 rfl rfl rfl rfl (th_iv ix3) (fun vs h => nmR_set h.2.2 (by decide) rfl) (ty := .int) (by decide +kernel) rfl rfl dX11_layRow_33 (fun H locs hH hS hq1 hp1 => ?_)
        exact th_vret S hK hH hS hr hlocks rfl dX11_layRow_36
      · skip
        have rlc2 : v2_1.toInt < x1.toInt := iv_nle c2
        have ir4 : IV v2_1 0 3 := iv_uL iv2_1 ix1 (iv_nle c2) (by decide)
        have ir4a := ir4.1; have ir4b := ir4.2
        have ir5 : IV x1 1 4 := iv_uR iv2_1 ix1 (iv_nle c2) (by decide)
        have ir5a := ir5.1; have ir5b := ir5.2
        refine lv_aload_n hx hb dX11_layRow_10 rfl (lv_at hl 0 rfl) ?_
        refine th_get S hK hH inG11 t0 km_0 rfl 57 (by decide) gm_1287 rfl rfl dX11_layRow_11 (fun v6 hv6 fv6 => ?_)
        obtain ⟨rf7, rfl, trf7⟩ := th_V.ref hv6
        refine lv_iload_n hx hb dX11_layRow_14 rfl (lv_at hl 1 rfl) ?_
        refine lv_aload_n hx hb dX11_layRow_15 rfl (lv_at hl 0 rfl) ?_
        refine th_get S hK hH inG11 t0 km_0 rfl 58 (by decide) gm_1288 rfl rfl dX11_layRow_16 (fun v8 hv8 fv8 => ?_)
        obtain ⟨rf9, rfl, trf9⟩ := th_V.ref hv8
        refine lv_iload_n hx hb dX11_layRow_19 rfl (lv_at hl 1 rfl) ?_
        refine th_iald S hK hH trf9 km_37 (th_in (hi := 3) ir4 (by decide)) dX11_layRow_20 (fun v10 hv10 => ?_)
        obtain ⟨x11, rfl, kx11⟩ := th_eaR hv10 (th_lt (th_in (hi := 3) ir4 (by decide)))
        have ix11 := iv_top x11
        have jx11 := th_nat (hi := 3) ir4
        have yx11_0 : v2_1.toInt = 0 → x11.toInt = q 40 := row_rd kx11 jx11 0
        have yx11_1 : v2_1.toInt = 1 → x11.toInt = q 41 := row_rd kx11 jx11 1
        have yx11_2 : v2_1.toInt = 2 → x11.toInt = q 42 := row_rd kx11 jx11 2
        have yx11_3 : v2_1.toInt = 3 → x11.toInt = q 43 := row_rd kx11 jx11 3
        refine th_iast S hK hH hS ⟨36, by decide, trf7⟩ trf7 km_36 (th_in (hi := 3) ir4 (by decide)) (th_iv ix11) dX11_layRow_21 (fun H locs hH hS hq1 => ?_)
        refine th_iinc S dX11_layRow_22 hl (k := 1) rfl (by decide) ir4 (by decide) (fun x12 ls ex12 ix12 hl => ?_)
        have hl : lv_has ls 2 [(1, .int x12), (0, .ref a0)] := hl
        have ix12 : IV x12 1 4 := ix12
        refine lv_goto (tgt := 2) hx hb dX11_layRow_25 (by decide) ?_
        exact ih2 H locs ls x12 (iv_w ix12 (by decide)) hH hS (lv_sub hl [1, 0] rfl) (th_up iv2_1 ex12 (by decide) hn2)
  have J0 : ∀ (H : Heap) (locs : List Loc) (ls : Array Slot), th_H D cT T (km q) H → va_S (th_A T [0, 36]) s.heap H locs → lv_has ls 2 [(0, .ref a0)] → W p l e (rmk 1 20) s m [.ref a0].toArray below meth c H locs 0 0 (MQ below (th_Q D cT T (km q) (th_R T none) [0, 36]) [.ref a0].toArray s 0 0 (th_A T [0, 36])) (F0 m 0 ls []) := by
    intro H locs ls hH hS hl
    refine lv_iconst (v := 0) hx hb dX11_layRow_0 (by decide) ?_
    refine lv_istore_n (lv' := [(1, .int 0), (0, .ref a0)]) hx hb dX11_layRow_1 rfl hl (by decide) rfl (fun ls hl => ?_)
    exact J2 ((4 + 1 - Int32.toInt 0).toNat + 1) H locs ls 0 (iv_w (iv_c (by decide) : IV 0 0 0) (by decide)) hH hS (lv_sub hl [1, 0] rfl) (Nat.lt_succ_self _)
  exact J0 s.heap [] ls hH va_S.rf hl

set_option maxRecDepth 100000 in
theorem m_X11_ration (l : Launch) (D : va_G) (cT : Nat → ClassId) (T : Nat → Option Nat) (q : Nat → Int) (hT : tokm T) (hq : qkm q) (a0 : Nat) (t0 : T a0 = some 0) (y1 : Int32) (j1 : IV y1 (-2147483648) 2147483647) (y2 : Int32) (j2 : IV y2 (-2147483648) 2147483647) : th_MetM l D cT T q yX11_ration cX11_ration 6 (some .int) (rmk 5 118) [.ref a0, .int y1, .int y2] (fun v q2 => ∃ r : Int32, v = some (.int r) ∧ IV r (-1) 24 ∧ qkm q2 ∧ fr [40, 41, 42, 43] q q2) [0, 32, 33, 35, 36, 37] := by
  refine th_startM (by decide) (Nat.le_of_ble_eq_true rfl) ?_
  intro p e s m below meth c ls S hK hH hr hlocks hnm hl
  have hx := S.1
  have hb := S.2.1
  have hl : lv_has ls 6 [(0, .ref a0), (1, .int y1), (2, .int y2)] := hl
  have J151 : ∀ (q151 : Nat → Int) (H : Heap) (locs : List Loc) (ls : Array Slot), qkm q151 → fr [40, 41, 42, 43] q q151 → th_H D cT T (km q151) H → va_S (th_A T [0, 32, 33, 35, 36, 37]) s.heap H locs → lv_has ls 6 [] → W p l e (rmk 5 118) s m [.ref a0, .int y1, .int y2].toArray below meth c H locs 0 0 (MQ below (th_QM D cT T (fun v q2 => ∃ r : Int32, v = some (.int r) ∧ IV r (-1) 24 ∧ qkm q2 ∧ fr [40, 41, 42, 43] q q2) [0, 32, 33, 35, 36, 37]) [.ref a0, .int y1, .int y2].toArray s 0 0 (th_A T [0, 32, 33, 35, 36, 37])) (F0 m 151 ls []) := by
    intro q151 H locs ls hq151 h0151 hH hS hl
    have w151_11 : q151 11 = q 11 := h0151 11 (by decide) (Or.inl (by decide))
    refine lv_iconst (v := (-1)) hx hb dX11_ration_151 (by decide) ?_
    exact th_iretM S hK hH hS hr hlocks ⟨_, rfl, (iv_w (iv_c (by decide) : IV (-1) (-1) (-1)) (by decide)), hq151, h0151⟩ dX11_ration_152
  have J65 : ∀ (n : Nat) (q65 : Nat → Int) (H : Heap) (locs : List Loc) (ls : Array Slot) (v65_3 : Int32), qkm q65 → fr [40, 41, 42, 43] q q65 → IV v65_3 0 25 → IV y1 0 2 → IV y2 0 1073741823 → (1 ≤ q 11) → th_H D cT T (km q65) H → va_S (th_A T [0, 32, 33, 35, 36, 37]) s.heap H locs → lv_has ls 6 [(0, .ref a0), (1, .int y1), (2, .int y2), (3, .int v65_3)] → (25 + 1 - Int32.toInt v65_3).toNat < n → W p l e (rmk 5 118) s m [.ref a0, .int y1, .int y2].toArray below meth c H locs 0 0 (MQ below (th_QM D cT T (fun v q2 => ∃ r : Int32, v = some (.int r) ∧ IV r (-1) 24 ∧ qkm q2 ∧ fr [40, 41, 42, 43] q q2) [0, 32, 33, 35, 36, 37]) [.ref a0, .int y1, .int y2].toArray s 0 0 (th_A T [0, 32, 33, 35, 36, 37])) (F0 m 65 ls []) := by
    intro n
    induction n with
    | zero => intro q65 H locs ls v65_3 hq65 h065 iv65_3 f65_y1 f65_y2 v65_inv0 hH hS hl hn; exact absurd hn (Nat.not_lt_zero _)
    | succ n ih65 =>
      intro q65 H locs ls v65_3 hq65 h065 iv65_3 f65_y1 f65_y2 v65_inv0 hH hS hl hn65
      have w65_11 : q65 11 = q 11 := h065 11 (by decide) (Or.inl (by decide))
      have J91 : ∀ (n : Nat) (q91 : Nat → Int) (H : Heap) (locs : List Loc) (ls : Array Slot) (v91_4 : Int32), qkm q91 → fr [40, 41, 42, 43] q q91 → IV v91_4 0 1 → IV v65_3 0 24 → IV y1 0 2 → IV y2 0 1073741823 → (0 ≤ q91 40 ∧ 0 ≤ q91 41 ∧ 0 ≤ q91 42 ∧ 0 ≤ q91 43 ∧ q91 40 + q91 41 + q91 42 + q91 43 ≤ 24) → (1 ≤ q 11) → th_H D cT T (km q91) H → va_S (th_A T [0, 32, 33, 35, 36, 37]) s.heap H locs → lv_has ls 6 [(0, .ref a0), (1, .int y1), (2, .int y2), (3, .int v65_3), (4, .int v91_4)] → (400000 - (15625 * q91 40 + 625 * q91 41 + 25 * q91 42 + q91 43) + v91_4.toInt).toNat < n → W p l e (rmk 5 118) s m [.ref a0, .int y1, .int y2].toArray below meth c H locs 0 0 (MQ below (th_QM D cT T (fun v q2 => ∃ r : Int32, v = some (.int r) ∧ IV r (-1) 24 ∧ qkm q2 ∧ fr [40, 41, 42, 43] q q2) [0, 32, 33, 35, 36, 37]) [.ref a0, .int y1, .int y2].toArray s 0 0 (th_A T [0, 32, 33, 35, 36, 37])) (F0 m 91 ls []) := by
        intro n
        induction n with
        | zero => intro q91 H locs ls v91_4 hq91 h091 iv91_4 f91_v65_3 f91_y1 f91_y2 v91_inv0 v91_inv1 hH hS hl hn; exact absurd hn (Nat.not_lt_zero _)
        | succ n ih91 =>
          intro q91 H locs ls v91_4 hq91 h091 iv91_4 f91_v65_3 f91_y1 f91_y2 v91_inv0 v91_inv1 hH hS hl hn91
          have w91_11 : q91 11 = q 11 := h091 11 (by decide) (Or.inl (by decide))
          have J119_s0_0 : ∀ (H : Heap) (locs : List Loc) (ls : Array Slot), IV v65_3 0 24 → IV y1 0 2 → IV y2 0 1073741823 → (0 ≤ q91 40 ∧ 0 ≤ q91 41 ∧ 0 ≤ q91 42 ∧ 0 ≤ q91 43 ∧ q91 40 + q91 41 + q91 42 + q91 43 ≤ 24) → (1 ≤ v91_4.toInt) → (1 ≤ q 11) → th_H D cT T (km q91) H → va_S (th_A T [0, 32, 33, 35, 36, 37]) s.heap H locs → lv_has ls 6 [(0, .ref a0), (1, .int y1), (2, .int y2), (3, .int v65_3)] → W p l e (rmk 5 118) s m [.ref a0, .int y1, .int y2].toArray below meth c H locs 0 0 (MQ below (th_QM D cT T (fun v q2 => ∃ r : Int32, v = some (.int r) ∧ IV r (-1) 24 ∧ qkm q2 ∧ fr [40, 41, 42, 43] q q2) [0, 32, 33, 35, 36, 37]) [.ref a0, .int y1, .int y2].toArray s 0 0 (th_A T [0, 32, 33, 35, 36, 37])) (F0 m 119 ls [.int 0]) := by
            intro H locs ls f119_v65_3 f119_y1 f119_y2 v119_inv0 v119_inv1 v119_inv2 hH hS hl
            refine lv_istore (lv' := [(5, .int 0), (0, .ref a0), (1, .int y1), (2, .int y2), (3, .int v65_3)]) hx hb dX11_ration_119 hl (by decide) rfl (fun ls hl => ?_)
            refine lv_aload_n hx hb dX11_ration_121 rfl (lv_at hl 1 rfl) ?_
            refine th_callVv (n := 0) (As := []) S hK hH hS (th_A.sub (by decide)) (m_X11_bringBack l D cT T q91 hT hq91 a0 t0) gm_1768 gm_1765 gm_1767 gm_99 gm_124 (by decide +kernel) ⟨rfl, rfl, Nat.le_of_ble_eq_true rfl, Nat.le_of_ble_eq_true rfl⟩ t0 km_0 rfl rfl hl.1 rfl (Nat.le_of_ble_eq_true rfl) dX11_ration_122 ⟨Nat.zero_le _, Nat.zero_le _⟩ (fun H locs hH hS hF1 => ?_)
            refine lv_iload hx hb dX11_ration_125 (lv_at hl 0 rfl) ?_
            refine lv_if_eq (tgt := 136) hx hb dX11_ration_127 (by decide) (fun c1 => ?_) (fun c1 => ?_)
            · skip
              have rlc1 : (0 : Int) = (0 : Int) := congrArg Int32.toInt c1
              refine lv_aload_n hx hb dX11_ration_136 rfl (lv_at hl 1 rfl) ?_
              refine th_callVM (n := 0) (As := []) S hK hH hS (th_A.sub (by decide)) (m_X11_nextWay l D cT T q91 hT hq91 a0 t0 (show 1 ≤ q91 11 by omega) (show 0 ≤ q91 40 ∧ 0 ≤ q91 41 ∧ 0 ≤ q91 42 ∧ 0 ≤ q91 43 ∧ q91 40 + q91 41 + q91 42 + q91 43 ≤ 24 by assumption)) gm_1820 gm_1817 gm_1819 gm_105 gm_124 (by decide +kernel) ⟨rfl, rfl, Nat.le_of_ble_eq_true rfl, Nat.le_of_ble_eq_true rfl⟩ t0 km_0 rfl rfl hl.1 rfl (Nat.le_of_ble_eq_true rfl) dX11_ration_137 ⟨Nat.zero_le _, Nat.zero_le _⟩ (fun wq2 q2 H locs hEq2 hH hS hF1 => ?_)
              obtain ⟨x3, rfl, ix3, hqq2, g0q2, pq2_0, pq2_1, pq2_2⟩ := hEq2
              show W p l e (rmk 5 118) s m [.ref a0, .int y1, .int y2].toArray below meth c H locs 0 0 (MQ below (th_QM D cT T (fun v q2 => ∃ r : Int32, v = some (.int r) ∧ IV r (-1) 24 ∧ qkm q2 ∧ fr [40, 41, 42, 43] q q2) [0, 32, 33, 35, 36, 37]) [.ref a0, .int y1, .int y2].toArray s 0 0 (th_A T [0, 32, 33, 35, 36, 37])) (F0 m 140 ls [.int x3])
              have pq2_0 : 0 ≤ q2 40 ∧ 0 ≤ q2 41 ∧ 0 ≤ q2 42 ∧ 0 ≤ q2 43 ∧ q2 40 + q2 41 + q2 42 + q2 43 ≤ 24 := pq2_0
              have pq2_1 : x3.toInt ≠ 0 → 15625 * q91 40 + 625 * q91 41 + 25 * q91 42 + q91 43 < 15625 * q2 40 + 625 * q2 41 + 25 * q2 42 + q2 43 := pq2_1
              have pq2_2 : x3.toInt = 0 → 15625 * q2 40 + 625 * q2 41 + 25 * q2 42 + q2 43 = 15625 * q91 40 + 625 * q91 41 + 25 * q91 42 + q91 43 := pq2_2
              have wq2_11 : q2 11 = q91 11 := g0q2 11 (by decide) (Or.inl (by decide))
              have h0q2 : fr [40, 41, 42, 43] q q2 := fr_tr h091 g0q2 (by decide)
              have l1x3 := ix3.1; have l2x3 := ix3.2
              refine lv_istore (lv' := [(4, .int x3), (5, .int 0), (0, .ref a0), (1, .int y1), (2, .int y2), (3, .int v65_3)]) hx hb dX11_ration_140 hl (by decide) rfl (fun ls hl => ?_)
              refine lv_goto (tgt := 91) hx hb dX11_ration_142 (by decide) ?_
              exact ih91 q2 H locs ls x3 hqq2 h0q2 ix3 f119_v65_3 f119_y1 f119_y2 (show 0 ≤ q2 40 ∧ 0 ≤ q2 41 ∧ 0 ≤ q2 42 ∧ 0 ≤ q2 43 ∧ q2 40 + q2 41 + q2 42 + q2 43 ≤ 24 by omega) (show 1 ≤ q 11 by omega) hH hS (lv_sub hl [2, 3, 4, 5, 0] rfl) (show (400000 - (15625 * q2 40 + 625 * q2 41 + 25 * q2 42 + q2 43) + x3.toInt).toNat < n by omega)
            · skip
              have rlc1 : (0 : Int) ≠ (0 : Int) := iv_ne c1
              exact absurd (iv_eqc (iv_c (by decide) : IV 0 0 0) (iv_c (by decide) : IV 0 0 0)) c1
          have J119_s0_1 : ∀ (H : Heap) (locs : List Loc) (ls : Array Slot), IV v65_3 0 24 → IV y1 0 2 → IV y2 0 1073741823 → (0 ≤ q91 40 ∧ 0 ≤ q91 41 ∧ 0 ≤ q91 42 ∧ 0 ≤ q91 43 ∧ q91 40 + q91 41 + q91 42 + q91 43 ≤ 24) → (1 ≤ v91_4.toInt) → (1 ≤ q 11) → th_H D cT T (km q91) H → va_S (th_A T [0, 32, 33, 35, 36, 37]) s.heap H locs → lv_has ls 6 [(0, .ref a0), (1, .int y1), (2, .int y2), (3, .int v65_3)] → W p l e (rmk 5 118) s m [.ref a0, .int y1, .int y2].toArray below meth c H locs 0 0 (MQ below (th_QM D cT T (fun v q2 => ∃ r : Int32, v = some (.int r) ∧ IV r (-1) 24 ∧ qkm q2 ∧ fr [40, 41, 42, 43] q q2) [0, 32, 33, 35, 36, 37]) [.ref a0, .int y1, .int y2].toArray s 0 0 (th_A T [0, 32, 33, 35, 36, 37])) (F0 m 119 ls [.int 1]) := by
            intro H locs ls f119_v65_3 f119_y1 f119_y2 v119_inv0 v119_inv1 v119_inv2 hH hS hl
            refine lv_istore (lv' := [(5, .int 1), (0, .ref a0), (1, .int y1), (2, .int y2), (3, .int v65_3)]) hx hb dX11_ration_119 hl (by decide) rfl (fun ls hl => ?_)
            refine lv_aload_n hx hb dX11_ration_121 rfl (lv_at hl 1 rfl) ?_
            refine th_callVv (n := 0) (As := []) S hK hH hS (th_A.sub (by decide)) (m_X11_bringBack l D cT T q91 hT hq91 a0 t0) gm_1768 gm_1765 gm_1767 gm_99 gm_124 (by decide +kernel) ⟨rfl, rfl, Nat.le_of_ble_eq_true rfl, Nat.le_of_ble_eq_true rfl⟩ t0 km_0 rfl rfl hl.1 rfl (Nat.le_of_ble_eq_true rfl) dX11_ration_122 ⟨Nat.zero_le _, Nat.zero_le _⟩ (fun H locs hH hS hF1 => ?_)
            refine lv_iload hx hb dX11_ration_125 (lv_at hl 0 rfl) ?_
            refine lv_if_eq (tgt := 136) hx hb dX11_ration_127 (by decide) (fun c4 => ?_) (fun c4 => ?_)
            · skip
              have rlc4 : (1 : Int) = (0 : Int) := congrArg Int32.toInt c4
              exfalso
              have z1 := congrArg Int32.toInt c4
              have z2 := ((iv_c (by decide) : IV 1 1 1)).1
              have z3 := ((iv_c (by decide) : IV 1 1 1)).2
              have z4 := ((iv_c (by decide) : IV 0 0 0)).1
              have z5 := ((iv_c (by decide) : IV 0 0 0)).2
              omega
            · skip
              have rlc4 : (1 : Int) ≠ (0 : Int) := iv_ne c4
              refine lv_aload_n hx hb dX11_ration_130 rfl (lv_at hl 1 rfl) ?_
              refine th_callVv (n := 0) (As := []) S hK hH hS (th_A.sub (by decide)) (m_X11_layRow l D cT T q91 hT hq91 a0 t0) gm_1816 gm_1813 gm_1815 gm_104 gm_124 (by decide +kernel) ⟨rfl, rfl, Nat.le_of_ble_eq_true rfl, Nat.le_of_ble_eq_true rfl⟩ t0 km_0 rfl rfl hl.1 rfl (Nat.le_of_ble_eq_true rfl) dX11_ration_131 ⟨Nat.zero_le _, Nat.zero_le _⟩ (fun H locs hH hS hF1 => ?_)
              refine lv_iload_n hx hb dX11_ration_134 rfl (lv_at hl 4 rfl) ?_
              exact th_iretM S hK hH hS hr hlocks ⟨_, rfl, (iv_w f119_v65_3 (by decide)), hq91, h091⟩ dX11_ration_135
          have l1v91_4 := iv91_4.1; have l2v91_4 := iv91_4.2
          refine lv_iload hx hb dX11_ration_91 (lv_at hl 4 rfl) ?_
          refine lv_if_eq (tgt := 145) hx hb dX11_ration_93 (by decide) (fun c5 => ?_) (fun c5 => ?_)
          · skip
            have rlc5 : v91_4.toInt = (0 : Int) := congrArg Int32.toInt c5
            have ir6 : IV v91_4 0 0 := iv_eL c5 (iv_c (by decide) : IV 0 0 0)
            have ir6a := ir6.1; have ir6b := ir6.2
            refine th_iinc S dX11_ration_145 hl (k := 3) rfl (by decide) f91_v65_3 (by decide) (fun x7 ls ex7 ix7 hl => ?_)
            have hl : lv_has ls 6 [(3, .int x7), (0, .ref a0), (1, .int y1), (2, .int y2), (4, .int v91_4)] := hl
            have ix7 : IV x7 1 25 := ix7
            refine lv_goto (tgt := 65) hx hb dX11_ration_148 (by decide) ?_
            exact ih65 q91 H locs ls x7 hq91 h091 (iv_w ix7 (by decide)) f91_y1 f91_y2 (show 1 ≤ q 11 by omega) hH hS (lv_sub hl [1, 2, 3, 0] rfl) (th_up iv65_3 ex7 (by decide) hn65)
          · skip
            have rlc5 : v91_4.toInt ≠ (0 : Int) := iv_ne c5
            have ir8 : IV v91_4 1 1 := iv_cutL iv91_4 (iv_c (by decide) : IV 0 0 0) c5 (by decide)
            have ir8a := ir8.1; have ir8b := ir8.2
            refine lv_aload_n hx hb dX11_ration_96 rfl (lv_at hl 0 rfl) ?_
            refine lv_iload_n hx hb dX11_ration_97 rfl (lv_at hl 1 rfl) ?_
            refine th_callVv (n := 1) (As := [.int y1]) S hK hH hS (th_A.sub (by decide)) (m_X11_putAll l D cT T q91 hT hq91 a0 t0 (y1) f91_y1) gm_1812 gm_1809 gm_1811 gm_103 gm_124 (by decide +kernel) ⟨rfl, rfl, Nat.le_of_ble_eq_true rfl, Nat.le_of_ble_eq_true rfl⟩ t0 km_0 rfl rfl hl.1 rfl (Nat.le_of_ble_eq_true rfl) dX11_ration_98 ⟨Nat.zero_le _, Nat.zero_le _⟩ (fun H locs hH hS hF1 => ?_)
            refine lv_aload_n hx hb dX11_ration_101 rfl (lv_at hl 0 rfl) ?_
            refine th_callVv (n := 0) (As := []) S hK hH hS (th_A.sub (by decide)) (m_X11_eat l D cT T q91 hT hq91 a0 t0) gm_1721 gm_1718 gm_1720 gm_94 gm_124 (by decide +kernel) ⟨rfl, rfl, Nat.le_of_ble_eq_true rfl, Nat.le_of_ble_eq_true rfl⟩ t0 km_0 rfl rfl hl.1 rfl (Nat.le_of_ble_eq_true rfl) dX11_ration_102 ⟨Nat.zero_le _, Nat.zero_le _⟩ (fun H locs hH hS hF1 => ?_)
            refine lv_aload_n hx hb dX11_ration_105 rfl (lv_at hl 0 rfl) ?_
            refine th_callVi (n := 0) (As := []) S hK hH hS (th_A.sub (by decide)) (m_X11_smaller l D cT T q91 hT hq91 a0 t0) gm_1733 gm_1730 gm_1732 gm_97 gm_124 (by decide +kernel) ⟨rfl, rfl, Nat.le_of_ble_eq_true rfl, Nat.le_of_ble_eq_true rfl⟩ t0 km_0 rfl rfl hl.1 rfl (Nat.le_of_ble_eq_true rfl) dX11_ration_106 ⟨Nat.zero_le _, Nat.zero_le _⟩ (fun x9 H locs ix9 hH hS hF1 => ?_)
            refine lv_iload_n hx hb dX11_ration_109 rfl (lv_at hl 2 rfl) ?_
            refine lv_iand hx hb dX11_ration_110 ?_
            refine lv_topi (fun x10 ex10 => ?_)
            have ix10 : IV x10 0 1073741823 := by rw [ex10]; exact iv_and (h2 := 1073741823) f91_y2 (by decide)
            refine lv_if_ne (tgt := 118) hx hb dX11_ration_111 (by decide) (fun c11 => ?_) (fun c11 => ?_)
            · skip
              have rlc11 : x10.toInt ≠ (0 : Int) := iv_ne c11
              have ir12 : IV x10 1 1073741823 := iv_cutL ix10 (iv_c (by decide) : IV 0 0 0) c11 (by decide)
              have ir12a := ir12.1; have ir12b := ir12.2
              refine lv_iconst (v := 0) hx hb dX11_ration_118 (by decide) ?_
              exact J119_s0_0 H locs ls f91_v65_3 f91_y1 f91_y2 (show 0 ≤ q91 40 ∧ 0 ≤ q91 41 ∧ 0 ≤ q91 42 ∧ 0 ≤ q91 43 ∧ q91 40 + q91 41 + q91 42 + q91 43 ≤ 24 by omega) (show 1 ≤ v91_4.toInt by omega) (show 1 ≤ q 11 by omega) hH hS (lv_sub hl [0, 1, 2, 3] rfl)
            · skip
              have rlc11 : x10.toInt = (0 : Int) := congrArg Int32.toInt c11
              have ir13 : IV x10 0 0 := iv_eL c11 (iv_c (by decide) : IV 0 0 0)
              have ir13a := ir13.1; have ir13b := ir13.2
              refine lv_iconst (v := 1) hx hb dX11_ration_114 (by decide) ?_
              refine lv_goto (tgt := 119) hx hb dX11_ration_115 (by decide) ?_
              exact J119_s0_1 H locs ls f91_v65_3 f91_y1 f91_y2 (show 0 ≤ q91 40 ∧ 0 ≤ q91 41 ∧ 0 ≤ q91 42 ∧ 0 ≤ q91 43 ∧ q91 40 + q91 41 + q91 42 + q91 43 ≤ 24 by omega) (show 1 ≤ v91_4.toInt by omega) (show 1 ≤ q 11 by omega) hH hS (lv_sub hl [0, 1, 2, 3] rfl)
      have l1v65_3 := iv65_3.1; have l2v65_3 := iv65_3.2
      refine lv_iload_n hx hb dX11_ration_65 rfl (lv_at hl 3 rfl) ?_
      refine lv_bipush (v := 24) hx hb dX11_ration_66 (by decide) ?_
      refine lv_icmp_gt (tgt := 151) hx hb dX11_ration_68 (by decide) (fun c14 => ?_) (fun c14 => ?_)
      · skip
        have rlc14 : (24 : Int) < v65_3.toInt := iv_lt c14
        have ir15 : IV v65_3 25 25 := iv_uR (iv_c (by decide) : IV 24 24 24) iv65_3 (iv_lt c14) (by decide)
        have ir15a := ir15.1; have ir15b := ir15.2
        exact J151 q65 H locs ls hq65 h065 hH hS (lv_sub hl [] rfl)
      · skip
        have rlc14 : v65_3.toInt ≤ (24 : Int) := iv_nlt c14
        have ir16 : IV v65_3 0 24 := iv_vL iv65_3 (iv_c (by decide) : IV 24 24 24) (iv_nlt c14) (by decide)
        have ir16a := ir16.1; have ir16b := ir16.2
        refine lv_iload_n hx hb dX11_ration_71 rfl (lv_at hl 3 rfl) ?_
        refine lv_aload_n hx hb dX11_ration_72 rfl (lv_at hl 0 rfl) ?_
        refine th_get S hK hH inG11 t0 km_0 rfl 52 (by decide) gm_1282 rfl rfl dX11_ration_73 (fun v17 hv17 fv17 => ?_)
        obtain ⟨rf18, rfl, trf18⟩ := th_V.ref hv17
        refine lv_iconst (v := 0) hx hb dX11_ration_76 (by decide) ?_
        refine lv_iload_n hx hb dX11_ration_77 rfl (lv_at hl 1 rfl) ?_
        refine lv_iadd hx hb dX11_ration_78 ?_
        refine lv_topi (fun x19 ex19 => ?_)
        have ix19 : IV x19 0 2 := by rw [ex19]; exact iv_add (iv_c (by decide) : IV 0 0 0) f65_y1 (by decide)
        have ux19 : x19.toInt = (0 : Int) + y1.toInt := by rw [ex19]; exact iv_addE (by have z1 := ((iv_c (by decide) : IV 0 0 0)).1; have z2 := ((iv_c (by decide) : IV 0 0 0)).2; have z3 := (f65_y1).1; have z4 := (f65_y1).2; omega)
        refine th_iald S hK hH trf18 km_33 (th_in (hi := 2) ix19 (by decide)) dX11_ration_79 (fun v20 hv20 => ?_)
        obtain ⟨x21, rfl, ix21⟩ := th_V.int hv20
        refine lv_icmp_gt (tgt := 151) hx hb dX11_ration_80 (by decide) (fun c22 => ?_) (fun c22 => ?_)
        · skip
          have rlc22 : x21.toInt < v65_3.toInt := iv_lt c22
          have ir23 : IV x21 (-2147483648) 23 := iv_uL ix21 ir16 (iv_lt c22) (by decide)
          have ir23a := ir23.1; have ir23b := ir23.2
          exact J151 q65 H locs ls hq65 h065 hH hS (lv_sub hl [] rfl)
        · skip
          have rlc22 : v65_3.toInt ≤ x21.toInt := iv_nlt c22
          have ir24 : IV x21 0 2147483647 := iv_vR ir16 ix21 (iv_nlt c22) (by decide)
          have ir24a := ir24.1; have ir24b := ir24.2
          refine lv_aload_n hx hb dX11_ration_83 rfl (lv_at hl 0 rfl) ?_
          refine lv_iload_n hx hb dX11_ration_84 rfl (lv_at hl 3 rfl) ?_
          refine th_callVM (n := 1) (As := [.int v65_3]) S hK hH hS (th_A.sub (by decide)) (m_X11_firstWay l D cT T q65 hT hq65 a0 t0 (v65_3) ir16 (show 1 ≤ q65 11 by omega)) gm_1808 gm_1805 gm_1807 gm_102 gm_124 (by decide +kernel) ⟨rfl, rfl, Nat.le_of_ble_eq_true rfl, Nat.le_of_ble_eq_true rfl⟩ t0 km_0 rfl rfl hl.1 rfl (Nat.le_of_ble_eq_true rfl) dX11_ration_85 ⟨Nat.zero_le _, Nat.zero_le _⟩ (fun wq25 q25 H locs hEq25 hH hS hF1 => ?_)
          obtain ⟨rfl, hqq25, g0q25, pq25_0⟩ := hEq25
          show W p l e (rmk 5 118) s m [.ref a0, .int y1, .int y2].toArray below meth c H locs 0 0 (MQ below (th_QM D cT T (fun v q2 => ∃ r : Int32, v = some (.int r) ∧ IV r (-1) 24 ∧ qkm q2 ∧ fr [40, 41, 42, 43] q q2) [0, 32, 33, 35, 36, 37]) [.ref a0, .int y1, .int y2].toArray s 0 0 (th_A T [0, 32, 33, 35, 36, 37])) (F0 m 88 ls [])
          have pq25_0 : 0 ≤ q25 40 ∧ 0 ≤ q25 41 ∧ 0 ≤ q25 42 ∧ 0 ≤ q25 43 ∧ q25 40 + q25 41 + q25 42 + q25 43 ≤ 24 := pq25_0
          have wq25_11 : q25 11 = q65 11 := g0q25 11 (by decide) (Or.inl (by decide))
          have h0q25 : fr [40, 41, 42, 43] q q25 := fr_tr h065 g0q25 (by decide)
          refine lv_iconst (v := 1) hx hb dX11_ration_88 (by decide) ?_
          refine lv_istore (lv' := [(4, .int 1), (0, .ref a0), (1, .int y1), (2, .int y2), (3, .int v65_3)]) hx hb dX11_ration_89 hl (by decide) rfl (fun ls hl => ?_)
          exact J91 ((400000 - (15625 * q25 40 + 625 * q25 41 + 25 * q25 42 + q25 43) + (1 : Int)).toNat + 1) q25 H locs ls 1 hqq25 h0q25 (iv_w (iv_c (by decide) : IV 1 1 1) (by decide)) ir16 f65_y1 f65_y2 (show 0 ≤ q25 40 ∧ 0 ≤ q25 41 ∧ 0 ≤ q25 42 ∧ 0 ≤ q25 43 ∧ q25 40 + q25 41 + q25 42 + q25 43 ≤ 24 by omega) (show 1 ≤ q 11 by omega) hH hS (lv_sub hl [1, 2, 3, 4, 0] rfl) (Nat.lt_succ_self _)
  have J58_s0_m1 : ∀ (H : Heap) (locs : List Loc) (ls : Array Slot), th_H D cT T (km q) H → va_S (th_A T [0, 32, 33, 35, 36, 37]) s.heap H locs → lv_has ls 6 [] → W p l e (rmk 5 118) s m [.ref a0, .int y1, .int y2].toArray below meth c H locs 0 0 (MQ below (th_QM D cT T (fun v q2 => ∃ r : Int32, v = some (.int r) ∧ IV r (-1) 24 ∧ qkm q2 ∧ fr [40, 41, 42, 43] q q2) [0, 32, 33, 35, 36, 37]) [.ref a0, .int y1, .int y2].toArray s 0 0 (th_A T [0, 32, 33, 35, 36, 37])) (F0 m 58 ls [.int (-1)]) := by
    intro H locs ls hH hS hl
    exact th_iretM S hK hH hS hr hlocks ⟨_, rfl, (iv_w (iv_c (by decide) : IV (-1) (-1) (-1)) (by decide)), hq, fr_rf⟩ dX11_ration_58
  have J58_s0_0 : ∀ (H : Heap) (locs : List Loc) (ls : Array Slot), th_H D cT T (km q) H → va_S (th_A T [0, 32, 33, 35, 36, 37]) s.heap H locs → lv_has ls 6 [] → W p l e (rmk 5 118) s m [.ref a0, .int y1, .int y2].toArray below meth c H locs 0 0 (MQ below (th_QM D cT T (fun v q2 => ∃ r : Int32, v = some (.int r) ∧ IV r (-1) 24 ∧ qkm q2 ∧ fr [40, 41, 42, 43] q q2) [0, 32, 33, 35, 36, 37]) [.ref a0, .int y1, .int y2].toArray s 0 0 (th_A T [0, 32, 33, 35, 36, 37])) (F0 m 58 ls [.int 0]) := by
    intro H locs ls hH hS hl
    exact th_iretM S hK hH hS hr hlocks ⟨_, rfl, (iv_w (iv_c (by decide) : IV 0 0 0) (by decide)), hq, fr_rf⟩ dX11_ration_58
  have J57 : ∀ (H : Heap) (locs : List Loc) (ls : Array Slot), th_H D cT T (km q) H → va_S (th_A T [0, 32, 33, 35, 36, 37]) s.heap H locs → lv_has ls 6 [] → W p l e (rmk 5 118) s m [.ref a0, .int y1, .int y2].toArray below meth c H locs 0 0 (MQ below (th_QM D cT T (fun v q2 => ∃ r : Int32, v = some (.int r) ∧ IV r (-1) 24 ∧ qkm q2 ∧ fr [40, 41, 42, 43] q q2) [0, 32, 33, 35, 36, 37]) [.ref a0, .int y1, .int y2].toArray s 0 0 (th_A T [0, 32, 33, 35, 36, 37])) (F0 m 57 ls []) := by
    intro H locs ls hH hS hl
    refine lv_iconst (v := (-1)) hx hb dX11_ration_57 (by decide) ?_
    exact J58_s0_m1 H locs ls  hH hS (lv_sub hl [] rfl)
  have J41 : ∀ (H : Heap) (locs : List Loc) (ls : Array Slot), th_H D cT T (km q) H → va_S (th_A T [0, 32, 33, 35, 36, 37]) s.heap H locs → lv_has ls 6 [(0, .ref a0), (1, .int y1), (2, .int y2)] → W p l e (rmk 5 118) s m [.ref a0, .int y1, .int y2].toArray below meth c H locs 0 0 (MQ below (th_QM D cT T (fun v q2 => ∃ r : Int32, v = some (.int r) ∧ IV r (-1) 24 ∧ qkm q2 ∧ fr [40, 41, 42, 43] q q2) [0, 32, 33, 35, 36, 37]) [.ref a0, .int y1, .int y2].toArray s 0 0 (th_A T [0, 32, 33, 35, 36, 37])) (F0 m 41 ls []) := by
    intro H locs ls hH hS hl
    refine lv_aload_n hx hb dX11_ration_41 rfl (lv_at hl 0 rfl) ?_
    refine lv_iload_n hx hb dX11_ration_42 rfl (lv_at hl 1 rfl) ?_
    refine th_callVp (n := 1) (As := [.int y1]) S hK hH hS (th_A.sub (by decide)) (m_X11_isFood l D cT T q hT hq a0 t0 (y1) j1) gm_1615 gm_1612 gm_1614 gm_79 gm_124 (by decide +kernel) ⟨rfl, rfl, Nat.le_of_ble_eq_true rfl, Nat.le_of_ble_eq_true rfl⟩ t0 km_0 rfl rfl hl.1 rfl (Nat.le_of_ble_eq_true rfl) dX11_ration_43 ⟨Nat.zero_le _, Nat.zero_le _⟩ (fun x26 H locs ix26 ox26 hH hS hF1 => ?_)
    have ox26 : x26.toInt ≠ 0 → 0 ≤ y1.toInt ∧ y1.toInt < q 16 := ox26
    have l1x26 := ix26.1; have l2x26 := ix26.2
    refine lv_if_eq (tgt := 57) hx hb dX11_ration_46 (by decide) (fun c27 => ?_) (fun c27 => ?_)
    · skip
      have rlc27 : x26.toInt = (0 : Int) := congrArg Int32.toInt c27
      have ir28 : IV x26 0 0 := iv_eL c27 (iv_c (by decide) : IV 0 0 0)
      have ir28a := ir28.1; have ir28b := ir28.2
      exact J57 H locs ls  hH hS (lv_sub hl [] rfl)
    · skip
      have rlc27 : x26.toInt ≠ (0 : Int) := iv_ne c27
      have ir29 : IV x26 1 1 := iv_cutL ix26 (iv_c (by decide) : IV 0 0 0) c27 (by decide)
      have ir29a := ir29.1; have ir29b := ir29.2
      have ir30 : IV y1 0 2 := ((fun z => by have z1 := iv_ne z; have z2 : x26.toInt ≠ 0 := z1; have z60 := qkm_16 hq; exact ⟨by omega, by omega⟩) : ¬ x26 = 0 → IV y1 0 2) c27
      have ir30a := ir30.1; have ir30b := ir30.2
      refine lv_iload_n hx hb dX11_ration_49 rfl (lv_at hl 2 rfl) ?_
      refine lv_if_ne (tgt := 57) hx hb dX11_ration_50 (by decide) (fun c31 => ?_) (fun c31 => ?_)
      · skip
        have rlc31 : y2.toInt ≠ (0 : Int) := iv_ne c31
        exact J57 H locs ls  hH hS (lv_sub hl [] rfl)
      · skip
        have rlc31 : y2.toInt = (0 : Int) := congrArg Int32.toInt c31
        have ir32 : IV y2 0 0 := iv_eL c31 (iv_c (by decide) : IV 0 0 0)
        have ir32a := ir32.1; have ir32b := ir32.2
        refine lv_iconst (v := 0) hx hb dX11_ration_53 (by decide) ?_
        refine lv_goto (tgt := 58) hx hb dX11_ration_54 (by decide) ?_
        exact J58_s0_0 H locs ls  hH hS (lv_sub hl [] rfl)
  have J0 : ∀ (H : Heap) (locs : List Loc) (ls : Array Slot), th_H D cT T (km q) H → va_S (th_A T [0, 32, 33, 35, 36, 37]) s.heap H locs → lv_has ls 6 [(0, .ref a0), (1, .int y1), (2, .int y2)] → W p l e (rmk 5 118) s m [.ref a0, .int y1, .int y2].toArray below meth c H locs 0 0 (MQ below (th_QM D cT T (fun v q2 => ∃ r : Int32, v = some (.int r) ∧ IV r (-1) 24 ∧ qkm q2 ∧ fr [40, 41, 42, 43] q q2) [0, 32, 33, 35, 36, 37]) [.ref a0, .int y1, .int y2].toArray s 0 0 (th_A T [0, 32, 33, 35, 36, 37])) (F0 m 0 ls []) := by
    intro H locs ls hH hS hl
    refine lv_aload_n hx hb dX11_ration_0 rfl (lv_at hl 0 rfl) ?_
    refine lv_iconst (v := 0) hx hb dX11_ration_1 (by decide) ?_
    refine th_put S hK hH hS ⟨0, by decide, t0⟩ inG11 tyX11 tyX11_ok nmX11 t0 km_0 rfl 59 (by decide) gm_1289 rfl rfl rfl rfl (th_iv (iv_w (iv_c (by decide) : IV 0 0 0) (by decide))) (fun vs h => nmR_set h.2.2 (by decide) rfl) (ty := .int) (by decide +kernel) rfl rfl dX11_ration_2 (fun H locs hH hS hq1 hp1 => ?_)
    refine lv_aload_n hx hb dX11_ration_5 rfl (lv_at hl 0 rfl) ?_
    refine lv_iload_n hx hb dX11_ration_6 rfl (lv_at hl 1 rfl) ?_
    refine th_callVp (n := 1) (As := [.int y1]) S hK hH hS (th_A.sub (by decide)) (m_X11_isFood l D cT T q hT hq a0 t0 (y1) j1) gm_1615 gm_1612 gm_1614 gm_79 gm_124 (by decide +kernel) ⟨rfl, rfl, Nat.le_of_ble_eq_true rfl, Nat.le_of_ble_eq_true rfl⟩ t0 km_0 rfl rfl hl.1 rfl (Nat.le_of_ble_eq_true rfl) dX11_ration_7 ⟨Nat.zero_le _, Nat.zero_le _⟩ (fun x33 H locs ix33 ox33 hH hS hF1 => ?_)
    have ox33 : x33.toInt ≠ 0 → 0 ≤ y1.toInt ∧ y1.toInt < q 16 := ox33
    have l1x33 := ix33.1; have l2x33 := ix33.2
    refine lv_if_eq (tgt := 41) hx hb dX11_ration_10 (by decide) (fun c34 => ?_) (fun c34 => ?_)
    · skip
      have rlc34 : x33.toInt = (0 : Int) := congrArg Int32.toInt c34
      have ir35 : IV x33 0 0 := iv_eL c34 (iv_c (by decide) : IV 0 0 0)
      have ir35a := ir35.1; have ir35b := ir35.2
      exact J41 H locs ls  hH hS (lv_sub hl [0, 1, 2] rfl)
    · skip
      have rlc34 : x33.toInt ≠ (0 : Int) := iv_ne c34
      have ir36 : IV x33 1 1 := iv_cutL ix33 (iv_c (by decide) : IV 0 0 0) c34 (by decide)
      have ir36a := ir36.1; have ir36b := ir36.2
      have ir37 : IV y1 0 2 := ((fun z => by have z1 := iv_ne z; have z2 : x33.toInt ≠ 0 := z1; have z60 := qkm_16 hq; exact ⟨by omega, by omega⟩) : ¬ x33 = 0 → IV y1 0 2) c34
      have ir37a := ir37.1; have ir37b := ir37.2
      refine lv_iload_n hx hb dX11_ration_13 rfl (lv_at hl 2 rfl) ?_
      refine lv_iconst (v := 0) hx hb dX11_ration_14 (by decide) ?_
      refine lv_iconst (v := 1) hx hb dX11_ration_15 (by decide) ?_
      refine lv_aload_n hx hb dX11_ration_16 rfl (lv_at hl 0 rfl) ?_
      refine th_get S hK hH inG11 t0 km_0 rfl 13 (by decide) gm_1243 rfl rfl dX11_ration_17 (fun v38 hv38 fv38 => ?_)
      obtain ⟨rf39, rfl, trf39⟩ := th_V.ref hv38
      refine lv_aload_n hx hb dX11_ration_20 rfl (lv_at hl 0 rfl) ?_
      refine th_get S hK hH inG11 t0 km_0 rfl 41 (by decide) gm_1271 rfl rfl dX11_ration_21 (fun v40 hv40 fv40 => ?_)
      obtain ⟨x41, rfl, ix41⟩ := th_V.int hv40
      have kx41a : q 10 ≤ x41.toInt := ix41.1
      have kx41b : x41.toInt ≤ q 10 := ix41.2
      have ix41 : IV x41 0 1 := iv_w ix41 (qkm_10 hq)
      refine th_iald S hK hH trf39 km_5 (th_in (hi := 1) ix41 (by decide)) dX11_ration_24 (fun v42 hv42 => ?_)
      obtain ⟨x43, rfl, ix43⟩ := th_bkA hv42 ix41 (by omega)
      have kx43a : q 18 ≤ x43.toInt := ix43.1
      have kx43b : x43.toInt ≤ q 18 := ix43.2
      have ix43 : IV x43 0 8 := iv_w ix43 (qkm_18 hq)
      refine lv_ishl hx hb dX11_ration_25 ?_
      refine lv_topi (fun x44 ex44 => ?_)
      have ix44 := iv_top x44
      have ix44 : IV x44 1 1073741824 := by rw [ex44]; exact iv_shl1 (iv_w ix43 (by decide))
      refine lv_iconst (v := 1) hx hb dX11_ration_26 (by decide) ?_
      refine lv_isub hx hb dX11_ration_27 ?_
      refine lv_topi (fun x45 ex45 => ?_)
      have ix45 : IV x45 0 1073741823 := by rw [ex45]; exact iv_sub ix44 (iv_c (by decide) : IV 1 1 1) (by decide)
      have ux45 : x45.toInt = x44.toInt - (1 : Int) := by rw [ex45]; exact iv_subE (by have z1 := (ix44).1; have z2 := (ix44).2; have z3 := ((iv_c (by decide) : IV 1 1 1)).1; have z4 := ((iv_c (by decide) : IV 1 1 1)).2; omega)
      refine th_callSp (n := 3) (As := [.int y2, .int 0, .int x45]) S hK hH hS (th_A.sub (by decide)) (m_X11_isIn l D cT T q hT hq (y2) j2 (0) (iv_top _) (x45) (iv_top _)) gm_1618 gm_1616 gm_1617 gm_124 (by decide +kernel) ⟨rfl, rfl, Nat.le_of_ble_eq_true rfl, Nat.le_of_ble_eq_true rfl⟩ rfl hl.1 rfl (Nat.le_of_ble_eq_true rfl) dX11_ration_28 ⟨Nat.zero_le _, Nat.zero_le _⟩ (fun x46 H locs ix46 ox46 hH hS hF1 => ?_)
      obtain ⟨ox46_0, ox46_1⟩ := ox46
      have ox46_0 : x46.toInt ≠ 0 → (0 : Int) ≤ y2.toInt ∧ y2.toInt ≤ x45.toInt := ox46_0
      have ox46_1 : x46.toInt = 0 → y2.toInt < (0 : Int) ∨ x45.toInt < y2.toInt := ox46_1
      have l1x46 := ix46.1; have l2x46 := ix46.2
      refine lv_if_eq (tgt := 41) hx hb dX11_ration_31 (by decide) (fun c47 => ?_) (fun c47 => ?_)
      · skip
        have rlc47 : x46.toInt = (0 : Int) := congrArg Int32.toInt c47
        have ir48 : IV x46 0 0 := iv_eL c47 (iv_c (by decide) : IV 0 0 0)
        have ir48a := ir48.1; have ir48b := ir48.2
        exact J41 H locs ls  hH hS (lv_sub hl [0, 1, 2] rfl)
      · skip
        have rlc47 : x46.toInt ≠ (0 : Int) := iv_ne c47
        have ir49 : IV x46 1 1 := iv_cutL ix46 (iv_c (by decide) : IV 0 0 0) c47 (by decide)
        have ir49a := ir49.1; have ir49b := ir49.2
        have ir50 : IV y2 0 1073741823 := ((fun z => by have z1 := iv_ne z; have z2 : x46.toInt ≠ 0 := z1; have z4 := ((iv_c (by decide) : IV 0 0 0)).1; have z5 := (ix45).2; exact ⟨by omega, by omega⟩) : ¬ x46 = 0 → IV y2 0 1073741823) c47
        have ir50a := ir50.1; have ir50b := ir50.2
        refine lv_aload_n hx hb dX11_ration_34 rfl (lv_at hl 0 rfl) ?_
        refine th_callVp (n := 0) (As := []) S hK hH hS (th_A.sub (by decide)) (m_X11_many l D cT T q hT hq a0 t0) gm_1229 gm_1226 gm_1228 gm_46 gm_124 (by decide +kernel) ⟨rfl, rfl, Nat.le_of_ble_eq_true rfl, Nat.le_of_ble_eq_true rfl⟩ t0 km_0 rfl rfl hl.1 rfl (Nat.le_of_ble_eq_true rfl) dX11_ration_35 ⟨Nat.zero_le _, Nat.zero_le _⟩ (fun x51 H locs ix51 ox51 hH hS hF1 => ?_)
        have ox51 : x51.toInt = q 11 := ox51
        have l1x51 := ix51.1; have l2x51 := ix51.2
        refine lv_if_ne (tgt := 59) hx hb dX11_ration_38 (by decide) (fun c52 => ?_) (fun c52 => ?_)
        · skip
          have rlc52 : x51.toInt ≠ (0 : Int) := iv_ne c52
          have ir53 : IV x51 1 4 := iv_cutL ix51 (iv_c (by decide) : IV 0 0 0) c52 (by decide)
          have ir53a := ir53.1; have ir53b := ir53.2
          refine lv_aload_n hx hb dX11_ration_59 rfl (lv_at hl 0 rfl) ?_
          refine th_callVv (n := 0) (As := []) S hK hH hS (th_A.sub (by decide)) (m_X11_keepNow l D cT T q hT hq a0 t0) gm_1713 gm_1710 gm_1712 gm_92 gm_124 (by decide +kernel) ⟨rfl, rfl, Nat.le_of_ble_eq_true rfl, Nat.le_of_ble_eq_true rfl⟩ t0 km_0 rfl rfl hl.1 rfl (Nat.le_of_ble_eq_true rfl) dX11_ration_60 ⟨Nat.zero_le _, Nat.zero_le _⟩ (fun H locs hH hS hF1 => ?_)
          refine lv_iconst (v := 0) hx hb dX11_ration_63 (by decide) ?_
          refine lv_istore_n (lv' := [(3, .int 0), (0, .ref a0), (1, .int y1), (2, .int y2)]) hx hb dX11_ration_64 rfl hl (by decide) rfl (fun ls hl => ?_)
          exact J65 ((25 + 1 - Int32.toInt 0).toNat + 1) q H locs ls 0 hq fr_rf (iv_w (iv_c (by decide) : IV 0 0 0) (by decide)) ir37 ir50 (show 1 ≤ q 11 by omega) hH hS (lv_sub hl [1, 2, 3, 0] rfl) (Nat.lt_succ_self _)
        · skip
          have rlc52 : x51.toInt = (0 : Int) := congrArg Int32.toInt c52
          have ir54 : IV x51 0 0 := iv_eL c52 (iv_c (by decide) : IV 0 0 0)
          have ir54a := ir54.1; have ir54b := ir54.2
          exact J41 H locs ls  hH hS (lv_sub hl [0, 1, 2] rfl)
  exact J0 s.heap [] ls hH va_S.rf hl

set_option maxRecDepth 100000 in
theorem m_X11_keep (l : Launch) (D : va_G) (cT : Nat → ClassId) (T : Nat → Option Nat) (q : Nat → Int) (hT : tokm T) (hq : qkm q) (a0 : Nat) (t0 : T a0 = some 0) (y1 : Int32) (j1 : IV y1 (-2147483648) 2147483647) (y2 : Int32) (j2 : IV y2 (-2147483648) 2147483647) : th_MetM l D cT T q yX11_keep cX11_keep 6 (some .int) (rmk 5 118) [.ref a0, .int y1, .int y2] (fun v q2 => ∃ r : Int32, v = some (.int r) ∧ IV r (-1) 2147483647 ∧ qkm q2 ∧ fr [40, 41, 42, 43] q q2) [0, 32, 33, 35, 36, 37] := by
  refine th_startM (by decide) (Nat.le_of_ble_eq_true rfl) ?_
  intro p e s m below meth c ls S hK hH hr hlocks hnm hl
  have hx := S.1
  have hb := S.2.1
  have hl : lv_has ls 6 [(0, .ref a0), (1, .int y1), (2, .int y2)] := hl
  have J58 : ∀ (n : Nat) (q58 : Nat → Int) (H : Heap) (locs : List Loc) (ls : Array Slot) (v58_3 : Int32) (v58_4 : Int32), qkm q58 → fr [40, 41, 42, 43] q q58 → IV v58_3 (-1) 2147483647 → IV v58_4 0 1 → IV y1 0 2 → (0 ≤ q58 40 ∧ 0 ≤ q58 41 ∧ 0 ≤ q58 42 ∧ 0 ≤ q58 43 ∧ q58 40 + q58 41 + q58 42 + q58 43 ≤ 24) → (1 ≤ q 11) → th_H D cT T (km q58) H → va_S (th_A T [0, 32, 33, 35, 36, 37]) s.heap H locs → lv_has ls 6 [(0, .ref a0), (1, .int y1), (3, .int v58_3), (4, .int v58_4)] → (400000 - (15625 * q58 40 + 625 * q58 41 + 25 * q58 42 + q58 43) + v58_4.toInt).toNat < n → W p l e (rmk 5 118) s m [.ref a0, .int y1, .int y2].toArray below meth c H locs 0 0 (MQ below (th_QM D cT T (fun v q2 => ∃ r : Int32, v = some (.int r) ∧ IV r (-1) 2147483647 ∧ qkm q2 ∧ fr [40, 41, 42, 43] q q2) [0, 32, 33, 35, 36, 37]) [.ref a0, .int y1, .int y2].toArray s 0 0 (th_A T [0, 32, 33, 35, 36, 37])) (F0 m 58 ls []) := by
    intro n
    induction n with
    | zero => intro q58 H locs ls v58_3 v58_4 hq58 h058 iv58_3 iv58_4 f58_y1 v58_inv0 v58_inv1 hH hS hl hn; exact absurd hn (Nat.not_lt_zero _)
    | succ n ih58 =>
      intro q58 H locs ls v58_3 v58_4 hq58 h058 iv58_3 iv58_4 f58_y1 v58_inv0 v58_inv1 hH hS hl hn58
      have w58_11 : q58 11 = q 11 := h058 11 (by decide) (Or.inl (by decide))
      have J95 : ∀ (H : Heap) (locs : List Loc) (ls : Array Slot) (v95_3 : Int32), IV v95_3 (-1) 2147483647 → IV y1 0 2 → (0 ≤ q58 40 ∧ 0 ≤ q58 41 ∧ 0 ≤ q58 42 ∧ 0 ≤ q58 43 ∧ q58 40 + q58 41 + q58 42 + q58 43 ≤ 24) → (1 ≤ v58_4.toInt) → (1 ≤ q 11) → th_H D cT T (km q58) H → va_S (th_A T [0, 32, 33, 35, 36, 37]) s.heap H locs → lv_has ls 6 [(0, .ref a0), (1, .int y1), (3, .int v95_3)] → W p l e (rmk 5 118) s m [.ref a0, .int y1, .int y2].toArray below meth c H locs 0 0 (MQ below (th_QM D cT T (fun v q2 => ∃ r : Int32, v = some (.int r) ∧ IV r (-1) 2147483647 ∧ qkm q2 ∧ fr [40, 41, 42, 43] q q2) [0, 32, 33, 35, 36, 37]) [.ref a0, .int y1, .int y2].toArray s 0 0 (th_A T [0, 32, 33, 35, 36, 37])) (F0 m 95 ls []) := by
        intro H locs ls v95_3 iv95_3 f95_y1 v95_inv0 v95_inv1 v95_inv2 hH hS hl
        have l1v95_3 := iv95_3.1; have l2v95_3 := iv95_3.2
        refine lv_aload_n hx hb dX11_keep_95 rfl (lv_at hl 0 rfl) ?_
        refine th_callVM (n := 0) (As := []) S hK hH hS (th_A.sub (by decide)) (m_X11_nextWay l D cT T q58 hT hq58 a0 t0 (show 1 ≤ q58 11 by omega) (show 0 ≤ q58 40 ∧ 0 ≤ q58 41 ∧ 0 ≤ q58 42 ∧ 0 ≤ q58 43 ∧ q58 40 + q58 41 + q58 42 + q58 43 ≤ 24 by assumption)) gm_1820 gm_1817 gm_1819 gm_105 gm_124 (by decide +kernel) ⟨rfl, rfl, Nat.le_of_ble_eq_true rfl, Nat.le_of_ble_eq_true rfl⟩ t0 km_0 rfl rfl hl.1 rfl (Nat.le_of_ble_eq_true rfl) dX11_keep_96 ⟨Nat.zero_le _, Nat.zero_le _⟩ (fun wq1 q1 H locs hEq1 hH hS hF1 => ?_)
        obtain ⟨x2, rfl, ix2, hqq1, g0q1, pq1_0, pq1_1, pq1_2⟩ := hEq1
        show W p l e (rmk 5 118) s m [.ref a0, .int y1, .int y2].toArray below meth c H locs 0 0 (MQ below (th_QM D cT T (fun v q2 => ∃ r : Int32, v = some (.int r) ∧ IV r (-1) 2147483647 ∧ qkm q2 ∧ fr [40, 41, 42, 43] q q2) [0, 32, 33, 35, 36, 37]) [.ref a0, .int y1, .int y2].toArray s 0 0 (th_A T [0, 32, 33, 35, 36, 37])) (F0 m 99 ls [.int x2])
        have pq1_0 : 0 ≤ q1 40 ∧ 0 ≤ q1 41 ∧ 0 ≤ q1 42 ∧ 0 ≤ q1 43 ∧ q1 40 + q1 41 + q1 42 + q1 43 ≤ 24 := pq1_0
        have pq1_1 : x2.toInt ≠ 0 → 15625 * q58 40 + 625 * q58 41 + 25 * q58 42 + q58 43 < 15625 * q1 40 + 625 * q1 41 + 25 * q1 42 + q1 43 := pq1_1
        have pq1_2 : x2.toInt = 0 → 15625 * q1 40 + 625 * q1 41 + 25 * q1 42 + q1 43 = 15625 * q58 40 + 625 * q58 41 + 25 * q58 42 + q58 43 := pq1_2
        have wq1_11 : q1 11 = q58 11 := g0q1 11 (by decide) (Or.inl (by decide))
        have h0q1 : fr [40, 41, 42, 43] q q1 := fr_tr h058 g0q1 (by decide)
        have l1x2 := ix2.1; have l2x2 := ix2.2
        refine lv_istore (lv' := [(4, .int x2), (0, .ref a0), (1, .int y1), (3, .int v95_3)]) hx hb dX11_keep_99 hl (by decide) rfl (fun ls hl => ?_)
        refine lv_goto (tgt := 58) hx hb dX11_keep_101 (by decide) ?_
        exact ih58 q1 H locs ls v95_3 x2 hqq1 h0q1 iv95_3 ix2 f95_y1 (show 0 ≤ q1 40 ∧ 0 ≤ q1 41 ∧ 0 ≤ q1 42 ∧ 0 ≤ q1 43 ∧ q1 40 + q1 41 + q1 42 + q1 43 ≤ 24 by omega) (show 1 ≤ q 11 by omega) hH hS (lv_sub hl [1, 2, 3, 0] rfl) (show (400000 - (15625 * q1 40 + 625 * q1 41 + 25 * q1 42 + q1 43) + x2.toInt).toNat < n by omega)
      have l1v58_3 := iv58_3.1; have l2v58_3 := iv58_3.2
      have l1v58_4 := iv58_4.1; have l2v58_4 := iv58_4.2
      refine lv_iload hx hb dX11_keep_58 (lv_at hl 3 rfl) ?_
      refine lv_if_eq (tgt := 104) hx hb dX11_keep_60 (by decide) (fun c3 => ?_) (fun c3 => ?_)
      · skip
        have rlc3 : v58_4.toInt = (0 : Int) := congrArg Int32.toInt c3
        have ir4 : IV v58_4 0 0 := iv_eL c3 (iv_c (by decide) : IV 0 0 0)
        have ir4a := ir4.1; have ir4b := ir4.2
        refine lv_iload_n hx hb dX11_keep_104 rfl (lv_at hl 2 rfl) ?_
        exact th_iretM S hK hH hS hr hlocks ⟨_, rfl, iv58_3, hq58, h058⟩ dX11_keep_105
      · skip
        have rlc3 : v58_4.toInt ≠ (0 : Int) := iv_ne c3
        have ir5 : IV v58_4 1 1 := iv_cutL iv58_4 (iv_c (by decide) : IV 0 0 0) c3 (by decide)
        have ir5a := ir5.1; have ir5b := ir5.2
        refine lv_aload_n hx hb dX11_keep_63 rfl (lv_at hl 0 rfl) ?_
        refine lv_iload_n hx hb dX11_keep_64 rfl (lv_at hl 1 rfl) ?_
        refine th_callVv (n := 1) (As := [.int y1]) S hK hH hS (th_A.sub (by decide)) (m_X11_putAll l D cT T q58 hT hq58 a0 t0 (y1) f58_y1) gm_1812 gm_1809 gm_1811 gm_103 gm_124 (by decide +kernel) ⟨rfl, rfl, Nat.le_of_ble_eq_true rfl, Nat.le_of_ble_eq_true rfl⟩ t0 km_0 rfl rfl hl.1 rfl (Nat.le_of_ble_eq_true rfl) dX11_keep_65 ⟨Nat.zero_le _, Nat.zero_le _⟩ (fun H locs hH hS hF1 => ?_)
        refine lv_aload_n hx hb dX11_keep_68 rfl (lv_at hl 0 rfl) ?_
        refine th_callVv (n := 0) (As := []) S hK hH hS (th_A.sub (by decide)) (m_X11_eat l D cT T q58 hT hq58 a0 t0) gm_1721 gm_1718 gm_1720 gm_94 gm_124 (by decide +kernel) ⟨rfl, rfl, Nat.le_of_ble_eq_true rfl, Nat.le_of_ble_eq_true rfl⟩ t0 km_0 rfl rfl hl.1 rfl (Nat.le_of_ble_eq_true rfl) dX11_keep_69 ⟨Nat.zero_le _, Nat.zero_le _⟩ (fun H locs hH hS hF1 => ?_)
        refine lv_aload_n hx hb dX11_keep_72 rfl (lv_at hl 0 rfl) ?_
        refine th_callVi (n := 0) (As := []) S hK hH hS (th_A.sub (by decide)) (m_X11_landNow l D cT T q58 hT hq58 a0 t0) gm_1796 gm_1793 gm_1795 gm_101 gm_124 (by decide +kernel) ⟨rfl, rfl, Nat.le_of_ble_eq_true rfl, Nat.le_of_ble_eq_true rfl⟩ t0 km_0 rfl rfl hl.1 rfl (Nat.le_of_ble_eq_true rfl) dX11_keep_73 ⟨Nat.zero_le _, Nat.zero_le _⟩ (fun x6 H locs ix6 hH hS hF1 => ?_)
        refine lv_istore (lv' := [(5, .int x6), (0, .ref a0), (1, .int y1), (3, .int v58_3), (4, .int v58_4)]) hx hb dX11_keep_76 hl (by decide) rfl (fun ls hl => ?_)
        refine lv_aload_n hx hb dX11_keep_78 rfl (lv_at hl 1 rfl) ?_
        refine th_callVv (n := 0) (As := []) S hK hH hS (th_A.sub (by decide)) (m_X11_bringBack l D cT T q58 hT hq58 a0 t0) gm_1768 gm_1765 gm_1767 gm_99 gm_124 (by decide +kernel) ⟨rfl, rfl, Nat.le_of_ble_eq_true rfl, Nat.le_of_ble_eq_true rfl⟩ t0 km_0 rfl rfl hl.1 rfl (Nat.le_of_ble_eq_true rfl) dX11_keep_79 ⟨Nat.zero_le _, Nat.zero_le _⟩ (fun H locs hH hS hF1 => ?_)
        refine lv_iload hx hb dX11_keep_82 (lv_at hl 0 rfl) ?_
        refine lv_iload_n hx hb dX11_keep_84 rfl (lv_at hl 3 rfl) ?_
        refine lv_icmp_le (tgt := 95) hx hb dX11_keep_85 (by decide) (fun c7 => ?_) (fun c7 => ?_)
        · skip
          have rlc7 : x6.toInt ≤ v58_3.toInt := iv_le c7
          exact J95 H locs ls v58_3 iv58_3 f58_y1 (show 0 ≤ q58 40 ∧ 0 ≤ q58 41 ∧ 0 ≤ q58 42 ∧ 0 ≤ q58 43 ∧ q58 40 + q58 41 + q58 42 + q58 43 ≤ 24 by omega) (show 1 ≤ v58_4.toInt by omega) (show 1 ≤ q 11 by omega) hH hS (lv_sub hl [1, 2, 3] rfl)
        · skip
          have rlc7 : v58_3.toInt < x6.toInt := iv_nle c7
          have ir8 : IV v58_3 (-1) 2147483646 := iv_uL iv58_3 ix6 (iv_nle c7) (by decide)
          have ir8a := ir8.1; have ir8b := ir8.2
          have ir9 : IV x6 0 2147483647 := iv_uR iv58_3 ix6 (iv_nle c7) (by decide)
          have ir9a := ir9.1; have ir9b := ir9.2
          refine lv_iload hx hb dX11_keep_88 (lv_at hl 0 rfl) ?_
          refine lv_istore_n (lv' := [(3, .int x6), (5, .int x6), (0, .ref a0), (1, .int y1), (4, .int v58_4)]) hx hb dX11_keep_90 rfl hl (by decide) rfl (fun ls hl => ?_)
          refine lv_aload_n hx hb dX11_keep_91 rfl (lv_at hl 2 rfl) ?_
          refine th_callVv (n := 0) (As := []) S hK hH hS (th_A.sub (by decide)) (m_X11_layRow l D cT T q58 hT hq58 a0 t0) gm_1816 gm_1813 gm_1815 gm_104 gm_124 (by decide +kernel) ⟨rfl, rfl, Nat.le_of_ble_eq_true rfl, Nat.le_of_ble_eq_true rfl⟩ t0 km_0 rfl rfl hl.1 rfl (Nat.le_of_ble_eq_true rfl) dX11_keep_92 ⟨Nat.zero_le _, Nat.zero_le _⟩ (fun H locs hH hS hF1 => ?_)
          exact J95 H locs ls x6 (iv_w ir9 (by decide)) f58_y1 (show 0 ≤ q58 40 ∧ 0 ≤ q58 41 ∧ 0 ≤ q58 42 ∧ 0 ≤ q58 43 ∧ q58 40 + q58 41 + q58 42 + q58 43 ≤ 24 by omega) (show 1 ≤ v58_4.toInt by omega) (show 1 ≤ q 11 by omega) hH hS (lv_sub hl [2, 3, 0] rfl)
  have J42 : ∀ (H : Heap) (locs : List Loc) (ls : Array Slot), th_H D cT T (km q) H → va_S (th_A T [0, 32, 33, 35, 36, 37]) s.heap H locs → lv_has ls 6 [] → W p l e (rmk 5 118) s m [.ref a0, .int y1, .int y2].toArray below meth c H locs 0 0 (MQ below (th_QM D cT T (fun v q2 => ∃ r : Int32, v = some (.int r) ∧ IV r (-1) 2147483647 ∧ qkm q2 ∧ fr [40, 41, 42, 43] q q2) [0, 32, 33, 35, 36, 37]) [.ref a0, .int y1, .int y2].toArray s 0 0 (th_A T [0, 32, 33, 35, 36, 37])) (F0 m 42 ls []) := by
    intro H locs ls hH hS hl
    refine lv_iconst (v := (-1)) hx hb dX11_keep_42 (by decide) ?_
    exact th_iretM S hK hH hS hr hlocks ⟨_, rfl, (iv_w (iv_c (by decide) : IV (-1) (-1) (-1)) (by decide)), hq, fr_rf⟩ dX11_keep_43
  have J0 : ∀ (H : Heap) (locs : List Loc) (ls : Array Slot), th_H D cT T (km q) H → va_S (th_A T [0, 32, 33, 35, 36, 37]) s.heap H locs → lv_has ls 6 [(0, .ref a0), (1, .int y1), (2, .int y2)] → W p l e (rmk 5 118) s m [.ref a0, .int y1, .int y2].toArray below meth c H locs 0 0 (MQ below (th_QM D cT T (fun v q2 => ∃ r : Int32, v = some (.int r) ∧ IV r (-1) 2147483647 ∧ qkm q2 ∧ fr [40, 41, 42, 43] q q2) [0, 32, 33, 35, 36, 37]) [.ref a0, .int y1, .int y2].toArray s 0 0 (th_A T [0, 32, 33, 35, 36, 37])) (F0 m 0 ls []) := by
    intro H locs ls hH hS hl
    refine lv_aload_n hx hb dX11_keep_0 rfl (lv_at hl 0 rfl) ?_
    refine lv_iconst (v := 0) hx hb dX11_keep_1 (by decide) ?_
    refine th_put S hK hH hS ⟨0, by decide, t0⟩ inG11 tyX11 tyX11_ok nmX11 t0 km_0 rfl 59 (by decide) gm_1289 rfl rfl rfl rfl (th_iv (iv_w (iv_c (by decide) : IV 0 0 0) (by decide))) (fun vs h => nmR_set h.2.2 (by decide) rfl) (ty := .int) (by decide +kernel) rfl rfl dX11_keep_2 (fun H locs hH hS hq1 hp1 => ?_)
    refine lv_aload_n hx hb dX11_keep_5 rfl (lv_at hl 0 rfl) ?_
    refine lv_iload_n hx hb dX11_keep_6 rfl (lv_at hl 1 rfl) ?_
    refine th_callVp (n := 1) (As := [.int y1]) S hK hH hS (th_A.sub (by decide)) (m_X11_isFood l D cT T q hT hq a0 t0 (y1) j1) gm_1615 gm_1612 gm_1614 gm_79 gm_124 (by decide +kernel) ⟨rfl, rfl, Nat.le_of_ble_eq_true rfl, Nat.le_of_ble_eq_true rfl⟩ t0 km_0 rfl rfl hl.1 rfl (Nat.le_of_ble_eq_true rfl) dX11_keep_7 ⟨Nat.zero_le _, Nat.zero_le _⟩ (fun x10 H locs ix10 ox10 hH hS hF1 => ?_)
    have ox10 : x10.toInt ≠ 0 → 0 ≤ y1.toInt ∧ y1.toInt < q 16 := ox10
    have l1x10 := ix10.1; have l2x10 := ix10.2
    refine lv_if_eq (tgt := 42) hx hb dX11_keep_10 (by decide) (fun c11 => ?_) (fun c11 => ?_)
    · skip
      have rlc11 : x10.toInt = (0 : Int) := congrArg Int32.toInt c11
      have ir12 : IV x10 0 0 := iv_eL c11 (iv_c (by decide) : IV 0 0 0)
      have ir12a := ir12.1; have ir12b := ir12.2
      exact J42 H locs ls  hH hS (lv_sub hl [] rfl)
    · skip
      have rlc11 : x10.toInt ≠ (0 : Int) := iv_ne c11
      have ir13 : IV x10 1 1 := iv_cutL ix10 (iv_c (by decide) : IV 0 0 0) c11 (by decide)
      have ir13a := ir13.1; have ir13b := ir13.2
      have ir14 : IV y1 0 2 := ((fun z => by have z1 := iv_ne z; have z2 : x10.toInt ≠ 0 := z1; have z60 := qkm_16 hq; exact ⟨by omega, by omega⟩) : ¬ x10 = 0 → IV y1 0 2) c11
      have ir14a := ir14.1; have ir14b := ir14.2
      refine lv_iload_n hx hb dX11_keep_13 rfl (lv_at hl 2 rfl) ?_
      refine lv_iconst (v := 0) hx hb dX11_keep_14 (by decide) ?_
      refine lv_bipush (v := 12) hx hb dX11_keep_15 (by decide) ?_
      refine th_callSp (n := 3) (As := [.int y2, .int 0, .int 12]) S hK hH hS (th_A.sub (by decide)) (m_X11_isIn l D cT T q hT hq (y2) j2 (0) (iv_top _) (12) (iv_top _)) gm_1618 gm_1616 gm_1617 gm_124 (by decide +kernel) ⟨rfl, rfl, Nat.le_of_ble_eq_true rfl, Nat.le_of_ble_eq_true rfl⟩ rfl hl.1 rfl (Nat.le_of_ble_eq_true rfl) dX11_keep_17 ⟨Nat.zero_le _, Nat.zero_le _⟩ (fun x15 H locs ix15 ox15 hH hS hF1 => ?_)
      obtain ⟨ox15_0, ox15_1⟩ := ox15
      have ox15_0 : x15.toInt ≠ 0 → (0 : Int) ≤ y2.toInt ∧ y2.toInt ≤ (12 : Int) := ox15_0
      have ox15_1 : x15.toInt = 0 → y2.toInt < (0 : Int) ∨ (12 : Int) < y2.toInt := ox15_1
      have l1x15 := ix15.1; have l2x15 := ix15.2
      refine lv_if_eq (tgt := 42) hx hb dX11_keep_20 (by decide) (fun c16 => ?_) (fun c16 => ?_)
      · skip
        have rlc16 : x15.toInt = (0 : Int) := congrArg Int32.toInt c16
        have ir17 : IV x15 0 0 := iv_eL c16 (iv_c (by decide) : IV 0 0 0)
        have ir17a := ir17.1; have ir17b := ir17.2
        exact J42 H locs ls  hH hS (lv_sub hl [] rfl)
      · skip
        have rlc16 : x15.toInt ≠ (0 : Int) := iv_ne c16
        have ir18 : IV x15 1 1 := iv_cutL ix15 (iv_c (by decide) : IV 0 0 0) c16 (by decide)
        have ir18a := ir18.1; have ir18b := ir18.2
        have ir19 : IV y2 0 12 := ((fun z => by have z1 := iv_ne z; have z2 : x15.toInt ≠ 0 := z1; have z4 := ((iv_c (by decide) : IV 0 0 0)).1; have z5 := ((iv_c (by decide) : IV 12 12 12)).2; exact ⟨by omega, by omega⟩) : ¬ x15 = 0 → IV y2 0 12) c16
        have ir19a := ir19.1; have ir19b := ir19.2
        refine lv_aload_n hx hb dX11_keep_23 rfl (lv_at hl 0 rfl) ?_
        refine th_callVp (n := 0) (As := []) S hK hH hS (th_A.sub (by decide)) (m_X11_many l D cT T q hT hq a0 t0) gm_1229 gm_1226 gm_1228 gm_46 gm_124 (by decide +kernel) ⟨rfl, rfl, Nat.le_of_ble_eq_true rfl, Nat.le_of_ble_eq_true rfl⟩ t0 km_0 rfl rfl hl.1 rfl (Nat.le_of_ble_eq_true rfl) dX11_keep_24 ⟨Nat.zero_le _, Nat.zero_le _⟩ (fun x20 H locs ix20 ox20 hH hS hF1 => ?_)
        have ox20 : x20.toInt = q 11 := ox20
        have l1x20 := ix20.1; have l2x20 := ix20.2
        refine lv_if_eq (tgt := 42) hx hb dX11_keep_27 (by decide) (fun c21 => ?_) (fun c21 => ?_)
        · skip
          have rlc21 : x20.toInt = (0 : Int) := congrArg Int32.toInt c21
          have ir22 : IV x20 0 0 := iv_eL c21 (iv_c (by decide) : IV 0 0 0)
          have ir22a := ir22.1; have ir22b := ir22.2
          exact J42 H locs ls  hH hS (lv_sub hl [] rfl)
        · skip
          have rlc21 : x20.toInt ≠ (0 : Int) := iv_ne c21
          have ir23 : IV x20 1 4 := iv_cutL ix20 (iv_c (by decide) : IV 0 0 0) c21 (by decide)
          have ir23a := ir23.1; have ir23b := ir23.2
          refine lv_aload_n hx hb dX11_keep_30 rfl (lv_at hl 0 rfl) ?_
          refine th_get S hK hH inG11 t0 km_0 rfl 52 (by decide) gm_1282 rfl rfl dX11_keep_31 (fun v24 hv24 fv24 => ?_)
          obtain ⟨rf25, rfl, trf25⟩ := th_V.ref hv24
          refine lv_iconst (v := 0) hx hb dX11_keep_34 (by decide) ?_
          refine lv_iload_n hx hb dX11_keep_35 rfl (lv_at hl 1 rfl) ?_
          refine lv_iadd hx hb dX11_keep_36 ?_
          refine lv_topi (fun x26 ex26 => ?_)
          have ix26 : IV x26 0 2 := by rw [ex26]; exact iv_add (iv_c (by decide) : IV 0 0 0) ir14 (by decide)
          have ux26 : x26.toInt = (0 : Int) + y1.toInt := by rw [ex26]; exact iv_addE (by have z1 := ((iv_c (by decide) : IV 0 0 0)).1; have z2 := ((iv_c (by decide) : IV 0 0 0)).2; have z3 := (ir14).1; have z4 := (ir14).2; omega)
          refine th_iald S hK hH trf25 km_33 (th_in (hi := 2) ix26 (by decide)) dX11_keep_37 (fun v27 hv27 => ?_)
          obtain ⟨x28, rfl, ix28⟩ := th_V.int hv27
          refine lv_iload_n hx hb dX11_keep_38 rfl (lv_at hl 2 rfl) ?_
          refine lv_icmp_ge (tgt := 44) hx hb dX11_keep_39 (by decide) (fun c29 => ?_) (fun c29 => ?_)
          · skip
            have rlc29 : y2.toInt ≤ x28.toInt := iv_le c29
            have ir30 : IV x28 0 2147483647 := iv_vR ir19 ix28 (iv_le c29) (by decide)
            have ir30a := ir30.1; have ir30b := ir30.2
            refine lv_aload_n hx hb dX11_keep_44 rfl (lv_at hl 0 rfl) ?_
            refine th_callVv (n := 0) (As := []) S hK hH hS (th_A.sub (by decide)) (m_X11_keepNow l D cT T q hT hq a0 t0) gm_1713 gm_1710 gm_1712 gm_92 gm_124 (by decide +kernel) ⟨rfl, rfl, Nat.le_of_ble_eq_true rfl, Nat.le_of_ble_eq_true rfl⟩ t0 km_0 rfl rfl hl.1 rfl (Nat.le_of_ble_eq_true rfl) dX11_keep_45 ⟨Nat.zero_le _, Nat.zero_le _⟩ (fun H locs hH hS hF1 => ?_)
            refine lv_iconst (v := (-1)) hx hb dX11_keep_48 (by decide) ?_
            refine lv_istore_n (lv' := [(3, .int (-1)), (0, .ref a0), (1, .int y1), (2, .int y2)]) hx hb dX11_keep_49 rfl hl (by decide) rfl (fun ls hl => ?_)
            refine lv_aload_n hx hb dX11_keep_50 rfl (lv_at hl 1 rfl) ?_
            refine lv_iload_n hx hb dX11_keep_51 rfl (lv_at hl 3 rfl) ?_
            refine th_callVM (n := 1) (As := [.int y2]) S hK hH hS (th_A.sub (by decide)) (m_X11_firstWay l D cT T q hT hq a0 t0 (y2) (iv_w ir19 (by decide)) (show 1 ≤ q 11 by omega)) gm_1808 gm_1805 gm_1807 gm_102 gm_124 (by decide +kernel) ⟨rfl, rfl, Nat.le_of_ble_eq_true rfl, Nat.le_of_ble_eq_true rfl⟩ t0 km_0 rfl rfl hl.1 rfl (Nat.le_of_ble_eq_true rfl) dX11_keep_52 ⟨Nat.zero_le _, Nat.zero_le _⟩ (fun wq31 q31 H locs hEq31 hH hS hF1 => ?_)
            obtain ⟨rfl, hqq31, g0q31, pq31_0⟩ := hEq31
            show W p l e (rmk 5 118) s m [.ref a0, .int y1, .int y2].toArray below meth c H locs 0 0 (MQ below (th_QM D cT T (fun v q2 => ∃ r : Int32, v = some (.int r) ∧ IV r (-1) 2147483647 ∧ qkm q2 ∧ fr [40, 41, 42, 43] q q2) [0, 32, 33, 35, 36, 37]) [.ref a0, .int y1, .int y2].toArray s 0 0 (th_A T [0, 32, 33, 35, 36, 37])) (F0 m 55 ls [])
            have pq31_0 : 0 ≤ q31 40 ∧ 0 ≤ q31 41 ∧ 0 ≤ q31 42 ∧ 0 ≤ q31 43 ∧ q31 40 + q31 41 + q31 42 + q31 43 ≤ 24 := pq31_0
            have wq31_11 : q31 11 = q 11 := g0q31 11 (by decide) (Or.inl (by decide))
            have h0q31 : fr [40, 41, 42, 43] q q31 := fr_tr fr_rf g0q31 (by decide)
            refine lv_iconst (v := 1) hx hb dX11_keep_55 (by decide) ?_
            refine lv_istore (lv' := [(4, .int 1), (3, .int (-1)), (0, .ref a0), (1, .int y1), (2, .int y2)]) hx hb dX11_keep_56 hl (by decide) rfl (fun ls hl => ?_)
            exact J58 ((400000 - (15625 * q31 40 + 625 * q31 41 + 25 * q31 42 + q31 43) + (1 : Int)).toNat + 1) q31 H locs ls (-1) 1 hqq31 h0q31 (iv_w (iv_c (by decide) : IV (-1) (-1) (-1)) (by decide)) (iv_w (iv_c (by decide) : IV 1 1 1) (by decide)) ir14 (show 0 ≤ q31 40 ∧ 0 ≤ q31 41 ∧ 0 ≤ q31 42 ∧ 0 ≤ q31 43 ∧ q31 40 + q31 41 + q31 42 + q31 43 ≤ 24 by omega) (show 1 ≤ q 11 by omega) hH hS (lv_sub hl [2, 3, 1, 0] rfl) (Nat.lt_succ_self _)
          · skip
            have rlc29 : x28.toInt < y2.toInt := iv_nle c29
            have ir32 : IV x28 (-2147483648) 11 := iv_uL ix28 ir19 (iv_nle c29) (by decide)
            have ir32a := ir32.1; have ir32b := ir32.2
            exact J42 H locs ls  hH hS (lv_sub hl [] rfl)
  exact J0 s.heap [] ls hH va_S.rf hl

set_option maxRecDepth 100000 in
theorem m_X11_folds (l : Launch) (D : va_G) (cT : Nat → ClassId) (T : Nat → Option Nat) (q : Nat → Int) (hT : tokm T) (hq : qkm q) (a0 : Nat) (t0 : T a0 = some 0) (y1 : Int32) (j1 : IV y1 (-2147483648) 2147483647) (y2 : Int32) (j2 : IV y2 (-2147483648) 2147483647) : th_Met l D cT T (km q) yX11_folds cX11_folds 6 (some .int) (rmk 6 138) [.ref a0, .int y1, .int y2] (th_R T (some (.inl (-2147483648, 2147483647)))) [0, 32, 33, 35] := by
  refine th_start (by decide) (Nat.le_of_ble_eq_true rfl) ?_
  intro p e s m below meth c ls S hK hH hr hlocks hnm hl
  have hx := S.1
  have hb := S.2.1
  have hl : lv_has ls 6 [(0, .ref a0), (1, .int y1), (2, .int y2)] := hl
  have J151 : ∀ (H : Heap) (locs : List Loc) (ls : Array Slot) (w151_0 : Int32), IV w151_0 (-2147483648) 2147483647 → th_H D cT T (km q) H → va_S (th_A T [0, 32, 33, 35]) s.heap H locs → lv_has ls 6 [] → W p l e (rmk 6 138) s m [.ref a0, .int y1, .int y2].toArray below meth c H locs 0 0 (MQ below (th_Q D cT T (km q) (th_R T (some (.inl (-2147483648, 2147483647)))) [0, 32, 33, 35]) [.ref a0, .int y1, .int y2].toArray s 0 0 (th_A T [0, 32, 33, 35])) (F0 m 151 ls [.int w151_0]) := by
    intro H locs ls w151_0 iw151_0 hH hS hl
    exact th_iret S hK hH hS hr hlocks (th_R.i iw151_0) dX11_folds_151
  have J151_s0_m1 : ∀ (H : Heap) (locs : List Loc) (ls : Array Slot), th_H D cT T (km q) H → va_S (th_A T [0, 32, 33, 35]) s.heap H locs → lv_has ls 6 [] → W p l e (rmk 6 138) s m [.ref a0, .int y1, .int y2].toArray below meth c H locs 0 0 (MQ below (th_Q D cT T (km q) (th_R T (some (.inl (-2147483648, 2147483647)))) [0, 32, 33, 35]) [.ref a0, .int y1, .int y2].toArray s 0 0 (th_A T [0, 32, 33, 35])) (F0 m 151 ls [.int (-1)]) := by
    intro H locs ls hH hS hl
    exact th_iret S hK hH hS hr hlocks (th_R.i (iv_top _)) dX11_folds_151
  have J30 : ∀ (n : Nat) (H : Heap) (locs : List Loc) (ls : Array Slot) (v30_3 : Int32) (v30_4 : Int32), IV v30_3 (-1) 2147483646 → IV v30_4 0 2147483647 → IV y1 1 20 → IV y2 0 1 → th_H D cT T (km q) H → va_S (th_A T [0, 32, 33, 35]) s.heap H locs → lv_has ls 6 [(0, .ref a0), (1, .int y1), (2, .int y2), (3, .int v30_3), (4, .int v30_4)] → (2147483647 + 1 - Int32.toInt v30_4).toNat < n → W p l e (rmk 6 138) s m [.ref a0, .int y1, .int y2].toArray below meth c H locs 0 0 (MQ below (th_Q D cT T (km q) (th_R T (some (.inl (-2147483648, 2147483647)))) [0, 32, 33, 35]) [.ref a0, .int y1, .int y2].toArray s 0 0 (th_A T [0, 32, 33, 35])) (F0 m 30 ls []) := by
    intro n
    induction n with
    | zero => intro H locs ls v30_3 v30_4 iv30_3 iv30_4 f30_y1 f30_y2 hH hS hl hn; exact absurd hn (Nat.not_lt_zero _)
    | succ n ih30 =>
      intro H locs ls v30_3 v30_4 iv30_3 iv30_4 f30_y1 f30_y2 hH hS hl hn30
      have J125 : ∀ (H : Heap) (locs : List Loc) (ls : Array Slot) (v125_3 : Int32), IV v125_3 (-1) 2147483646 → IV v30_4 0 2147483646 → IV y1 1 20 → IV y2 0 1 → th_H D cT T (km q) H → va_S (th_A T [0, 32, 33, 35]) s.heap H locs → lv_has ls 6 [(0, .ref a0), (1, .int y1), (2, .int y2), (3, .int v125_3), (4, .int v30_4)] → W p l e (rmk 6 138) s m [.ref a0, .int y1, .int y2].toArray below meth c H locs 0 0 (MQ below (th_Q D cT T (km q) (th_R T (some (.inl (-2147483648, 2147483647)))) [0, 32, 33, 35]) [.ref a0, .int y1, .int y2].toArray s 0 0 (th_A T [0, 32, 33, 35])) (F0 m 125 ls []) := by
        intro H locs ls v125_3 iv125_3 f125_v30_4 f125_y1 f125_y2 hH hS hl
        have l1v125_3 := iv125_3.1; have l2v125_3 := iv125_3.2
        refine th_iinc S dX11_folds_125 hl (k := 4) rfl (by decide) f125_v30_4 (by decide) (fun x1 ls ex1 ix1 hl => ?_)
        have hl : lv_has ls 6 [(4, .int x1), (0, .ref a0), (1, .int y1), (2, .int y2), (3, .int v125_3)] := hl
        have ix1 : IV x1 1 2147483647 := ix1
        refine lv_goto (tgt := 30) hx hb dX11_folds_128 (by decide) ?_
        exact ih30 H locs ls v125_3 x1 iv125_3 (iv_w ix1 (by decide)) f125_y1 f125_y2 hH hS (lv_sub hl [1, 2, 3, 4, 0] rfl) (th_up iv30_4 ex1 (by decide) hn30)
      have J121 : ∀ (H : Heap) (locs : List Loc) (ls : Array Slot) (v121_3 : Int32), IV v121_3 (-1) 2147483646 → IV v30_4 0 2147483646 → IV y1 1 20 → IV y2 0 1 → th_H D cT T (km q) H → va_S (th_A T [0, 32, 33, 35]) s.heap H locs → lv_has ls 6 [(0, .ref a0), (1, .int y1), (2, .int y2), (3, .int v121_3), (4, .int v30_4)] → W p l e (rmk 6 138) s m [.ref a0, .int y1, .int y2].toArray below meth c H locs 0 0 (MQ below (th_Q D cT T (km q) (th_R T (some (.inl (-2147483648, 2147483647)))) [0, 32, 33, 35]) [.ref a0, .int y1, .int y2].toArray s 0 0 (th_A T [0, 32, 33, 35])) (F0 m 121 ls []) := by
        intro H locs ls v121_3 iv121_3 f121_v30_4 f121_y1 f121_y2 hH hS hl
        have l1v121_3 := iv121_3.1; have l2v121_3 := iv121_3.2
        refine lv_aload_n hx hb dX11_folds_121 rfl (lv_at hl 0 rfl) ?_
        refine th_callVv (n := 0) (As := []) S hK hH hS (th_A.sub (by decide)) (m_X11_bringBack l D cT T q hT hq a0 t0) gm_1768 gm_1765 gm_1767 gm_99 gm_124 (by decide +kernel) ⟨rfl, rfl, Nat.le_of_ble_eq_true rfl, Nat.le_of_ble_eq_true rfl⟩ t0 km_0 rfl rfl hl.1 rfl (Nat.le_of_ble_eq_true rfl) dX11_folds_122 ⟨Nat.zero_le _, Nat.zero_le _⟩ (fun H locs hH hS hF1 => ?_)
        exact J125 H locs ls v121_3 iv121_3 f121_v30_4 f121_y1 f121_y2 hH hS (lv_sub hl [0, 1, 2, 3, 4] rfl)
      have J111 : ∀ (H : Heap) (locs : List Loc) (ls : Array Slot), IV v30_4 0 2147483646 → IV y1 1 20 → IV y2 0 1 → th_H D cT T (km q) H → va_S (th_A T [0, 32, 33, 35]) s.heap H locs → lv_has ls 6 [(0, .ref a0), (1, .int y1), (2, .int y2), (3, .int v30_3), (4, .int v30_4)] → W p l e (rmk 6 138) s m [.ref a0, .int y1, .int y2].toArray below meth c H locs 0 0 (MQ below (th_Q D cT T (km q) (th_R T (some (.inl (-2147483648, 2147483647)))) [0, 32, 33, 35]) [.ref a0, .int y1, .int y2].toArray s 0 0 (th_A T [0, 32, 33, 35])) (F0 m 111 ls []) := by
        intro H locs ls f111_v30_4 f111_y1 f111_y2 hH hS hl
        refine lv_aload_n hx hb dX11_folds_111 rfl (lv_at hl 0 rfl) ?_
        refine th_callVi (n := 0) (As := []) S hK hH hS (th_A.sub (by decide)) (m_X11_lost l D cT T q hT hq a0 t0) gm_1780 gm_1777 gm_1779 gm_100 gm_124 (by decide +kernel) ⟨rfl, rfl, Nat.le_of_ble_eq_true rfl, Nat.le_of_ble_eq_true rfl⟩ t0 km_0 rfl rfl hl.1 rfl (Nat.le_of_ble_eq_true rfl) dX11_folds_112 ⟨Nat.zero_le _, Nat.zero_le _⟩ (fun x2 H locs ix2 hH hS hF1 => ?_)
        refine lv_if_ne (tgt := 121) hx hb dX11_folds_115 (by decide) (fun c3 => ?_) (fun c3 => ?_)
        · skip
          have rlc3 : x2.toInt ≠ (0 : Int) := iv_ne c3
          exact J121 H locs ls v30_3 iv30_3 f111_v30_4 f111_y1 f111_y2 hH hS (lv_sub hl [0, 1, 2, 3, 4] rfl)
        · skip
          have rlc3 : x2.toInt = (0 : Int) := congrArg Int32.toInt c3
          have ir4 : IV x2 0 0 := iv_eL c3 (iv_c (by decide) : IV 0 0 0)
          have ir4a := ir4.1; have ir4b := ir4.2
          refine lv_iload hx hb dX11_folds_118 (lv_at hl 4 rfl) ?_
          refine lv_istore_n (lv' := [(3, .int v30_4), (0, .ref a0), (1, .int y1), (2, .int y2), (4, .int v30_4)]) hx hb dX11_folds_120 rfl hl (by decide) rfl (fun ls hl => ?_)
          exact J121 H locs ls v30_4 (iv_w f111_v30_4 (by decide)) f111_v30_4 f111_y1 f111_y2 hH hS (lv_sub hl [1, 2, 3, 0, 4] rfl)
      have J88 : ∀ (n : Nat) (H : Heap) (locs : List Loc) (ls : Array Slot) (v88_5 : Int32), IV v88_5 0 20 → IV v30_4 0 2147483646 → IV y1 1 20 → IV y2 0 1 → th_H D cT T (km q) H → va_S (th_A T [0, 32, 33, 35]) s.heap H locs → lv_has ls 6 [(0, .ref a0), (1, .int y1), (2, .int y2), (3, .int v30_3), (4, .int v30_4), (5, .int v88_5)] → (20 + 1 - Int32.toInt v88_5).toNat < n → W p l e (rmk 6 138) s m [.ref a0, .int y1, .int y2].toArray below meth c H locs 0 0 (MQ below (th_Q D cT T (km q) (th_R T (some (.inl (-2147483648, 2147483647)))) [0, 32, 33, 35]) [.ref a0, .int y1, .int y2].toArray s 0 0 (th_A T [0, 32, 33, 35])) (F0 m 88 ls []) := by
        intro n
        induction n with
        | zero => intro H locs ls v88_5 iv88_5 f88_v30_4 f88_y1 f88_y2 hH hS hl hn; exact absurd hn (Nat.not_lt_zero _)
        | succ n ih88 =>
          intro H locs ls v88_5 iv88_5 f88_v30_4 f88_y1 f88_y2 hH hS hl hn88
          have l1v88_5 := iv88_5.1; have l2v88_5 := iv88_5.2
          refine lv_iload hx hb dX11_folds_88 (lv_at hl 5 rfl) ?_
          refine lv_iload_n hx hb dX11_folds_90 rfl (lv_at hl 1 rfl) ?_
          refine lv_icmp_ge (tgt := 111) hx hb dX11_folds_91 (by decide) (fun c5 => ?_) (fun c5 => ?_)
          · skip
            have rlc5 : y1.toInt ≤ v88_5.toInt := iv_le c5
            have ir6 : IV v88_5 1 20 := iv_vR f88_y1 iv88_5 (iv_le c5) (by decide)
            have ir6a := ir6.1; have ir6b := ir6.2
            exact J111 H locs ls f88_v30_4 f88_y1 f88_y2 hH hS (lv_sub hl [0, 1, 2, 3, 4] rfl)
          · skip
            have rlc5 : v88_5.toInt < y1.toInt := iv_nle c5
            have ir7 : IV v88_5 0 19 := iv_uL iv88_5 f88_y1 (iv_nle c5) (by decide)
            have ir7a := ir7.1; have ir7b := ir7.2
            refine lv_aload_n hx hb dX11_folds_94 rfl (lv_at hl 0 rfl) ?_
            refine th_callVi (n := 0) (As := []) S hK hH hS (th_A.sub (by decide)) (m_X11_lost l D cT T q hT hq a0 t0) gm_1780 gm_1777 gm_1779 gm_100 gm_124 (by decide +kernel) ⟨rfl, rfl, Nat.le_of_ble_eq_true rfl, Nat.le_of_ble_eq_true rfl⟩ t0 km_0 rfl rfl hl.1 rfl (Nat.le_of_ble_eq_true rfl) dX11_folds_95 ⟨Nat.zero_le _, Nat.zero_le _⟩ (fun x8 H locs ix8 hH hS hF1 => ?_)
            refine lv_if_ne (tgt := 111) hx hb dX11_folds_98 (by decide) (fun c9 => ?_) (fun c9 => ?_)
            · skip
              have rlc9 : x8.toInt ≠ (0 : Int) := iv_ne c9
              exact J111 H locs ls f88_v30_4 f88_y1 f88_y2 hH hS (lv_sub hl [0, 1, 2, 3, 4] rfl)
            · skip
              have rlc9 : x8.toInt = (0 : Int) := congrArg Int32.toInt c9
              have ir10 : IV x8 0 0 := iv_eL c9 (iv_c (by decide) : IV 0 0 0)
              have ir10a := ir10.1; have ir10b := ir10.2
              refine lv_aload_n hx hb dX11_folds_101 rfl (lv_at hl 0 rfl) ?_
              refine th_callVv (n := 0) (As := []) S hK hH hS (th_A.sub (by decide)) (m_X11_goYear l D cT T q hT hq a0 t0) gm_1717 gm_1714 gm_1716 gm_93 gm_124 (by decide +kernel) ⟨rfl, rfl, Nat.le_of_ble_eq_true rfl, Nat.le_of_ble_eq_true rfl⟩ t0 km_0 rfl rfl hl.1 rfl (Nat.le_of_ble_eq_true rfl) dX11_folds_102 ⟨Nat.zero_le _, Nat.zero_le _⟩ (fun H locs hH hS hF1 => ?_)
              refine th_iinc S dX11_folds_105 hl (k := 5) rfl (by decide) ir7 (by decide) (fun x11 ls ex11 ix11 hl => ?_)
              have hl : lv_has ls 6 [(5, .int x11), (0, .ref a0), (1, .int y1), (2, .int y2), (3, .int v30_3), (4, .int v30_4)] := hl
              have ix11 : IV x11 1 20 := ix11
              refine lv_goto (tgt := 88) hx hb dX11_folds_108 (by decide) ?_
              exact ih88 H locs ls x11 (iv_w ix11 (by decide)) f88_v30_4 f88_y1 f88_y2 hH hS (lv_sub hl [1, 2, 3, 4, 5, 0] rfl) (th_up iv88_5 ex11 (by decide) hn88)
      have J73 : ∀ (H : Heap) (locs : List Loc) (ls : Array Slot), IV v30_4 0 1073741823 → IV y1 1 20 → IV y2 0 1 → th_H D cT T (km q) H → va_S (th_A T [0, 32, 33, 35]) s.heap H locs → lv_has ls 6 [(0, .ref a0), (1, .int y1), (2, .int y2), (3, .int v30_3), (4, .int v30_4)] → W p l e (rmk 6 138) s m [.ref a0, .int y1, .int y2].toArray below meth c H locs 0 0 (MQ below (th_Q D cT T (km q) (th_R T (some (.inl (-2147483648, 2147483647)))) [0, 32, 33, 35]) [.ref a0, .int y1, .int y2].toArray s 0 0 (th_A T [0, 32, 33, 35])) (F0 m 73 ls []) := by
        intro H locs ls f73_v30_4 f73_y1 f73_y2 hH hS hl
        refine lv_aload_n hx hb dX11_folds_73 rfl (lv_at hl 0 rfl) ?_
        refine th_get S hK hH inG11 t0 km_0 rfl 52 (by decide) gm_1282 rfl rfl dX11_folds_74 (fun v12 hv12 fv12 => ?_)
        obtain ⟨rf13, rfl, trf13⟩ := th_V.ref hv12
        refine lv_bipush (v := 39) hx hb dX11_folds_77 (by decide) ?_
        refine lv_dup2_11 hx hb dX11_folds_79 rfl rfl ?_
        refine th_iald S hK hH trf13 km_33 (th_in (hi := 39) (iv_w (iv_c (by decide) : IV 39 39 39) (by decide)) (by decide)) dX11_folds_80 (fun v14 hv14 => ?_)
        obtain ⟨x15, rfl, ix15⟩ := th_V.int hv14
        refine lv_iload hx hb dX11_folds_81 (lv_at hl 4 rfl) ?_
        refine lv_ior hx hb dX11_folds_83 ?_
        refine lv_topi (fun x16 ex16 => ?_)
        have ix16 := iv_top x16
        refine th_iast S hK hH hS ⟨33, by decide, trf13⟩ trf13 km_33 (th_in (hi := 39) (iv_w (iv_c (by decide) : IV 39 39 39) (by decide)) (by decide)) (th_iv ix16) dX11_folds_84 (fun H locs hH hS hq1 => ?_)
        have f17 := fv12.kept (hq1 _ (th_ne t0 trf13 (by decide)))
        refine lv_iconst (v := 0) hx hb dX11_folds_85 (by decide) ?_
        refine lv_istore (lv' := [(5, .int 0), (0, .ref a0), (1, .int y1), (2, .int y2), (3, .int v30_3), (4, .int v30_4)]) hx hb dX11_folds_86 hl (by decide) rfl (fun ls hl => ?_)
        exact J88 ((20 + 1 - Int32.toInt 0).toNat + 1) H locs ls 0 (iv_w (iv_c (by decide) : IV 0 0 0) (by decide)) (iv_w f73_v30_4 (by decide)) f73_y1 f73_y2 hH hS (lv_sub hl [1, 2, 3, 4, 5, 0] rfl) (Nat.lt_succ_self _)
      have l1v30_3 := iv30_3.1; have l2v30_3 := iv30_3.2
      have l1v30_4 := iv30_4.1; have l2v30_4 := iv30_4.2
      refine lv_iload hx hb dX11_folds_30 (lv_at hl 4 rfl) ?_
      refine lv_iconst (v := 1) hx hb dX11_folds_32 (by decide) ?_
      refine lv_aload_n hx hb dX11_folds_33 rfl (lv_at hl 0 rfl) ?_
      refine th_callVp (n := 0) (As := []) S hK hH hS (th_A.sub (by decide)) (m_X11_many l D cT T q hT hq a0 t0) gm_1229 gm_1226 gm_1228 gm_46 gm_124 (by decide +kernel) ⟨rfl, rfl, Nat.le_of_ble_eq_true rfl, Nat.le_of_ble_eq_true rfl⟩ t0 km_0 rfl rfl hl.1 rfl (Nat.le_of_ble_eq_true rfl) dX11_folds_34 ⟨Nat.zero_le _, Nat.zero_le _⟩ (fun x18 H locs ix18 ox18 hH hS hF1 => ?_)
      have ox18 : x18.toInt = q 11 := ox18
      refine lv_ishl hx hb dX11_folds_37 ?_
      refine lv_topi (fun x19 ex19 => ?_)
      have ix19 := iv_top x19
      have ix19 : IV x19 1 1073741824 := by rw [ex19]; exact iv_shl1 (iv_w ix18 (by decide))
      refine lv_icmp_ge (tgt := 131) hx hb dX11_folds_38 (by decide) (fun c20 => ?_) (fun c20 => ?_)
      · skip
        have rlc20 : x19.toInt ≤ v30_4.toInt := iv_le c20
        have ir21 : IV v30_4 1 2147483647 := iv_vR ix19 iv30_4 (iv_le c20) (by decide)
        have ir21a := ir21.1; have ir21b := ir21.2
        refine lv_iload_n hx hb dX11_folds_131 rfl (lv_at hl 3 rfl) ?_
        refine lv_if_ge (tgt := 139) hx hb dX11_folds_132 (by decide) (fun c22 => ?_) (fun c22 => ?_)
        · skip
          have rlc22 : (0 : Int) ≤ v30_3.toInt := iv_le c22
          have ir23 : IV v30_3 0 2147483646 := iv_vR (iv_c (by decide) : IV 0 0 0) iv30_3 (iv_le c22) (by decide)
          have ir23a := ir23.1; have ir23b := ir23.2
          refine lv_iload_n hx hb dX11_folds_139 rfl (lv_at hl 2 rfl) ?_
          refine lv_if_ne (tgt := 150) hx hb dX11_folds_140 (by decide) (fun c24 => ?_) (fun c24 => ?_)
          · skip
            have rlc24 : y2.toInt ≠ (0 : Int) := iv_ne c24
            have ir25 : IV y2 1 1 := iv_cutL f30_y2 (iv_c (by decide) : IV 0 0 0) c24 (by decide)
            have ir25a := ir25.1; have ir25b := ir25.2
            refine lv_iload_n hx hb dX11_folds_150 rfl (lv_at hl 3 rfl) ?_
            exact J151 H locs ls v30_3 (iv_top _) hH hS (lv_sub hl [] rfl)
          · skip
            have rlc24 : y2.toInt = (0 : Int) := congrArg Int32.toInt c24
            have ir26 : IV y2 0 0 := iv_eL c24 (iv_c (by decide) : IV 0 0 0)
            have ir26a := ir26.1; have ir26b := ir26.2
            refine lv_iload_n hx hb dX11_folds_143 rfl (lv_at hl 3 rfl) ?_
            refine th_callSi (n := 1) (As := [.int v30_3]) S hK hH hS (th_A.sub (by decide)) (m_X11_bitsOf l D cT T q hT hq (v30_3) (iv_top _)) gm_1736 gm_1734 gm_1735 gm_124 (by decide +kernel) ⟨rfl, rfl, Nat.le_of_ble_eq_true rfl, Nat.le_of_ble_eq_true rfl⟩ rfl hl.1 rfl (Nat.le_of_ble_eq_true rfl) dX11_folds_144 ⟨Nat.zero_le _, Nat.zero_le _⟩ (fun x27 H locs ix27 hH hS hF1 => ?_)
            refine lv_goto (tgt := 151) hx hb dX11_folds_147 (by decide) ?_
            exact J151 H locs ls x27 ix27 hH hS (lv_sub hl [] rfl)
        · skip
          have rlc22 : v30_3.toInt < (0 : Int) := iv_nle c22
          have ir28 : IV v30_3 (-1) (-1) := iv_uL iv30_3 (iv_c (by decide) : IV 0 0 0) (iv_nle c22) (by decide)
          have ir28a := ir28.1; have ir28b := ir28.2
          refine lv_iconst (v := (-1)) hx hb dX11_folds_135 (by decide) ?_
          refine lv_goto (tgt := 151) hx hb dX11_folds_136 (by decide) ?_
          exact J151_s0_m1 H locs ls  hH hS (lv_sub hl [] rfl)
      · skip
        have rlc20 : v30_4.toInt < x19.toInt := iv_nle c20
        have ir29 : IV v30_4 0 1073741823 := iv_uL iv30_4 ix19 (iv_nle c20) (by decide)
        have ir29a := ir29.1; have ir29b := ir29.2
        refine lv_iload hx hb dX11_folds_41 (lv_at hl 4 rfl) ?_
        refine lv_aload_n hx hb dX11_folds_43 rfl (lv_at hl 0 rfl) ?_
        refine th_get S hK hH inG11 t0 km_0 rfl 52 (by decide) gm_1282 rfl rfl dX11_folds_44 (fun v30 hv30 fv30 => ?_)
        obtain ⟨rf31, rfl, trf31⟩ := th_V.ref hv30
        refine lv_bipush (v := 39) hx hb dX11_folds_47 (by decide) ?_
        refine th_iald S hK hH trf31 km_33 (th_in (hi := 39) (iv_w (iv_c (by decide) : IV 39 39 39) (by decide)) (by decide)) dX11_folds_49 (fun v32 hv32 => ?_)
        obtain ⟨x33, rfl, ix33⟩ := th_V.int hv32
        refine lv_iand hx hb dX11_folds_50 ?_
        refine lv_topi (fun x34 ex34 => ?_)
        have ix34 : IV x34 0 1073741823 := by rw [ex34]; exact iv_andL (h1 := 1073741823) ir29 (by decide)
        refine lv_if_ne (tgt := 125) hx hb dX11_folds_51 (by decide) (fun c35 => ?_) (fun c35 => ?_)
        · skip
          have rlc35 : x34.toInt ≠ (0 : Int) := iv_ne c35
          have ir36 : IV x34 1 1073741823 := iv_cutL ix34 (iv_c (by decide) : IV 0 0 0) c35 (by decide)
          have ir36a := ir36.1; have ir36b := ir36.2
          exact J125 H locs ls v30_3 iv30_3 (iv_w ir29 (by decide)) f30_y1 f30_y2 hH hS (lv_sub hl [0, 1, 2, 3, 4] rfl)
        · skip
          have rlc35 : x34.toInt = (0 : Int) := congrArg Int32.toInt c35
          have ir37 : IV x34 0 0 := iv_eL c35 (iv_c (by decide) : IV 0 0 0)
          have ir37a := ir37.1; have ir37b := ir37.2
          refine lv_iload_n hx hb dX11_folds_54 rfl (lv_at hl 3 rfl) ?_
          refine lv_if_lt (tgt := 73) hx hb dX11_folds_55 (by decide) (fun c38 => ?_) (fun c38 => ?_)
          · skip
            have rlc38 : v30_3.toInt < (0 : Int) := iv_lt c38
            have ir39 : IV v30_3 (-1) (-1) := iv_uL iv30_3 (iv_c (by decide) : IV 0 0 0) (iv_lt c38) (by decide)
            have ir39a := ir39.1; have ir39b := ir39.2
            exact J73 H locs ls ir29 f30_y1 f30_y2 hH hS (lv_sub hl [0, 1, 2, 3, 4] rfl)
          · skip
            have rlc38 : (0 : Int) ≤ v30_3.toInt := iv_nlt c38
            have ir40 : IV v30_3 0 2147483646 := iv_vR (iv_c (by decide) : IV 0 0 0) iv30_3 (iv_nlt c38) (by decide)
            have ir40a := ir40.1; have ir40b := ir40.2
            refine lv_iload hx hb dX11_folds_58 (lv_at hl 4 rfl) ?_
            refine th_callSi (n := 1) (As := [.int v30_4]) S hK hH hS (th_A.sub (by decide)) (m_X11_bitsOf l D cT T q hT hq (v30_4) (iv_top _)) gm_1736 gm_1734 gm_1735 gm_124 (by decide +kernel) ⟨rfl, rfl, Nat.le_of_ble_eq_true rfl, Nat.le_of_ble_eq_true rfl⟩ rfl hl.1 rfl (Nat.le_of_ble_eq_true rfl) dX11_folds_60 ⟨Nat.zero_le _, Nat.zero_le _⟩ (fun x41 H locs ix41 hH hS hF1 => ?_)
            have f42 := fv30.kept (hF1 _ fv30.lt (th_off t0 (by decide)))
            refine lv_iload_n hx hb dX11_folds_63 rfl (lv_at hl 3 rfl) ?_
            refine th_callSi (n := 1) (As := [.int v30_3]) S hK hH hS (th_A.sub (by decide)) (m_X11_bitsOf l D cT T q hT hq (v30_3) (iv_top _)) gm_1736 gm_1734 gm_1735 gm_124 (by decide +kernel) ⟨rfl, rfl, Nat.le_of_ble_eq_true rfl, Nat.le_of_ble_eq_true rfl⟩ rfl hl.1 rfl (Nat.le_of_ble_eq_true rfl) dX11_folds_64 ⟨Nat.zero_le _, Nat.zero_le _⟩ (fun x43 H locs ix43 hH hS hF1 => ?_)
            have f44 := f42.kept (hF1 _ f42.lt (th_off t0 (by decide)))
            refine lv_icmp_lt (tgt := 73) hx hb dX11_folds_67 (by decide) (fun c45 => ?_) (fun c45 => ?_)
            · skip
              have rlc45 : x41.toInt < x43.toInt := iv_lt c45
              have ir46 : IV x41 (-2147483648) 2147483646 := iv_uL ix41 ix43 (iv_lt c45) (by decide)
              have ir46a := ir46.1; have ir46b := ir46.2
              have ir47 : IV x43 (-2147483647) 2147483647 := iv_uR ix41 ix43 (iv_lt c45) (by decide)
              have ir47a := ir47.1; have ir47b := ir47.2
              exact J73 H locs ls ir29 f30_y1 f30_y2 hH hS (lv_sub hl [0, 1, 2, 3, 4] rfl)
            · skip
              have rlc45 : x43.toInt ≤ x41.toInt := iv_nlt c45
              refine lv_goto (tgt := 125) hx hb dX11_folds_70 (by decide) ?_
              exact J125 H locs ls v30_3 (iv_w ir40 (by decide)) (iv_w ir29 (by decide)) f30_y1 f30_y2 hH hS (lv_sub hl [0, 1, 2, 3, 4] rfl)
  have J19 : ∀ (H : Heap) (locs : List Loc) (ls : Array Slot), th_H D cT T (km q) H → va_S (th_A T [0, 32, 33, 35]) s.heap H locs → lv_has ls 6 [] → W p l e (rmk 6 138) s m [.ref a0, .int y1, .int y2].toArray below meth c H locs 0 0 (MQ below (th_Q D cT T (km q) (th_R T (some (.inl (-2147483648, 2147483647)))) [0, 32, 33, 35]) [.ref a0, .int y1, .int y2].toArray s 0 0 (th_A T [0, 32, 33, 35])) (F0 m 19 ls []) := by
    intro H locs ls hH hS hl
    refine lv_iconst (v := (-1)) hx hb dX11_folds_19 (by decide) ?_
    exact th_iret S hK hH hS hr hlocks (th_R.i (iv_top _)) dX11_folds_20
  have J0 : ∀ (H : Heap) (locs : List Loc) (ls : Array Slot), th_H D cT T (km q) H → va_S (th_A T [0, 32, 33, 35]) s.heap H locs → lv_has ls 6 [(0, .ref a0), (1, .int y1), (2, .int y2)] → W p l e (rmk 6 138) s m [.ref a0, .int y1, .int y2].toArray below meth c H locs 0 0 (MQ below (th_Q D cT T (km q) (th_R T (some (.inl (-2147483648, 2147483647)))) [0, 32, 33, 35]) [.ref a0, .int y1, .int y2].toArray s 0 0 (th_A T [0, 32, 33, 35])) (F0 m 0 ls []) := by
    intro H locs ls hH hS hl
    refine lv_iload_n hx hb dX11_folds_0 rfl (lv_at hl 1 rfl) ?_
    refine lv_iconst (v := 1) hx hb dX11_folds_1 (by decide) ?_
    refine lv_bipush (v := 20) hx hb dX11_folds_2 (by decide) ?_
    refine th_callSp (n := 3) (As := [.int y1, .int 1, .int 20]) S hK hH hS (th_A.sub (by decide)) (m_X11_isIn l D cT T q hT hq (y1) j1 (1) (iv_top _) (20) (iv_top _)) gm_1618 gm_1616 gm_1617 gm_124 (by decide +kernel) ⟨rfl, rfl, Nat.le_of_ble_eq_true rfl, Nat.le_of_ble_eq_true rfl⟩ rfl hl.1 rfl (Nat.le_of_ble_eq_true rfl) dX11_folds_4 ⟨Nat.zero_le _, Nat.zero_le _⟩ (fun x48 H locs ix48 ox48 hH hS hF1 => ?_)
    obtain ⟨ox48_0, ox48_1⟩ := ox48
    have ox48_0 : x48.toInt ≠ 0 → (1 : Int) ≤ y1.toInt ∧ y1.toInt ≤ (20 : Int) := ox48_0
    have ox48_1 : x48.toInt = 0 → y1.toInt < (1 : Int) ∨ (20 : Int) < y1.toInt := ox48_1
    refine lv_if_eq (tgt := 19) hx hb dX11_folds_7 (by decide) (fun c49 => ?_) (fun c49 => ?_)
    · skip
      have rlc49 : x48.toInt = (0 : Int) := congrArg Int32.toInt c49
      have ir50 : IV x48 0 0 := iv_eL c49 (iv_c (by decide) : IV 0 0 0)
      have ir50a := ir50.1; have ir50b := ir50.2
      exact J19 H locs ls  hH hS (lv_sub hl [] rfl)
    · skip
      have rlc49 : x48.toInt ≠ (0 : Int) := iv_ne c49
      have ir51 : IV x48 1 1 := iv_cutL ix48 (iv_c (by decide) : IV 0 0 0) c49 (by decide)
      have ir51a := ir51.1; have ir51b := ir51.2
      have ir52 : IV y1 1 20 := ((fun z => by have z1 := iv_ne z; have z2 : x48.toInt ≠ 0 := z1; have z4 := ((iv_c (by decide) : IV 1 1 1)).1; have z5 := ((iv_c (by decide) : IV 20 20 20)).2; exact ⟨by omega, by omega⟩) : ¬ x48 = 0 → IV y1 1 20) c49
      have ir52a := ir52.1; have ir52b := ir52.2
      refine lv_iload_n hx hb dX11_folds_10 rfl (lv_at hl 2 rfl) ?_
      refine lv_iconst (v := 0) hx hb dX11_folds_11 (by decide) ?_
      refine lv_iconst (v := 1) hx hb dX11_folds_12 (by decide) ?_
      refine th_callSp (n := 3) (As := [.int y2, .int 0, .int 1]) S hK hH hS (th_A.sub (by decide)) (m_X11_isIn l D cT T q hT hq (y2) j2 (0) (iv_top _) (1) (iv_top _)) gm_1618 gm_1616 gm_1617 gm_124 (by decide +kernel) ⟨rfl, rfl, Nat.le_of_ble_eq_true rfl, Nat.le_of_ble_eq_true rfl⟩ rfl hl.1 rfl (Nat.le_of_ble_eq_true rfl) dX11_folds_13 ⟨Nat.zero_le _, Nat.zero_le _⟩ (fun x53 H locs ix53 ox53 hH hS hF1 => ?_)
      obtain ⟨ox53_0, ox53_1⟩ := ox53
      have ox53_0 : x53.toInt ≠ 0 → (0 : Int) ≤ y2.toInt ∧ y2.toInt ≤ (1 : Int) := ox53_0
      have ox53_1 : x53.toInt = 0 → y2.toInt < (0 : Int) ∨ (1 : Int) < y2.toInt := ox53_1
      refine lv_if_ne (tgt := 21) hx hb dX11_folds_16 (by decide) (fun c54 => ?_) (fun c54 => ?_)
      · skip
        have rlc54 : x53.toInt ≠ (0 : Int) := iv_ne c54
        have ir55 : IV x53 1 1 := iv_cutL ix53 (iv_c (by decide) : IV 0 0 0) c54 (by decide)
        have ir55a := ir55.1; have ir55b := ir55.2
        have ir56 : IV y2 0 1 := ((fun z => by have z1 := iv_ne z; have z2 : x53.toInt ≠ 0 := z1; have z4 := ((iv_c (by decide) : IV 0 0 0)).1; have z5 := ((iv_c (by decide) : IV 1 1 1)).2; exact ⟨by omega, by omega⟩) : ¬ x53 = 0 → IV y2 0 1) c54
        have ir56a := ir56.1; have ir56b := ir56.2
        refine lv_aload_n hx hb dX11_folds_21 rfl (lv_at hl 0 rfl) ?_
        refine th_callVv (n := 0) (As := []) S hK hH hS (th_A.sub (by decide)) (m_X11_keepNow l D cT T q hT hq a0 t0) gm_1713 gm_1710 gm_1712 gm_92 gm_124 (by decide +kernel) ⟨rfl, rfl, Nat.le_of_ble_eq_true rfl, Nat.le_of_ble_eq_true rfl⟩ t0 km_0 rfl rfl hl.1 rfl (Nat.le_of_ble_eq_true rfl) dX11_folds_22 ⟨Nat.zero_le _, Nat.zero_le _⟩ (fun H locs hH hS hF1 => ?_)
        refine lv_iconst (v := (-1)) hx hb dX11_folds_25 (by decide) ?_
        refine lv_istore_n (lv' := [(3, .int (-1)), (0, .ref a0), (1, .int y1), (2, .int y2)]) hx hb dX11_folds_26 rfl hl (by decide) rfl (fun ls hl => ?_)
        refine lv_iconst (v := 0) hx hb dX11_folds_27 (by decide) ?_
        refine lv_istore (lv' := [(4, .int 0), (3, .int (-1)), (0, .ref a0), (1, .int y1), (2, .int y2)]) hx hb dX11_folds_28 hl (by decide) rfl (fun ls hl => ?_)
        exact J30 ((2147483647 + 1 - Int32.toInt 0).toNat + 1) H locs ls (-1) 0 (iv_w (iv_c (by decide) : IV (-1) (-1) (-1)) (by decide)) (iv_w (iv_c (by decide) : IV 0 0 0) (by decide)) ir52 ir56 hH hS (lv_sub hl [2, 3, 4, 1, 0] rfl) (Nat.lt_succ_self _)
      · skip
        have rlc54 : x53.toInt = (0 : Int) := congrArg Int32.toInt c54
        have ir57 : IV x53 0 0 := iv_eL c54 (iv_c (by decide) : IV 0 0 0)
        have ir57a := ir57.1; have ir57b := ir57.2
        exact J19 H locs ls  hH hS (lv_sub hl [] rfl)
  exact J0 s.heap [] ls hH va_S.rf hl

set_option maxRecDepth 100000 in
theorem m_X11_drawerIn (l : Launch) (D : va_G) (cT : Nat → ClassId) (T : Nat → Option Nat) (q : Nat → Int) (hT : tokm T) (hq : qkm q) (a0 : Nat) (t0 : T a0 = some 0) (y1 : Int32) (j1 : IV y1 (-2147483648) 2147483647) (y2 : Int32) (j2 : IV y2 1 4) (y3 : Int32) (j3 : IV y3 0 3) : th_Met l D cT T (km q) yX11_drawerIn cX11_drawerIn 6 (some .int) (rmk 1 20) [.ref a0, .int y1, .int y2, .int y3] (th_R T (some (.inl (-3, 3)))) [] := by
  refine th_start (by decide) (Nat.le_of_ble_eq_true rfl) ?_
  intro p e s m below meth c ls S hK hH hr hlocks hnm hl
  have hx := S.1
  have hb := S.2.1
  have l1y2 := j2.1; have l2y2 := j2.2
  have l1y3 := j3.1; have l2y3 := j3.2
  have hl : lv_has ls 6 [(0, .ref a0), (1, .int y1), (2, .int y2), (3, .int y3)] := hl
  have J11 : ∀ (n : Nat) (H : Heap) (locs : List Loc) (ls : Array Slot) (v11_4 : Int32) (v11_5 : Int32), IV v11_4 (-2147483648) 2147483647 → IV v11_5 (-1) 3 → th_H D cT T (km q) H → va_S (th_A T []) s.heap H locs → lv_has ls 6 [(2, .int y2), (3, .int y3), (4, .int v11_4), (5, .int v11_5)] → (Int32.toInt v11_5 + 1 - (-1)).toNat < n → W p l e (rmk 1 20) s m [.ref a0, .int y1, .int y2, .int y3].toArray below meth c H locs 0 0 (MQ below (th_Q D cT T (km q) (th_R T (some (.inl (-3, 3)))) []) [.ref a0, .int y1, .int y2, .int y3].toArray s 0 0 (th_A T [])) (F0 m 11 ls []) := by
    intro n
    induction n with
    | zero => intro H locs ls v11_4 v11_5 iv11_4 iv11_5 hH hS hl hn; exact absurd hn (Nat.not_lt_zero _)
    | succ n ih11 =>
      intro H locs ls v11_4 v11_5 iv11_4 iv11_5 hH hS hl hn11
      have l1v11_5 := iv11_5.1; have l2v11_5 := iv11_5.2
      refine lv_iload hx hb dX11_drawerIn_11 (lv_at hl 3 rfl) ?_
      refine lv_iload_n hx hb dX11_drawerIn_13 rfl (lv_at hl 1 rfl) ?_
      refine lv_icmp_le (tgt := 29) hx hb dX11_drawerIn_14 (by decide) (fun c1 => ?_) (fun c1 => ?_)
      · skip
        have rlc1 : v11_5.toInt ≤ y3.toInt := iv_le c1
        refine lv_iload hx hb dX11_drawerIn_29 (lv_at hl 2 rfl) ?_
        refine lv_iload_n hx hb dX11_drawerIn_31 rfl (lv_at hl 0 rfl) ?_
        refine lv_irem hx hb dX11_drawerIn_32 (iv_n0 j2 (by decide)) ?_
        refine lv_topi (fun x2 ex2 => ?_)
        have ix2 : IV x2 (-3) 3 := by rw [ex2]; exact iv_rmS j2 (by decide)
        exact th_iret S hK hH hS hr hlocks (th_R.i ix2) dX11_drawerIn_33
      · skip
        have rlc1 : y3.toInt < v11_5.toInt := iv_nle c1
        have ir3 : IV y3 0 2 := iv_uL j3 iv11_5 (iv_nle c1) (by decide)
        have ir3a := ir3.1; have ir3b := ir3.2
        have ir4 : IV v11_5 1 3 := iv_uR j3 iv11_5 (iv_nle c1) (by decide)
        have ir4a := ir4.1; have ir4b := ir4.2
        refine lv_iload hx hb dX11_drawerIn_17 (lv_at hl 2 rfl) ?_
        refine lv_iload_n hx hb dX11_drawerIn_19 rfl (lv_at hl 0 rfl) ?_
        refine lv_idiv hx hb dX11_drawerIn_20 (iv_n0 j2 (by decide)) ?_
        refine lv_topi (fun x5 ex5 => ?_)
        have ix5 := iv_top x5
        refine lv_istore (lv' := [(4, .int x5), (2, .int y2), (3, .int y3), (5, .int v11_5)]) hx hb dX11_drawerIn_21 hl (by decide) rfl (fun ls hl => ?_)
        refine th_iinc S dX11_drawerIn_23 hl (k := 3) rfl (by decide) ir4 (by decide) (fun x6 ls ex6 ix6 hl => ?_)
        have hl : lv_has ls 6 [(5, .int x6), (4, .int x5), (2, .int y2), (3, .int y3)] := hl
        have ix6 : IV x6 0 2 := ix6
        refine lv_goto (tgt := 11) hx hb dX11_drawerIn_26 (by decide) ?_
        exact ih11 H locs ls x5 x6 ix5 (iv_w ix6 (by decide)) hH hS (lv_sub hl [2, 3, 1, 0] rfl) (th_down iv11_5 ex6 (by decide) hn11)
  have J0 : ∀ (H : Heap) (locs : List Loc) (ls : Array Slot), th_H D cT T (km q) H → va_S (th_A T []) s.heap H locs → lv_has ls 6 [(0, .ref a0), (1, .int y1), (2, .int y2), (3, .int y3)] → W p l e (rmk 1 20) s m [.ref a0, .int y1, .int y2, .int y3].toArray below meth c H locs 0 0 (MQ below (th_Q D cT T (km q) (th_R T (some (.inl (-3, 3)))) []) [.ref a0, .int y1, .int y2, .int y3].toArray s 0 0 (th_A T [])) (F0 m 0 ls []) := by
    intro H locs ls hH hS hl
    refine lv_iload_n hx hb dX11_drawerIn_0 rfl (lv_at hl 1 rfl) ?_
    refine lv_istore (lv' := [(4, .int y1), (0, .ref a0), (1, .int y1), (2, .int y2), (3, .int y3)]) hx hb dX11_drawerIn_1 hl (by decide) rfl (fun ls hl => ?_)
    refine lv_aload_n hx hb dX11_drawerIn_3 rfl (lv_at hl 1 rfl) ?_
    refine th_callVp (n := 0) (As := []) S hK hH hS (th_A.sub (by decide)) (m_X11_many l D cT T q hT hq a0 t0) gm_1229 gm_1226 gm_1228 gm_46 gm_124 (by decide +kernel) ⟨rfl, rfl, Nat.le_of_ble_eq_true rfl, Nat.le_of_ble_eq_true rfl⟩ t0 km_0 rfl rfl hl.1 rfl (Nat.le_of_ble_eq_true rfl) dX11_drawerIn_4 ⟨Nat.zero_le _, Nat.zero_le _⟩ (fun x7 H locs ix7 ox7 hH hS hF1 => ?_)
    have ox7 : x7.toInt = q 11 := ox7
    refine lv_iconst (v := 1) hx hb dX11_drawerIn_7 (by decide) ?_
    refine lv_isub hx hb dX11_drawerIn_8 ?_
    refine lv_topi (fun x8 ex8 => ?_)
    have ix8 : IV x8 (-1) 3 := by rw [ex8]; exact iv_sub ix7 (iv_c (by decide) : IV 1 1 1) (by decide)
    have ux8 : x8.toInt = x7.toInt - (1 : Int) := by rw [ex8]; exact iv_subE (by have z1 := (ix7).1; have z2 := (ix7).2; have z3 := ((iv_c (by decide) : IV 1 1 1)).1; have z4 := ((iv_c (by decide) : IV 1 1 1)).2; omega)
    refine lv_istore (lv' := [(5, .int x8), (4, .int y1), (0, .ref a0), (1, .int y1), (2, .int y2), (3, .int y3)]) hx hb dX11_drawerIn_9 hl (by decide) rfl (fun ls hl => ?_)
    exact J11 ((Int32.toInt x8 + 1 - (-1)).toNat + 1) H locs ls y1 x8 j1 ix8 hH hS (lv_sub hl [4, 5, 1, 0] rfl) (Nat.lt_succ_self _)
  exact J0 s.heap [] ls hH va_S.rf hl

set_option maxRecDepth 100000 in
theorem m_X11_isParted (l : Launch) (D : va_G) (cT : Nat → ClassId) (T : Nat → Option Nat) (q : Nat → Int) (hT : tokm T) (hq : qkm q) (a0 : Nat) (t0 : T a0 = some 0) (y1 : Int32) (j1 : IV y1 (-2147483648) 2147483647) (y2 : Int32) (j2 : IV y2 1 4) : th_Met l D cT T (km q) yX11_isParted cX11_isParted 5 (some .boolean) (rmk 2 45) [.ref a0, .int y1, .int y2] (th_R T (some (.inl (0, 1)))) [] := by
  refine th_start (by decide) (Nat.le_of_ble_eq_true rfl) ?_
  intro p e s m below meth c ls S hK hH hr hlocks hnm hl
  have hx := S.1
  have hb := S.2.1
  have l1y2 := j2.1; have l2y2 := j2.2
  have hl : lv_has ls 5 [(0, .ref a0), (1, .int y1), (2, .int y2)] := hl
  have J2 : ∀ (n : Nat) (H : Heap) (locs : List Loc) (ls : Array Slot) (v2_3 : Int32), IV v2_3 0 4 → th_H D cT T (km q) H → va_S (th_A T []) s.heap H locs → lv_has ls 5 [(0, .ref a0), (1, .int y1), (2, .int y2), (3, .int v2_3)] → (4 + 1 - Int32.toInt v2_3).toNat < n → W p l e (rmk 2 45) s m [.ref a0, .int y1, .int y2].toArray below meth c H locs 0 0 (MQ below (th_Q D cT T (km q) (th_R T (some (.inl (0, 1)))) []) [.ref a0, .int y1, .int y2].toArray s 0 0 (th_A T [])) (F0 m 2 ls []) := by
    intro n
    induction n with
    | zero => intro H locs ls v2_3 iv2_3 hH hS hl hn; exact absurd hn (Nat.not_lt_zero _)
    | succ n ih2 =>
      intro H locs ls v2_3 iv2_3 hH hS hl hn2
      have J13 : ∀ (n : Nat) (H : Heap) (locs : List Loc) (ls : Array Slot) (v13_4 : Int32), IV v13_4 0 3 → IV v2_3 0 3 → th_H D cT T (km q) H → va_S (th_A T []) s.heap H locs → lv_has ls 5 [(0, .ref a0), (1, .int y1), (2, .int y2), (3, .int v2_3), (4, .int v13_4)] → (3 + 1 - Int32.toInt v13_4).toNat < n → W p l e (rmk 2 45) s m [.ref a0, .int y1, .int y2].toArray below meth c H locs 0 0 (MQ below (th_Q D cT T (km q) (th_R T (some (.inl (0, 1)))) []) [.ref a0, .int y1, .int y2].toArray s 0 0 (th_A T [])) (F0 m 13 ls []) := by
        intro n
        induction n with
        | zero => intro H locs ls v13_4 iv13_4 f13_v2_3 hH hS hl hn; exact absurd hn (Nat.not_lt_zero _)
        | succ n ih13 =>
          intro H locs ls v13_4 iv13_4 f13_v2_3 hH hS hl hn13
          have J60 : ∀ (H : Heap) (locs : List Loc) (ls : Array Slot), IV v13_4 0 2 → IV v2_3 1 3 → th_H D cT T (km q) H → va_S (th_A T []) s.heap H locs → lv_has ls 5 [(0, .ref a0), (1, .int y1), (2, .int y2), (3, .int v2_3), (4, .int v13_4)] → W p l e (rmk 2 45) s m [.ref a0, .int y1, .int y2].toArray below meth c H locs 0 0 (MQ below (th_Q D cT T (km q) (th_R T (some (.inl (0, 1)))) []) [.ref a0, .int y1, .int y2].toArray s 0 0 (th_A T [])) (F0 m 60 ls []) := by
            intro H locs ls f60_v13_4 f60_v2_3 hH hS hl
            refine th_iinc S dX11_isParted_60 hl (k := 4) rfl (by decide) f60_v13_4 (by decide) (fun x1 ls ex1 ix1 hl => ?_)
            have hl : lv_has ls 5 [(4, .int x1), (0, .ref a0), (1, .int y1), (2, .int y2), (3, .int v2_3)] := hl
            have ix1 : IV x1 1 3 := ix1
            refine lv_goto (tgt := 13) hx hb dX11_isParted_63 (by decide) ?_
            exact ih13 H locs ls x1 (iv_w ix1 (by decide)) (iv_w f60_v2_3 (by decide)) hH hS (lv_sub hl [1, 2, 3, 4, 0] rfl) (th_up iv13_4 ex1 (by decide) hn13)
          have l1v13_4 := iv13_4.1; have l2v13_4 := iv13_4.2
          refine lv_iload hx hb dX11_isParted_13 (lv_at hl 4 rfl) ?_
          refine lv_iload_n hx hb dX11_isParted_15 rfl (lv_at hl 3 rfl) ?_
          refine lv_icmp_ge (tgt := 66) hx hb dX11_isParted_16 (by decide) (fun c2 => ?_) (fun c2 => ?_)
          · skip
            have rlc2 : v2_3.toInt ≤ v13_4.toInt := iv_le c2
            refine th_iinc S dX11_isParted_66 hl (k := 3) rfl (by decide) f13_v2_3 (by decide) (fun x3 ls ex3 ix3 hl => ?_)
            have hl : lv_has ls 5 [(3, .int x3), (0, .ref a0), (1, .int y1), (2, .int y2), (4, .int v13_4)] := hl
            have ix3 : IV x3 1 4 := ix3
            refine lv_goto (tgt := 2) hx hb dX11_isParted_69 (by decide) ?_
            exact ih2 H locs ls x3 (iv_w ix3 (by decide)) hH hS (lv_sub hl [1, 2, 3, 0] rfl) (th_up iv2_3 ex3 (by decide) hn2)
          · skip
            have rlc2 : v13_4.toInt < v2_3.toInt := iv_nle c2
            have ir4 : IV v13_4 0 2 := iv_uL iv13_4 f13_v2_3 (iv_nle c2) (by decide)
            have ir4a := ir4.1; have ir4b := ir4.2
            have ir5 : IV v2_3 1 3 := iv_uR iv13_4 f13_v2_3 (iv_nle c2) (by decide)
            have ir5a := ir5.1; have ir5b := ir5.2
            refine lv_aload_n hx hb dX11_isParted_19 rfl (lv_at hl 0 rfl) ?_
            refine th_get S hK hH inG11 t0 km_0 rfl 22 (by decide) gm_1252 rfl rfl dX11_isParted_20 (fun v6 hv6 fv6 => ?_)
            obtain ⟨rf7, rfl, trf7⟩ := th_V.ref hv6
            refine lv_iconst (v := 4) hx hb dX11_isParted_23 (by decide) ?_
            refine lv_aload_n hx hb dX11_isParted_24 rfl (lv_at hl 0 rfl) ?_
            refine th_get S hK hH inG11 t0 km_0 rfl 41 (by decide) gm_1271 rfl rfl dX11_isParted_25 (fun v8 hv8 fv8 => ?_)
            obtain ⟨x9, rfl, ix9⟩ := th_V.int hv8
            have kx9a : q 10 ≤ x9.toInt := ix9.1
            have kx9b : x9.toInt ≤ q 10 := ix9.2
            have ix9 : IV x9 0 1 := iv_w ix9 (qkm_10 hq)
            refine lv_imul hx hb dX11_isParted_28 ?_
            refine lv_topi (fun x10 ex10 => ?_)
            have ix10 : IV x10 0 4 := by rw [ex10]; exact iv_mul (iv_c (by decide) : IV 4 4 4) ix9 (by decide) (by decide)
            have ux10 : x10.toInt = (4 : Int) * x9.toInt := by rw [ex10]; exact iv_mulE (iv_corner ((iv_c (by decide) : IV 4 4 4)).1 ((iv_c (by decide) : IV 4 4 4)).2 (ix9).1 (ix9).2 (by decide))
            refine lv_iload_n hx hb dX11_isParted_29 rfl (lv_at hl 3 rfl) ?_
            refine lv_iadd hx hb dX11_isParted_30 ?_
            refine lv_topi (fun x11 ex11 => ?_)
            have ix11 : IV x11 1 7 := by rw [ex11]; exact iv_add ix10 ir5 (by decide)
            have ux11 : x11.toInt = x10.toInt + v2_3.toInt := by rw [ex11]; exact iv_addE (by have z1 := (ix10).1; have z2 := (ix10).2; have z3 := (ir5).1; have z4 := (ir5).2; omega)
            refine th_iald S hK hH trf7 km_14 (th_in (hi := 7) (iv_w ix11 (by decide)) (by decide)) dX11_isParted_31 (fun v12 hv12 => ?_)
            obtain ⟨x13, rfl, ix13⟩ := th_V.int hv12
            refine lv_iload hx hb dX11_isParted_32 (lv_at hl 4 rfl) ?_
            refine th_callSp (n := 2) (As := [.int x13, .int v13_4]) S hK hH hS (th_A.sub (by decide)) (m_X11_has l D cT T q hT hq (x13) ix13 (v13_4) (iv_top _)) gm_1633 gm_1631 gm_1632 gm_124 (by decide +kernel) ⟨rfl, rfl, Nat.le_of_ble_eq_true rfl, Nat.le_of_ble_eq_true rfl⟩ rfl hl.1 rfl (Nat.le_of_ble_eq_true rfl) dX11_isParted_34 ⟨Nat.zero_le _, Nat.zero_le _⟩ (fun x14 H locs ix14 ox14 hH hS hF1 => ?_)
            have ox14 : x14.toInt = 0 → ¬ ((x13 >>> (v13_4 &&& 31)) &&& 1 = 1) := ox14
            refine lv_if_eq (tgt := 60) hx hb dX11_isParted_37 (by decide) (fun c15 => ?_) (fun c15 => ?_)
            · skip
              have rlc15 : x14.toInt = (0 : Int) := congrArg Int32.toInt c15
              have ir16 : IV x14 0 0 := iv_eL c15 (iv_c (by decide) : IV 0 0 0)
              have ir16a := ir16.1; have ir16b := ir16.2
              exact J60 H locs ls ir4 ir5 hH hS (lv_sub hl [0, 1, 2, 3, 4] rfl)
            · skip
              have rlc15 : x14.toInt ≠ (0 : Int) := iv_ne c15
              have ir17 : IV x14 1 1 := iv_cutL ix14 (iv_c (by decide) : IV 0 0 0) c15 (by decide)
              have ir17a := ir17.1; have ir17b := ir17.2
              refine lv_aload_n hx hb dX11_isParted_40 rfl (lv_at hl 0 rfl) ?_
              refine lv_iload_n hx hb dX11_isParted_41 rfl (lv_at hl 1 rfl) ?_
              refine lv_iload_n hx hb dX11_isParted_42 rfl (lv_at hl 2 rfl) ?_
              refine lv_iload_n hx hb dX11_isParted_43 rfl (lv_at hl 3 rfl) ?_
              refine th_callVi (n := 3) (As := [.int y1, .int y2, .int v2_3]) S hK hH hS (th_A.sub (by decide)) (m_X11_drawerIn l D cT T q hT hq a0 t0 (y1) j1 (y2) j2 (v2_3) (iv_w ir5 (by decide))) gm_1844 gm_1841 gm_1843 gm_108 gm_124 (by decide +kernel) ⟨rfl, rfl, Nat.le_of_ble_eq_true rfl, Nat.le_of_ble_eq_true rfl⟩ t0 km_0 rfl rfl hl.1 rfl (Nat.le_of_ble_eq_true rfl) dX11_isParted_44 ⟨Nat.zero_le _, Nat.zero_le _⟩ (fun x18 H locs ix18 hH hS hF1 => ?_)
              refine lv_aload_n hx hb dX11_isParted_47 rfl (lv_at hl 0 rfl) ?_
              refine lv_iload_n hx hb dX11_isParted_48 rfl (lv_at hl 1 rfl) ?_
              refine lv_iload_n hx hb dX11_isParted_49 rfl (lv_at hl 2 rfl) ?_
              refine lv_iload hx hb dX11_isParted_50 (lv_at hl 4 rfl) ?_
              refine th_callVi (n := 3) (As := [.int y1, .int y2, .int v13_4]) S hK hH hS (th_A.sub (by decide)) (m_X11_drawerIn l D cT T q hT hq a0 t0 (y1) j1 (y2) j2 (v13_4) (iv_w ir4 (by decide))) gm_1844 gm_1841 gm_1843 gm_108 gm_124 (by decide +kernel) ⟨rfl, rfl, Nat.le_of_ble_eq_true rfl, Nat.le_of_ble_eq_true rfl⟩ t0 km_0 rfl rfl hl.1 rfl (Nat.le_of_ble_eq_true rfl) dX11_isParted_52 ⟨Nat.zero_le _, Nat.zero_le _⟩ (fun x19 H locs ix19 hH hS hF1 => ?_)
              refine lv_icmp_ne (tgt := 60) hx hb dX11_isParted_55 (by decide) (fun c20 => ?_) (fun c20 => ?_)
              · skip
                have rlc20 : x18.toInt ≠ x19.toInt := iv_ne c20
                exact J60 H locs ls ir4 ir5 hH hS (lv_sub hl [0, 1, 2, 3, 4] rfl)
              · skip
                have rlc20 : x18.toInt = x19.toInt := congrArg Int32.toInt c20
                refine lv_iconst (v := 0) hx hb dX11_isParted_58 (by decide) ?_
                exact th_zret S hK hH hS hr hlocks (iv_w (iv_c (by decide) : IV 0 0 0) (by decide)) (th_R.i (iv_w (iv_c (by decide) : IV 0 0 0) (by decide))) dX11_isParted_59
      have l1v2_3 := iv2_3.1; have l2v2_3 := iv2_3.2
      refine lv_iload_n hx hb dX11_isParted_2 rfl (lv_at hl 3 rfl) ?_
      refine lv_aload_n hx hb dX11_isParted_3 rfl (lv_at hl 0 rfl) ?_
      refine th_callVp (n := 0) (As := []) S hK hH hS (th_A.sub (by decide)) (m_X11_many l D cT T q hT hq a0 t0) gm_1229 gm_1226 gm_1228 gm_46 gm_124 (by decide +kernel) ⟨rfl, rfl, Nat.le_of_ble_eq_true rfl, Nat.le_of_ble_eq_true rfl⟩ t0 km_0 rfl rfl hl.1 rfl (Nat.le_of_ble_eq_true rfl) dX11_isParted_4 ⟨Nat.zero_le _, Nat.zero_le _⟩ (fun x21 H locs ix21 ox21 hH hS hF1 => ?_)
      have ox21 : x21.toInt = q 11 := ox21
      refine lv_icmp_ge (tgt := 72) hx hb dX11_isParted_7 (by decide) (fun c22 => ?_) (fun c22 => ?_)
      · skip
        have rlc22 : x21.toInt ≤ v2_3.toInt := iv_le c22
        refine lv_iconst (v := 1) hx hb dX11_isParted_72 (by decide) ?_
        exact th_zret S hK hH hS hr hlocks (iv_w (iv_c (by decide) : IV 1 1 1) (by decide)) (th_R.i (iv_w (iv_c (by decide) : IV 1 1 1) (by decide))) dX11_isParted_73
      · skip
        have rlc22 : v2_3.toInt < x21.toInt := iv_nle c22
        have ir23 : IV v2_3 0 3 := iv_uL iv2_3 ix21 (iv_nle c22) (by decide)
        have ir23a := ir23.1; have ir23b := ir23.2
        have ir24 : IV x21 1 4 := iv_uR iv2_3 ix21 (iv_nle c22) (by decide)
        have ir24a := ir24.1; have ir24b := ir24.2
        refine lv_iconst (v := 0) hx hb dX11_isParted_10 (by decide) ?_
        refine lv_istore (lv' := [(4, .int 0), (0, .ref a0), (1, .int y1), (2, .int y2), (3, .int v2_3)]) hx hb dX11_isParted_11 hl (by decide) rfl (fun ls hl => ?_)
        exact J13 ((3 + 1 - Int32.toInt 0).toNat + 1) H locs ls 0 (iv_w (iv_c (by decide) : IV 0 0 0) (by decide)) ir23 hH hS (lv_sub hl [1, 2, 3, 4, 0] rfl) (Nat.lt_succ_self _)
  have J0 : ∀ (H : Heap) (locs : List Loc) (ls : Array Slot), th_H D cT T (km q) H → va_S (th_A T []) s.heap H locs → lv_has ls 5 [(0, .ref a0), (1, .int y1), (2, .int y2)] → W p l e (rmk 2 45) s m [.ref a0, .int y1, .int y2].toArray below meth c H locs 0 0 (MQ below (th_Q D cT T (km q) (th_R T (some (.inl (0, 1)))) []) [.ref a0, .int y1, .int y2].toArray s 0 0 (th_A T [])) (F0 m 0 ls []) := by
    intro H locs ls hH hS hl
    refine lv_iconst (v := 0) hx hb dX11_isParted_0 (by decide) ?_
    refine lv_istore_n (lv' := [(3, .int 0), (0, .ref a0), (1, .int y1), (2, .int y2)]) hx hb dX11_isParted_1 rfl hl (by decide) rfl (fun ls hl => ?_)
    exact J2 ((4 + 1 - Int32.toInt 0).toNat + 1) H locs ls 0 (iv_w (iv_c (by decide) : IV 0 0 0) (by decide)) hH hS (lv_sub hl [1, 2, 3, 0] rfl) (Nat.lt_succ_self _)
  exact J0 s.heap [] ls hH va_S.rf hl

set_option maxRecDepth 100000 in
theorem m_X11_waysInto (l : Launch) (D : va_G) (cT : Nat → ClassId) (T : Nat → Option Nat) (q : Nat → Int) (hT : tokm T) (hq : qkm q) (a0 : Nat) (t0 : T a0 = some 0) (y1 : Int32) (j1 : IV y1 1 4) : th_Met l D cT T (km q) yX11_waysInto cX11_waysInto 6 (some .int) (rmk 3 69) [.ref a0, .int y1] (th_R T (some (.inl (-2147483648, 2147483647)))) [0, 36] := by
  refine th_start (by decide) (Nat.le_of_ble_eq_true rfl) ?_
  intro p e s m below meth c ls S hK hH hr hlocks hnm hl
  have hx := S.1
  have hb := S.2.1
  have l1y1 := j1.1; have l2y1 := j1.2
  have hl : lv_has ls 6 [(0, .ref a0), (1, .int y1)] := hl
  have J27 : ∀ (n : Nat) (H : Heap) (locs : List Loc) (ls : Array Slot) (v27_2 : Int32) (v27_3 : Int32) (v27_4 : Int32), IV v27_2 (-2147483648) 2147483647 → IV v27_3 (-2147483648) 2147483647 → IV v27_4 0 2147483647 → th_H D cT T (km q) H → va_S (th_A T [0, 36]) s.heap H locs → lv_has ls 6 [(0, .ref a0), (1, .int y1), (2, .int v27_2), (3, .int v27_3), (4, .int v27_4)] → (2147483647 + 1 - Int32.toInt v27_4).toNat < n → W p l e (rmk 3 69) s m [.ref a0, .int y1].toArray below meth c H locs 0 0 (MQ below (th_Q D cT T (km q) (th_R T (some (.inl (-2147483648, 2147483647)))) [0, 36]) [.ref a0, .int y1].toArray s 0 0 (th_A T [0, 36])) (F0 m 27 ls []) := by
    intro n
    induction n with
    | zero => intro H locs ls v27_2 v27_3 v27_4 iv27_2 iv27_3 iv27_4 hH hS hl hn; exact absurd hn (Nat.not_lt_zero _)
    | succ n ih27 =>
      intro H locs ls v27_2 v27_3 v27_4 iv27_2 iv27_3 iv27_4 hH hS hl hn27
      have J95 : ∀ (H : Heap) (locs : List Loc) (ls : Array Slot) (v95_3 : Int32), IV v95_3 (-2147483648) 2147483647 → IV v27_2 1 2147483647 → IV v27_4 0 2147483646 → th_H D cT T (km q) H → va_S (th_A T [0, 36]) s.heap H locs → lv_has ls 6 [(0, .ref a0), (1, .int y1), (2, .int v27_2), (3, .int v95_3), (4, .int v27_4)] → W p l e (rmk 3 69) s m [.ref a0, .int y1].toArray below meth c H locs 0 0 (MQ below (th_Q D cT T (km q) (th_R T (some (.inl (-2147483648, 2147483647)))) [0, 36]) [.ref a0, .int y1].toArray s 0 0 (th_A T [0, 36])) (F0 m 95 ls []) := by
        intro H locs ls v95_3 iv95_3 f95_v27_2 f95_v27_4 hH hS hl
        refine th_iinc S dX11_waysInto_95 hl (k := 4) rfl (by decide) f95_v27_4 (by decide) (fun x1 ls ex1 ix1 hl => ?_)
        have hl : lv_has ls 6 [(4, .int x1), (0, .ref a0), (1, .int y1), (2, .int v27_2), (3, .int v95_3)] := hl
        have ix1 : IV x1 1 2147483647 := ix1
        refine lv_goto (tgt := 27) hx hb dX11_waysInto_98 (by decide) ?_
        exact ih27 H locs ls v27_2 v95_3 x1 (iv_top _) iv95_3 (iv_w ix1 (by decide)) hH hS (lv_sub hl [1, 2, 3, 4, 0] rfl) (th_up iv27_4 ex1 (by decide) hn27)
      have J92 : ∀ (H : Heap) (locs : List Loc) (ls : Array Slot), IV v27_2 1 2147483647 → IV v27_4 0 2147483646 → th_H D cT T (km q) H → va_S (th_A T [0, 36]) s.heap H locs → lv_has ls 6 [(0, .ref a0), (1, .int y1), (2, .int v27_2), (3, .int v27_3), (4, .int v27_4)] → W p l e (rmk 3 69) s m [.ref a0, .int y1].toArray below meth c H locs 0 0 (MQ below (th_Q D cT T (km q) (th_R T (some (.inl (-2147483648, 2147483647)))) [0, 36]) [.ref a0, .int y1].toArray s 0 0 (th_A T [0, 36])) (F0 m 92 ls []) := by
        intro H locs ls f92_v27_2 f92_v27_4 hH hS hl
        obtain ⟨x2, ex2⟩ : ∃ z : Int32, z = v27_3 + Int32.ofInt 1 := ⟨_, rfl⟩
        refine lv_iinc (v := x2) (lv' := [(3, .int x2), (0, .ref a0), (1, .int y1), (2, .int v27_2), (4, .int v27_4)]) hx hb dX11_waysInto_92 hl (k := 3) rfl (by rw [ex2]) (by decide) rfl (fun ls hl => ?_)
        have ix2 := iv_top x2
        exact J95 H locs ls x2 ix2 f92_v27_2 f92_v27_4 hH hS (lv_sub hl [1, 2, 3, 0, 4] rfl)
      have J53 : ∀ (n : Nat) (H : Heap) (locs : List Loc) (ls : Array Slot) (v53_5 : Int32), IV v53_5 0 4 → IV v27_2 1 2147483647 → IV v27_3 0 0 → IV v27_4 0 2147483646 → th_H D cT T (km q) H → va_S (th_A T [0, 36]) s.heap H locs → lv_has ls 6 [(0, .ref a0), (1, .int y1), (2, .int v27_2), (3, .int v27_3), (4, .int v27_4), (5, .int v53_5)] → (4 + 1 - Int32.toInt v53_5).toNat < n → W p l e (rmk 3 69) s m [.ref a0, .int y1].toArray below meth c H locs 0 0 (MQ below (th_Q D cT T (km q) (th_R T (some (.inl (-2147483648, 2147483647)))) [0, 36]) [.ref a0, .int y1].toArray s 0 0 (th_A T [0, 36])) (F0 m 53 ls []) := by
        intro n
        induction n with
        | zero => intro H locs ls v53_5 iv53_5 f53_v27_2 f53_v27_3 f53_v27_4 hH hS hl hn; exact absurd hn (Nat.not_lt_zero _)
        | succ n ih53 =>
          intro H locs ls v53_5 iv53_5 f53_v27_2 f53_v27_3 f53_v27_4 hH hS hl hn53
          have l1v53_5 := iv53_5.1; have l2v53_5 := iv53_5.2
          refine lv_iload hx hb dX11_waysInto_53 (lv_at hl 5 rfl) ?_
          refine lv_aload_n hx hb dX11_waysInto_55 rfl (lv_at hl 0 rfl) ?_
          refine th_callVp (n := 0) (As := []) S hK hH hS (th_A.sub (by decide)) (m_X11_many l D cT T q hT hq a0 t0) gm_1229 gm_1226 gm_1228 gm_46 gm_124 (by decide +kernel) ⟨rfl, rfl, Nat.le_of_ble_eq_true rfl, Nat.le_of_ble_eq_true rfl⟩ t0 km_0 rfl rfl hl.1 rfl (Nat.le_of_ble_eq_true rfl) dX11_waysInto_56 ⟨Nat.zero_le _, Nat.zero_le _⟩ (fun x3 H locs ix3 ox3 hH hS hF1 => ?_)
          have ox3 : x3.toInt = q 11 := ox3
          refine lv_icmp_ge (tgt := 84) hx hb dX11_waysInto_59 (by decide) (fun c4 => ?_) (fun c4 => ?_)
          · skip
            have rlc4 : x3.toInt ≤ v53_5.toInt := iv_le c4
            refine lv_aload_n hx hb dX11_waysInto_84 rfl (lv_at hl 0 rfl) ?_
            refine lv_aload_n hx hb dX11_waysInto_85 rfl (lv_at hl 0 rfl) ?_
            refine th_callVp (n := 0) (As := []) S hK hH hS (th_A.sub (by decide)) (m_X11_many l D cT T q hT hq a0 t0) gm_1229 gm_1226 gm_1228 gm_46 gm_124 (by decide +kernel) ⟨rfl, rfl, Nat.le_of_ble_eq_true rfl, Nat.le_of_ble_eq_true rfl⟩ t0 km_0 rfl rfl hl.1 rfl (Nat.le_of_ble_eq_true rfl) dX11_waysInto_86 ⟨Nat.zero_le _, Nat.zero_le _⟩ (fun x5 H locs ix5 ox5 hH hS hF1 => ?_)
            have ox5 : x5.toInt = q 11 := ox5
            refine th_put S hK hH hS ⟨0, by decide, t0⟩ inG11 tyX11 tyX11_ok nmX11 t0 km_0 rfl 59 (by decide) gm_1289 rfl rfl rfl rfl (th_iv ix5) (fun vs h => nmR_set h.2.2 (by decide) rfl) (ty := .int) (by decide +kernel) rfl rfl dX11_waysInto_89 (fun H locs hH hS hq1 hp1 => ?_)
            exact J92 H locs ls f53_v27_2 f53_v27_4 hH hS (lv_sub hl [0, 1, 2, 3, 4] rfl)
          · skip
            have rlc4 : v53_5.toInt < x3.toInt := iv_nle c4
            have ir6 : IV v53_5 0 3 := iv_uL iv53_5 ix3 (iv_nle c4) (by decide)
            have ir6a := ir6.1; have ir6b := ir6.2
            have ir7 : IV x3 1 4 := iv_uR iv53_5 ix3 (iv_nle c4) (by decide)
            have ir7a := ir7.1; have ir7b := ir7.2
            refine lv_aload_n hx hb dX11_waysInto_62 rfl (lv_at hl 0 rfl) ?_
            refine th_get S hK hH inG11 t0 km_0 rfl 57 (by decide) gm_1287 rfl rfl dX11_waysInto_63 (fun v8 hv8 fv8 => ?_)
            obtain ⟨rf9, rfl, trf9⟩ := th_V.ref hv8
            refine lv_iload hx hb dX11_waysInto_66 (lv_at hl 5 rfl) ?_
            refine lv_aload_n hx hb dX11_waysInto_68 rfl (lv_at hl 0 rfl) ?_
            refine lv_iload hx hb dX11_waysInto_69 (lv_at hl 4 rfl) ?_
            refine lv_iload_n hx hb dX11_waysInto_71 rfl (lv_at hl 1 rfl) ?_
            refine lv_iload hx hb dX11_waysInto_72 (lv_at hl 5 rfl) ?_
            refine th_callVi (n := 3) (As := [.int v27_4, .int y1, .int v53_5]) S hK hH hS (th_A.sub (by decide)) (m_X11_drawerIn l D cT T q hT hq a0 t0 (v27_4) (iv_top _) (y1) j1 (v53_5) ir6) gm_1844 gm_1841 gm_1843 gm_108 gm_124 (by decide +kernel) ⟨rfl, rfl, Nat.le_of_ble_eq_true rfl, Nat.le_of_ble_eq_true rfl⟩ t0 km_0 rfl rfl hl.1 rfl (Nat.le_of_ble_eq_true rfl) dX11_waysInto_74 ⟨Nat.zero_le _, Nat.zero_le _⟩ (fun x10 H locs ix10 hH hS hF1 => ?_)
            refine th_iast S hK hH hS ⟨36, by decide, trf9⟩ trf9 km_36 (th_in (hi := 3) ir6 (by decide)) (th_iv (iv_top _)) dX11_waysInto_77 (fun H locs hH hS hq1 => ?_)
            refine th_iinc S dX11_waysInto_78 hl (k := 5) rfl (by decide) ir6 (by decide) (fun x11 ls ex11 ix11 hl => ?_)
            have hl : lv_has ls 6 [(5, .int x11), (0, .ref a0), (1, .int y1), (2, .int v27_2), (3, .int v27_3), (4, .int v27_4)] := hl
            have ix11 : IV x11 1 4 := ix11
            refine lv_goto (tgt := 53) hx hb dX11_waysInto_81 (by decide) ?_
            exact ih53 H locs ls x11 (iv_w ix11 (by decide)) f53_v27_2 f53_v27_3 f53_v27_4 hH hS (lv_sub hl [1, 2, 3, 4, 5, 0] rfl) (th_up iv53_5 ex11 (by decide) hn53)
      have l1v27_4 := iv27_4.1; have l2v27_4 := iv27_4.2
      refine lv_iload hx hb dX11_waysInto_27 (lv_at hl 4 rfl) ?_
      refine lv_iload_n hx hb dX11_waysInto_29 rfl (lv_at hl 2 rfl) ?_
      refine lv_icmp_ge (tgt := 101) hx hb dX11_waysInto_30 (by decide) (fun c12 => ?_) (fun c12 => ?_)
      · skip
        have rlc12 : v27_2.toInt ≤ v27_4.toInt := iv_le c12
        refine lv_iload_n hx hb dX11_waysInto_101 rfl (lv_at hl 3 rfl) ?_
        exact th_iret S hK hH hS hr hlocks (th_R.i iv27_3) dX11_waysInto_102
      · skip
        have rlc12 : v27_4.toInt < v27_2.toInt := iv_nle c12
        have ir13 : IV v27_4 0 2147483646 := iv_uL iv27_4 iv27_2 (iv_nle c12) (by decide)
        have ir13a := ir13.1; have ir13b := ir13.2
        have ir14 : IV v27_2 1 2147483647 := iv_uR iv27_4 iv27_2 (iv_nle c12) (by decide)
        have ir14a := ir14.1; have ir14b := ir14.2
        refine lv_aload_n hx hb dX11_waysInto_33 rfl (lv_at hl 0 rfl) ?_
        refine lv_iload hx hb dX11_waysInto_34 (lv_at hl 4 rfl) ?_
        refine lv_iload_n hx hb dX11_waysInto_36 rfl (lv_at hl 1 rfl) ?_
        refine th_callVi (n := 2) (As := [.int v27_4, .int y1]) S hK hH hS (th_A.sub (by decide)) (m_X11_isParted l D cT T q hT hq a0 t0 (v27_4) (iv_top _) (y1) j1) gm_1840 gm_1837 gm_1839 gm_107 gm_124 (by decide +kernel) ⟨rfl, rfl, Nat.le_of_ble_eq_true rfl, Nat.le_of_ble_eq_true rfl⟩ t0 km_0 rfl rfl hl.1 rfl (Nat.le_of_ble_eq_true rfl) dX11_waysInto_37 ⟨Nat.zero_le _, Nat.zero_le _⟩ (fun x15 H locs ix15 hH hS hF1 => ?_)
        refine lv_if_ne (tgt := 46) hx hb dX11_waysInto_40 (by decide) (fun c16 => ?_) (fun c16 => ?_)
        · skip
          have rlc16 : x15.toInt ≠ (0 : Int) := iv_ne c16
          have ir17 : IV x15 1 1 := iv_cutL ix15 (iv_c (by decide) : IV 0 0 0) c16 (by decide)
          have ir17a := ir17.1; have ir17b := ir17.2
          refine lv_iload_n hx hb dX11_waysInto_46 rfl (lv_at hl 3 rfl) ?_
          refine lv_if_ne (tgt := 92) hx hb dX11_waysInto_47 (by decide) (fun c18 => ?_) (fun c18 => ?_)
          · skip
            have rlc18 : v27_3.toInt ≠ (0 : Int) := iv_ne c18
            exact J92 H locs ls ir14 ir13 hH hS (lv_sub hl [0, 1, 2, 3, 4] rfl)
          · skip
            have rlc18 : v27_3.toInt = (0 : Int) := congrArg Int32.toInt c18
            have ir19 : IV v27_3 0 0 := iv_eL c18 (iv_c (by decide) : IV 0 0 0)
            have ir19a := ir19.1; have ir19b := ir19.2
            refine lv_iconst (v := 0) hx hb dX11_waysInto_50 (by decide) ?_
            refine lv_istore (lv' := [(5, .int 0), (0, .ref a0), (1, .int y1), (2, .int v27_2), (3, .int v27_3), (4, .int v27_4)]) hx hb dX11_waysInto_51 hl (by decide) rfl (fun ls hl => ?_)
            exact J53 ((4 + 1 - Int32.toInt 0).toNat + 1) H locs ls 0 (iv_w (iv_c (by decide) : IV 0 0 0) (by decide)) ir14 ir19 ir13 hH hS (lv_sub hl [1, 2, 3, 4, 5, 0] rfl) (Nat.lt_succ_self _)
        · skip
          have rlc16 : x15.toInt = (0 : Int) := congrArg Int32.toInt c16
          have ir20 : IV x15 0 0 := iv_eL c16 (iv_c (by decide) : IV 0 0 0)
          have ir20a := ir20.1; have ir20b := ir20.2
          refine lv_goto (tgt := 95) hx hb dX11_waysInto_43 (by decide) ?_
          exact J95 H locs ls v27_3 iv27_3 ir14 ir13 hH hS (lv_sub hl [0, 1, 2, 3, 4] rfl)
  have J4 : ∀ (n : Nat) (H : Heap) (locs : List Loc) (ls : Array Slot) (v4_2 : Int32) (v4_3 : Int32), IV v4_2 (-2147483648) 2147483647 → IV v4_3 0 4 → th_H D cT T (km q) H → va_S (th_A T [0, 36]) s.heap H locs → lv_has ls 6 [(0, .ref a0), (1, .int y1), (2, .int v4_2), (3, .int v4_3)] → (4 + 1 - Int32.toInt v4_3).toNat < n → W p l e (rmk 3 69) s m [.ref a0, .int y1].toArray below meth c H locs 0 0 (MQ below (th_Q D cT T (km q) (th_R T (some (.inl (-2147483648, 2147483647)))) [0, 36]) [.ref a0, .int y1].toArray s 0 0 (th_A T [0, 36])) (F0 m 4 ls []) := by
    intro n
    induction n with
    | zero => intro H locs ls v4_2 v4_3 iv4_2 iv4_3 hH hS hl hn; exact absurd hn (Nat.not_lt_zero _)
    | succ n ih4 =>
      intro H locs ls v4_2 v4_3 iv4_2 iv4_3 hH hS hl hn4
      have l1v4_3 := iv4_3.1; have l2v4_3 := iv4_3.2
      refine lv_iload_n hx hb dX11_waysInto_4 rfl (lv_at hl 3 rfl) ?_
      refine lv_aload_n hx hb dX11_waysInto_5 rfl (lv_at hl 0 rfl) ?_
      refine th_callVp (n := 0) (As := []) S hK hH hS (th_A.sub (by decide)) (m_X11_many l D cT T q hT hq a0 t0) gm_1229 gm_1226 gm_1228 gm_46 gm_124 (by decide +kernel) ⟨rfl, rfl, Nat.le_of_ble_eq_true rfl, Nat.le_of_ble_eq_true rfl⟩ t0 km_0 rfl rfl hl.1 rfl (Nat.le_of_ble_eq_true rfl) dX11_waysInto_6 ⟨Nat.zero_le _, Nat.zero_le _⟩ (fun x21 H locs ix21 ox21 hH hS hF1 => ?_)
      have ox21 : x21.toInt = q 11 := ox21
      refine lv_icmp_ge (tgt := 22) hx hb dX11_waysInto_9 (by decide) (fun c22 => ?_) (fun c22 => ?_)
      · skip
        have rlc22 : x21.toInt ≤ v4_3.toInt := iv_le c22
        refine lv_iconst (v := 0) hx hb dX11_waysInto_22 (by decide) ?_
        refine lv_istore_n (lv' := [(3, .int 0), (0, .ref a0), (1, .int y1), (2, .int v4_2)]) hx hb dX11_waysInto_23 rfl hl (by decide) rfl (fun ls hl => ?_)
        refine lv_iconst (v := 0) hx hb dX11_waysInto_24 (by decide) ?_
        refine lv_istore (lv' := [(4, .int 0), (3, .int 0), (0, .ref a0), (1, .int y1), (2, .int v4_2)]) hx hb dX11_waysInto_25 hl (by decide) rfl (fun ls hl => ?_)
        exact J27 ((2147483647 + 1 - Int32.toInt 0).toNat + 1) H locs ls v4_2 0 0 iv4_2 (iv_top _) (iv_w (iv_c (by decide) : IV 0 0 0) (by decide)) hH hS (lv_sub hl [2, 3, 4, 1, 0] rfl) (Nat.lt_succ_self _)
      · skip
        have rlc22 : v4_3.toInt < x21.toInt := iv_nle c22
        have ir23 : IV v4_3 0 3 := iv_uL iv4_3 ix21 (iv_nle c22) (by decide)
        have ir23a := ir23.1; have ir23b := ir23.2
        have ir24 : IV x21 1 4 := iv_uR iv4_3 ix21 (iv_nle c22) (by decide)
        have ir24a := ir24.1; have ir24b := ir24.2
        refine lv_iload_n hx hb dX11_waysInto_12 rfl (lv_at hl 2 rfl) ?_
        refine lv_iload_n hx hb dX11_waysInto_13 rfl (lv_at hl 1 rfl) ?_
        refine lv_imul hx hb dX11_waysInto_14 ?_
        refine lv_topi (fun x25 ex25 => ?_)
        have ix25 := iv_top x25
        refine lv_istore_n (lv' := [(2, .int x25), (0, .ref a0), (1, .int y1), (3, .int v4_3)]) hx hb dX11_waysInto_15 rfl hl (by decide) rfl (fun ls hl => ?_)
        refine th_iinc S dX11_waysInto_16 hl (k := 3) rfl (by decide) ir23 (by decide) (fun x26 ls ex26 ix26 hl => ?_)
        have hl : lv_has ls 6 [(3, .int x26), (2, .int x25), (0, .ref a0), (1, .int y1)] := hl
        have ix26 : IV x26 1 4 := ix26
        refine lv_goto (tgt := 4) hx hb dX11_waysInto_19 (by decide) ?_
        exact ih4 H locs ls x25 x26 ix25 (iv_w ix26 (by decide)) hH hS (lv_sub hl [2, 3, 1, 0] rfl) (th_up iv4_3 ex26 (by decide) hn4)
  have J0 : ∀ (H : Heap) (locs : List Loc) (ls : Array Slot), th_H D cT T (km q) H → va_S (th_A T [0, 36]) s.heap H locs → lv_has ls 6 [(0, .ref a0), (1, .int y1)] → W p l e (rmk 3 69) s m [.ref a0, .int y1].toArray below meth c H locs 0 0 (MQ below (th_Q D cT T (km q) (th_R T (some (.inl (-2147483648, 2147483647)))) [0, 36]) [.ref a0, .int y1].toArray s 0 0 (th_A T [0, 36])) (F0 m 0 ls []) := by
    intro H locs ls hH hS hl
    refine lv_iconst (v := 1) hx hb dX11_waysInto_0 (by decide) ?_
    refine lv_istore_n (lv' := [(2, .int 1), (0, .ref a0), (1, .int y1)]) hx hb dX11_waysInto_1 rfl hl (by decide) rfl (fun ls hl => ?_)
    refine lv_iconst (v := 0) hx hb dX11_waysInto_2 (by decide) ?_
    refine lv_istore_n (lv' := [(3, .int 0), (2, .int 1), (0, .ref a0), (1, .int y1)]) hx hb dX11_waysInto_3 rfl hl (by decide) rfl (fun ls hl => ?_)
    exact J4 ((4 + 1 - Int32.toInt 0).toNat + 1) H locs ls 1 0 (iv_top _) (iv_w (iv_c (by decide) : IV 0 0 0) (by decide)) hH hS (lv_sub hl [2, 3, 1, 0] rfl) (Nat.lt_succ_self _)
  exact J0 s.heap [] ls hH va_S.rf hl
