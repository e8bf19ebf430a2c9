theorem dX11_keep_0 : decode cX11_keep 0 = .ok (.aload_n 0, 1) := by decide +kernel
theorem dX11_keep_1 : decode cX11_keep 1 = .ok (.iconst 0, 1) := by decide +kernel
theorem dX11_keep_2 : decode cX11_keep 2 = .ok (.putfield 404, 3) := by decide +kernel
theorem dX11_keep_5 : decode cX11_keep 5 = .ok (.aload_n 0, 1) := by decide +kernel
theorem dX11_keep_6 : decode cX11_keep 6 = .ok (.iload_n 1, 1) := by decide +kernel
theorem dX11_keep_7 : decode cX11_keep 7 = .ok (.invokevirtual 437, 3) := by decide +kernel
theorem dX11_keep_10 : decode cX11_keep 10 = .ok (.ifCond .eq 32, 3) := by decide +kernel
theorem dX11_keep_13 : decode cX11_keep 13 = .ok (.iload_n 2, 1) := by decide +kernel
theorem dX11_keep_14 : decode cX11_keep 14 = .ok (.iconst 0, 1) := by decide +kernel
theorem dX11_keep_15 : decode cX11_keep 15 = .ok (.bipush 12, 2) := by decide +kernel
theorem dX11_keep_17 : decode cX11_keep 17 = .ok (.invokestatic 387, 3) := by decide +kernel
theorem dX11_keep_20 : decode cX11_keep 20 = .ok (.ifCond .eq 22, 3) := by decide +kernel
theorem dX11_keep_23 : decode cX11_keep 23 = .ok (.aload_n 0, 1) := by decide +kernel
theorem dX11_keep_24 : decode cX11_keep 24 = .ok (.invokevirtual 384, 3) := by decide +kernel
theorem dX11_keep_27 : decode cX11_keep 27 = .ok (.ifCond .eq 15, 3) := by decide +kernel
theorem dX11_keep_30 : decode cX11_keep 30 = .ok (.aload_n 0, 1) := by decide +kernel
theorem dX11_keep_31 : decode cX11_keep 31 = .ok (.getfield 113, 3) := by decide +kernel
theorem dX11_keep_34 : decode cX11_keep 34 = .ok (.iconst 0, 1) := by decide +kernel
theorem dX11_keep_35 : decode cX11_keep 35 = .ok (.iload_n 1, 1) := by decide +kernel
theorem dX11_keep_36 : decode cX11_keep 36 = .ok (.iadd, 1) := by decide +kernel
theorem dX11_keep_37 : decode cX11_keep 37 = .ok (.iaload, 1) := by decide +kernel
theorem dX11_keep_38 : decode cX11_keep 38 = .ok (.iload_n 2, 1) := by decide +kernel
theorem dX11_keep_39 : decode cX11_keep 39 = .ok (.if_icmp .ge 5, 3) := by decide +kernel
theorem dX11_keep_42 : decode cX11_keep 42 = .ok (.iconst (-1), 1) := by decide +kernel
theorem dX11_keep_43 : decode cX11_keep 43 = .ok (.ireturn, 1) := by decide +kernel
theorem dX11_keep_44 : decode cX11_keep 44 = .ok (.aload_n 0, 1) := by decide +kernel
theorem dX11_keep_45 : decode cX11_keep 45 = .ok (.invokevirtual 453, 3) := by decide +kernel
theorem dX11_keep_48 : decode cX11_keep 48 = .ok (.iconst (-1), 1) := by decide +kernel
theorem dX11_keep_49 : decode cX11_keep 49 = .ok (.istore_n 3, 1) := by decide +kernel
theorem dX11_keep_50 : decode cX11_keep 50 = .ok (.aload_n 0, 1) := by decide +kernel
theorem dX11_keep_51 : decode cX11_keep 51 = .ok (.iload_n 2, 1) := by decide +kernel
theorem dX11_keep_52 : decode cX11_keep 52 = .ok (.invokevirtual 477, 3) := by decide +kernel
theorem dX11_keep_55 : decode cX11_keep 55 = .ok (.iconst 1, 1) := by decide +kernel
theorem dX11_keep_56 : decode cX11_keep 56 = .ok (.istore 4, 2) := by decide +kernel
theorem dX11_keep_58 : decode cX11_keep 58 = .ok (.iload 4, 2) := by decide +kernel
theorem dX11_keep_60 : decode cX11_keep 60 = .ok (.ifCond .eq 44, 3) := by decide +kernel
theorem dX11_keep_63 : decode cX11_keep 63 = .ok (.aload_n 0, 1) := by decide +kernel
theorem dX11_keep_64 : decode cX11_keep 64 = .ok (.iload_n 1, 1) := by decide +kernel
theorem dX11_keep_65 : decode cX11_keep 65 = .ok (.invokevirtual 480, 3) := by decide +kernel
theorem dX11_keep_68 : decode cX11_keep 68 = .ok (.aload_n 0, 1) := by decide +kernel
theorem dX11_keep_69 : decode cX11_keep 69 = .ok (.invokevirtual 434, 3) := by decide +kernel
theorem dX11_keep_72 : decode cX11_keep 72 = .ok (.aload_n 0, 1) := by decide +kernel
theorem dX11_keep_73 : decode cX11_keep 73 = .ok (.invokevirtual 474, 3) := by decide +kernel
theorem dX11_keep_76 : decode cX11_keep 76 = .ok (.istore 5, 2) := by decide +kernel
theorem dX11_keep_78 : decode cX11_keep 78 = .ok (.aload_n 0, 1) := by decide +kernel
theorem dX11_keep_79 : decode cX11_keep 79 = .ok (.invokevirtual 468, 3) := by decide +kernel
theorem dX11_keep_82 : decode cX11_keep 82 = .ok (.iload 5, 2) := by decide +kernel
theorem dX11_keep_84 : decode cX11_keep 84 = .ok (.iload_n 3, 1) := by decide +kernel
theorem dX11_keep_85 : decode cX11_keep 85 = .ok (.if_icmp .le 10, 3) := by decide +kernel
theorem dX11_keep_88 : decode cX11_keep 88 = .ok (.iload 5, 2) := by decide +kernel
theorem dX11_keep_90 : decode cX11_keep 90 = .ok (.istore_n 3, 1) := by decide +kernel
theorem dX11_keep_91 : decode cX11_keep 91 = .ok (.aload_n 0, 1) := by decide +kernel
theorem dX11_keep_92 : decode cX11_keep 92 = .ok (.invokevirtual 483, 3) := by decide +kernel
theorem dX11_keep_95 : decode cX11_keep 95 = .ok (.aload_n 0, 1) := by decide +kernel
theorem dX11_keep_96 : decode cX11_keep 96 = .ok (.invokevirtual 486, 3) := by decide +kernel
theorem dX11_keep_99 : decode cX11_keep 99 = .ok (.istore 4, 2) := by decide +kernel
theorem dX11_keep_101 : decode cX11_keep 101 = .ok (.goto (-43), 3) := by decide +kernel
theorem dX11_keep_104 : decode cX11_keep 104 = .ok (.iload_n 3, 1) := by decide +kernel
theorem dX11_keep_105 : decode cX11_keep 105 = .ok (.ireturn, 1) := by decide +kernel
theorem dX11_folds_0 : decode cX11_folds 0 = .ok (.iload_n 1, 1) := by decide +kernel
theorem dX11_folds_1 : decode cX11_folds 1 = .ok (.iconst 1, 1) := by decide +kernel
theorem dX11_folds_2 : decode cX11_folds 2 = .ok (.bipush 20, 2) := by decide +kernel
theorem dX11_folds_4 : decode cX11_folds 4 = .ok (.invokestatic 387, 3) := by decide +kernel
theorem dX11_folds_7 : decode cX11_folds 7 = .ok (.ifCond .eq 12, 3) := by decide +kernel
theorem dX11_folds_10 : decode cX11_folds 10 = .ok (.iload_n 2, 1) := by decide +kernel
theorem dX11_folds_11 : decode cX11_folds 11 = .ok (.iconst 0, 1) := by decide +kernel
theorem dX11_folds_12 : decode cX11_folds 12 = .ok (.iconst 1, 1) := by decide +kernel
theorem dX11_folds_13 : decode cX11_folds 13 = .ok (.invokestatic 387, 3) := by decide +kernel
theorem dX11_folds_16 : decode cX11_folds 16 = .ok (.ifCond .ne 5, 3) := by decide +kernel
theorem dX11_folds_19 : decode cX11_folds 19 = .ok (.iconst (-1), 1) := by decide +kernel
theorem dX11_folds_20 : decode cX11_folds 20 = .ok (.ireturn, 1) := by decide +kernel
theorem dX11_folds_21 : decode cX11_folds 21 = .ok (.aload_n 0, 1) := by decide +kernel
theorem dX11_folds_22 : decode cX11_folds 22 = .ok (.invokevirtual 453, 3) := by decide +kernel
theorem dX11_folds_25 : decode cX11_folds 25 = .ok (.iconst (-1), 1) := by decide +kernel
theorem dX11_folds_26 : decode cX11_folds 26 = .ok (.istore_n 3, 1) := by decide +kernel
theorem dX11_folds_27 : decode cX11_folds 27 = .ok (.iconst 0, 1) := by decide +kernel
theorem dX11_folds_28 : decode cX11_folds 28 = .ok (.istore 4, 2) := by decide +kernel
theorem dX11_folds_30 : decode cX11_folds 30 = .ok (.iload 4, 2) := by decide +kernel
theorem dX11_folds_32 : decode cX11_folds 32 = .ok (.iconst 1, 1) := by decide +kernel
theorem dX11_folds_33 : decode cX11_folds 33 = .ok (.aload_n 0, 1) := by decide +kernel
theorem dX11_folds_34 : decode cX11_folds 34 = .ok (.invokevirtual 384, 3) := by decide +kernel
theorem dX11_folds_37 : decode cX11_folds 37 = .ok (.ishl, 1) := by decide +kernel
theorem dX11_folds_38 : decode cX11_folds 38 = .ok (.if_icmp .ge 93, 3) := by decide +kernel
theorem dX11_folds_41 : decode cX11_folds 41 = .ok (.iload 4, 2) := by decide +kernel
theorem dX11_folds_43 : decode cX11_folds 43 = .ok (.aload_n 0, 1) := by decide +kernel
theorem dX11_folds_44 : decode cX11_folds 44 = .ok (.getfield 113, 3) := by decide +kernel
theorem dX11_folds_47 : decode cX11_folds 47 = .ok (.bipush 39, 2) := by decide +kernel
theorem dX11_folds_49 : decode cX11_folds 49 = .ok (.iaload, 1) := by decide +kernel
theorem dX11_folds_50 : decode cX11_folds 50 = .ok (.iand, 1) := by decide +kernel
theorem dX11_folds_51 : decode cX11_folds 51 = .ok (.ifCond .ne 74, 3) := by decide +kernel
theorem dX11_folds_54 : decode cX11_folds 54 = .ok (.iload_n 3, 1) := by decide +kernel
theorem dX11_folds_55 : decode cX11_folds 55 = .ok (.ifCond .lt 18, 3) := by decide +kernel
theorem dX11_folds_58 : decode cX11_folds 58 = .ok (.iload 4, 2) := by decide +kernel
theorem dX11_folds_60 : decode cX11_folds 60 = .ok (.invokestatic 462, 3) := by decide +kernel
theorem dX11_folds_63 : decode cX11_folds 63 = .ok (.iload_n 3, 1) := by decide +kernel
theorem dX11_folds_64 : decode cX11_folds 64 = .ok (.invokestatic 462, 3) := by decide +kernel
theorem dX11_folds_67 : decode cX11_folds 67 = .ok (.if_icmp .lt 6, 3) := by decide +kernel
theorem dX11_folds_70 : decode cX11_folds 70 = .ok (.goto 55, 3) := by decide +kernel
theorem dX11_folds_73 : decode cX11_folds 73 = .ok (.aload_n 0, 1) := by decide +kernel
theorem dX11_folds_74 : decode cX11_folds 74 = .ok (.getfield 113, 3) := by decide +kernel
theorem dX11_folds_77 : decode cX11_folds 77 = .ok (.bipush 39, 2) := by decide +kernel
theorem dX11_folds_79 : decode cX11_folds 79 = .ok (.dup2, 1) := by decide +kernel
theorem dX11_folds_80 : decode cX11_folds 80 = .ok (.iaload, 1) := by decide +kernel
theorem dX11_folds_81 : decode cX11_folds 81 = .ok (.iload 4, 2) := by decide +kernel
theorem dX11_folds_83 : decode cX11_folds 83 = .ok (.ior, 1) := by decide +kernel
theorem dX11_folds_84 : decode cX11_folds 84 = .ok (.iastore, 1) := by decide +kernel
theorem dX11_folds_85 : decode cX11_folds 85 = .ok (.iconst 0, 1) := by decide +kernel
theorem dX11_folds_86 : decode cX11_folds 86 = .ok (.istore 5, 2) := by decide +kernel
theorem dX11_folds_88 : decode cX11_folds 88 = .ok (.iload 5, 2) := by decide +kernel
theorem dX11_folds_90 : decode cX11_folds 90 = .ok (.iload_n 1, 1) := by decide +kernel
theorem dX11_folds_91 : decode cX11_folds 91 = .ok (.if_icmp .ge 20, 3) := by decide +kernel
theorem dX11_folds_94 : decode cX11_folds 94 = .ok (.aload_n 0, 1) := by decide +kernel
theorem dX11_folds_95 : decode cX11_folds 95 = .ok (.invokevirtual 471, 3) := by decide +kernel
theorem dX11_folds_98 : decode cX11_folds 98 = .ok (.ifCond .ne 13, 3) := by decide +kernel
theorem dX11_folds_101 : decode cX11_folds 101 = .ok (.aload_n 0, 1) := by decide +kernel
theorem dX11_folds_102 : decode cX11_folds 102 = .ok (.invokevirtual 456, 3) := by decide +kernel
theorem dX11_folds_105 : decode cX11_folds 105 = .ok (.iinc 5 1, 3) := by decide +kernel
theorem dX11_folds_108 : decode cX11_folds 108 = .ok (.goto (-20), 3) := by decide +kernel
theorem dX11_folds_111 : decode cX11_folds 111 = .ok (.aload_n 0, 1) := by decide +kernel
theorem dX11_folds_112 : decode cX11_folds 112 = .ok (.invokevirtual 471, 3) := by decide +kernel
theorem dX11_folds_115 : decode cX11_folds 115 = .ok (.ifCond .ne 6, 3) := by decide +kernel
theorem dX11_folds_118 : decode cX11_folds 118 = .ok (.iload 4, 2) := by decide +kernel
theorem dX11_folds_120 : decode cX11_folds 120 = .ok (.istore_n 3, 1) := by decide +kernel
theorem dX11_folds_121 : decode cX11_folds 121 = .ok (.aload_n 0, 1) := by decide +kernel
theorem dX11_folds_122 : decode cX11_folds 122 = .ok (.invokevirtual 468, 3) := by decide +kernel
theorem dX11_folds_125 : decode cX11_folds 125 = .ok (.iinc 4 1, 3) := by decide +kernel
theorem dX11_folds_128 : decode cX11_folds 128 = .ok (.goto (-98), 3) := by decide +kernel
theorem dX11_folds_131 : decode cX11_folds 131 = .ok (.iload_n 3, 1) := by decide +kernel
theorem dX11_folds_132 : decode cX11_folds 132 = .ok (.ifCond .ge 7, 3) := by decide +kernel
theorem dX11_folds_135 : decode cX11_folds 135 = .ok (.iconst (-1), 1) := by decide +kernel
theorem dX11_folds_136 : decode cX11_folds 136 = .ok (.goto 15, 3) := by decide +kernel
theorem dX11_folds_139 : decode cX11_folds 139 = .ok (.iload_n 2, 1) := by decide +kernel
theorem dX11_folds_140 : decode cX11_folds 140 = .ok (.ifCond .ne 10, 3) := by decide +kernel
theorem dX11_folds_143 : decode cX11_folds 143 = .ok (.iload_n 3, 1) := by decide +kernel
theorem dX11_folds_144 : decode cX11_folds 144 = .ok (.invokestatic 462, 3) := by decide +kernel
theorem dX11_folds_147 : decode cX11_folds 147 = .ok (.goto 4, 3) := by decide +kernel
theorem dX11_folds_150 : decode cX11_folds 150 = .ok (.iload_n 3, 1) := by decide +kernel
theorem dX11_folds_151 : decode cX11_folds 151 = .ok (.ireturn, 1) := by decide +kernel
theorem dX11_drawerIn_0 : decode cX11_drawerIn 0 = .ok (.iload_n 1, 1) := by decide +kernel
theorem dX11_drawerIn_1 : decode cX11_drawerIn 1 = .ok (.istore 4, 2) := by decide +kernel
theorem dX11_drawerIn_3 : decode cX11_drawerIn 3 = .ok (.aload_n 0, 1) := by decide +kernel
theorem dX11_drawerIn_4 : decode cX11_drawerIn 4 = .ok (.invokevirtual 384, 3) := by decide +kernel
theorem dX11_drawerIn_7 : decode cX11_drawerIn 7 = .ok (.iconst 1, 1) := by decide +kernel
theorem dX11_drawerIn_8 : decode cX11_drawerIn 8 = .ok (.isub, 1) := by decide +kernel
theorem dX11_drawerIn_9 : decode cX11_drawerIn 9 = .ok (.istore 5, 2) := by decide +kernel
theorem dX11_drawerIn_11 : decode cX11_drawerIn 11 = .ok (.iload 5, 2) := by decide +kernel
theorem dX11_drawerIn_13 : decode cX11_drawerIn 13 = .ok (.iload_n 3, 1) := by decide +kernel
theorem dX11_drawerIn_14 : decode cX11_drawerIn 14 = .ok (.if_icmp .le 15, 3) := by decide +kernel
theorem dX11_drawerIn_17 : decode cX11_drawerIn 17 = .ok (.iload 4, 2) := by decide +kernel
theorem dX11_drawerIn_19 : decode cX11_drawerIn 19 = .ok (.iload_n 2, 1) := by decide +kernel
theorem dX11_drawerIn_20 : decode cX11_drawerIn 20 = .ok (.idiv, 1) := by decide +kernel
theorem dX11_drawerIn_21 : decode cX11_drawerIn 21 = .ok (.istore 4, 2) := by decide +kernel
theorem dX11_drawerIn_23 : decode cX11_drawerIn 23 = .ok (.iinc 5 (-1), 3) := by decide +kernel
theorem dX11_drawerIn_26 : decode cX11_drawerIn 26 = .ok (.goto (-15), 3) := by decide +kernel
theorem dX11_drawerIn_29 : decode cX11_drawerIn 29 = .ok (.iload 4, 2) := by decide +kernel
theorem dX11_drawerIn_31 : decode cX11_drawerIn 31 = .ok (.iload_n 2, 1) := by decide +kernel
theorem dX11_drawerIn_32 : decode cX11_drawerIn 32 = .ok (.irem, 1) := by decide +kernel
theorem dX11_drawerIn_33 : decode cX11_drawerIn 33 = .ok (.ireturn, 1) := by decide +kernel
theorem dX11_isParted_0 : decode cX11_isParted 0 = .ok (.iconst 0, 1) := by decide +kernel
theorem dX11_isParted_1 : decode cX11_isParted 1 = .ok (.istore_n 3, 1) := by decide +kernel
theorem dX11_isParted_2 : decode cX11_isParted 2 = .ok (.iload_n 3, 1) := by decide +kernel
theorem dX11_isParted_3 : decode cX11_isParted 3 = .ok (.aload_n 0, 1) := by decide +kernel
theorem dX11_isParted_4 : decode cX11_isParted 4 = .ok (.invokevirtual 384, 3) := by decide +kernel
theorem dX11_isParted_7 : decode cX11_isParted 7 = .ok (.if_icmp .ge 65, 3) := by decide +kernel
theorem dX11_isParted_10 : decode cX11_isParted 10 = .ok (.iconst 0, 1) := by decide +kernel
theorem dX11_isParted_11 : decode cX11_isParted 11 = .ok (.istore 4, 2) := by decide +kernel
theorem dX11_isParted_13 : decode cX11_isParted 13 = .ok (.iload 4, 2) := by decide +kernel
theorem dX11_isParted_15 : decode cX11_isParted 15 = .ok (.iload_n 3, 1) := by decide +kernel
theorem dX11_isParted_16 : decode cX11_isParted 16 = .ok (.if_icmp .ge 50, 3) := by decide +kernel
theorem dX11_isParted_19 : decode cX11_isParted 19 = .ok (.aload_n 0, 1) := by decide +kernel
theorem dX11_isParted_20 : decode cX11_isParted 20 = .ok (.getfield 54, 3) := by decide +kernel
theorem dX11_isParted_23 : decode cX11_isParted 23 = .ok (.iconst 4, 1) := by decide +kernel
theorem dX11_isParted_24 : decode cX11_isParted 24 = .ok (.aload_n 0, 1) := by decide +kernel
theorem dX11_isParted_25 : decode cX11_isParted 25 = .ok (.getfield 273, 3) := by decide +kernel
theorem dX11_isParted_28 : decode cX11_isParted 28 = .ok (.imul, 1) := by decide +kernel
theorem dX11_isParted_29 : decode cX11_isParted 29 = .ok (.iload_n 3, 1) := by decide +kernel
theorem dX11_isParted_30 : decode cX11_isParted 30 = .ok (.iadd, 1) := by decide +kernel
theorem dX11_isParted_31 : decode cX11_isParted 31 = .ok (.iaload, 1) := by decide +kernel
theorem dX11_isParted_32 : decode cX11_isParted 32 = .ok (.iload 4, 2) := by decide +kernel
theorem dX11_isParted_34 : decode cX11_isParted 34 = .ok (.invokestatic 391, 3) := by decide +kernel
theorem dX11_isParted_37 : decode cX11_isParted 37 = .ok (.ifCond .eq 23, 3) := by decide +kernel
theorem dX11_isParted_40 : decode cX11_isParted 40 = .ok (.aload_n 0, 1) := by decide +kernel
theorem dX11_isParted_41 : decode cX11_isParted 41 = .ok (.iload_n 1, 1) := by decide +kernel
theorem dX11_isParted_42 : decode cX11_isParted 42 = .ok (.iload_n 2, 1) := by decide +kernel
theorem dX11_isParted_43 : decode cX11_isParted 43 = .ok (.iload_n 3, 1) := by decide +kernel
theorem dX11_isParted_44 : decode cX11_isParted 44 = .ok (.invokevirtual 489, 3) := by decide +kernel
theorem dX11_isParted_47 : decode cX11_isParted 47 = .ok (.aload_n 0, 1) := by decide +kernel
theorem dX11_isParted_48 : decode cX11_isParted 48 = .ok (.iload_n 1, 1) := by decide +kernel
theorem dX11_isParted_49 : decode cX11_isParted 49 = .ok (.iload_n 2, 1) := by decide +kernel
theorem dX11_isParted_50 : decode cX11_isParted 50 = .ok (.iload 4, 2) := by decide +kernel
theorem dX11_isParted_52 : decode cX11_isParted 52 = .ok (.invokevirtual 489, 3) := by decide +kernel
theorem dX11_isParted_55 : decode cX11_isParted 55 = .ok (.if_icmp .ne 5, 3) := by decide +kernel
theorem dX11_isParted_58 : decode cX11_isParted 58 = .ok (.iconst 0, 1) := by decide +kernel
theorem dX11_isParted_59 : decode cX11_isParted 59 = .ok (.ireturn, 1) := by decide +kernel
theorem dX11_isParted_60 : decode cX11_isParted 60 = .ok (.iinc 4 1, 3) := by decide +kernel
theorem dX11_isParted_63 : decode cX11_isParted 63 = .ok (.goto (-50), 3) := by decide +kernel
theorem dX11_isParted_66 : decode cX11_isParted 66 = .ok (.iinc 3 1, 3) := by decide +kernel
theorem dX11_isParted_69 : decode cX11_isParted 69 = .ok (.goto (-67), 3) := by decide +kernel
theorem dX11_isParted_72 : decode cX11_isParted 72 = .ok (.iconst 1, 1) := by decide +kernel
theorem dX11_isParted_73 : decode cX11_isParted 73 = .ok (.ireturn, 1) := by decide +kernel
theorem dX11_waysInto_0 : decode cX11_waysInto 0 = .ok (.iconst 1, 1) := by decide +kernel
theorem dX11_waysInto_1 : decode cX11_waysInto 1 = .ok (.istore_n 2, 1) := by decide +kernel
theorem dX11_waysInto_2 : decode cX11_waysInto 2 = .ok (.iconst 0, 1) := by decide +kernel
theorem dX11_waysInto_3 : decode cX11_waysInto 3 = .ok (.istore_n 3, 1) := by decide +kernel
theorem dX11_waysInto_4 : decode cX11_waysInto 4 = .ok (.iload_n 3, 1) := by decide +kernel
theorem dX11_waysInto_5 : decode cX11_waysInto 5 = .ok (.aload_n 0, 1) := by decide +kernel
theorem dX11_waysInto_6 : decode cX11_waysInto 6 = .ok (.invokevirtual 384, 3) := by decide +kernel
theorem dX11_waysInto_9 : decode cX11_waysInto 9 = .ok (.if_icmp .ge 13, 3) := by decide +kernel
theorem dX11_waysInto_12 : decode cX11_waysInto 12 = .ok (.iload_n 2, 1) := by decide +kernel
theorem dX11_waysInto_13 : decode cX11_waysInto 13 = .ok (.iload_n 1, 1) := by decide +kernel
theorem dX11_waysInto_14 : decode cX11_waysInto 14 = .ok (.imul, 1) := by decide +kernel
theorem dX11_waysInto_15 : decode cX11_waysInto 15 = .ok (.istore_n 2, 1) := by decide +kernel
theorem dX11_waysInto_16 : decode cX11_waysInto 16 = .ok (.iinc 3 1, 3) := by decide +kernel
theorem dX11_waysInto_19 : decode cX11_waysInto 19 = .ok (.goto (-15), 3) := by decide +kernel
theorem dX11_waysInto_22 : decode cX11_waysInto 22 = .ok (.iconst 0, 1) := by decide +kernel
theorem dX11_waysInto_23 : decode cX11_waysInto 23 = .ok (.istore_n 3, 1) := by decide +kernel
theorem dX11_waysInto_24 : decode cX11_waysInto 24 = .ok (.iconst 0, 1) := by decide +kernel
theorem dX11_waysInto_25 : decode cX11_waysInto 25 = .ok (.istore 4, 2) := by decide +kernel
theorem dX11_waysInto_27 : decode cX11_waysInto 27 = .ok (.iload 4, 2) := by decide +kernel
theorem dX11_waysInto_29 : decode cX11_waysInto 29 = .ok (.iload_n 2, 1) := by decide +kernel
theorem dX11_waysInto_30 : decode cX11_waysInto 30 = .ok (.if_icmp .ge 71, 3) := by decide +kernel
theorem dX11_waysInto_33 : decode cX11_waysInto 33 = .ok (.aload_n 0, 1) := by decide +kernel
theorem dX11_waysInto_34 : decode cX11_waysInto 34 = .ok (.iload 4, 2) := by decide +kernel
theorem dX11_waysInto_36 : decode cX11_waysInto 36 = .ok (.iload_n 1, 1) := by decide +kernel
theorem dX11_waysInto_37 : decode cX11_waysInto 37 = .ok (.invokevirtual 492, 3) := by decide +kernel
theorem dX11_waysInto_40 : decode cX11_waysInto 40 = .ok (.ifCond .ne 6, 3) := by decide +kernel
theorem dX11_waysInto_43 : decode cX11_waysInto 43 = .ok (.goto 52, 3) := by decide +kernel
theorem dX11_waysInto_46 : decode cX11_waysInto 46 = .ok (.iload_n 3, 1) := by decide +kernel
theorem dX11_waysInto_47 : decode cX11_waysInto 47 = .ok (.ifCond .ne 45, 3) := by decide +kernel
theorem dX11_waysInto_50 : decode cX11_waysInto 50 = .ok (.iconst 0, 1) := by decide +kernel
theorem dX11_waysInto_51 : decode cX11_waysInto 51 = .ok (.istore 5, 2) := by decide +kernel
theorem dX11_waysInto_53 : decode cX11_waysInto 53 = .ok (.iload 5, 2) := by decide +kernel
theorem dX11_waysInto_55 : decode cX11_waysInto 55 = .ok (.aload_n 0, 1) := by decide +kernel
theorem dX11_waysInto_56 : decode cX11_waysInto 56 = .ok (.invokevirtual 384, 3) := by decide +kernel
theorem dX11_waysInto_59 : decode cX11_waysInto 59 = .ok (.if_icmp .ge 25, 3) := by decide +kernel
theorem dX11_waysInto_62 : decode cX11_waysInto 62 = .ok (.aload_n 0, 1) := by decide +kernel
theorem dX11_waysInto_63 : decode cX11_waysInto 63 = .ok (.getfield 122, 3) := by decide +kernel
theorem dX11_waysInto_66 : decode cX11_waysInto 66 = .ok (.iload 5, 2) := by decide +kernel
theorem dX11_waysInto_68 : decode cX11_waysInto 68 = .ok (.aload_n 0, 1) := by decide +kernel
theorem dX11_waysInto_69 : decode cX11_waysInto 69 = .ok (.iload 4, 2) := by decide +kernel
theorem dX11_waysInto_71 : decode cX11_waysInto 71 = .ok (.iload_n 1, 1) := by decide +kernel
theorem dX11_waysInto_72 : decode cX11_waysInto 72 = .ok (.iload 5, 2) := by decide +kernel
theorem dX11_waysInto_74 : decode cX11_waysInto 74 = .ok (.invokevirtual 489, 3) := by decide +kernel
theorem dX11_waysInto_77 : decode cX11_waysInto 77 = .ok (.iastore, 1) := by decide +kernel
theorem dX11_waysInto_78 : decode cX11_waysInto 78 = .ok (.iinc 5 1, 3) := by decide +kernel
theorem dX11_waysInto_81 : decode cX11_waysInto 81 = .ok (.goto (-28), 3) := by decide +kernel
theorem dX11_waysInto_84 : decode cX11_waysInto 84 = .ok (.aload_n 0, 1) := by decide +kernel
theorem dX11_waysInto_85 : decode cX11_waysInto 85 = .ok (.aload_n 0, 1) := by decide +kernel
theorem dX11_waysInto_86 : decode cX11_waysInto 86 = .ok (.invokevirtual 384, 3) := by decide +kernel
theorem dX11_waysInto_89 : decode cX11_waysInto 89 = .ok (.putfield 404, 3) := by decide +kernel
theorem dX11_waysInto_92 : decode cX11_waysInto 92 = .ok (.iinc 3 1, 3) := by decide +kernel
theorem dX11_waysInto_95 : decode cX11_waysInto 95 = .ok (.iinc 4 1, 3) := by decide +kernel
theorem dX11_waysInto_98 : decode cX11_waysInto 98 = .ok (.goto (-71), 3) := by decide +kernel
theorem dX11_waysInto_101 : decode cX11_waysInto 101 = .ok (.iload_n 3, 1) := by decide +kernel
theorem dX11_waysInto_102 : decode cX11_waysInto 102 = .ok (.ireturn, 1) := by decide +kernel
theorem dX11_drawers_0 : decode cX11_drawers 0 = .ok (.aload_n 0, 1) := by decide +kernel
theorem dX11_drawers_1 : decode cX11_drawers 1 = .ok (.iconst 0, 1) := by decide +kernel
theorem dX11_drawers_2 : decode cX11_drawers 2 = .ok (.putfield 404, 3) := by decide +kernel
theorem dX11_drawers_5 : decode cX11_drawers 5 = .ok (.iload_n 1, 1) := by decide +kernel
theorem dX11_drawers_6 : decode cX11_drawers 6 = .ok (.iconst 1, 1) := by decide +kernel
theorem dX11_drawers_7 : decode cX11_drawers 7 = .ok (.iconst 4, 1) := by decide +kernel
theorem dX11_drawers_8 : decode cX11_drawers 8 = .ok (.invokestatic 387, 3) := by decide +kernel
theorem dX11_drawers_11 : decode cX11_drawers 11 = .ok (.ifCond .eq 11, 3) := by decide +kernel
theorem dX11_drawers_14 : decode cX11_drawers 14 = .ok (.aload_n 0, 1) := by decide +kernel
theorem dX11_drawers_15 : decode cX11_drawers 15 = .ok (.iload_n 1, 1) := by decide +kernel
theorem dX11_drawers_16 : decode cX11_drawers 16 = .ok (.invokevirtual 495, 3) := by decide +kernel
theorem dX11_drawers_19 : decode cX11_drawers 19 = .ok (.goto 4, 3) := by decide +kernel
theorem dX11_drawers_22 : decode cX11_drawers 22 = .ok (.iconst (-1), 1) := by decide +kernel
theorem dX11_drawers_23 : decode cX11_drawers 23 = .ok (.ireturn, 1) := by decide +kernel
theorem dX11_least_0 : decode cX11_least 0 = .ok (.aload_n 0, 1) := by decide +kernel
theorem dX11_least_1 : decode cX11_least 1 = .ok (.invokevirtual 384, 3) := by decide +kernel
theorem dX11_least_4 : decode cX11_least 4 = .ok (.ifCond .ne 5, 3) := by decide +kernel
theorem dX11_least_7 : decode cX11_least 7 = .ok (.iconst 0, 1) := by decide +kernel
theorem dX11_least_8 : decode cX11_least 8 = .ok (.ireturn, 1) := by decide +kernel
theorem dX11_least_9 : decode cX11_least 9 = .ok (.aload_n 0, 1) := by decide +kernel
theorem dX11_least_10 : decode cX11_least 10 = .ok (.getfield 404, 3) := by decide +kernel
theorem dX11_least_13 : decode cX11_least 13 = .ok (.istore_n 1, 1) := by decide +kernel
theorem dX11_least_14 : decode cX11_least 14 = .ok (.iconst 0, 1) := by decide +kernel
theorem dX11_least_15 : decode cX11_least 15 = .ok (.istore_n 2, 1) := by decide +kernel
theorem dX11_least_16 : decode cX11_least 16 = .ok (.iload_n 2, 1) := by decide +kernel
theorem dX11_least_17 : decode cX11_least 17 = .ok (.iconst 4, 1) := by decide +kernel
theorem dX11_least_18 : decode cX11_least 18 = .ok (.if_icmp .ge 21, 3) := by decide +kernel
theorem dX11_least_21 : decode cX11_least 21 = .ok (.aload_n 0, 1) := by decide +kernel
theorem dX11_least_22 : decode cX11_least 22 = .ok (.getfield 125, 3) := by decide +kernel
theorem dX11_least_25 : decode cX11_least 25 = .ok (.iload_n 2, 1) := by decide +kernel
theorem dX11_least_26 : decode cX11_least 26 = .ok (.aload_n 0, 1) := by decide +kernel
theorem dX11_least_27 : decode cX11_least 27 = .ok (.getfield 122, 3) := by decide +kernel
theorem dX11_least_30 : decode cX11_least 30 = .ok (.iload_n 2, 1) := by decide +kernel
theorem dX11_least_31 : decode cX11_least 31 = .ok (.iaload, 1) := by decide +kernel
theorem dX11_least_32 : decode cX11_least 32 = .ok (.iastore, 1) := by decide +kernel
theorem dX11_least_33 : decode cX11_least 33 = .ok (.iinc 2 1, 3) := by decide +kernel
theorem dX11_least_36 : decode cX11_least 36 = .ok (.goto (-20), 3) := by decide +kernel
theorem dX11_least_39 : decode cX11_least 39 = .ok (.iconst (-1), 1) := by decide +kernel
theorem dX11_least_40 : decode cX11_least 40 = .ok (.istore_n 2, 1) := by decide +kernel
theorem dX11_least_41 : decode cX11_least 41 = .ok (.iconst 4, 1) := by decide +kernel
theorem dX11_least_42 : decode cX11_least 42 = .ok (.istore_n 3, 1) := by decide +kernel
theorem dX11_least_43 : decode cX11_least 43 = .ok (.iload_n 3, 1) := by decide +kernel
theorem dX11_least_44 : decode cX11_least 44 = .ok (.iconst 1, 1) := by decide +kernel
theorem dX11_least_45 : decode cX11_least 45 = .ok (.if_icmp .lt 19, 3) := by decide +kernel
theorem dX11_least_48 : decode cX11_least 48 = .ok (.aload_n 0, 1) := by decide +kernel
theorem dX11_least_49 : decode cX11_least 49 = .ok (.iload_n 3, 1) := by decide +kernel
theorem dX11_least_50 : decode cX11_least 50 = .ok (.invokevirtual 495, 3) := by decide +kernel
theorem dX11_least_53 : decode cX11_least 53 = .ok (.ifCond .le 5, 3) := by decide +kernel
theorem dX11_least_56 : decode cX11_least 56 = .ok (.iload_n 3, 1) := by decide +kernel
theorem dX11_least_57 : decode cX11_least 57 = .ok (.istore_n 2, 1) := by decide +kernel
theorem dX11_least_58 : decode cX11_least 58 = .ok (.iinc 3 (-1), 3) := by decide +kernel
theorem dX11_least_61 : decode cX11_least 61 = .ok (.goto (-18), 3) := by decide +kernel
theorem dX11_least_64 : decode cX11_least 64 = .ok (.aload_n 0, 1) := by decide +kernel
theorem dX11_least_65 : decode cX11_least 65 = .ok (.iload_n 1, 1) := by decide +kernel
theorem dX11_least_66 : decode cX11_least 66 = .ok (.putfield 404, 3) := by decide +kernel
theorem dX11_least_69 : decode cX11_least 69 = .ok (.iconst 0, 1) := by decide +kernel
theorem dX11_least_70 : decode cX11_least 70 = .ok (.istore_n 3, 1) := by decide +kernel
theorem dX11_least_71 : decode cX11_least 71 = .ok (.iload_n 3, 1) := by decide +kernel
theorem dX11_least_72 : decode cX11_least 72 = .ok (.iconst 4, 1) := by decide +kernel
theorem dX11_least_73 : decode cX11_least 73 = .ok (.if_icmp .ge 21, 3) := by decide +kernel
theorem dX11_least_76 : decode cX11_least 76 = .ok (.aload_n 0, 1) := by decide +kernel
theorem dX11_least_77 : decode cX11_least 77 = .ok (.getfield 122, 3) := by decide +kernel
theorem dX11_least_80 : decode cX11_least 80 = .ok (.iload_n 3, 1) := by decide +kernel
theorem dX11_least_81 : decode cX11_least 81 = .ok (.aload_n 0, 1) := by decide +kernel
theorem dX11_least_82 : decode cX11_least 82 = .ok (.getfield 125, 3) := by decide +kernel
theorem dX11_least_85 : decode cX11_least 85 = .ok (.iload_n 3, 1) := by decide +kernel
theorem dX11_least_86 : decode cX11_least 86 = .ok (.iaload, 1) := by decide +kernel
theorem dX11_least_87 : decode cX11_least 87 = .ok (.iastore, 1) := by decide +kernel
theorem dX11_least_88 : decode cX11_least 88 = .ok (.iinc 3 1, 3) := by decide +kernel
theorem dX11_least_91 : decode cX11_least 91 = .ok (.goto (-20), 3) := by decide +kernel
theorem dX11_least_94 : decode cX11_least 94 = .ok (.iload_n 2, 1) := by decide +kernel
theorem dX11_least_95 : decode cX11_least 95 = .ok (.ireturn, 1) := by decide +kernel
theorem dX11_bites_0 : decode cX11_bites 0 = .ok (.iconst 0, 1) := by decide +kernel
theorem dX11_bites_1 : decode cX11_bites 1 = .ok (.istore_n 1, 1) := by decide +kernel
theorem dX11_bites_2 : decode cX11_bites 2 = .ok (.iconst 0, 1) := by decide +kernel
theorem dX11_bites_3 : decode cX11_bites 3 = .ok (.istore_n 2, 1) := by decide +kernel
theorem dX11_bites_4 : decode cX11_bites 4 = .ok (.iload_n 2, 1) := by decide +kernel
theorem dX11_bites_5 : decode cX11_bites 5 = .ok (.aload_n 0, 1) := by decide +kernel
theorem dX11_bites_6 : decode cX11_bites 6 = .ok (.invokevirtual 384, 3) := by decide +kernel
theorem dX11_bites_9 : decode cX11_bites 9 = .ok (.if_icmp .ge 39, 3) := by decide +kernel
theorem dX11_bites_12 : decode cX11_bites 12 = .ok (.iconst 0, 1) := by decide +kernel
theorem dX11_bites_13 : decode cX11_bites 13 = .ok (.istore_n 3, 1) := by decide +kernel
theorem dX11_bites_14 : decode cX11_bites 14 = .ok (.iload_n 3, 1) := by decide +kernel
theorem dX11_bites_15 : decode cX11_bites 15 = .ok (.iload_n 2, 1) := by decide +kernel
theorem dX11_bites_16 : decode cX11_bites 16 = .ok (.if_icmp .ge 26, 3) := by decide +kernel
theorem dX11_bites_19 : decode cX11_bites 19 = .ok (.iload_n 1, 1) := by decide +kernel
theorem dX11_bites_20 : decode cX11_bites 20 = .ok (.aload_n 0, 1) := by decide +kernel
theorem dX11_bites_21 : decode cX11_bites 21 = .ok (.iload_n 2, 1) := by decide +kernel
theorem dX11_bites_22 : decode cX11_bites 22 = .ok (.iload_n 3, 1) := by decide +kernel
theorem dX11_bites_23 : decode cX11_bites 23 = .ok (.invokevirtual 410, 3) := by decide +kernel
theorem dX11_bites_26 : decode cX11_bites 26 = .ok (.ifCond .eq 7, 3) := by decide +kernel
theorem dX11_bites_29 : decode cX11_bites 29 = .ok (.iconst 1, 1) := by decide +kernel
theorem dX11_bites_30 : decode cX11_bites 30 = .ok (.goto 4, 3) := by decide +kernel
theorem dX11_bites_33 : decode cX11_bites 33 = .ok (.iconst 0, 1) := by decide +kernel
theorem dX11_bites_34 : decode cX11_bites 34 = .ok (.iadd, 1) := by decide +kernel
theorem dX11_bites_35 : decode cX11_bites 35 = .ok (.istore_n 1, 1) := by decide +kernel
theorem dX11_bites_36 : decode cX11_bites 36 = .ok (.iinc 3 1, 3) := by decide +kernel
theorem dX11_bites_39 : decode cX11_bites 39 = .ok (.goto (-25), 3) := by decide +kernel
theorem dX11_bites_42 : decode cX11_bites 42 = .ok (.iinc 2 1, 3) := by decide +kernel
theorem dX11_bites_45 : decode cX11_bites 45 = .ok (.goto (-41), 3) := by decide +kernel
theorem dX11_bites_48 : decode cX11_bites 48 = .ok (.iload_n 1, 1) := by decide +kernel
theorem dX11_bites_49 : decode cX11_bites 49 = .ok (.ireturn, 1) := by decide +kernel
theorem dX11_odds_0 : decode cX11_odds 0 = .ok (.aload_n 0, 1) := by decide +kernel
theorem dX11_odds_1 : decode cX11_odds 1 = .ok (.iload_n 1, 1) := by decide +kernel
theorem dX11_odds_2 : decode cX11_odds 2 = .ok (.invokevirtual 446, 3) := by decide +kernel
theorem dX11_odds_5 : decode cX11_odds 5 = .ok (.ifCond .eq 22, 3) := by decide +kernel
theorem dX11_odds_8 : decode cX11_odds 8 = .ok (.iload_n 2, 1) := by decide +kernel
theorem dX11_odds_9 : decode cX11_odds 9 = .ok (.iconst 0, 1) := by decide +kernel
theorem dX11_odds_10 : decode cX11_odds 10 = .ok (.bipush 7, 2) := by decide +kernel
theorem dX11_odds_12 : decode cX11_odds 12 = .ok (.invokestatic 387, 3) := by decide +kernel
theorem dX11_odds_15 : decode cX11_odds 15 = .ok (.ifCond .eq 12, 3) := by decide +kernel
theorem dX11_odds_18 : decode cX11_odds 18 = .ok (.iload_n 3, 1) := by decide +kernel
theorem dX11_odds_19 : decode cX11_odds 19 = .ok (.iconst 0, 1) := by decide +kernel
theorem dX11_odds_20 : decode cX11_odds 20 = .ok (.iconst 1, 1) := by decide +kernel
theorem dX11_odds_21 : decode cX11_odds 21 = .ok (.invokestatic 387, 3) := by decide +kernel
theorem dX11_odds_24 : decode cX11_odds 24 = .ok (.ifCond .ne 5, 3) := by decide +kernel
theorem dX11_odds_27 : decode cX11_odds 27 = .ok (.iconst (-1), 1) := by decide +kernel
theorem dX11_odds_28 : decode cX11_odds 28 = .ok (.ireturn, 1) := by decide +kernel
theorem dX11_odds_29 : decode cX11_odds 29 = .ok (.aload_n 0, 1) := by decide +kernel
theorem dX11_odds_30 : decode cX11_odds 30 = .ok (.invokevirtual 453, 3) := by decide +kernel
theorem dX11_odds_33 : decode cX11_odds 33 = .ok (.iload_n 2, 1) := by decide +kernel
theorem dX11_odds_34 : decode cX11_odds 34 = .ok (.iconst 2, 1) := by decide +kernel
theorem dX11_odds_35 : decode cX11_odds 35 = .ok (.if_icmp .ge 7, 3) := by decide +kernel
theorem dX11_odds_38 : decode cX11_odds 38 = .ok (.iconst 1, 1) := by decide +kernel
theorem dX11_odds_39 : decode cX11_odds 39 = .ok (.goto 8, 3) := by decide +kernel
theorem dX11_odds_42 : decode cX11_odds 42 = .ok (.iconst 1, 1) := by decide +kernel
theorem dX11_odds_43 : decode cX11_odds 43 = .ok (.iload_n 2, 1) := by decide +kernel
theorem dX11_odds_44 : decode cX11_odds 44 = .ok (.iconst 1, 1) := by decide +kernel
theorem dX11_odds_45 : decode cX11_odds 45 = .ok (.isub, 1) := by decide +kernel
theorem dX11_odds_46 : decode cX11_odds 46 = .ok (.ishl, 1) := by decide +kernel
theorem dX11_odds_47 : decode cX11_odds 47 = .ok (.istore 4, 2) := by decide +kernel
theorem dX11_odds_49 : decode cX11_odds 49 = .ok (.iconst 0, 1) := by decide +kernel
theorem dX11_odds_50 : decode cX11_odds 50 = .ok (.istore 5, 2) := by decide +kernel
theorem dX11_odds_52 : decode cX11_odds 52 = .ok (.iconst 0, 1) := by decide +kernel
theorem dX11_odds_53 : decode cX11_odds 53 = .ok (.istore 6, 2) := by decide +kernel
theorem dX11_odds_55 : decode cX11_odds 55 = .ok (.iload 6, 2) := by decide +kernel
theorem dX11_odds_57 : decode cX11_odds 57 = .ok (.iload 4, 2) := by decide +kernel
theorem dX11_odds_59 : decode cX11_odds 59 = .ok (.if_icmp .ge 86, 3) := by decide +kernel
theorem dX11_odds_62 : decode cX11_odds 62 = .ok (.iconst 0, 1) := by decide +kernel
theorem dX11_odds_63 : decode cX11_odds 63 = .ok (.istore 7, 2) := by decide +kernel
theorem dX11_odds_65 : decode cX11_odds 65 = .ok (.iload 7, 2) := by decide +kernel
theorem dX11_odds_67 : decode cX11_odds 67 = .ok (.iload_n 2, 1) := by decide +kernel
theorem dX11_odds_68 : decode cX11_odds 68 = .ok (.if_icmp .ge 45, 3) := by decide +kernel
theorem dX11_odds_71 : decode cX11_odds 71 = .ok (.iload 7, 2) := by decide +kernel
theorem dX11_odds_73 : decode cX11_odds 73 = .ok (.ifCond .le 19, 3) := by decide +kernel
theorem dX11_odds_76 : decode cX11_odds 76 = .ok (.aload_n 0, 1) := by decide +kernel
theorem dX11_odds_77 : decode cX11_odds 77 = .ok (.getfield 113, 3) := by decide +kernel
theorem dX11_odds_80 : decode cX11_odds 80 = .ok (.bipush 41, 2) := by decide +kernel
theorem dX11_odds_82 : decode cX11_odds 82 = .ok (.iload 6, 2) := by decide +kernel
theorem dX11_odds_84 : decode cX11_odds 84 = .ok (.iload 7, 2) := by decide +kernel
theorem dX11_odds_86 : decode cX11_odds 86 = .ok (.iconst 1, 1) := by decide +kernel
theorem dX11_odds_87 : decode cX11_odds 87 = .ok (.isub, 1) := by decide +kernel
theorem dX11_odds_88 : decode cX11_odds 88 = .ok (.ishr, 1) := by decide +kernel
theorem dX11_odds_89 : decode cX11_odds 89 = .ok (.iconst 1, 1) := by decide +kernel
theorem dX11_odds_90 : decode cX11_odds 90 = .ok (.iand, 1) := by decide +kernel
theorem dX11_odds_91 : decode cX11_odds 91 = .ok (.iastore, 1) := by decide +kernel
theorem dX11_odds_92 : decode cX11_odds 92 = .ok (.aload_n 0, 1) := by decide +kernel
theorem dX11_odds_93 : decode cX11_odds 93 = .ok (.invokevirtual 434, 3) := by decide +kernel
theorem dX11_odds_96 : decode cX11_odds 96 = .ok (.aload_n 0, 1) := by decide +kernel
theorem dX11_odds_97 : decode cX11_odds 97 = .ok (.getfield 113, 3) := by decide +kernel
theorem dX11_odds_100 : decode cX11_odds 100 = .ok (.bipush 40, 2) := by decide +kernel
theorem dX11_odds_102 : decode cX11_odds 102 = .ok (.dup2, 1) := by decide +kernel
theorem dX11_odds_103 : decode cX11_odds 103 = .ok (.iaload, 1) := by decide +kernel
theorem dX11_odds_104 : decode cX11_odds 104 = .ok (.iconst 1, 1) := by decide +kernel
theorem dX11_odds_105 : decode cX11_odds 105 = .ok (.iadd, 1) := by decide +kernel
theorem dX11_odds_106 : decode cX11_odds 106 = .ok (.iastore, 1) := by decide +kernel
theorem dX11_odds_107 : decode cX11_odds 107 = .ok (.iinc 7 1, 3) := by decide +kernel
theorem dX11_odds_110 : decode cX11_odds 110 = .ok (.goto (-45), 3) := by decide +kernel
theorem dX11_odds_113 : decode cX11_odds 113 = .ok (.iload 5, 2) := by decide +kernel
theorem dX11_odds_115 : decode cX11_odds 115 = .ok (.aload_n 0, 1) := by decide +kernel
theorem dX11_odds_116 : decode cX11_odds 116 = .ok (.getfield 113, 3) := by decide +kernel
theorem dX11_odds_119 : decode cX11_odds 119 = .ok (.bipush 15, 2) := by decide +kernel
theorem dX11_odds_121 : decode cX11_odds 121 = .ok (.iload_n 1, 1) := by decide +kernel
theorem dX11_odds_122 : decode cX11_odds 122 = .ok (.iadd, 1) := by decide +kernel
theorem dX11_odds_123 : decode cX11_odds 123 = .ok (.iaload, 1) := by decide +kernel
theorem dX11_odds_124 : decode cX11_odds 124 = .ok (.ifCond .le 7, 3) := by decide +kernel
theorem dX11_odds_127 : decode cX11_odds 127 = .ok (.iconst 1, 1) := by decide +kernel
theorem dX11_odds_128 : decode cX11_odds 128 = .ok (.goto 4, 3) := by decide +kernel
theorem dX11_odds_131 : decode cX11_odds 131 = .ok (.iconst 0, 1) := by decide +kernel
theorem dX11_odds_132 : decode cX11_odds 132 = .ok (.iadd, 1) := by decide +kernel
theorem dX11_odds_133 : decode cX11_odds 133 = .ok (.istore 5, 2) := by decide +kernel
theorem dX11_odds_135 : decode cX11_odds 135 = .ok (.aload_n 0, 1) := by decide +kernel
theorem dX11_odds_136 : decode cX11_odds 136 = .ok (.invokevirtual 468, 3) := by decide +kernel
theorem dX11_odds_139 : decode cX11_odds 139 = .ok (.iinc 6 1, 3) := by decide +kernel
theorem dX11_odds_142 : decode cX11_odds 142 = .ok (.goto (-87), 3) := by decide +kernel
theorem dX11_odds_145 : decode cX11_odds 145 = .ok (.iload_n 3, 1) := by decide +kernel
theorem dX11_odds_146 : decode cX11_odds 146 = .ok (.ifCond .ne 8, 3) := by decide +kernel
theorem dX11_odds_149 : decode cX11_odds 149 = .ok (.iload 5, 2) := by decide +kernel
theorem dX11_odds_151 : decode cX11_odds 151 = .ok (.goto 5, 3) := by decide +kernel
theorem dX11_odds_154 : decode cX11_odds 154 = .ok (.iload 4, 2) := by decide +kernel
theorem dX11_odds_156 : decode cX11_odds 156 = .ok (.iload 4, 2) := by decide +kernel
theorem dX11_odds_158 : decode cX11_odds 158 = .ok (.iload 5, 2) := by decide +kernel
theorem dX11_odds_160 : decode cX11_odds 160 = .ok (.invokestatic 498, 3) := by decide +kernel
theorem dX11_odds_163 : decode cX11_odds 163 = .ok (.idiv, 1) := by decide +kernel
theorem dX11_odds_164 : decode cX11_odds 164 = .ok (.ireturn, 1) := by decide +kernel
theorem dX11_trial_0 : decode cX11_trial 0 = .ok (.iload_n 1, 1) := by decide +kernel
theorem dX11_trial_1 : decode cX11_trial 1 = .ok (.iconst 0, 1) := by decide +kernel
theorem dX11_trial_2 : decode cX11_trial 2 = .ok (.bipush 9, 2) := by decide +kernel
theorem dX11_trial_4 : decode cX11_trial 4 = .ok (.invokestatic 387, 3) := by decide +kernel
theorem dX11_trial_7 : decode cX11_trial 7 = .ok (.ifCond .eq 43, 3) := by decide +kernel
theorem dX11_trial_10 : decode cX11_trial 10 = .ok (.iload_n 2, 1) := by decide +kernel
theorem dX11_trial_11 : decode cX11_trial 11 = .ok (.iconst 0, 1) := by decide +kernel
theorem dX11_trial_12 : decode cX11_trial 12 = .ok (.bipush 9, 2) := by decide +kernel
theorem dX11_trial_14 : decode cX11_trial 14 = .ok (.invokestatic 387, 3) := by decide +kernel
theorem dX11_trial_17 : decode cX11_trial 17 = .ok (.ifCond .eq 33, 3) := by decide +kernel
theorem dX11_trial_20 : decode cX11_trial 20 = .ok (.iload_n 3, 1) := by decide +kernel
theorem dX11_trial_21 : decode cX11_trial 21 = .ok (.iconst 0, 1) := by decide +kernel
theorem dX11_trial_22 : decode cX11_trial 22 = .ok (.bipush 9, 2) := by decide +kernel
theorem dX11_trial_24 : decode cX11_trial 24 = .ok (.invokestatic 387, 3) := by decide +kernel
theorem dX11_trial_27 : decode cX11_trial 27 = .ok (.ifCond .eq 23, 3) := by decide +kernel
theorem dX11_trial_30 : decode cX11_trial 30 = .ok (.iload 4, 2) := by decide +kernel
theorem dX11_trial_32 : decode cX11_trial 32 = .ok (.iconst 1, 1) := by decide +kernel
theorem dX11_trial_33 : decode cX11_trial 33 = .ok (.bipush 99, 2) := by decide +kernel
theorem dX11_trial_35 : decode cX11_trial 35 = .ok (.invokestatic 387, 3) := by decide +kernel
theorem dX11_trial_38 : decode cX11_trial 38 = .ok (.ifCond .eq 12, 3) := by decide +kernel
theorem dX11_trial_41 : decode cX11_trial 41 = .ok (.aload_n 0, 1) := by decide +kernel
theorem dX11_trial_42 : decode cX11_trial 42 = .ok (.getfield 401, 3) := by decide +kernel
theorem dX11_trial_45 : decode cX11_trial 45 = .ok (.bipush 30, 2) := by decide +kernel
theorem dX11_trial_47 : decode cX11_trial 47 = .ok (.if_icmp .ne 5, 3) := by decide +kernel
theorem dX11_trial_50 : decode cX11_trial 50 = .ok (.iconst (-1), 1) := by decide +kernel
theorem dX11_trial_51 : decode cX11_trial 51 = .ok (.ireturn, 1) := by decide +kernel
theorem dX11_trial_52 : decode cX11_trial 52 = .ok (.aload_n 0, 1) := by decide +kernel
theorem dX11_trial_53 : decode cX11_trial 53 = .ok (.getfield 128, 3) := by decide +kernel
theorem dX11_trial_56 : decode cX11_trial 56 = .ok (.iconst 3, 1) := by decide +kernel
theorem dX11_trial_57 : decode cX11_trial 57 = .ok (.aload_n 0, 1) := by decide +kernel
theorem dX11_trial_58 : decode cX11_trial 58 = .ok (.getfield 401, 3) := by decide +kernel
theorem dX11_trial_61 : decode cX11_trial 61 = .ok (.imul, 1) := by decide +kernel
theorem dX11_trial_62 : decode cX11_trial 62 = .ok (.iload_n 1, 1) := by decide +kernel
theorem dX11_trial_63 : decode cX11_trial 63 = .ok (.iastore, 1) := by decide +kernel
theorem dX11_trial_64 : decode cX11_trial 64 = .ok (.aload_n 0, 1) := by decide +kernel
theorem dX11_trial_65 : decode cX11_trial 65 = .ok (.getfield 128, 3) := by decide +kernel
theorem dX11_trial_68 : decode cX11_trial 68 = .ok (.iconst 3, 1) := by decide +kernel
theorem dX11_trial_69 : decode cX11_trial 69 = .ok (.aload_n 0, 1) := by decide +kernel
theorem dX11_trial_70 : decode cX11_trial 70 = .ok (.getfield 401, 3) := by decide +kernel
theorem dX11_trial_73 : decode cX11_trial 73 = .ok (.imul, 1) := by decide +kernel
theorem dX11_trial_74 : decode cX11_trial 74 = .ok (.iconst 1, 1) := by decide +kernel
theorem dX11_trial_75 : decode cX11_trial 75 = .ok (.iadd, 1) := by decide +kernel
theorem dX11_trial_76 : decode cX11_trial 76 = .ok (.iload_n 2, 1) := by decide +kernel
theorem dX11_trial_77 : decode cX11_trial 77 = .ok (.iastore, 1) := by decide +kernel
theorem dX11_trial_78 : decode cX11_trial 78 = .ok (.aload_n 0, 1) := by decide +kernel
theorem dX11_trial_79 : decode cX11_trial 79 = .ok (.getfield 128, 3) := by decide +kernel
theorem dX11_trial_82 : decode cX11_trial 82 = .ok (.iconst 3, 1) := by decide +kernel
theorem dX11_trial_83 : decode cX11_trial 83 = .ok (.aload_n 0, 1) := by decide +kernel
theorem dX11_trial_84 : decode cX11_trial 84 = .ok (.getfield 401, 3) := by decide +kernel
theorem dX11_trial_87 : decode cX11_trial 87 = .ok (.imul, 1) := by decide +kernel
theorem dX11_trial_88 : decode cX11_trial 88 = .ok (.iconst 2, 1) := by decide +kernel
theorem dX11_trial_89 : decode cX11_trial 89 = .ok (.iadd, 1) := by decide +kernel
theorem dX11_trial_90 : decode cX11_trial 90 = .ok (.iload_n 3, 1) := by decide +kernel
theorem dX11_trial_91 : decode cX11_trial 91 = .ok (.iastore, 1) := by decide +kernel
theorem dX11_trial_92 : decode cX11_trial 92 = .ok (.aload_n 0, 1) := by decide +kernel
theorem dX11_trial_93 : decode cX11_trial 93 = .ok (.getfield 131, 3) := by decide +kernel
theorem dX11_trial_96 : decode cX11_trial 96 = .ok (.aload_n 0, 1) := by decide +kernel
theorem dX11_trial_97 : decode cX11_trial 97 = .ok (.getfield 401, 3) := by decide +kernel
theorem dX11_trial_100 : decode cX11_trial 100 = .ok (.iload 4, 2) := by decide +kernel
theorem dX11_trial_102 : decode cX11_trial 102 = .ok (.iastore, 1) := by decide +kernel
theorem dX11_trial_103 : decode cX11_trial 103 = .ok (.aload_n 0, 1) := by decide +kernel
theorem dX11_trial_104 : decode cX11_trial 104 = .ok (.getfield 134, 3) := by decide +kernel
theorem dX11_trial_107 : decode cX11_trial 107 = .ok (.aload_n 0, 1) := by decide +kernel
theorem dX11_trial_108 : decode cX11_trial 108 = .ok (.getfield 401, 3) := by decide +kernel
theorem dX11_trial_111 : decode cX11_trial 111 = .ok (.iload 5, 2) := by decide +kernel
theorem dX11_trial_113 : decode cX11_trial 113 = .ok (.ifCond .eq 7, 3) := by decide +kernel
theorem dX11_trial_116 : decode cX11_trial 116 = .ok (.iconst 1, 1) := by decide +kernel
theorem dX11_trial_117 : decode cX11_trial 117 = .ok (.goto 4, 3) := by decide +kernel
theorem dX11_trial_120 : decode cX11_trial 120 = .ok (.iconst 0, 1) := by decide +kernel
theorem dX11_trial_121 : decode cX11_trial 121 = .ok (.iastore, 1) := by decide +kernel
theorem dX11_trial_122 : decode cX11_trial 122 = .ok (.aload_n 0, 1) := by decide +kernel
theorem dX11_trial_123 : decode cX11_trial 123 = .ok (.getfield 137, 3) := by decide +kernel
theorem dX11_trial_126 : decode cX11_trial 126 = .ok (.aload_n 0, 1) := by decide +kernel
theorem dX11_trial_127 : decode cX11_trial 127 = .ok (.getfield 401, 3) := by decide +kernel
theorem dX11_trial_130 : decode cX11_trial 130 = .ok (.aload_n 0, 1) := by decide +kernel
theorem dX11_trial_131 : decode cX11_trial 131 = .ok (.getfield 501, 3) := by decide +kernel
theorem dX11_trial_134 : decode cX11_trial 134 = .ok (.iastore, 1) := by decide +kernel
theorem dX11_trial_135 : decode cX11_trial 135 = .ok (.aload_n 0, 1) := by decide +kernel
theorem dX11_trial_136 : decode cX11_trial 136 = .ok (.getfield 140, 3) := by decide +kernel
theorem dX11_trial_139 : decode cX11_trial 139 = .ok (.aload_n 0, 1) := by decide +kernel
theorem dX11_trial_140 : decode cX11_trial 140 = .ok (.getfield 401, 3) := by decide +kernel
theorem dX11_trial_143 : decode cX11_trial 143 = .ok (.iconst (-1), 1) := by decide +kernel
theorem dX11_trial_144 : decode cX11_trial 144 = .ok (.iastore, 1) := by decide +kernel
theorem dX11_trial_145 : decode cX11_trial 145 = .ok (.aload_n 0, 1) := by decide +kernel
theorem dX11_trial_146 : decode cX11_trial 146 = .ok (.dup, 1) := by decide +kernel
theorem dX11_trial_147 : decode cX11_trial 147 = .ok (.getfield 401, 3) := by decide +kernel
theorem dX11_trial_150 : decode cX11_trial 150 = .ok (.iconst 1, 1) := by decide +kernel
theorem dX11_trial_151 : decode cX11_trial 151 = .ok (.iadd, 1) := by decide +kernel
theorem dX11_trial_152 : decode cX11_trial 152 = .ok (.putfield 401, 3) := by decide +kernel
theorem dX11_trial_155 : decode cX11_trial 155 = .ok (.aload_n 0, 1) := by decide +kernel
theorem dX11_trial_156 : decode cX11_trial 156 = .ok (.getfield 401, 3) := by decide +kernel
theorem dX11_trial_159 : decode cX11_trial 159 = .ok (.iconst 1, 1) := by decide +kernel
theorem dX11_trial_160 : decode cX11_trial 160 = .ok (.isub, 1) := by decide +kernel
theorem dX11_trial_161 : decode cX11_trial 161 = .ok (.ireturn, 1) := by decide +kernel
set_option maxRecDepth 100000 in
theorem m_X11_keep (l : Launch) (D : va_G) (cT : Nat → ClassId) (T : Nat → Option Nat) (q : Nat → Int) (hT : tokm T) (hq : qkm q) (a0 : Nat) (t0 : T a0 = some 0) (y1 : Int32) (j1 : IV y1 (-2147483648) 2147483647) (y2 : Int32) (j2 : IV y2 (-2147483648) 2147483647) : th_MetM l D cT T q yX11_keep cX11_keep 6 (some .int) (rmk 5 118) [.ref a0, .int y1, .int y2] (fun v q2 => ∃ r : Int32, v = some (.int r) ∧ IV r (-1) 2147483647 ∧ qkm q2 ∧ fr [40, 41, 42, 43] q q2) [0, 32, 33, 35, 36, 37] := by
  refine th_startM (by decide) (Nat.le_of_ble_eq_true rfl) ?_
  intro p e s m below meth c ls S hK hH hr hlocks hnm hl
  have hx := S.1
  have hb := S.2.1
  have hl : lv_has ls 6 [(0, .ref a0), (1, .int y1), (2, .int y2)] := hl
  have J58 : ∀ (n : Nat) (q58 : Nat → Int) (H : Heap) (locs : List Loc) (ls : Array Slot) (v58_3 : Int32) (v58_4 : Int32), qkm q58 → fr [40, 41, 42, 43] q q58 → IV v58_3 (-1) 2147483647 → IV v58_4 0 1 → IV y1 0 2 → (0 ≤ q58 40 ∧ 0 ≤ q58 41 ∧ 0 ≤ q58 42 ∧ 0 ≤ q58 43 ∧ q58 40 + q58 41 + q58 42 + q58 43 ≤ 24) → (1 ≤ q 11) → th_H D cT T (km q58) H → va_S (th_A T [0, 32, 33, 35, 36, 37]) s.heap H locs → lv_has ls 6 [(0, .ref a0), (1, .int y1), (3, .int v58_3), (4, .int v58_4)] → (400000 - (15625 * q58 40 + 625 * q58 41 + 25 * q58 42 + q58 43) + v58_4.toInt).toNat < n → W p l e (rmk 5 118) s m [.ref a0, .int y1, .int y2].toArray below meth c H locs 0 0 (MQ below (th_QM D cT T (fun v q2 => ∃ r : Int32, v = some (.int r) ∧ IV r (-1) 2147483647 ∧ qkm q2 ∧ fr [40, 41, 42, 43] q q2) [0, 32, 33, 35, 36, 37]) [.ref a0, .int y1, .int y2].toArray s 0 0 (th_A T [0, 32, 33, 35, 36, 37])) (F0 m 58 ls []) := by
    intro n
    induction n with
    | zero => intro q58 H locs ls v58_3 v58_4 hq58 h058 iv58_3 iv58_4 f58_y1 v58_inv0 v58_inv1 hH hS hl hn; exact absurd hn (Nat.not_lt_zero _)
    | succ n ih58 =>
      intro q58 H locs ls v58_3 v58_4 hq58 h058 iv58_3 iv58_4 f58_y1 v58_inv0 v58_inv1 hH hS hl hn58
      have w58_11 : q58 11 = q 11 := h058 11 (by decide) (Or.inl (by decide))
      have J95 : ∀ (H : Heap) (locs : List Loc) (ls : Array Slot) (v95_3 : Int32), IV v95_3 (-1) 2147483647 → IV y1 0 2 → (0 ≤ q58 40 ∧ 0 ≤ q58 41 ∧ 0 ≤ q58 42 ∧ 0 ≤ q58 43 ∧ q58 40 + q58 41 + q58 42 + q58 43 ≤ 24) → (1 ≤ v58_4.toInt) → (1 ≤ q 11) → th_H D cT T (km q58) H → va_S (th_A T [0, 32, 33, 35, 36, 37]) s.heap H locs → lv_has ls 6 [(0, .ref a0), (1, .int y1), (3, .int v95_3)] → W p l e (rmk 5 118) s m [.ref a0, .int y1, .int y2].toArray below meth c H locs 0 0 (MQ below (th_QM D cT T (fun v q2 => ∃ r : Int32, v = some (.int r) ∧ IV r (-1) 2147483647 ∧ qkm q2 ∧ fr [40, 41, 42, 43] q q2) [0, 32, 33, 35, 36, 37]) [.ref a0, .int y1, .int y2].toArray s 0 0 (th_A T [0, 32, 33, 35, 36, 37])) (F0 m 95 ls []) := by
        intro H locs ls v95_3 iv95_3 f95_y1 v95_inv0 v95_inv1 v95_inv2 hH hS hl
        have l1v95_3 := iv95_3.1; have l2v95_3 := iv95_3.2
        refine lv_aload_n hx hb dX11_keep_95 rfl (lv_at hl 0 rfl) ?_
        refine th_callVM (n := 0) (As := []) S hK hH hS (th_A.sub (by decide)) (m_X11_nextWay l D cT T q58 hT hq58 a0 t0 (show 1 ≤ q58 11 by omega) (show 0 ≤ q58 40 ∧ 0 ≤ q58 41 ∧ 0 ≤ q58 42 ∧ 0 ≤ q58 43 ∧ q58 40 + q58 41 + q58 42 + q58 43 ≤ 24 by assumption)) gm_1820 gm_1817 gm_1819 gm_105 gm_124 (by decide +kernel) ⟨rfl, rfl, Nat.le_of_ble_eq_true rfl, Nat.le_of_ble_eq_true rfl⟩ t0 km_0 rfl rfl hl.1 rfl (Nat.le_of_ble_eq_true rfl) dX11_keep_96 ⟨Nat.zero_le _, Nat.zero_le _⟩ (fun wq1 q1 H locs hEq1 hH hS hF1 => ?_)
        obtain ⟨x2, rfl, ix2, hqq1, g0q1, pq1_0, pq1_1, pq1_2⟩ := hEq1
        show W p l e (rmk 5 118) s m [.ref a0, .int y1, .int y2].toArray below meth c H locs 0 0 (MQ below (th_QM D cT T (fun v q2 => ∃ r : Int32, v = some (.int r) ∧ IV r (-1) 2147483647 ∧ qkm q2 ∧ fr [40, 41, 42, 43] q q2) [0, 32, 33, 35, 36, 37]) [.ref a0, .int y1, .int y2].toArray s 0 0 (th_A T [0, 32, 33, 35, 36, 37])) (F0 m 99 ls [.int x2])
        have pq1_0 : 0 ≤ q1 40 ∧ 0 ≤ q1 41 ∧ 0 ≤ q1 42 ∧ 0 ≤ q1 43 ∧ q1 40 + q1 41 + q1 42 + q1 43 ≤ 24 := pq1_0
        have pq1_1 : x2.toInt ≠ 0 → 15625 * q58 40 + 625 * q58 41 + 25 * q58 42 + q58 43 < 15625 * q1 40 + 625 * q1 41 + 25 * q1 42 + q1 43 := pq1_1
        have pq1_2 : x2.toInt = 0 → 15625 * q1 40 + 625 * q1 41 + 25 * q1 42 + q1 43 = 15625 * q58 40 + 625 * q58 41 + 25 * q58 42 + q58 43 := pq1_2
        have wq1_11 : q1 11 = q58 11 := g0q1 11 (by decide) (Or.inl (by decide))
        have h0q1 : fr [40, 41, 42, 43] q q1 := fr_tr h058 g0q1 (by decide)
        have l1x2 := ix2.1; have l2x2 := ix2.2
        refine lv_istore (lv' := [(4, .int x2), (0, .ref a0), (1, .int y1), (3, .int v95_3)]) hx hb dX11_keep_99 hl (by decide) rfl (fun ls hl => ?_)
        refine lv_goto (tgt := 58) hx hb dX11_keep_101 (by decide) ?_
        exact ih58 q1 H locs ls v95_3 x2 hqq1 h0q1 iv95_3 ix2 f95_y1 (show 0 ≤ q1 40 ∧ 0 ≤ q1 41 ∧ 0 ≤ q1 42 ∧ 0 ≤ q1 43 ∧ q1 40 + q1 41 + q1 42 + q1 43 ≤ 24 by omega) (show 1 ≤ q 11 by omega) hH hS (lv_sub hl [1, 2, 3, 0] rfl) (show (400000 - (15625 * q1 40 + 625 * q1 41 + 25 * q1 42 + q1 43) + x2.toInt).toNat < n by omega)
      have l1v58_3 := iv58_3.1; have l2v58_3 := iv58_3.2
      have l1v58_4 := iv58_4.1; have l2v58_4 := iv58_4.2
      refine lv_iload hx hb dX11_keep_58 (lv_at hl 3 rfl) ?_
      refine lv_if_eq (tgt := 104) hx hb dX11_keep_60 (by decide) (fun c3 => ?_) (fun c3 => ?_)
      · skip
        have rlc3 : v58_4.toInt = (0 : Int) := congrArg Int32.toInt c3
        have ir4 : IV v58_4 0 0 := iv_eL c3 (iv_c (by decide) : IV 0 0 0)
        have ir4a := ir4.1; have ir4b := ir4.2
        refine lv_iload_n hx hb dX11_keep_104 rfl (lv_at hl 2 rfl) ?_
        exact th_iretM S hK hH hS hr hlocks ⟨_, rfl, iv58_3, hq58, h058⟩ dX11_keep_105
      · skip
        have rlc3 : v58_4.toInt ≠ (0 : Int) := iv_ne c3
        have ir5 : IV v58_4 1 1 := iv_cutL iv58_4 (iv_c (by decide) : IV 0 0 0) c3 (by decide)
        have ir5a := ir5.1; have ir5b := ir5.2
        refine lv_aload_n hx hb dX11_keep_63 rfl (lv_at hl 0 rfl) ?_
        refine lv_iload_n hx hb dX11_keep_64 rfl (lv_at hl 1 rfl) ?_
        refine th_callVv (n := 1) (As := [.int y1]) S hK hH hS (th_A.sub (by decide)) (m_X11_putAll l D cT T q58 hT hq58 a0 t0 (y1) f58_y1) gm_1812 gm_1809 gm_1811 gm_103 gm_124 (by decide +kernel) ⟨rfl, rfl, Nat.le_of_ble_eq_true rfl, Nat.le_of_ble_eq_true rfl⟩ t0 km_0 rfl rfl hl.1 rfl (Nat.le_of_ble_eq_true rfl) dX11_keep_65 ⟨Nat.zero_le _, Nat.zero_le _⟩ (fun H locs hH hS hF1 => ?_)
        refine lv_aload_n hx hb dX11_keep_68 rfl (lv_at hl 0 rfl) ?_
        refine th_callVv (n := 0) (As := []) S hK hH hS (th_A.sub (by decide)) (m_X11_eat l D cT T q58 hT hq58 a0 t0) gm_1721 gm_1718 gm_1720 gm_94 gm_124 (by decide +kernel) ⟨rfl, rfl, Nat.le_of_ble_eq_true rfl, Nat.le_of_ble_eq_true rfl⟩ t0 km_0 rfl rfl hl.1 rfl (Nat.le_of_ble_eq_true rfl) dX11_keep_69 ⟨Nat.zero_le _, Nat.zero_le _⟩ (fun H locs hH hS hF1 => ?_)
        refine lv_aload_n hx hb dX11_keep_72 rfl (lv_at hl 0 rfl) ?_
        refine th_callVi (n := 0) (As := []) S hK hH hS (th_A.sub (by decide)) (m_X11_landNow l D cT T q58 hT hq58 a0 t0) gm_1796 gm_1793 gm_1795 gm_101 gm_124 (by decide +kernel) ⟨rfl, rfl, Nat.le_of_ble_eq_true rfl, Nat.le_of_ble_eq_true rfl⟩ t0 km_0 rfl rfl hl.1 rfl (Nat.le_of_ble_eq_true rfl) dX11_keep_73 ⟨Nat.zero_le _, Nat.zero_le _⟩ (fun x6 H locs ix6 hH hS hF1 => ?_)
        refine lv_istore (lv' := [(5, .int x6), (0, .ref a0), (1, .int y1), (3, .int v58_3), (4, .int v58_4)]) hx hb dX11_keep_76 hl (by decide) rfl (fun ls hl => ?_)
        refine lv_aload_n hx hb dX11_keep_78 rfl (lv_at hl 1 rfl) ?_
        refine th_callVv (n := 0) (As := []) S hK hH hS (th_A.sub (by decide)) (m_X11_bringBack l D cT T q58 hT hq58 a0 t0) gm_1768 gm_1765 gm_1767 gm_99 gm_124 (by decide +kernel) ⟨rfl, rfl, Nat.le_of_ble_eq_true rfl, Nat.le_of_ble_eq_true rfl⟩ t0 km_0 rfl rfl hl.1 rfl (Nat.le_of_ble_eq_true rfl) dX11_keep_79 ⟨Nat.zero_le _, Nat.zero_le _⟩ (fun H locs hH hS hF1 => ?_)
        refine lv_iload hx hb dX11_keep_82 (lv_at hl 0 rfl) ?_
        refine lv_iload_n hx hb dX11_keep_84 rfl (lv_at hl 3 rfl) ?_
        refine lv_icmp_le (tgt := 95) hx hb dX11_keep_85 (by decide) (fun c7 => ?_) (fun c7 => ?_)
        · skip
          have rlc7 : x6.toInt ≤ v58_3.toInt := iv_le c7
          exact J95 H locs ls v58_3 iv58_3 f58_y1 (show 0 ≤ q58 40 ∧ 0 ≤ q58 41 ∧ 0 ≤ q58 42 ∧ 0 ≤ q58 43 ∧ q58 40 + q58 41 + q58 42 + q58 43 ≤ 24 by omega) (show 1 ≤ v58_4.toInt by omega) (show 1 ≤ q 11 by omega) hH hS (lv_sub hl [1, 2, 3] rfl)
        · skip
          have rlc7 : v58_3.toInt < x6.toInt := iv_nle c7
          have ir8 : IV v58_3 (-1) 2147483646 := iv_uL iv58_3 ix6 (iv_nle c7) (by decide)
          have ir8a := ir8.1; have ir8b := ir8.2
          have ir9 : IV x6 0 2147483647 := iv_uR iv58_3 ix6 (iv_nle c7) (by decide)
          have ir9a := ir9.1; have ir9b := ir9.2
          refine lv_iload hx hb dX11_keep_88 (lv_at hl 0 rfl) ?_
          refine lv_istore_n (lv' := [(3, .int x6), (5, .int x6), (0, .ref a0), (1, .int y1), (4, .int v58_4)]) hx hb dX11_keep_90 rfl hl (by decide) rfl (fun ls hl => ?_)
          refine lv_aload_n hx hb dX11_keep_91 rfl (lv_at hl 2 rfl) ?_
          refine th_callVv (n := 0) (As := []) S hK hH hS (th_A.sub (by decide)) (m_X11_layRow l D cT T q58 hT hq58 a0 t0) gm_1816 gm_1813 gm_1815 gm_104 gm_124 (by decide +kernel) ⟨rfl, rfl, Nat.le_of_ble_eq_true rfl, Nat.le_of_ble_eq_true rfl⟩ t0 km_0 rfl rfl hl.1 rfl (Nat.le_of_ble_eq_true rfl) dX11_keep_92 ⟨Nat.zero_le _, Nat.zero_le _⟩ (fun H locs hH hS hF1 => ?_)
          exact J95 H locs ls x6 (iv_w ir9 (by decide)) f58_y1 (show 0 ≤ q58 40 ∧ 0 ≤ q58 41 ∧ 0 ≤ q58 42 ∧ 0 ≤ q58 43 ∧ q58 40 + q58 41 + q58 42 + q58 43 ≤ 24 by omega) (show 1 ≤ v58_4.toInt by omega) (show 1 ≤ q 11 by omega) hH hS (lv_sub hl [2, 3, 0] rfl)
  have J42 : ∀ (H : Heap) (locs : List Loc) (ls : Array Slot), th_H D cT T (km q) H → va_S (th_A T [0, 32, 33, 35, 36, 37]) s.heap H locs → lv_has ls 6 [] → W p l e (rmk 5 118) s m [.ref a0, .int y1, .int y2].toArray below meth c H locs 0 0 (MQ below (th_QM D cT T (fun v q2 => ∃ r : Int32, v = some (.int r) ∧ IV r (-1) 2147483647 ∧ qkm q2 ∧ fr [40, 41, 42, 43] q q2) [0, 32, 33, 35, 36, 37]) [.ref a0, .int y1, .int y2].toArray s 0 0 (th_A T [0, 32, 33, 35, 36, 37])) (F0 m 42 ls []) := by
    intro H locs ls hH hS hl
    refine lv_iconst (v := (-1)) hx hb dX11_keep_42 (by decide) ?_
    exact th_iretM S hK hH hS hr hlocks ⟨_, rfl, (iv_w (iv_c (by decide) : IV (-1) (-1) (-1)) (by decide)), hq, fr_rf⟩ dX11_keep_43
  have J0 : ∀ (H : Heap) (locs : List Loc) (ls : Array Slot), th_H D cT T (km q) H → va_S (th_A T [0, 32, 33, 35, 36, 37]) s.heap H locs → lv_has ls 6 [(0, .ref a0), (1, .int y1), (2, .int y2)] → W p l e (rmk 5 118) s m [.ref a0, .int y1, .int y2].toArray below meth c H locs 0 0 (MQ below (th_QM D cT T (fun v q2 => ∃ r : Int32, v = some (.int r) ∧ IV r (-1) 2147483647 ∧ qkm q2 ∧ fr [40, 41, 42, 43] q q2) [0, 32, 33, 35, 36, 37]) [.ref a0, .int y1, .int y2].toArray s 0 0 (th_A T [0, 32, 33, 35, 36, 37])) (F0 m 0 ls []) := by
    intro H locs ls hH hS hl
    refine lv_aload_n hx hb dX11_keep_0 rfl (lv_at hl 0 rfl) ?_
    refine lv_iconst (v := 0) hx hb dX11_keep_1 (by decide) ?_
    refine th_put S hK hH hS ⟨0, by decide, t0⟩ inG11 tyX11 tyX11_ok nmX11 t0 km_0 rfl 59 (by decide) gm_1289 rfl rfl rfl rfl (th_iv (iv_w (iv_c (by decide) : IV 0 0 0) (by decide))) (fun vs h => nmR_set h.2.2 (by decide) rfl) (ty := .int) (by decide +kernel) rfl rfl dX11_keep_2 (fun H locs hH hS hq1 hp1 => ?_)
    refine lv_aload_n hx hb dX11_keep_5 rfl (lv_at hl 0 rfl) ?_
    refine lv_iload_n hx hb dX11_keep_6 rfl (lv_at hl 1 rfl) ?_
    refine th_callVp (n := 1) (As := [.int y1]) S hK hH hS (th_A.sub (by decide)) (m_X11_isFood l D cT T q hT hq a0 t0 (y1) j1) gm_1615 gm_1612 gm_1614 gm_79 gm_124 (by decide +kernel) ⟨rfl, rfl, Nat.le_of_ble_eq_true rfl, Nat.le_of_ble_eq_true rfl⟩ t0 km_0 rfl rfl hl.1 rfl (Nat.le_of_ble_eq_true rfl) dX11_keep_7 ⟨Nat.zero_le _, Nat.zero_le _⟩ (fun x10 H locs ix10 ox10 hH hS hF1 => ?_)
    have ox10 : x10.toInt ≠ 0 → 0 ≤ y1.toInt ∧ y1.toInt < q 16 := ox10
    have l1x10 := ix10.1; have l2x10 := ix10.2
    refine lv_if_eq (tgt := 42) hx hb dX11_keep_10 (by decide) (fun c11 => ?_) (fun c11 => ?_)
    · skip
      have rlc11 : x10.toInt = (0 : Int) := congrArg Int32.toInt c11
      have ir12 : IV x10 0 0 := iv_eL c11 (iv_c (by decide) : IV 0 0 0)
      have ir12a := ir12.1; have ir12b := ir12.2
      exact J42 H locs ls  hH hS (lv_sub hl [] rfl)
    · skip
      have rlc11 : x10.toInt ≠ (0 : Int) := iv_ne c11
      have ir13 : IV x10 1 1 := iv_cutL ix10 (iv_c (by decide) : IV 0 0 0) c11 (by decide)
      have ir13a := ir13.1; have ir13b := ir13.2
      have ir14 : IV y1 0 2 := ((fun z => by have z1 := iv_ne z; have z2 : x10.toInt ≠ 0 := z1; have z60 := qkm_16 hq; exact ⟨by omega, by omega⟩) : ¬ x10 = 0 → IV y1 0 2) c11
      have ir14a := ir14.1; have ir14b := ir14.2
      refine lv_iload_n hx hb dX11_keep_13 rfl (lv_at hl 2 rfl) ?_
      refine lv_iconst (v := 0) hx hb dX11_keep_14 (by decide) ?_
      refine lv_bipush (v := 12) hx hb dX11_keep_15 (by decide) ?_
      refine th_callSp (n := 3) (As := [.int y2, .int 0, .int 12]) S hK hH hS (th_A.sub (by decide)) (m_X11_isIn l D cT T q hT hq (y2) j2 (0) (iv_top _) (12) (iv_top _)) gm_1618 gm_1616 gm_1617 gm_124 (by decide +kernel) ⟨rfl, rfl, Nat.le_of_ble_eq_true rfl, Nat.le_of_ble_eq_true rfl⟩ rfl hl.1 rfl (Nat.le_of_ble_eq_true rfl) dX11_keep_17 ⟨Nat.zero_le _, Nat.zero_le _⟩ (fun x15 H locs ix15 ox15 hH hS hF1 => ?_)
      obtain ⟨ox15_0, ox15_1⟩ := ox15
      have ox15_0 : x15.toInt ≠ 0 → (0 : Int) ≤ y2.toInt ∧ y2.toInt ≤ (12 : Int) := ox15_0
      have ox15_1 : x15.toInt = 0 → y2.toInt < (0 : Int) ∨ (12 : Int) < y2.toInt := ox15_1
      have l1x15 := ix15.1; have l2x15 := ix15.2
      refine lv_if_eq (tgt := 42) hx hb dX11_keep_20 (by decide) (fun c16 => ?_) (fun c16 => ?_)
      · skip
        have rlc16 : x15.toInt = (0 : Int) := congrArg Int32.toInt c16
        have ir17 : IV x15 0 0 := iv_eL c16 (iv_c (by decide) : IV 0 0 0)
        have ir17a := ir17.1; have ir17b := ir17.2
        exact J42 H locs ls  hH hS (lv_sub hl [] rfl)
      · skip
        have rlc16 : x15.toInt ≠ (0 : Int) := iv_ne c16
        have ir18 : IV x15 1 1 := iv_cutL ix15 (iv_c (by decide) : IV 0 0 0) c16 (by decide)
        have ir18a := ir18.1; have ir18b := ir18.2
        have ir19 : IV y2 0 12 := ((fun z => by have z1 := iv_ne z; have z2 : x15.toInt ≠ 0 := z1; have z4 := ((iv_c (by decide) : IV 0 0 0)).1; have z5 := ((iv_c (by decide) : IV 12 12 12)).2; exact ⟨by omega, by omega⟩) : ¬ x15 = 0 → IV y2 0 12) c16
        have ir19a := ir19.1; have ir19b := ir19.2
        refine lv_aload_n hx hb dX11_keep_23 rfl (lv_at hl 0 rfl) ?_
        refine th_callVp (n := 0) (As := []) S hK hH hS (th_A.sub (by decide)) (m_X11_many l D cT T q hT hq a0 t0) gm_1229 gm_1226 gm_1228 gm_46 gm_124 (by decide +kernel) ⟨rfl, rfl, Nat.le_of_ble_eq_true rfl, Nat.le_of_ble_eq_true rfl⟩ t0 km_0 rfl rfl hl.1 rfl (Nat.le_of_ble_eq_true rfl) dX11_keep_24 ⟨Nat.zero_le _, Nat.zero_le _⟩ (fun x20 H locs ix20 ox20 hH hS hF1 => ?_)
        have ox20 : x20.toInt = q 11 := ox20
        have l1x20 := ix20.1; have l2x20 := ix20.2
        refine lv_if_eq (tgt := 42) hx hb dX11_keep_27 (by decide) (fun c21 => ?_) (fun c21 => ?_)
        · skip
          have rlc21 : x20.toInt = (0 : Int) := congrArg Int32.toInt c21
          have ir22 : IV x20 0 0 := iv_eL c21 (iv_c (by decide) : IV 0 0 0)
          have ir22a := ir22.1; have ir22b := ir22.2
          exact J42 H locs ls  hH hS (lv_sub hl [] rfl)
        · skip
          have rlc21 : x20.toInt ≠ (0 : Int) := iv_ne c21
          have ir23 : IV x20 1 4 := iv_cutL ix20 (iv_c (by decide) : IV 0 0 0) c21 (by decide)
          have ir23a := ir23.1; have ir23b := ir23.2
          refine lv_aload_n hx hb dX11_keep_30 rfl (lv_at hl 0 rfl) ?_
          refine th_get S hK hH inG11 t0 km_0 rfl 52 (by decide) gm_1282 rfl rfl dX11_keep_31 (fun v24 hv24 fv24 => ?_)
          obtain ⟨rf25, rfl, trf25⟩ := th_V.ref hv24
          refine lv_iconst (v := 0) hx hb dX11_keep_34 (by decide) ?_
          refine lv_iload_n hx hb dX11_keep_35 rfl (lv_at hl 1 rfl) ?_
          refine lv_iadd hx hb dX11_keep_36 ?_
          refine lv_topi (fun x26 ex26 => ?_)
          have ix26 : IV x26 0 2 := by rw [ex26]; exact iv_add (iv_c (by decide) : IV 0 0 0) ir14 (by decide)
          have ux26 : x26.toInt = (0 : Int) + y1.toInt := by rw [ex26]; exact iv_addE (by have z1 := ((iv_c (by decide) : IV 0 0 0)).1; have z2 := ((iv_c (by decide) : IV 0 0 0)).2; have z3 := (ir14).1; have z4 := (ir14).2; omega)
          refine th_iald S hK hH trf25 km_33 (th_in (hi := 2) ix26 (by decide)) dX11_keep_37 (fun v27 hv27 => ?_)
          obtain ⟨x28, rfl, ix28⟩ := th_V.int hv27
          refine lv_iload_n hx hb dX11_keep_38 rfl (lv_at hl 2 rfl) ?_
          refine lv_icmp_ge (tgt := 44) hx hb dX11_keep_39 (by decide) (fun c29 => ?_) (fun c29 => ?_)
          · skip
            have rlc29 : y2.toInt ≤ x28.toInt := iv_le c29
            have ir30 : IV x28 0 2147483647 := iv_vR ir19 ix28 (iv_le c29) (by decide)
            have ir30a := ir30.1; have ir30b := ir30.2
            refine lv_aload_n hx hb dX11_keep_44 rfl (lv_at hl 0 rfl) ?_
            refine th_callVv (n := 0) (As := []) S hK hH hS (th_A.sub (by decide)) (m_X11_keepNow l D cT T q hT hq a0 t0) gm_1713 gm_1710 gm_1712 gm_92 gm_124 (by decide +kernel) ⟨rfl, rfl, Nat.le_of_ble_eq_true rfl, Nat.le_of_ble_eq_true rfl⟩ t0 km_0 rfl rfl hl.1 rfl (Nat.le_of_ble_eq_true rfl) dX11_keep_45 ⟨Nat.zero_le _, Nat.zero_le _⟩ (fun H locs hH hS hF1 => ?_)
            refine lv_iconst (v := (-1)) hx hb dX11_keep_48 (by decide) ?_
            refine lv_istore_n (lv' := [(3, .int (-1)), (0, .ref a0), (1, .int y1), (2, .int y2)]) hx hb dX11_keep_49 rfl hl (by decide) rfl (fun ls hl => ?_)
            refine lv_aload_n hx hb dX11_keep_50 rfl (lv_at hl 1 rfl) ?_
            refine lv_iload_n hx hb dX11_keep_51 rfl (lv_at hl 3 rfl) ?_
            refine th_callVM (n := 1) (As := [.int y2]) S hK hH hS (th_A.sub (by decide)) (m_X11_firstWay l D cT T q hT hq a0 t0 (y2) (iv_w ir19 (by decide)) (show 1 ≤ q 11 by omega)) gm_1808 gm_1805 gm_1807 gm_102 gm_124 (by decide +kernel) ⟨rfl, rfl, Nat.le_of_ble_eq_true rfl, Nat.le_of_ble_eq_true rfl⟩ t0 km_0 rfl rfl hl.1 rfl (Nat.le_of_ble_eq_true rfl) dX11_keep_52 ⟨Nat.zero_le _, Nat.zero_le _⟩ (fun wq31 q31 H locs hEq31 hH hS hF1 => ?_)
            obtain ⟨rfl, hqq31, g0q31, pq31_0⟩ := hEq31
            show W p l e (rmk 5 118) s m [.ref a0, .int y1, .int y2].toArray below meth c H locs 0 0 (MQ below (th_QM D cT T (fun v q2 => ∃ r : Int32, v = some (.int r) ∧ IV r (-1) 2147483647 ∧ qkm q2 ∧ fr [40, 41, 42, 43] q q2) [0, 32, 33, 35, 36, 37]) [.ref a0, .int y1, .int y2].toArray s 0 0 (th_A T [0, 32, 33, 35, 36, 37])) (F0 m 55 ls [])
            have pq31_0 : 0 ≤ q31 40 ∧ 0 ≤ q31 41 ∧ 0 ≤ q31 42 ∧ 0 ≤ q31 43 ∧ q31 40 + q31 41 + q31 42 + q31 43 ≤ 24 := pq31_0
            have wq31_11 : q31 11 = q 11 := g0q31 11 (by decide) (Or.inl (by decide))
            have h0q31 : fr [40, 41, 42, 43] q q31 := fr_tr fr_rf g0q31 (by decide)
            refine lv_iconst (v := 1) hx hb dX11_keep_55 (by decide) ?_
            refine lv_istore (lv' := [(4, .int 1), (3, .int (-1)), (0, .ref a0), (1, .int y1), (2, .int y2)]) hx hb dX11_keep_56 hl (by decide) rfl (fun ls hl => ?_)
            exact J58 ((400000 - (15625 * q31 40 + 625 * q31 41 + 25 * q31 42 + q31 43) + (1 : Int)).toNat + 1) q31 H locs ls (-1) 1 hqq31 h0q31 (iv_w (iv_c (by decide) : IV (-1) (-1) (-1)) (by decide)) (iv_w (iv_c (by decide) : IV 1 1 1) (by decide)) ir14 (show 0 ≤ q31 40 ∧ 0 ≤ q31 41 ∧ 0 ≤ q31 42 ∧ 0 ≤ q31 43 ∧ q31 40 + q31 41 + q31 42 + q31 43 ≤ 24 by omega) (show 1 ≤ q 11 by omega) hH hS (lv_sub hl [2, 3, 1, 0] rfl) (Nat.lt_succ_self _)
          · skip
            have rlc29 : x28.toInt < y2.toInt := iv_nle c29
            have ir32 : IV x28 (-2147483648) 11 := iv_uL ix28 ir19 (iv_nle c29) (by decide)
            have ir32a := ir32.1; have ir32b := ir32.2
            exact J42 H locs ls  hH hS (lv_sub hl [] rfl)
  exact J0 s.heap [] ls hH va_S.rf hl

set_option maxRecDepth 100000 in
theorem m_X11_folds (l : Launch) (D : va_G) (cT : Nat → ClassId) (T : Nat → Option Nat) (q : Nat → Int) (hT : tokm T) (hq : qkm q) (a0 : Nat) (t0 : T a0 = some 0) (y1 : Int32) (j1 : IV y1 (-2147483648) 2147483647) (y2 : Int32) (j2 : IV y2 (-2147483648) 2147483647) : th_Met l D cT T (km q) yX11_folds cX11_folds 6 (some .int) (rmk 6 138) [.ref a0, .int y1, .int y2] (th_R T (some (.inl (-2147483648, 2147483647)))) [0, 32, 33, 35] := by
  refine th_start (by decide) (Nat.le_of_ble_eq_true rfl) ?_
  intro p e s m below meth c ls S hK hH hr hlocks hnm hl
  have hx := S.1
  have hb := S.2.1
  have hl : lv_has ls 6 [(0, .ref a0), (1, .int y1), (2, .int y2)] := hl
  have J151 : ∀ (H : Heap) (locs : List Loc) (ls : Array Slot) (w151_0 : Int32), IV w151_0 (-2147483648) 2147483647 → th_H D cT T (km q) H → va_S (th_A T [0, 32, 33, 35]) s.heap H locs → lv_has ls 6 [] → W p l e (rmk 6 138) s m [.ref a0, .int y1, .int y2].toArray below meth c H locs 0 0 (MQ below (th_Q D cT T (km q) (th_R T (some (.inl (-2147483648, 2147483647)))) [0, 32, 33, 35]) [.ref a0, .int y1, .int y2].toArray s 0 0 (th_A T [0, 32, 33, 35])) (F0 m 151 ls [.int w151_0]) := by
    intro H locs ls w151_0 iw151_0 hH hS hl
    exact th_iret S hK hH hS hr hlocks (th_R.i iw151_0) dX11_folds_151
  have J151_s0_m1 : ∀ (H : Heap) (locs : List Loc) (ls : Array Slot), th_H D cT T (km q) H → va_S (th_A T [0, 32, 33, 35]) s.heap H locs → lv_has ls 6 [] → W p l e (rmk 6 138) s m [.ref a0, .int y1, .int y2].toArray below meth c H locs 0 0 (MQ below (th_Q D cT T (km q) (th_R T (some (.inl (-2147483648, 2147483647)))) [0, 32, 33, 35]) [.ref a0, .int y1, .int y2].toArray s 0 0 (th_A T [0, 32, 33, 35])) (F0 m 151 ls [.int (-1)]) := by
    intro H locs ls hH hS hl
    exact th_iret S hK hH hS hr hlocks (th_R.i (iv_top _)) dX11_folds_151
  have J30 : ∀ (n : Nat) (H : Heap) (locs : List Loc) (ls : Array Slot) (v30_3 : Int32) (v30_4 : Int32), IV v30_3 (-1) 2147483646 → IV v30_4 0 2147483647 → IV y1 1 20 → IV y2 0 1 → th_H D cT T (km q) H → va_S (th_A T [0, 32, 33, 35]) s.heap H locs → lv_has ls 6 [(0, .ref a0), (1, .int y1), (2, .int y2), (3, .int v30_3), (4, .int v30_4)] → (2147483647 + 1 - Int32.toInt v30_4).toNat < n → W p l e (rmk 6 138) s m [.ref a0, .int y1, .int y2].toArray below meth c H locs 0 0 (MQ below (th_Q D cT T (km q) (th_R T (some (.inl (-2147483648, 2147483647)))) [0, 32, 33, 35]) [.ref a0, .int y1, .int y2].toArray s 0 0 (th_A T [0, 32, 33, 35])) (F0 m 30 ls []) := by
    intro n
    induction n with
    | zero => intro H locs ls v30_3 v30_4 iv30_3 iv30_4 f30_y1 f30_y2 hH hS hl hn; exact absurd hn (Nat.not_lt_zero _)
    | succ n ih30 =>
      intro H locs ls v30_3 v30_4 iv30_3 iv30_4 f30_y1 f30_y2 hH hS hl hn30
      have J125 : ∀ (H : Heap) (locs : List Loc) (ls : Array Slot) (v125_3 : Int32), IV v125_3 (-1) 2147483646 → IV v30_4 0 2147483646 → IV y1 1 20 → IV y2 0 1 → th_H D cT T (km q) H → va_S (th_A T [0, 32, 33, 35]) s.heap H locs → lv_has ls 6 [(0, .ref a0), (1, .int y1), (2, .int y2), (3, .int v125_3), (4, .int v30_4)] → W p l e (rmk 6 138) s m [.ref a0, .int y1, .int y2].toArray below meth c H locs 0 0 (MQ below (th_Q D cT T (km q) (th_R T (some (.inl (-2147483648, 2147483647)))) [0, 32, 33, 35]) [.ref a0, .int y1, .int y2].toArray s 0 0 (th_A T [0, 32, 33, 35])) (F0 m 125 ls []) := by
        intro H locs ls v125_3 iv125_3 f125_v30_4 f125_y1 f125_y2 hH hS hl
        have l1v125_3 := iv125_3.1; have l2v125_3 := iv125_3.2
        refine th_iinc S dX11_folds_125 hl (k := 4) rfl (by decide) f125_v30_4 (by decide) (fun x1 ls ex1 ix1 hl => ?_)
        have hl : lv_has ls 6 [(4, .int x1), (0, .ref a0), (1, .int y1), (2, .int y2), (3, .int v125_3)] := hl
        have ix1 : IV x1 1 2147483647 := ix1
        refine lv_goto (tgt := 30) hx hb dX11_folds_128 (by decide) ?_
        exact ih30 H locs ls v125_3 x1 iv125_3 (iv_w ix1 (by decide)) f125_y1 f125_y2 hH hS (lv_sub hl [1, 2, 3, 4, 0] rfl) (th_up iv30_4 ex1 (by decide) hn30)
      have J121 : ∀ (H : Heap) (locs : List Loc) (ls : Array Slot) (v121_3 : Int32), IV v121_3 (-1) 2147483646 → IV v30_4 0 2147483646 → IV y1 1 20 → IV y2 0 1 → th_H D cT T (km q) H → va_S (th_A T [0, 32, 33, 35]) s.heap H locs → lv_has ls 6 [(0, .ref a0), (1, .int y1), (2, .int y2), (3, .int v121_3), (4, .int v30_4)] → W p l e (rmk 6 138) s m [.ref a0, .int y1, .int y2].toArray below meth c H locs 0 0 (MQ below (th_Q D cT T (km q) (th_R T (some (.inl (-2147483648, 2147483647)))) [0, 32, 33, 35]) [.ref a0, .int y1, .int y2].toArray s 0 0 (th_A T [0, 32, 33, 35])) (F0 m 121 ls []) := by
        intro H locs ls v121_3 iv121_3 f121_v30_4 f121_y1 f121_y2 hH hS hl
        have l1v121_3 := iv121_3.1; have l2v121_3 := iv121_3.2
        refine lv_aload_n hx hb dX11_folds_121 rfl (lv_at hl 0 rfl) ?_
        refine th_callVv (n := 0) (As := []) S hK hH hS (th_A.sub (by decide)) (m_X11_bringBack l D cT T q hT hq a0 t0) gm_1768 gm_1765 gm_1767 gm_99 gm_124 (by decide +kernel) ⟨rfl, rfl, Nat.le_of_ble_eq_true rfl, Nat.le_of_ble_eq_true rfl⟩ t0 km_0 rfl rfl hl.1 rfl (Nat.le_of_ble_eq_true rfl) dX11_folds_122 ⟨Nat.zero_le _, Nat.zero_le _⟩ (fun H locs hH hS hF1 => ?_)
        exact J125 H locs ls v121_3 iv121_3 f121_v30_4 f121_y1 f121_y2 hH hS (lv_sub hl [0, 1, 2, 3, 4] rfl)
      have J111 : ∀ (H : Heap) (locs : List Loc) (ls : Array Slot), IV v30_4 0 2147483646 → IV y1 1 20 → IV y2 0 1 → th_H D cT T (km q) H → va_S (th_A T [0, 32, 33, 35]) s.heap H locs → lv_has ls 6 [(0, .ref a0), (1, .int y1), (2, .int y2), (3, .int v30_3), (4, .int v30_4)] → W p l e (rmk 6 138) s m [.ref a0, .int y1, .int y2].toArray below meth c H locs 0 0 (MQ below (th_Q D cT T (km q) (th_R T (some (.inl (-2147483648, 2147483647)))) [0, 32, 33, 35]) [.ref a0, .int y1, .int y2].toArray s 0 0 (th_A T [0, 32, 33, 35])) (F0 m 111 ls []) := by
        intro H locs ls f111_v30_4 f111_y1 f111_y2 hH hS hl
        refine lv_aload_n hx hb dX11_folds_111 rfl (lv_at hl 0 rfl) ?_
        refine th_callVi (n := 0) (As := []) S hK hH hS (th_A.sub (by decide)) (m_X11_lost l D cT T q hT hq a0 t0) gm_1780 gm_1777 gm_1779 gm_100 gm_124 (by decide +kernel) ⟨rfl, rfl, Nat.le_of_ble_eq_true rfl, Nat.le_of_ble_eq_true rfl⟩ t0 km_0 rfl rfl hl.1 rfl (Nat.le_of_ble_eq_true rfl) dX11_folds_112 ⟨Nat.zero_le _, Nat.zero_le _⟩ (fun x2 H locs ix2 hH hS hF1 => ?_)
        refine lv_if_ne (tgt := 121) hx hb dX11_folds_115 (by decide) (fun c3 => ?_) (fun c3 => ?_)
        · skip
          have rlc3 : x2.toInt ≠ (0 : Int) := iv_ne c3
          exact J121 H locs ls v30_3 iv30_3 f111_v30_4 f111_y1 f111_y2 hH hS (lv_sub hl [0, 1, 2, 3, 4] rfl)
        · skip
          have rlc3 : x2.toInt = (0 : Int) := congrArg Int32.toInt c3
          have ir4 : IV x2 0 0 := iv_eL c3 (iv_c (by decide) : IV 0 0 0)
          have ir4a := ir4.1; have ir4b := ir4.2
          refine lv_iload hx hb dX11_folds_118 (lv_at hl 4 rfl) ?_
          refine lv_istore_n (lv' := [(3, .int v30_4), (0, .ref a0), (1, .int y1), (2, .int y2), (4, .int v30_4)]) hx hb dX11_folds_120 rfl hl (by decide) rfl (fun ls hl => ?_)
          exact J121 H locs ls v30_4 (iv_w f111_v30_4 (by decide)) f111_v30_4 f111_y1 f111_y2 hH hS (lv_sub hl [1, 2, 3, 0, 4] rfl)
      have J88 : ∀ (n : Nat) (H : Heap) (locs : List Loc) (ls : Array Slot) (v88_5 : Int32), IV v88_5 0 20 → IV v30_4 0 2147483646 → IV y1 1 20 → IV y2 0 1 → th_H D cT T (km q) H → va_S (th_A T [0, 32, 33, 35]) s.heap H locs → lv_has ls 6 [(0, .ref a0), (1, .int y1), (2, .int y2), (3, .int v30_3), (4, .int v30_4), (5, .int v88_5)] → (20 + 1 - Int32.toInt v88_5).toNat < n → W p l e (rmk 6 138) s m [.ref a0, .int y1, .int y2].toArray below meth c H locs 0 0 (MQ below (th_Q D cT T (km q) (th_R T (some (.inl (-2147483648, 2147483647)))) [0, 32, 33, 35]) [.ref a0, .int y1, .int y2].toArray s 0 0 (th_A T [0, 32, 33, 35])) (F0 m 88 ls []) := by
        intro n
        induction n with
        | zero => intro H locs ls v88_5 iv88_5 f88_v30_4 f88_y1 f88_y2 hH hS hl hn; exact absurd hn (Nat.not_lt_zero _)
        | succ n ih88 =>
          intro H locs ls v88_5 iv88_5 f88_v30_4 f88_y1 f88_y2 hH hS hl hn88
          have l1v88_5 := iv88_5.1; have l2v88_5 := iv88_5.2
          refine lv_iload hx hb dX11_folds_88 (lv_at hl 5 rfl) ?_
          refine lv_iload_n hx hb dX11_folds_90 rfl (lv_at hl 1 rfl) ?_
          refine lv_icmp_ge (tgt := 111) hx hb dX11_folds_91 (by decide) (fun c5 => ?_) (fun c5 => ?_)
          · skip
            have rlc5 : y1.toInt ≤ v88_5.toInt := iv_le c5
            have ir6 : IV v88_5 1 20 := iv_vR f88_y1 iv88_5 (iv_le c5) (by decide)
            have ir6a := ir6.1; have ir6b := ir6.2
            exact J111 H locs ls f88_v30_4 f88_y1 f88_y2 hH hS (lv_sub hl [0, 1, 2, 3, 4] rfl)
          · skip
            have rlc5 : v88_5.toInt < y1.toInt := iv_nle c5
            have ir7 : IV v88_5 0 19 := iv_uL iv88_5 f88_y1 (iv_nle c5) (by decide)
            have ir7a := ir7.1; have ir7b := ir7.2
            refine lv_aload_n hx hb dX11_folds_94 rfl (lv_at hl 0 rfl) ?_
            refine th_callVi (n := 0) (As := []) S hK hH hS (th_A.sub (by decide)) (m_X11_lost l D cT T q hT hq a0 t0) gm_1780 gm_1777 gm_1779 gm_100 gm_124 (by decide +kernel) ⟨rfl, rfl, Nat.le_of_ble_eq_true rfl, Nat.le_of_ble_eq_true rfl⟩ t0 km_0 rfl rfl hl.1 rfl (Nat.le_of_ble_eq_true rfl) dX11_folds_95 ⟨Nat.zero_le _, Nat.zero_le _⟩ (fun x8 H locs ix8 hH hS hF1 => ?_)
            refine lv_if_ne (tgt := 111) hx hb dX11_folds_98 (by decide) (fun c9 => ?_) (fun c9 => ?_)
            · skip
              have rlc9 : x8.toInt ≠ (0 : Int) := iv_ne c9
              exact J111 H locs ls f88_v30_4 f88_y1 f88_y2 hH hS (lv_sub hl [0, 1, 2, 3, 4] rfl)
            · skip
              have rlc9 : x8.toInt = (0 : Int) := congrArg Int32.toInt c9
              have ir10 : IV x8 0 0 := iv_eL c9 (iv_c (by decide) : IV 0 0 0)
              have ir10a := ir10.1; have ir10b := ir10.2
              refine lv_aload_n hx hb dX11_folds_101 rfl (lv_at hl 0 rfl) ?_
              refine th_callVv (n := 0) (As := []) S hK hH hS (th_A.sub (by decide)) (m_X11_goYear l D cT T q hT hq a0 t0) gm_1717 gm_1714 gm_1716 gm_93 gm_124 (by decide +kernel) ⟨rfl, rfl, Nat.le_of_ble_eq_true rfl, Nat.le_of_ble_eq_true rfl⟩ t0 km_0 rfl rfl hl.1 rfl (Nat.le_of_ble_eq_true rfl) dX11_folds_102 ⟨Nat.zero_le _, Nat.zero_le _⟩ (fun H locs hH hS hF1 => ?_)
              refine th_iinc S dX11_folds_105 hl (k := 5) rfl (by decide) ir7 (by decide) (fun x11 ls ex11 ix11 hl => ?_)
              have hl : lv_has ls 6 [(5, .int x11), (0, .ref a0), (1, .int y1), (2, .int y2), (3, .int v30_3), (4, .int v30_4)] := hl
              have ix11 : IV x11 1 20 := ix11
              refine lv_goto (tgt := 88) hx hb dX11_folds_108 (by decide) ?_
              exact ih88 H locs ls x11 (iv_w ix11 (by decide)) f88_v30_4 f88_y1 f88_y2 hH hS (lv_sub hl [1, 2, 3, 4, 5, 0] rfl) (th_up iv88_5 ex11 (by decide) hn88)
      have J73 : ∀ (H : Heap) (locs : List Loc) (ls : Array Slot), IV v30_4 0 1073741823 → IV y1 1 20 → IV y2 0 1 → th_H D cT T (km q) H → va_S (th_A T [0, 32, 33, 35]) s.heap H locs → lv_has ls 6 [(0, .ref a0), (1, .int y1), (2, .int y2), (3, .int v30_3), (4, .int v30_4)] → W p l e (rmk 6 138) s m [.ref a0, .int y1, .int y2].toArray below meth c H locs 0 0 (MQ below (th_Q D cT T (km q) (th_R T (some (.inl (-2147483648, 2147483647)))) [0, 32, 33, 35]) [.ref a0, .int y1, .int y2].toArray s 0 0 (th_A T [0, 32, 33, 35])) (F0 m 73 ls []) := by
        intro H locs ls f73_v30_4 f73_y1 f73_y2 hH hS hl
        refine lv_aload_n hx hb dX11_folds_73 rfl (lv_at hl 0 rfl) ?_
        refine th_get S hK hH inG11 t0 km_0 rfl 52 (by decide) gm_1282 rfl rfl dX11_folds_74 (fun v12 hv12 fv12 => ?_)
        obtain ⟨rf13, rfl, trf13⟩ := th_V.ref hv12
        refine lv_bipush (v := 39) hx hb dX11_folds_77 (by decide) ?_
        refine lv_dup2_11 hx hb dX11_folds_79 rfl rfl ?_
        refine th_iald S hK hH trf13 km_33 (th_in (hi := 39) (iv_w (iv_c (by decide) : IV 39 39 39) (by decide)) (by decide)) dX11_folds_80 (fun v14 hv14 => ?_)
        obtain ⟨x15, rfl, ix15⟩ := th_V.int hv14
        refine lv_iload hx hb dX11_folds_81 (lv_at hl 4 rfl) ?_
        refine lv_ior hx hb dX11_folds_83 ?_
        refine lv_topi (fun x16 ex16 => ?_)
        have ix16 := iv_top x16
        refine th_iast S hK hH hS ⟨33, by decide, trf13⟩ trf13 km_33 (th_in (hi := 39) (iv_w (iv_c (by decide) : IV 39 39 39) (by decide)) (by decide)) (th_iv ix16) dX11_folds_84 (fun H locs hH hS hq1 => ?_)
        have f17 := fv12.kept (hq1 _ (th_ne t0 trf13 (by decide)))
        refine lv_iconst (v := 0) hx hb dX11_folds_85 (by decide) ?_
        refine lv_istore (lv' := [(5, .int 0), (0, .ref a0), (1, .int y1), (2, .int y2), (3, .int v30_3), (4, .int v30_4)]) hx hb dX11_folds_86 hl (by decide) rfl (fun ls hl => ?_)
        exact J88 ((20 + 1 - Int32.toInt 0).toNat + 1) H locs ls 0 (iv_w (iv_c (by decide) : IV 0 0 0) (by decide)) (iv_w f73_v30_4 (by decide)) f73_y1 f73_y2 hH hS (lv_sub hl [1, 2, 3, 4, 5, 0] rfl) (Nat.lt_succ_self _)
      have l1v30_3 := iv30_3.1; have l2v30_3 := iv30_3.2
      have l1v30_4 := iv30_4.1; have l2v30_4 := iv30_4.2
      refine lv_iload hx hb dX11_folds_30 (lv_at hl 4 rfl) ?_
      refine lv_iconst (v := 1) hx hb dX11_folds_32 (by decide) ?_
      refine lv_aload_n hx hb dX11_folds_33 rfl (lv_at hl 0 rfl) ?_
      refine th_callVp (n := 0) (As := []) S hK hH hS (th_A.sub (by decide)) (m_X11_many l D cT T q hT hq a0 t0) gm_1229 gm_1226 gm_1228 gm_46 gm_124 (by decide +kernel) ⟨rfl, rfl, Nat.le_of_ble_eq_true rfl, Nat.le_of_ble_eq_true rfl⟩ t0 km_0 rfl rfl hl.1 rfl (Nat.le_of_ble_eq_true rfl) dX11_folds_34 ⟨Nat.zero_le _, Nat.zero_le _⟩ (fun x18 H locs ix18 ox18 hH hS hF1 => ?_)
      have ox18 : x18.toInt = q 11 := ox18
      refine lv_ishl hx hb dX11_folds_37 ?_
      refine lv_topi (fun x19 ex19 => ?_)
      have ix19 := iv_top x19
      have ix19 : IV x19 1 1073741824 := by rw [ex19]; exact iv_shl1 (iv_w ix18 (by decide))
      refine lv_icmp_ge (tgt := 131) hx hb dX11_folds_38 (by decide) (fun c20 => ?_) (fun c20 => ?_)
      · skip
        have rlc20 : x19.toInt ≤ v30_4.toInt := iv_le c20
        have ir21 : IV v30_4 1 2147483647 := iv_vR ix19 iv30_4 (iv_le c20) (by decide)
        have ir21a := ir21.1; have ir21b := ir21.2
        refine lv_iload_n hx hb dX11_folds_131 rfl (lv_at hl 3 rfl) ?_
        refine lv_if_ge (tgt := 139) hx hb dX11_folds_132 (by decide) (fun c22 => ?_) (fun c22 => ?_)
        · skip
          have rlc22 : (0 : Int) ≤ v30_3.toInt := iv_le c22
          have ir23 : IV v30_3 0 2147483646 := iv_vR (iv_c (by decide) : IV 0 0 0) iv30_3 (iv_le c22) (by decide)
          have ir23a := ir23.1; have ir23b := ir23.2
          refine lv_iload_n hx hb dX11_folds_139 rfl (lv_at hl 2 rfl) ?_
          refine lv_if_ne (tgt := 150) hx hb dX11_folds_140 (by decide) (fun c24 => ?_) (fun c24 => ?_)
          · skip
            have rlc24 : y2.toInt ≠ (0 : Int) := iv_ne c24
            have ir25 : IV y2 1 1 := iv_cutL f30_y2 (iv_c (by decide) : IV 0 0 0) c24 (by decide)
            have ir25a := ir25.1; have ir25b := ir25.2
            refine lv_iload_n hx hb dX11_folds_150 rfl (lv_at hl 3 rfl) ?_
            exact J151 H locs ls v30_3 (iv_top _) hH hS (lv_sub hl [] rfl)
          · skip
            have rlc24 : y2.toInt = (0 : Int) := congrArg Int32.toInt c24
            have ir26 : IV y2 0 0 := iv_eL c24 (iv_c (by decide) : IV 0 0 0)
            have ir26a := ir26.1; have ir26b := ir26.2
            refine lv_iload_n hx hb dX11_folds_143 rfl (lv_at hl 3 rfl) ?_
            refine th_callSi (n := 1) (As := [.int v30_3]) S hK hH hS (th_A.sub (by decide)) (m_X11_bitsOf l D cT T q hT hq (v30_3) (iv_top _)) gm_1736 gm_1734 gm_1735 gm_124 (by decide +kernel) ⟨rfl, rfl, Nat.le_of_ble_eq_true rfl, Nat.le_of_ble_eq_true rfl⟩ rfl hl.1 rfl (Nat.le_of_ble_eq_true rfl) dX11_folds_144 ⟨Nat.zero_le _, Nat.zero_le _⟩ (fun x27 H locs ix27 hH hS hF1 => ?_)
            refine lv_goto (tgt := 151) hx hb dX11_folds_147 (by decide) ?_
            exact J151 H locs ls x27 ix27 hH hS (lv_sub hl [] rfl)
        · skip
          have rlc22 : v30_3.toInt < (0 : Int) := iv_nle c22
          have ir28 : IV v30_3 (-1) (-1) := iv_uL iv30_3 (iv_c (by decide) : IV 0 0 0) (iv_nle c22) (by decide)
          have ir28a := ir28.1; have ir28b := ir28.2
          refine lv_iconst (v := (-1)) hx hb dX11_folds_135 (by decide) ?_
          refine lv_goto (tgt := 151) hx hb dX11_folds_136 (by decide) ?_
          exact J151_s0_m1 H locs ls  hH hS (lv_sub hl [] rfl)
      · skip
        have rlc20 : v30_4.toInt < x19.toInt := iv_nle c20
        have ir29 : IV v30_4 0 1073741823 := iv_uL iv30_4 ix19 (iv_nle c20) (by decide)
        have ir29a := ir29.1; have ir29b := ir29.2
        refine lv_iload hx hb dX11_folds_41 (lv_at hl 4 rfl) ?_
        refine lv_aload_n hx hb dX11_folds_43 rfl (lv_at hl 0 rfl) ?_
        refine th_get S hK hH inG11 t0 km_0 rfl 52 (by decide) gm_1282 rfl rfl dX11_folds_44 (fun v30 hv30 fv30 => ?_)
        obtain ⟨rf31, rfl, trf31⟩ := th_V.ref hv30
        refine lv_bipush (v := 39) hx hb dX11_folds_47 (by decide) ?_
        refine th_iald S hK hH trf31 km_33 (th_in (hi := 39) (iv_w (iv_c (by decide) : IV 39 39 39) (by decide)) (by decide)) dX11_folds_49 (fun v32 hv32 => ?_)
        obtain ⟨x33, rfl, ix33⟩ := th_V.int hv32
        refine lv_iand hx hb dX11_folds_50 ?_
        refine lv_topi (fun x34 ex34 => ?_)
        have ix34 : IV x34 0 1073741823 := by rw [ex34]; exact iv_andL (h1 := 1073741823) ir29 (by decide)
        refine lv_if_ne (tgt := 125) hx hb dX11_folds_51 (by decide) (fun c35 => ?_) (fun c35 => ?_)
        · skip
          have rlc35 : x34.toInt ≠ (0 : Int) := iv_ne c35
          have ir36 : IV x34 1 1073741823 := iv_cutL ix34 (iv_c (by decide) : IV 0 0 0) c35 (by decide)
          have ir36a := ir36.1; have ir36b := ir36.2
          exact J125 H locs ls v30_3 iv30_3 (iv_w ir29 (by decide)) f30_y1 f30_y2 hH hS (lv_sub hl [0, 1, 2, 3, 4] rfl)
        · skip
          have rlc35 : x34.toInt = (0 : Int) := congrArg Int32.toInt c35
          have ir37 : IV x34 0 0 := iv_eL c35 (iv_c (by decide) : IV 0 0 0)
          have ir37a := ir37.1; have ir37b := ir37.2
          refine lv_iload_n hx hb dX11_folds_54 rfl (lv_at hl 3 rfl) ?_
          refine lv_if_lt (tgt := 73) hx hb dX11_folds_55 (by decide) (fun c38 => ?_) (fun c38 => ?_)
          · skip
            have rlc38 : v30_3.toInt < (0 : Int) := iv_lt c38
            have ir39 : IV v30_3 (-1) (-1) := iv_uL iv30_3 (iv_c (by decide) : IV 0 0 0) (iv_lt c38) (by decide)
            have ir39a := ir39.1; have ir39b := ir39.2
            exact J73 H locs ls ir29 f30_y1 f30_y2 hH hS (lv_sub hl [0, 1, 2, 3, 4] rfl)
          · skip
            have rlc38 : (0 : Int) ≤ v30_3.toInt := iv_nlt c38
            have ir40 : IV v30_3 0 2147483646 := iv_vR (iv_c (by decide) : IV 0 0 0) iv30_3 (iv_nlt c38) (by decide)
            have ir40a := ir40.1; have ir40b := ir40.2
            refine lv_iload hx hb dX11_folds_58 (lv_at hl 4 rfl) ?_
            refine th_callSi (n := 1) (As := [.int v30_4]) S hK hH hS (th_A.sub (by decide)) (m_X11_bitsOf l D cT T q hT hq (v30_4) (iv_top _)) gm_1736 gm_1734 gm_1735 gm_124 (by decide +kernel) ⟨rfl, rfl, Nat.le_of_ble_eq_true rfl, Nat.le_of_ble_eq_true rfl⟩ rfl hl.1 rfl (Nat.le_of_ble_eq_true rfl) dX11_folds_60 ⟨Nat.zero_le _, Nat.zero_le _⟩ (fun x41 H locs ix41 hH hS hF1 => ?_)
            have f42 := fv30.kept (hF1 _ fv30.lt (th_off t0 (by decide)))
            refine lv_iload_n hx hb dX11_folds_63 rfl (lv_at hl 3 rfl) ?_
            refine th_callSi (n := 1) (As := [.int v30_3]) S hK hH hS (th_A.sub (by decide)) (m_X11_bitsOf l D cT T q hT hq (v30_3) (iv_top _)) gm_1736 gm_1734 gm_1735 gm_124 (by decide +kernel) ⟨rfl, rfl, Nat.le_of_ble_eq_true rfl, Nat.le_of_ble_eq_true rfl⟩ rfl hl.1 rfl (Nat.le_of_ble_eq_true rfl) dX11_folds_64 ⟨Nat.zero_le _, Nat.zero_le _⟩ (fun x43 H locs ix43 hH hS hF1 => ?_)
            have f44 := f42.kept (hF1 _ f42.lt (th_off t0 (by decide)))
            refine lv_icmp_lt (tgt := 73) hx hb dX11_folds_67 (by decide) (fun c45 => ?_) (fun c45 => ?_)
            · skip
              have rlc45 : x41.toInt < x43.toInt := iv_lt c45
              have ir46 : IV x41 (-2147483648) 2147483646 := iv_uL ix41 ix43 (iv_lt c45) (by decide)
              have ir46a := ir46.1; have ir46b := ir46.2
              have ir47 : IV x43 (-2147483647) 2147483647 := iv_uR ix41 ix43 (iv_lt c45) (by decide)
              have ir47a := ir47.1; have ir47b := ir47.2
              exact J73 H locs ls ir29 f30_y1 f30_y2 hH hS (lv_sub hl [0, 1, 2, 3, 4] rfl)
            · skip
              have rlc45 : x43.toInt ≤ x41.toInt := iv_nlt c45
              refine lv_goto (tgt := 125) hx hb dX11_folds_70 (by decide) ?_
              exact J125 H locs ls v30_3 (iv_w ir40 (by decide)) (iv_w ir29 (by decide)) f30_y1 f30_y2 hH hS (lv_sub hl [0, 1, 2, 3, 4] rfl)
  have J19 : ∀ (H : Heap) (locs : List Loc) (ls : Array Slot), th_H D cT T (km q) H → va_S (th_A T [0, 32, 33, 35]) s.heap H locs → lv_has ls 6 [] → W p l e (rmk 6 138) s m [.ref a0, .int y1, .int y2].toArray below meth c H locs 0 0 (MQ below (th_Q D cT T (km q) (th_R T (some (.inl (-2147483648, 2147483647)))) [0, 32, 33, 35]) [.ref a0, .int y1, .int y2].toArray s 0 0 (th_A T [0, 32, 33, 35])) (F0 m 19 ls []) := by
    intro H locs ls hH hS hl
    refine lv_iconst (v := (-1)) hx hb dX11_folds_19 (by decide) ?_
    exact th_iret S hK hH hS hr hlocks (th_R.i (iv_top _)) dX11_folds_20
  have J0 : ∀ (H : Heap) (locs : List Loc) (ls : Array Slot), th_H D cT T (km q) H → va_S (th_A T [0, 32, 33, 35]) s.heap H locs → lv_has ls 6 [(0, .ref a0), (1, .int y1), (2, .int y2)] → W p l e (rmk 6 138) s m [.ref a0, .int y1, .int y2].toArray below meth c H locs 0 0 (MQ below (th_Q D cT T (km q) (th_R T (some (.inl (-2147483648, 2147483647)))) [0, 32, 33, 35]) [.ref a0, .int y1, .int y2].toArray s 0 0 (th_A T [0, 32, 33, 35])) (F0 m 0 ls []) := by
    intro H locs ls hH hS hl
    refine lv_iload_n hx hb dX11_folds_0 rfl (lv_at hl 1 rfl) ?_
    refine lv_iconst (v := 1) hx hb dX11_folds_1 (by decide) ?_
    refine lv_bipush (v := 20) hx hb dX11_folds_2 (by decide) ?_
    refine th_callSp (n := 3) (As := [.int y1, .int 1, .int 20]) S hK hH hS (th_A.sub (by decide)) (m_X11_isIn l D cT T q hT hq (y1) j1 (1) (iv_top _) (20) (iv_top _)) gm_1618 gm_1616 gm_1617 gm_124 (by decide +kernel) ⟨rfl, rfl, Nat.le_of_ble_eq_true rfl, Nat.le_of_ble_eq_true rfl⟩ rfl hl.1 rfl (Nat.le_of_ble_eq_true rfl) dX11_folds_4 ⟨Nat.zero_le _, Nat.zero_le _⟩ (fun x48 H locs ix48 ox48 hH hS hF1 => ?_)
    obtain ⟨ox48_0, ox48_1⟩ := ox48
    have ox48_0 : x48.toInt ≠ 0 → (1 : Int) ≤ y1.toInt ∧ y1.toInt ≤ (20 : Int) := ox48_0
    have ox48_1 : x48.toInt = 0 → y1.toInt < (1 : Int) ∨ (20 : Int) < y1.toInt := ox48_1
    refine lv_if_eq (tgt := 19) hx hb dX11_folds_7 (by decide) (fun c49 => ?_) (fun c49 => ?_)
    · skip
      have rlc49 : x48.toInt = (0 : Int) := congrArg Int32.toInt c49
      have ir50 : IV x48 0 0 := iv_eL c49 (iv_c (by decide) : IV 0 0 0)
      have ir50a := ir50.1; have ir50b := ir50.2
      exact J19 H locs ls  hH hS (lv_sub hl [] rfl)
    · skip
      have rlc49 : x48.toInt ≠ (0 : Int) := iv_ne c49
      have ir51 : IV x48 1 1 := iv_cutL ix48 (iv_c (by decide) : IV 0 0 0) c49 (by decide)
      have ir51a := ir51.1; have ir51b := ir51.2
      have ir52 : IV y1 1 20 := ((fun z => by have z1 := iv_ne z; have z2 : x48.toInt ≠ 0 := z1; have z4 := ((iv_c (by decide) : IV 1 1 1)).1; have z5 := ((iv_c (by decide) : IV 20 20 20)).2; exact ⟨by omega, by omega⟩) : ¬ x48 = 0 → IV y1 1 20) c49
      have ir52a := ir52.1; have ir52b := ir52.2
      refine lv_iload_n hx hb dX11_folds_10 rfl (lv_at hl 2 rfl) ?_
      refine lv_iconst (v := 0) hx hb dX11_folds_11 (by decide) ?_
      refine lv_iconst (v := 1) hx hb dX11_folds_12 (by decide) ?_
      refine th_callSp (n := 3) (As := [.int y2, .int 0, .int 1]) S hK hH hS (th_A.sub (by decide)) (m_X11_isIn l D cT T q hT hq (y2) j2 (0) (iv_top _) (1) (iv_top _)) gm_1618 gm_1616 gm_1617 gm_124 (by decide +kernel) ⟨rfl, rfl, Nat.le_of_ble_eq_true rfl, Nat.le_of_ble_eq_true rfl⟩ rfl hl.1 rfl (Nat.le_of_ble_eq_true rfl) dX11_folds_13 ⟨Nat.zero_le _, Nat.zero_le _⟩ (fun x53 H locs ix53 ox53 hH hS hF1 => ?_)
      obtain ⟨ox53_0, ox53_1⟩ := ox53
      have ox53_0 : x53.toInt ≠ 0 → (0 : Int) ≤ y2.toInt ∧ y2.toInt ≤ (1 : Int) := ox53_0
      have ox53_1 : x53.toInt = 0 → y2.toInt < (0 : Int) ∨ (1 : Int) < y2.toInt := ox53_1
      refine lv_if_ne (tgt := 21) hx hb dX11_folds_16 (by decide) (fun c54 => ?_) (fun c54 => ?_)
      · skip
        have rlc54 : x53.toInt ≠ (0 : Int) := iv_ne c54
        have ir55 : IV x53 1 1 := iv_cutL ix53 (iv_c (by decide) : IV 0 0 0) c54 (by decide)
        have ir55a := ir55.1; have ir55b := ir55.2
        have ir56 : IV y2 0 1 := ((fun z => by have z1 := iv_ne z; have z2 : x53.toInt ≠ 0 := z1; have z4 := ((iv_c (by decide) : IV 0 0 0)).1; have z5 := ((iv_c (by decide) : IV 1 1 1)).2; exact ⟨by omega, by omega⟩) : ¬ x53 = 0 → IV y2 0 1) c54
        have ir56a := ir56.1; have ir56b := ir56.2
        refine lv_aload_n hx hb dX11_folds_21 rfl (lv_at hl 0 rfl) ?_
        refine th_callVv (n := 0) (As := []) S hK hH hS (th_A.sub (by decide)) (m_X11_keepNow l D cT T q hT hq a0 t0) gm_1713 gm_1710 gm_1712 gm_92 gm_124 (by decide +kernel) ⟨rfl, rfl, Nat.le_of_ble_eq_true rfl, Nat.le_of_ble_eq_true rfl⟩ t0 km_0 rfl rfl hl.1 rfl (Nat.le_of_ble_eq_true rfl) dX11_folds_22 ⟨Nat.zero_le _, Nat.zero_le _⟩ (fun H locs hH hS hF1 => ?_)
        refine lv_iconst (v := (-1)) hx hb dX11_folds_25 (by decide) ?_
        refine lv_istore_n (lv' := [(3, .int (-1)), (0, .ref a0), (1, .int y1), (2, .int y2)]) hx hb dX11_folds_26 rfl hl (by decide) rfl (fun ls hl => ?_)
        refine lv_iconst (v := 0) hx hb dX11_folds_27 (by decide) ?_
        refine lv_istore (lv' := [(4, .int 0), (3, .int (-1)), (0, .ref a0), (1, .int y1), (2, .int y2)]) hx hb dX11_folds_28 hl (by decide) rfl (fun ls hl => ?_)
        exact J30 ((2147483647 + 1 - Int32.toInt 0).toNat + 1) H locs ls (-1) 0 (iv_w (iv_c (by decide) : IV (-1) (-1) (-1)) (by decide)) (iv_w (iv_c (by decide) : IV 0 0 0) (by decide)) ir52 ir56 hH hS (lv_sub hl [2, 3, 4, 1, 0] rfl) (Nat.lt_succ_self _)
      · skip
        have rlc54 : x53.toInt = (0 : Int) := congrArg Int32.toInt c54
        have ir57 : IV x53 0 0 := iv_eL c54 (iv_c (by decide) : IV 0 0 0)
        have ir57a := ir57.1; have ir57b := ir57.2
        exact J19 H locs ls  hH hS (lv_sub hl [] rfl)
  exact J0 s.heap [] ls hH va_S.rf hl

set_option maxRecDepth 100000 in
theorem m_X11_drawerIn (l : Launch) (D : va_G) (cT : Nat → ClassId) (T : Nat → Option Nat) (q : Nat → Int) (hT : tokm T) (hq : qkm q) (a0 : Nat) (t0 : T a0 = some 0) (y1 : Int32) (j1 : IV y1 (-2147483648) 2147483647) (y2 : Int32) (j2 : IV y2 1 4) (y3 : Int32) (j3 : IV y3 0 3) : th_Met l D cT T (km q) yX11_drawerIn cX11_drawerIn 6 (some .int) (rmk 1 20) [.ref a0, .int y1, .int y2, .int y3] (th_R T (some (.inl (-3, 3)))) [] := by
  refine th_start (by decide) (Nat.le_of_ble_eq_true rfl) ?_
  intro p e s m below meth c ls S hK hH hr hlocks hnm hl
  have hx := S.1
  have hb := S.2.1
  have l1y2 := j2.1; have l2y2 := j2.2
  have l1y3 := j3.1; have l2y3 := j3.2
  have hl : lv_has ls 6 [(0, .ref a0), (1, .int y1), (2, .int y2), (3, .int y3)] := hl
  have J11 : ∀ (n : Nat) (H : Heap) (locs : List Loc) (ls : Array Slot) (v11_4 : Int32) (v11_5 : Int32), IV v11_4 (-2147483648) 2147483647 → IV v11_5 (-1) 3 → th_H D cT T (km q) H → va_S (th_A T []) s.heap H locs → lv_has ls 6 [(2, .int y2), (3, .int y3), (4, .int v11_4), (5, .int v11_5)] → (Int32.toInt v11_5 + 1 - (-1)).toNat < n → W p l e (rmk 1 20) s m [.ref a0, .int y1, .int y2, .int y3].toArray below meth c H locs 0 0 (MQ below (th_Q D cT T (km q) (th_R T (some (.inl (-3, 3)))) []) [.ref a0, .int y1, .int y2, .int y3].toArray s 0 0 (th_A T [])) (F0 m 11 ls []) := by
    intro n
    induction n with
    | zero => intro H locs ls v11_4 v11_5 iv11_4 iv11_5 hH hS hl hn; exact absurd hn (Nat.not_lt_zero _)
    | succ n ih11 =>
      intro H locs ls v11_4 v11_5 iv11_4 iv11_5 hH hS hl hn11
      have l1v11_5 := iv11_5.1; have l2v11_5 := iv11_5.2
      refine lv_iload hx hb dX11_drawerIn_11 (lv_at hl 3 rfl) ?_
      refine lv_iload_n hx hb dX11_drawerIn_13 rfl (lv_at hl 1 rfl) ?_
      refine lv_icmp_le (tgt := 29) hx hb dX11_drawerIn_14 (by decide) (fun c1 => ?_) (fun c1 => ?_)
      · skip
        have rlc1 : v11_5.toInt ≤ y3.toInt := iv_le c1
        refine lv_iload hx hb dX11_drawerIn_29 (lv_at hl 2 rfl) ?_
        refine lv_iload_n hx hb dX11_drawerIn_31 rfl (lv_at hl 0 rfl) ?_
        refine lv_irem hx hb dX11_drawerIn_32 (iv_n0 j2 (by decide)) ?_
        refine lv_topi (fun x2 ex2 => ?_)
        have ix2 : IV x2 (-3) 3 := by rw [ex2]; exact iv_rmS j2 (by decide)
        exact th_iret S hK hH hS hr hlocks (th_R.i ix2) dX11_drawerIn_33
      · skip
        have rlc1 : y3.toInt < v11_5.toInt := iv_nle c1
        have ir3 : IV y3 0 2 := iv_uL j3 iv11_5 (iv_nle c1) (by decide)
        have ir3a := ir3.1; have ir3b := ir3.2
        have ir4 : IV v11_5 1 3 := iv_uR j3 iv11_5 (iv_nle c1) (by decide)
        have ir4a := ir4.1; have ir4b := ir4.2
        refine lv_iload hx hb dX11_drawerIn_17 (lv_at hl 2 rfl) ?_
        refine lv_iload_n hx hb dX11_drawerIn_19 rfl (lv_at hl 0 rfl) ?_
        refine lv_idiv hx hb dX11_drawerIn_20 (iv_n0 j2 (by decide)) ?_
        refine lv_topi (fun x5 ex5 => ?_)
        have ix5 := iv_top x5
        refine lv_istore (lv' := [(4, .int x5), (2, .int y2), (3, .int y3), (5, .int v11_5)]) hx hb dX11_drawerIn_21 hl (by decide) rfl (fun ls hl => ?_)
        refine th_iinc S dX11_drawerIn_23 hl (k := 3) rfl (by decide) ir4 (by decide) (fun x6 ls ex6 ix6 hl => ?_)
        have hl : lv_has ls 6 [(5, .int x6), (4, .int x5), (2, .int y2), (3, .int y3)] := hl
        have ix6 : IV x6 0 2 := ix6
        refine lv_goto (tgt := 11) hx hb dX11_drawerIn_26 (by decide) ?_
        exact ih11 H locs ls x5 x6 ix5 (iv_w ix6 (by decide)) hH hS (lv_sub hl [2, 3, 1, 0] rfl) (th_down iv11_5 ex6 (by decide) hn11)
  have J0 : ∀ (H : Heap) (locs : List Loc) (ls : Array Slot), th_H D cT T (km q) H → va_S (th_A T []) s.heap H locs → lv_has ls 6 [(0, .ref a0), (1, .int y1), (2, .int y2), (3, .int y3)] → W p l e (rmk 1 20) s m [.ref a0, .int y1, .int y2, .int y3].toArray below meth c H locs 0 0 (MQ below (th_Q D cT T (km q) (th_R T (some (.inl (-3, 3)))) []) [.ref a0, .int y1, .int y2, .int y3].toArray s 0 0 (th_A T [])) (F0 m 0 ls []) := by
    intro H locs ls hH hS hl
    refine lv_iload_n hx hb dX11_drawerIn_0 rfl (lv_at hl 1 rfl) ?_
    refine lv_istore (lv' := [(4, .int y1), (0, .ref a0), (1, .int y1), (2, .int y2), (3, .int y3)]) hx hb dX11_drawerIn_1 hl (by decide) rfl (fun ls hl => ?_)
    refine lv_aload_n hx hb dX11_drawerIn_3 rfl (lv_at hl 1 rfl) ?_
    refine th_callVp (n := 0) (As := []) S hK hH hS (th_A.sub (by decide)) (m_X11_many l D cT T q hT hq a0 t0) gm_1229 gm_1226 gm_1228 gm_46 gm_124 (by decide +kernel) ⟨rfl, rfl, Nat.le_of_ble_eq_true rfl, Nat.le_of_ble_eq_true rfl⟩ t0 km_0 rfl rfl hl.1 rfl (Nat.le_of_ble_eq_true rfl) dX11_drawerIn_4 ⟨Nat.zero_le _, Nat.zero_le _⟩ (fun x7 H locs ix7 ox7 hH hS hF1 => ?_)
    have ox7 : x7.toInt = q 11 := ox7
    refine lv_iconst (v := 1) hx hb dX11_drawerIn_7 (by decide) ?_
    refine lv_isub hx hb dX11_drawerIn_8 ?_
    refine lv_topi (fun x8 ex8 => ?_)
    have ix8 : IV x8 (-1) 3 := by rw [ex8]; exact iv_sub ix7 (iv_c (by decide) : IV 1 1 1) (by decide)
    have ux8 : x8.toInt = x7.toInt - (1 : Int) := by rw [ex8]; exact iv_subE (by have z1 := (ix7).1; have z2 := (ix7).2; have z3 := ((iv_c (by decide) : IV 1 1 1)).1; have z4 := ((iv_c (by decide) : IV 1 1 1)).2; omega)
    refine lv_istore (lv' := [(5, .int x8), (4, .int y1), (0, .ref a0), (1, .int y1), (2, .int y2), (3, .int y3)]) hx hb dX11_drawerIn_9 hl (by decide) rfl (fun ls hl => ?_)
    exact J11 ((Int32.toInt x8 + 1 - (-1)).toNat + 1) H locs ls y1 x8 j1 ix8 hH hS (lv_sub hl [4, 5, 1, 0] rfl) (Nat.lt_succ_self _)
  exact J0 s.heap [] ls hH va_S.rf hl

set_option maxRecDepth 100000 in
theorem m_X11_isParted (l : Launch) (D : va_G) (cT : Nat → ClassId) (T : Nat → Option Nat) (q : Nat → Int) (hT : tokm T) (hq : qkm q) (a0 : Nat) (t0 : T a0 = some 0) (y1 : Int32) (j1 : IV y1 (-2147483648) 2147483647) (y2 : Int32) (j2 : IV y2 1 4) : th_Met l D cT T (km q) yX11_isParted cX11_isParted 5 (some .boolean) (rmk 2 45) [.ref a0, .int y1, .int y2] (th_R T (some (.inl (0, 1)))) [] := by
  refine th_start (by decide) (Nat.le_of_ble_eq_true rfl) ?_
  intro p e s m below meth c ls S hK hH hr hlocks hnm hl
  have hx := S.1
  have hb := S.2.1
  have l1y2 := j2.1; have l2y2 := j2.2
  have hl : lv_has ls 5 [(0, .ref a0), (1, .int y1), (2, .int y2)] := hl
  have J2 : ∀ (n : Nat) (H : Heap) (locs : List Loc) (ls : Array Slot) (v2_3 : Int32), IV v2_3 0 4 → th_H D cT T (km q) H → va_S (th_A T []) s.heap H locs → lv_has ls 5 [(0, .ref a0), (1, .int y1), (2, .int y2), (3, .int v2_3)] → (4 + 1 - Int32.toInt v2_3).toNat < n → W p l e (rmk 2 45) s m [.ref a0, .int y1, .int y2].toArray below meth c H locs 0 0 (MQ below (th_Q D cT T (km q) (th_R T (some (.inl (0, 1)))) []) [.ref a0, .int y1, .int y2].toArray s 0 0 (th_A T [])) (F0 m 2 ls []) := by
    intro n
    induction n with
    | zero => intro H locs ls v2_3 iv2_3 hH hS hl hn; exact absurd hn (Nat.not_lt_zero _)
    | succ n ih2 =>
      intro H locs ls v2_3 iv2_3 hH hS hl hn2
      have J13 : ∀ (n : Nat) (H : Heap) (locs : List Loc) (ls : Array Slot) (v13_4 : Int32), IV v13_4 0 3 → IV v2_3 0 3 → th_H D cT T (km q) H → va_S (th_A T []) s.heap H locs → lv_has ls 5 [(0, .ref a0), (1, .int y1), (2, .int y2), (3, .int v2_3), (4, .int v13_4)] → (3 + 1 - Int32.toInt v13_4).toNat < n → W p l e (rmk 2 45) s m [.ref a0, .int y1, .int y2].toArray below meth c H locs 0 0 (MQ below (th_Q D cT T (km q) (th_R T (some (.inl (0, 1)))) []) [.ref a0, .int y1, .int y2].toArray s 0 0 (th_A T [])) (F0 m 13 ls []) := by
        intro n
        induction n with
        | zero => intro H locs ls v13_4 iv13_4 f13_v2_3 hH hS hl hn; exact absurd hn (Nat.not_lt_zero _)
        | succ n ih13 =>
          intro H locs ls v13_4 iv13_4 f13_v2_3 hH hS hl hn13
          have J60 : ∀ (H : Heap) (locs : List Loc) (ls : Array Slot), IV v13_4 0 2 → IV v2_3 1 3 → th_H D cT T (km q) H → va_S (th_A T []) s.heap H locs → lv_has ls 5 [(0, .ref a0), (1, .int y1), (2, .int y2), (3, .int v2_3), (4, .int v13_4)] → W p l e (rmk 2 45) s m [.ref a0, .int y1, .int y2].toArray below meth c H locs 0 0 (MQ below (th_Q D cT T (km q) (th_R T (some (.inl (0, 1)))) []) [.ref a0, .int y1, .int y2].toArray s 0 0 (th_A T [])) (F0 m 60 ls []) := by
            intro H locs ls f60_v13_4 f60_v2_3 hH hS hl
            refine th_iinc S dX11_isParted_60 hl (k := 4) rfl (by decide) f60_v13_4 (by decide) (fun x1 ls ex1 ix1 hl => ?_)
            have hl : lv_has ls 5 [(4, .int x1), (0, .ref a0), (1, .int y1), (2, .int y2), (3, .int v2_3)] := hl
            have ix1 : IV x1 1 3 := ix1
            refine lv_goto (tgt := 13) hx hb dX11_isParted_63 (by decide) ?_
            exact ih13 H locs ls x1 (iv_w ix1 (by decide)) (iv_w f60_v2_3 (by decide)) hH hS (lv_sub hl [1, 2, 3, 4, 0] rfl) (th_up iv13_4 ex1 (by decide) hn13)
          have l1v13_4 := iv13_4.1; have l2v13_4 := iv13_4.2
          refine lv_iload hx hb dX11_isParted_13 (lv_at hl 4 rfl) ?_
          refine lv_iload_n hx hb dX11_isParted_15 rfl (lv_at hl 3 rfl) ?_
          refine lv_icmp_ge (tgt := 66) hx hb dX11_isParted_16 (by decide) (fun c2 => ?_) (fun c2 => ?_)
          · skip
            have rlc2 : v2_3.toInt ≤ v13_4.toInt := iv_le c2
            refine th_iinc S dX11_isParted_66 hl (k := 3) rfl (by decide) f13_v2_3 (by decide) (fun x3 ls ex3 ix3 hl => ?_)
            have hl : lv_has ls 5 [(3, .int x3), (0, .ref a0), (1, .int y1), (2, .int y2), (4, .int v13_4)] := hl
            have ix3 : IV x3 1 4 := ix3
            refine lv_goto (tgt := 2) hx hb dX11_isParted_69 (by decide) ?_
            exact ih2 H locs ls x3 (iv_w ix3 (by decide)) hH hS (lv_sub hl [1, 2, 3, 0] rfl) (th_up iv2_3 ex3 (by decide) hn2)
          · skip
            have rlc2 : v13_4.toInt < v2_3.toInt := iv_nle c2
            have ir4 : IV v13_4 0 2 := iv_uL iv13_4 f13_v2_3 (iv_nle c2) (by decide)
            have ir4a := ir4.1; have ir4b := ir4.2
            have ir5 : IV v2_3 1 3 := iv_uR iv13_4 f13_v2_3 (iv_nle c2) (by decide)
            have ir5a := ir5.1; have ir5b := ir5.2
            refine lv_aload_n hx hb dX11_isParted_19 rfl (lv_at hl 0 rfl) ?_
            refine th_get S hK hH inG11 t0 km_0 rfl 22 (by decide) gm_1252 rfl rfl dX11_isParted_20 (fun v6 hv6 fv6 => ?_)
            obtain ⟨rf7, rfl, trf7⟩ := th_V.ref hv6
            refine lv_iconst (v := 4) hx hb dX11_isParted_23 (by decide) ?_
            refine lv_aload_n hx hb dX11_isParted_24 rfl (lv_at hl 0 rfl) ?_
            refine th_get S hK hH inG11 t0 km_0 rfl 41 (by decide) gm_1271 rfl rfl dX11_isParted_25 (fun v8 hv8 fv8 => ?_)
            obtain ⟨x9, rfl, ix9⟩ := th_V.int hv8
            have kx9a : q 10 ≤ x9.toInt := ix9.1
            have kx9b : x9.toInt ≤ q 10 := ix9.2
            have ix9 : IV x9 0 1 := iv_w ix9 (qkm_10 hq)
            refine lv_imul hx hb dX11_isParted_28 ?_
            refine lv_topi (fun x10 ex10 => ?_)
            have ix10 : IV x10 0 4 := by rw [ex10]; exact iv_mul (iv_c (by decide) : IV 4 4 4) ix9 (by decide) (by decide)
            have ux10 : x10.toInt = (4 : Int) * x9.toInt := by rw [ex10]; exact iv_mulE (iv_corner ((iv_c (by decide) : IV 4 4 4)).1 ((iv_c (by decide) : IV 4 4 4)).2 (ix9).1 (ix9).2 (by decide))
            refine lv_iload_n hx hb dX11_isParted_29 rfl (lv_at hl 3 rfl) ?_
            refine lv_iadd hx hb dX11_isParted_30 ?_
            refine lv_topi (fun x11 ex11 => ?_)
            have ix11 : IV x11 1 7 := by rw [ex11]; exact iv_add ix10 ir5 (by decide)
            have ux11 : x11.toInt = x10.toInt + v2_3.toInt := by rw [ex11]; exact iv_addE (by have z1 := (ix10).1; have z2 := (ix10).2; have z3 := (ir5).1; have z4 := (ir5).2; omega)
            refine th_iald S hK hH trf7 km_14 (th_in (hi := 7) (iv_w ix11 (by decide)) (by decide)) dX11_isParted_31 (fun v12 hv12 => ?_)
            obtain ⟨x13, rfl, ix13⟩ := th_V.int hv12
            refine lv_iload hx hb dX11_isParted_32 (lv_at hl 4 rfl) ?_
            refine th_callSp (n := 2) (As := [.int x13, .int v13_4]) S hK hH hS (th_A.sub (by decide)) (m_X11_has l D cT T q hT hq (x13) ix13 (v13_4) (iv_top _)) gm_1633 gm_1631 gm_1632 gm_124 (by decide +kernel) ⟨rfl, rfl, Nat.le_of_ble_eq_true rfl, Nat.le_of_ble_eq_true rfl⟩ rfl hl.1 rfl (Nat.le_of_ble_eq_true rfl) dX11_isParted_34 ⟨Nat.zero_le _, Nat.zero_le _⟩ (fun x14 H locs ix14 ox14 hH hS hF1 => ?_)
            have ox14 : x14.toInt = 0 → ¬ ((x13 >>> (v13_4 &&& 31)) &&& 1 = 1) := ox14
            refine lv_if_eq (tgt := 60) hx hb dX11_isParted_37 (by decide) (fun c15 => ?_) (fun c15 => ?_)
            · skip
              have rlc15 : x14.toInt = (0 : Int) := congrArg Int32.toInt c15
              have ir16 : IV x14 0 0 := iv_eL c15 (iv_c (by decide) : IV 0 0 0)
              have ir16a := ir16.1; have ir16b := ir16.2
              exact J60 H locs ls ir4 ir5 hH hS (lv_sub hl [0, 1, 2, 3, 4] rfl)
            · skip
              have rlc15 : x14.toInt ≠ (0 : Int) := iv_ne c15
              have ir17 : IV x14 1 1 := iv_cutL ix14 (iv_c (by decide) : IV 0 0 0) c15 (by decide)
              have ir17a := ir17.1; have ir17b := ir17.2
              refine lv_aload_n hx hb dX11_isParted_40 rfl (lv_at hl 0 rfl) ?_
              refine lv_iload_n hx hb dX11_isParted_41 rfl (lv_at hl 1 rfl) ?_
              refine lv_iload_n hx hb dX11_isParted_42 rfl (lv_at hl 2 rfl) ?_
              refine lv_iload_n hx hb dX11_isParted_43 rfl (lv_at hl 3 rfl) ?_
              refine th_callVi (n := 3) (As := [.int y1, .int y2, .int v2_3]) S hK hH hS (th_A.sub (by decide)) (m_X11_drawerIn l D cT T q hT hq a0 t0 (y1) j1 (y2) j2 (v2_3) (iv_w ir5 (by decide))) gm_1844 gm_1841 gm_1843 gm_108 gm_124 (by decide +kernel) ⟨rfl, rfl, Nat.le_of_ble_eq_true rfl, Nat.le_of_ble_eq_true rfl⟩ t0 km_0 rfl rfl hl.1 rfl (Nat.le_of_ble_eq_true rfl) dX11_isParted_44 ⟨Nat.zero_le _, Nat.zero_le _⟩ (fun x18 H locs ix18 hH hS hF1 => ?_)
              refine lv_aload_n hx hb dX11_isParted_47 rfl (lv_at hl 0 rfl) ?_
              refine lv_iload_n hx hb dX11_isParted_48 rfl (lv_at hl 1 rfl) ?_
              refine lv_iload_n hx hb dX11_isParted_49 rfl (lv_at hl 2 rfl) ?_
              refine lv_iload hx hb dX11_isParted_50 (lv_at hl 4 rfl) ?_
              refine th_callVi (n := 3) (As := [.int y1, .int y2, .int v13_4]) S hK hH hS (th_A.sub (by decide)) (m_X11_drawerIn l D cT T q hT hq a0 t0 (y1) j1 (y2) j2 (v13_4) (iv_w ir4 (by decide))) gm_1844 gm_1841 gm_1843 gm_108 gm_124 (by decide +kernel) ⟨rfl, rfl, Nat.le_of_ble_eq_true rfl, Nat.le_of_ble_eq_true rfl⟩ t0 km_0 rfl rfl hl.1 rfl (Nat.le_of_ble_eq_true rfl) dX11_isParted_52 ⟨Nat.zero_le _, Nat.zero_le _⟩ (fun x19 H locs ix19 hH hS hF1 => ?_)
              refine lv_icmp_ne (tgt := 60) hx hb dX11_isParted_55 (by decide) (fun c20 => ?_) (fun c20 => ?_)
              · skip
                have rlc20 : x18.toInt ≠ x19.toInt := iv_ne c20
                exact J60 H locs ls ir4 ir5 hH hS (lv_sub hl [0, 1, 2, 3, 4] rfl)
              · skip
                have rlc20 : x18.toInt = x19.toInt := congrArg Int32.toInt c20
                refine lv_iconst (v := 0) hx hb dX11_isParted_58 (by decide) ?_
                exact th_zret S hK hH hS hr hlocks (iv_w (iv_c (by decide) : IV 0 0 0) (by decide)) (th_R.i (iv_w (iv_c (by decide) : IV 0 0 0) (by decide))) dX11_isParted_59
      have l1v2_3 := iv2_3.1; have l2v2_3 := iv2_3.2
      refine lv_iload_n hx hb dX11_isParted_2 rfl (lv_at hl 3 rfl) ?_
      refine lv_aload_n hx hb dX11_isParted_3 rfl (lv_at hl 0 rfl) ?_
      refine th_callVp (n := 0) (As := []) S hK hH hS (th_A.sub (by decide)) (m_X11_many l D cT T q hT hq a0 t0) gm_1229 gm_1226 gm_1228 gm_46 gm_124 (by decide +kernel) ⟨rfl, rfl, Nat.le_of_ble_eq_true rfl, Nat.le_of_ble_eq_true rfl⟩ t0 km_0 rfl rfl hl.1 rfl (Nat.le_of_ble_eq_true rfl) dX11_isParted_4 ⟨Nat.zero_le _, Nat.zero_le _⟩ (fun x21 H locs ix21 ox21 hH hS hF1 => ?_)
      have ox21 : x21.toInt = q 11 := ox21
      refine lv_icmp_ge (tgt := 72) hx hb dX11_isParted_7 (by decide) (fun c22 => ?_) (fun c22 => ?_)
      · skip
        have rlc22 : x21.toInt ≤ v2_3.toInt := iv_le c22
        refine lv_iconst (v := 1) hx hb dX11_isParted_72 (by decide) ?_
        exact th_zret S hK hH hS hr hlocks (iv_w (iv_c (by decide) : IV 1 1 1) (by decide)) (th_R.i (iv_w (iv_c (by decide) : IV 1 1 1) (by decide))) dX11_isParted_73
      · skip
        have rlc22 : v2_3.toInt < x21.toInt := iv_nle c22
        have ir23 : IV v2_3 0 3 := iv_uL iv2_3 ix21 (iv_nle c22) (by decide)
        have ir23a := ir23.1; have ir23b := ir23.2
        have ir24 : IV x21 1 4 := iv_uR iv2_3 ix21 (iv_nle c22) (by decide)
        have ir24a := ir24.1; have ir24b := ir24.2
        refine lv_iconst (v := 0) hx hb dX11_isParted_10 (by decide) ?_
        refine lv_istore (lv' := [(4, .int 0), (0, .ref a0), (1, .int y1), (2, .int y2), (3, .int v2_3)]) hx hb dX11_isParted_11 hl (by decide) rfl (fun ls hl => ?_)
        exact J13 ((3 + 1 - Int32.toInt 0).toNat + 1) H locs ls 0 (iv_w (iv_c (by decide) : IV 0 0 0) (by decide)) ir23 hH hS (lv_sub hl [1, 2, 3, 4, 0] rfl) (Nat.lt_succ_self _)
  have J0 : ∀ (H : Heap) (locs : List Loc) (ls : Array Slot), th_H D cT T (km q) H → va_S (th_A T []) s.heap H locs → lv_has ls 5 [(0, .ref a0), (1, .int y1), (2, .int y2)] → W p l e (rmk 2 45) s m [.ref a0, .int y1, .int y2].toArray below meth c H locs 0 0 (MQ below (th_Q D cT T (km q) (th_R T (some (.inl (0, 1)))) []) [.ref a0, .int y1, .int y2].toArray s 0 0 (th_A T [])) (F0 m 0 ls []) := by
    intro H locs ls hH hS hl
    refine lv_iconst (v := 0) hx hb dX11_isParted_0 (by decide) ?_
    refine lv_istore_n (lv' := [(3, .int 0), (0, .ref a0), (1, .int y1), (2, .int y2)]) hx hb dX11_isParted_1 rfl hl (by decide) rfl (fun ls hl => ?_)
    exact J2 ((4 + 1 - Int32.toInt 0).toNat + 1) H locs ls 0 (iv_w (iv_c (by decide) : IV 0 0 0) (by decide)) hH hS (lv_sub hl [1, 2, 3, 0] rfl) (Nat.lt_succ_self _)
  exact J0 s.heap [] ls hH va_S.rf hl

set_option maxRecDepth 100000 in
theorem m_X11_waysInto (l : Launch) (D : va_G) (cT : Nat → ClassId) (T : Nat → Option Nat) (q : Nat → Int) (hT : tokm T) (hq : qkm q) (a0 : Nat) (t0 : T a0 = some 0) (y1 : Int32) (j1 : IV y1 1 4) : th_Met l D cT T (km q) yX11_waysInto cX11_waysInto 6 (some .int) (rmk 3 69) [.ref a0, .int y1] (th_R T (some (.inl (-2147483648, 2147483647)))) [0, 36] := by
  refine th_start (by decide) (Nat.le_of_ble_eq_true rfl) ?_
  intro p e s m below meth c ls S hK hH hr hlocks hnm hl
  have hx := S.1
  have hb := S.2.1
  have l1y1 := j1.1; have l2y1 := j1.2
  have hl : lv_has ls 6 [(0, .ref a0), (1, .int y1)] := hl
  have J27 : ∀ (n : Nat) (H : Heap) (locs : List Loc) (ls : Array Slot) (v27_2 : Int32) (v27_3 : Int32) (v27_4 : Int32), IV v27_2 (-2147483648) 2147483647 → IV v27_3 (-2147483648) 2147483647 → IV v27_4 0 2147483647 → th_H D cT T (km q) H → va_S (th_A T [0, 36]) s.heap H locs → lv_has ls 6 [(0, .ref a0), (1, .int y1), (2, .int v27_2), (3, .int v27_3), (4, .int v27_4)] → (2147483647 + 1 - Int32.toInt v27_4).toNat < n → W p l e (rmk 3 69) s m [.ref a0, .int y1].toArray below meth c H locs 0 0 (MQ below (th_Q D cT T (km q) (th_R T (some (.inl (-2147483648, 2147483647)))) [0, 36]) [.ref a0, .int y1].toArray s 0 0 (th_A T [0, 36])) (F0 m 27 ls []) := by
    intro n
    induction n with
    | zero => intro H locs ls v27_2 v27_3 v27_4 iv27_2 iv27_3 iv27_4 hH hS hl hn; exact absurd hn (Nat.not_lt_zero _)
    | succ n ih27 =>
      intro H locs ls v27_2 v27_3 v27_4 iv27_2 iv27_3 iv27_4 hH hS hl hn27
      have J95 : ∀ (H : Heap) (locs : List Loc) (ls : Array Slot) (v95_3 : Int32), IV v95_3 (-2147483648) 2147483647 → IV v27_2 1 2147483647 → IV v27_4 0 2147483646 → th_H D cT T (km q) H → va_S (th_A T [0, 36]) s.heap H locs → lv_has ls 6 [(0, .ref a0), (1, .int y1), (2, .int v27_2), (3, .int v95_3), (4, .int v27_4)] → W p l e (rmk 3 69) s m [.ref a0, .int y1].toArray below meth c H locs 0 0 (MQ below (th_Q D cT T (km q) (th_R T (some (.inl (-2147483648, 2147483647)))) [0, 36]) [.ref a0, .int y1].toArray s 0 0 (th_A T [0, 36])) (F0 m 95 ls []) := by
        intro H locs ls v95_3 iv95_3 f95_v27_2 f95_v27_4 hH hS hl
        refine th_iinc S dX11_waysInto_95 hl (k := 4) rfl (by decide) f95_v27_4 (by decide) (fun x1 ls ex1 ix1 hl => ?_)
        have hl : lv_has ls 6 [(4, .int x1), (0, .ref a0), (1, .int y1), (2, .int v27_2), (3, .int v95_3)] := hl
        have ix1 : IV x1 1 2147483647 := ix1
        refine lv_goto (tgt := 27) hx hb dX11_waysInto_98 (by decide) ?_
        exact ih27 H locs ls v27_2 v95_3 x1 (iv_top _) iv95_3 (iv_w ix1 (by decide)) hH hS (lv_sub hl [1, 2, 3, 4, 0] rfl) (th_up iv27_4 ex1 (by decide) hn27)
      have J92 : ∀ (H : Heap) (locs : List Loc) (ls : Array Slot), IV v27_2 1 2147483647 → IV v27_4 0 2147483646 → th_H D cT T (km q) H → va_S (th_A T [0, 36]) s.heap H locs → lv_has ls 6 [(0, .ref a0), (1, .int y1), (2, .int v27_2), (3, .int v27_3), (4, .int v27_4)] → W p l e (rmk 3 69) s m [.ref a0, .int y1].toArray below meth c H locs 0 0 (MQ below (th_Q D cT T (km q) (th_R T (some (.inl (-2147483648, 2147483647)))) [0, 36]) [.ref a0, .int y1].toArray s 0 0 (th_A T [0, 36])) (F0 m 92 ls []) := by
        intro H locs ls f92_v27_2 f92_v27_4 hH hS hl
        obtain ⟨x2, ex2⟩ : ∃ z : Int32, z = v27_3 + Int32.ofInt 1 := ⟨_, rfl⟩
        refine lv_iinc (v := x2) (lv' := [(3, .int x2), (0, .ref a0), (1, .int y1), (2, .int v27_2), (4, .int v27_4)]) hx hb dX11_waysInto_92 hl (k := 3) rfl (by rw [ex2]) (by decide) rfl (fun ls hl => ?_)
        have ix2 := iv_top x2
        exact J95 H locs ls x2 ix2 f92_v27_2 f92_v27_4 hH hS (lv_sub hl [1, 2, 3, 0, 4] rfl)
      have J53 : ∀ (n : Nat) (H : Heap) (locs : List Loc) (ls : Array Slot) (v53_5 : Int32), IV v53_5 0 4 → IV v27_2 1 2147483647 → IV v27_3 0 0 → IV v27_4 0 2147483646 → th_H D cT T (km q) H → va_S (th_A T [0, 36]) s.heap H locs → lv_has ls 6 [(0, .ref a0), (1, .int y1), (2, .int v27_2), (3, .int v27_3), (4, .int v27_4), (5, .int v53_5)] → (4 + 1 - Int32.toInt v53_5).toNat < n → W p l e (rmk 3 69) s m [.ref a0, .int y1].toArray below meth c H locs 0 0 (MQ below (th_Q D cT T (km q) (th_R T (some (.inl (-2147483648, 2147483647)))) [0, 36]) [.ref a0, .int y1].toArray s 0 0 (th_A T [0, 36])) (F0 m 53 ls []) := by
        intro n
        induction n with
        | zero => intro H locs ls v53_5 iv53_5 f53_v27_2 f53_v27_3 f53_v27_4 hH hS hl hn; exact absurd hn (Nat.not_lt_zero _)
        | succ n ih53 =>
          intro H locs ls v53_5 iv53_5 f53_v27_2 f53_v27_3 f53_v27_4 hH hS hl hn53
          have l1v53_5 := iv53_5.1; have l2v53_5 := iv53_5.2
          refine lv_iload hx hb dX11_waysInto_53 (lv_at hl 5 rfl) ?_
          refine lv_aload_n hx hb dX11_waysInto_55 rfl (lv_at hl 0 rfl) ?_
          refine th_callVp (n := 0) (As := []) S hK hH hS (th_A.sub (by decide)) (m_X11_many l D cT T q hT hq a0 t0) gm_1229 gm_1226 gm_1228 gm_46 gm_124 (by decide +kernel) ⟨rfl, rfl, Nat.le_of_ble_eq_true rfl, Nat.le_of_ble_eq_true rfl⟩ t0 km_0 rfl rfl hl.1 rfl (Nat.le_of_ble_eq_true rfl) dX11_waysInto_56 ⟨Nat.zero_le _, Nat.zero_le _⟩ (fun x3 H locs ix3 ox3 hH hS hF1 => ?_)
          have ox3 : x3.toInt = q 11 := ox3
          refine lv_icmp_ge (tgt := 84) hx hb dX11_waysInto_59 (by decide) (fun c4 => ?_) (fun c4 => ?_)
          · skip
            have rlc4 : x3.toInt ≤ v53_5.toInt := iv_le c4
            refine lv_aload_n hx hb dX11_waysInto_84 rfl (lv_at hl 0 rfl) ?_
            refine lv_aload_n hx hb dX11_waysInto_85 rfl (lv_at hl 0 rfl) ?_
            refine th_callVp (n := 0) (As := []) S hK hH hS (th_A.sub (by decide)) (m_X11_many l D cT T q hT hq a0 t0) gm_1229 gm_1226 gm_1228 gm_46 gm_124 (by decide +kernel) ⟨rfl, rfl, Nat.le_of_ble_eq_true rfl, Nat.le_of_ble_eq_true rfl⟩ t0 km_0 rfl rfl hl.1 rfl (Nat.le_of_ble_eq_true rfl) dX11_waysInto_86 ⟨Nat.zero_le _, Nat.zero_le _⟩ (fun x5 H locs ix5 ox5 hH hS hF1 => ?_)
            have ox5 : x5.toInt = q 11 := ox5
            refine th_put S hK hH hS ⟨0, by decide, t0⟩ inG11 tyX11 tyX11_ok nmX11 t0 km_0 rfl 59 (by decide) gm_1289 rfl rfl rfl rfl (th_iv ix5) (fun vs h => nmR_set h.2.2 (by decide) rfl) (ty := .int) (by decide +kernel) rfl rfl dX11_waysInto_89 (fun H locs hH hS hq1 hp1 => ?_)
            exact J92 H locs ls f53_v27_2 f53_v27_4 hH hS (lv_sub hl [0, 1, 2, 3, 4] rfl)
          · skip
            have rlc4 : v53_5.toInt < x3.toInt := iv_nle c4
            have ir6 : IV v53_5 0 3 := iv_uL iv53_5 ix3 (iv_nle c4) (by decide)
            have ir6a := ir6.1; have ir6b := ir6.2
            have ir7 : IV x3 1 4 := iv_uR iv53_5 ix3 (iv_nle c4) (by decide)
            have ir7a := ir7.1; have ir7b := ir7.2
            refine lv_aload_n hx hb dX11_waysInto_62 rfl (lv_at hl 0 rfl) ?_
            refine th_get S hK hH inG11 t0 km_0 rfl 57 (by decide) gm_1287 rfl rfl dX11_waysInto_63 (fun v8 hv8 fv8 => ?_)
            obtain ⟨rf9, rfl, trf9⟩ := th_V.ref hv8
            refine lv_iload hx hb dX11_waysInto_66 (lv_at hl 5 rfl) ?_
            refine lv_aload_n hx hb dX11_waysInto_68 rfl (lv_at hl 0 rfl) ?_
            refine lv_iload hx hb dX11_waysInto_69 (lv_at hl 4 rfl) ?_
            refine lv_iload_n hx hb dX11_waysInto_71 rfl (lv_at hl 1 rfl) ?_
            refine lv_iload hx hb dX11_waysInto_72 (lv_at hl 5 rfl) ?_
            refine th_callVi (n := 3) (As := [.int v27_4, .int y1, .int v53_5]) S hK hH hS (th_A.sub (by decide)) (m_X11_drawerIn l D cT T q hT hq a0 t0 (v27_4) (iv_top _) (y1) j1 (v53_5) ir6) gm_1844 gm_1841 gm_1843 gm_108 gm_124 (by decide +kernel) ⟨rfl, rfl, Nat.le_of_ble_eq_true rfl, Nat.le_of_ble_eq_true rfl⟩ t0 km_0 rfl rfl hl.1 rfl (Nat.le_of_ble_eq_true rfl) dX11_waysInto_74 ⟨Nat.zero_le _, Nat.zero_le _⟩ (fun x10 H locs ix10 hH hS hF1 => ?_)
            refine th_iast S hK hH hS ⟨36, by decide, trf9⟩ trf9 km_36 (th_in (hi := 3) ir6 (by decide)) (th_iv (iv_top _)) dX11_waysInto_77 (fun H locs hH hS hq1 => ?_)
            refine th_iinc S dX11_waysInto_78 hl (k := 5) rfl (by decide) ir6 (by decide) (fun x11 ls ex11 ix11 hl => ?_)
            have hl : lv_has ls 6 [(5, .int x11), (0, .ref a0), (1, .int y1), (2, .int v27_2), (3, .int v27_3), (4, .int v27_4)] := hl
            have ix11 : IV x11 1 4 := ix11
            refine lv_goto (tgt := 53) hx hb dX11_waysInto_81 (by decide) ?_
            exact ih53 H locs ls x11 (iv_w ix11 (by decide)) f53_v27_2 f53_v27_3 f53_v27_4 hH hS (lv_sub hl [1, 2, 3, 4, 5, 0] rfl) (th_up iv53_5 ex11 (by decide) hn53)
      have l1v27_4 := iv27_4.1; have l2v27_4 := iv27_4.2
      refine lv_iload hx hb dX11_waysInto_27 (lv_at hl 4 rfl) ?_
      refine lv_iload_n hx hb dX11_waysInto_29 rfl (lv_at hl 2 rfl) ?_
      refine lv_icmp_ge (tgt := 101) hx hb dX11_waysInto_30 (by decide) (fun c12 => ?_) (fun c12 => ?_)
      · skip
        have rlc12 : v27_2.toInt ≤ v27_4.toInt := iv_le c12
        refine lv_iload_n hx hb dX11_waysInto_101 rfl (lv_at hl 3 rfl) ?_
        exact th_iret S hK hH hS hr hlocks (th_R.i iv27_3) dX11_waysInto_102
      · skip
        have rlc12 : v27_4.toInt < v27_2.toInt := iv_nle c12
        have ir13 : IV v27_4 0 2147483646 := iv_uL iv27_4 iv27_2 (iv_nle c12) (by decide)
        have ir13a := ir13.1; have ir13b := ir13.2
        have ir14 : IV v27_2 1 2147483647 := iv_uR iv27_4 iv27_2 (iv_nle c12) (by decide)
        have ir14a := ir14.1; have ir14b := ir14.2
        refine lv_aload_n hx hb dX11_waysInto_33 rfl (lv_at hl 0 rfl) ?_
        refine lv_iload hx hb dX11_waysInto_34 (lv_at hl 4 rfl) ?_
        refine lv_iload_n hx hb dX11_waysInto_36 rfl (lv_at hl 1 rfl) ?_
        refine th_callVi (n := 2) (As := [.int v27_4, .int y1]) S hK hH hS (th_A.sub (by decide)) (m_X11_isParted l D cT T q hT hq a0 t0 (v27_4) (iv_top _) (y1) j1) gm_1840 gm_1837 gm_1839 gm_107 gm_124 (by decide +kernel) ⟨rfl, rfl, Nat.le_of_ble_eq_true rfl, Nat.le_of_ble_eq_true rfl⟩ t0 km_0 rfl rfl hl.1 rfl (Nat.le_of_ble_eq_true rfl) dX11_waysInto_37 ⟨Nat.zero_le _, Nat.zero_le _⟩ (fun x15 H locs ix15 hH hS hF1 => ?_)
        refine lv_if_ne (tgt := 46) hx hb dX11_waysInto_40 (by decide) (fun c16 => ?_) (fun c16 => ?_)
        · skip
          have rlc16 : x15.toInt ≠ (0 : Int) := iv_ne c16
          have ir17 : IV x15 1 1 := iv_cutL ix15 (iv_c (by decide) : IV 0 0 0) c16 (by decide)
          have ir17a := ir17.1; have ir17b := ir17.2
          refine lv_iload_n hx hb dX11_waysInto_46 rfl (lv_at hl 3 rfl) ?_
          refine lv_if_ne (tgt := 92) hx hb dX11_waysInto_47 (by decide) (fun c18 => ?_) (fun c18 => ?_)
          · skip
            have rlc18 : v27_3.toInt ≠ (0 : Int) := iv_ne c18
            exact J92 H locs ls ir14 ir13 hH hS (lv_sub hl [0, 1, 2, 3, 4] rfl)
          · skip
            have rlc18 : v27_3.toInt = (0 : Int) := congrArg Int32.toInt c18
            have ir19 : IV v27_3 0 0 := iv_eL c18 (iv_c (by decide) : IV 0 0 0)
            have ir19a := ir19.1; have ir19b := ir19.2
            refine lv_iconst (v := 0) hx hb dX11_waysInto_50 (by decide) ?_
            refine lv_istore (lv' := [(5, .int 0), (0, .ref a0), (1, .int y1), (2, .int v27_2), (3, .int v27_3), (4, .int v27_4)]) hx hb dX11_waysInto_51 hl (by decide) rfl (fun ls hl => ?_)
            exact J53 ((4 + 1 - Int32.toInt 0).toNat + 1) H locs ls 0 (iv_w (iv_c (by decide) : IV 0 0 0) (by decide)) ir14 ir19 ir13 hH hS (lv_sub hl [1, 2, 3, 4, 5, 0] rfl) (Nat.lt_succ_self _)
        · skip
          have rlc16 : x15.toInt = (0 : Int) := congrArg Int32.toInt c16
          have ir20 : IV x15 0 0 := iv_eL c16 (iv_c (by decide) : IV 0 0 0)
          have ir20a := ir20.1; have ir20b := ir20.2
          refine lv_goto (tgt := 95) hx hb dX11_waysInto_43 (by decide) ?_
          exact J95 H locs ls v27_3 iv27_3 ir14 ir13 hH hS (lv_sub hl [0, 1, 2, 3, 4] rfl)
  have J4 : ∀ (n : Nat) (H : Heap) (locs : List Loc) (ls : Array Slot) (v4_2 : Int32) (v4_3 : Int32), IV v4_2 (-2147483648) 2147483647 → IV v4_3 0 4 → th_H D cT T (km q) H → va_S (th_A T [0, 36]) s.heap H locs → lv_has ls 6 [(0, .ref a0), (1, .int y1), (2, .int v4_2), (3, .int v4_3)] → (4 + 1 - Int32.toInt v4_3).toNat < n → W p l e (rmk 3 69) s m [.ref a0, .int y1].toArray below meth c H locs 0 0 (MQ below (th_Q D cT T (km q) (th_R T (some (.inl (-2147483648, 2147483647)))) [0, 36]) [.ref a0, .int y1].toArray s 0 0 (th_A T [0, 36])) (F0 m 4 ls []) := by
    intro n
    induction n with
    | zero => intro H locs ls v4_2 v4_3 iv4_2 iv4_3 hH hS hl hn; exact absurd hn (Nat.not_lt_zero _)
    | succ n ih4 =>
      intro H locs ls v4_2 v4_3 iv4_2 iv4_3 hH hS hl hn4
      have l1v4_3 := iv4_3.1; have l2v4_3 := iv4_3.2
      refine lv_iload_n hx hb dX11_waysInto_4 rfl (lv_at hl 3 rfl) ?_
      refine lv_aload_n hx hb dX11_waysInto_5 rfl (lv_at hl 0 rfl) ?_
      refine th_callVp (n := 0) (As := []) S hK hH hS (th_A.sub (by decide)) (m_X11_many l D cT T q hT hq a0 t0) gm_1229 gm_1226 gm_1228 gm_46 gm_124 (by decide +kernel) ⟨rfl, rfl, Nat.le_of_ble_eq_true rfl, Nat.le_of_ble_eq_true rfl⟩ t0 km_0 rfl rfl hl.1 rfl (Nat.le_of_ble_eq_true rfl) dX11_waysInto_6 ⟨Nat.zero_le _, Nat.zero_le _⟩ (fun x21 H locs ix21 ox21 hH hS hF1 => ?_)
      have ox21 : x21.toInt = q 11 := ox21
      refine lv_icmp_ge (tgt := 22) hx hb dX11_waysInto_9 (by decide) (fun c22 => ?_) (fun c22 => ?_)
      · skip
        have rlc22 : x21.toInt ≤ v4_3.toInt := iv_le c22
        refine lv_iconst (v := 0) hx hb dX11_waysInto_22 (by decide) ?_
        refine lv_istore_n (lv' := [(3, .int 0), (0, .ref a0), (1, .int y1), (2, .int v4_2)]) hx hb dX11_waysInto_23 rfl hl (by decide) rfl (fun ls hl => ?_)
        refine lv_iconst (v := 0) hx hb dX11_waysInto_24 (by decide) ?_
        refine lv_istore (lv' := [(4, .int 0), (3, .int 0), (0, .ref a0), (1, .int y1), (2, .int v4_2)]) hx hb dX11_waysInto_25 hl (by decide) rfl (fun ls hl => ?_)
        exact J27 ((2147483647 + 1 - Int32.toInt 0).toNat + 1) H locs ls v4_2 0 0 iv4_2 (iv_top _) (iv_w (iv_c (by decide) : IV 0 0 0) (by decide)) hH hS (lv_sub hl [2, 3, 4, 1, 0] rfl) (Nat.lt_succ_self _)
      · skip
        have rlc22 : v4_3.toInt < x21.toInt := iv_nle c22
        have ir23 : IV v4_3 0 3 := iv_uL iv4_3 ix21 (iv_nle c22) (by decide)
        have ir23a := ir23.1; have ir23b := ir23.2
        have ir24 : IV x21 1 4 := iv_uR iv4_3 ix21 (iv_nle c22) (by decide)
        have ir24a := ir24.1; have ir24b := ir24.2
        refine lv_iload_n hx hb dX11_waysInto_12 rfl (lv_at hl 2 rfl) ?_
        refine lv_iload_n hx hb dX11_waysInto_13 rfl (lv_at hl 1 rfl) ?_
        refine lv_imul hx hb dX11_waysInto_14 ?_
        refine lv_topi (fun x25 ex25 => ?_)
        have ix25 := iv_top x25
        refine lv_istore_n (lv' := [(2, .int x25), (0, .ref a0), (1, .int y1), (3, .int v4_3)]) hx hb dX11_waysInto_15 rfl hl (by decide) rfl (fun ls hl => ?_)
        refine th_iinc S dX11_waysInto_16 hl (k := 3) rfl (by decide) ir23 (by decide) (fun x26 ls ex26 ix26 hl => ?_)
        have hl : lv_has ls 6 [(3, .int x26), (2, .int x25), (0, .ref a0), (1, .int y1)] := hl
        have ix26 : IV x26 1 4 := ix26
        refine lv_goto (tgt := 4) hx hb dX11_waysInto_19 (by decide) ?_
        exact ih4 H locs ls x25 x26 ix25 (iv_w ix26 (by decide)) hH hS (lv_sub hl [2, 3, 1, 0] rfl) (th_up iv4_3 ex26 (by decide) hn4)
  have J0 : ∀ (H : Heap) (locs : List Loc) (ls : Array Slot), th_H D cT T (km q) H → va_S (th_A T [0, 36]) s.heap H locs → lv_has ls 6 [(0, .ref a0), (1, .int y1)] → W p l e (rmk 3 69) s m [.ref a0, .int y1].toArray below meth c H locs 0 0 (MQ below (th_Q D cT T (km q) (th_R T (some (.inl (-2147483648, 2147483647)))) [0, 36]) [.ref a0, .int y1].toArray s 0 0 (th_A T [0, 36])) (F0 m 0 ls []) := by
    intro H locs ls hH hS hl
    refine lv_iconst (v := 1) hx hb dX11_waysInto_0 (by decide) ?_
    refine lv_istore_n (lv' := [(2, .int 1), (0, .ref a0), (1, .int y1)]) hx hb dX11_waysInto_1 rfl hl (by decide) rfl (fun ls hl => ?_)
    refine lv_iconst (v := 0) hx hb dX11_waysInto_2 (by decide) ?_
    refine lv_istore_n (lv' := [(3, .int 0), (2, .int 1), (0, .ref a0), (1, .int y1)]) hx hb dX11_waysInto_3 rfl hl (by decide) rfl (fun ls hl => ?_)
    exact J4 ((4 + 1 - Int32.toInt 0).toNat + 1) H locs ls 1 0 (iv_top _) (iv_w (iv_c (by decide) : IV 0 0 0) (by decide)) hH hS (lv_sub hl [2, 3, 1, 0] rfl) (Nat.lt_succ_self _)
  exact J0 s.heap [] ls hH va_S.rf hl

set_option maxRecDepth 100000 in
theorem m_X11_drawers (l : Launch) (D : va_G) (cT : Nat → ClassId) (T : Nat → Option Nat) (q : Nat → Int) (hT : tokm T) (hq : qkm q) (a0 : Nat) (t0 : T a0 = some 0) (y1 : Int32) (j1 : IV y1 (-2147483648) 2147483647) : th_Met l D cT T (km q) yX11_drawers cX11_drawers 2 (some .int) (rmk 4 94) [.ref a0, .int y1] (th_R T (some (.inl (-2147483648, 2147483647)))) [0, 36] := by
  refine th_start (by decide) (Nat.le_of_ble_eq_true rfl) ?_
  intro p e s m below meth c ls S hK hH hr hlocks hnm hl
  have hx := S.1
  have hb := S.2.1
  have hl : lv_has ls 2 [(0, .ref a0), (1, .int y1)] := hl
  have J23 : ∀ (H : Heap) (locs : List Loc) (ls : Array Slot) (w23_0 : Int32), IV w23_0 (-2147483648) 2147483647 → th_H D cT T (km q) H → va_S (th_A T [0, 36]) s.heap H locs → lv_has ls 2 [] → W p l e (rmk 4 94) s m [.ref a0, .int y1].toArray below meth c H locs 0 0 (MQ below (th_Q D cT T (km q) (th_R T (some (.inl (-2147483648, 2147483647)))) [0, 36]) [.ref a0, .int y1].toArray s 0 0 (th_A T [0, 36])) (F0 m 23 ls [.int w23_0]) := by
    intro H locs ls w23_0 iw23_0 hH hS hl
    exact th_iret S hK hH hS hr hlocks (th_R.i iw23_0) dX11_drawers_23
  have J23_s0_m1 : ∀ (H : Heap) (locs : List Loc) (ls : Array Slot), th_H D cT T (km q) H → va_S (th_A T [0, 36]) s.heap H locs → lv_has ls 2 [] → W p l e (rmk 4 94) s m [.ref a0, .int y1].toArray below meth c H locs 0 0 (MQ below (th_Q D cT T (km q) (th_R T (some (.inl (-2147483648, 2147483647)))) [0, 36]) [.ref a0, .int y1].toArray s 0 0 (th_A T [0, 36])) (F0 m 23 ls [.int (-1)]) := by
    intro H locs ls hH hS hl
    exact th_iret S hK hH hS hr hlocks (th_R.i (iv_top _)) dX11_drawers_23
  have J0 : ∀ (H : Heap) (locs : List Loc) (ls : Array Slot), th_H D cT T (km q) H → va_S (th_A T [0, 36]) s.heap H locs → lv_has ls 2 [(0, .ref a0), (1, .int y1)] → W p l e (rmk 4 94) s m [.ref a0, .int y1].toArray below meth c H locs 0 0 (MQ below (th_Q D cT T (km q) (th_R T (some (.inl (-2147483648, 2147483647)))) [0, 36]) [.ref a0, .int y1].toArray s 0 0 (th_A T [0, 36])) (F0 m 0 ls []) := by
    intro H locs ls hH hS hl
    refine lv_aload_n hx hb dX11_drawers_0 rfl (lv_at hl 0 rfl) ?_
    refine lv_iconst (v := 0) hx hb dX11_drawers_1 (by decide) ?_
    refine th_put S hK hH hS ⟨0, by decide, t0⟩ inG11 tyX11 tyX11_ok nmX11 t0 km_0 rfl 59 (by decide) gm_1289 rfl rfl rfl rfl (th_iv (iv_w (iv_c (by decide) : IV 0 0 0) (by decide))) (fun vs h => nmR_set h.2.2 (by decide) rfl) (ty := .int) (by decide +kernel) rfl rfl dX11_drawers_2 (fun H locs hH hS hq1 hp1 => ?_)
    refine lv_iload_n hx hb dX11_drawers_5 rfl (lv_at hl 1 rfl) ?_
    refine lv_iconst (v := 1) hx hb dX11_drawers_6 (by decide) ?_
    refine lv_iconst (v := 4) hx hb dX11_drawers_7 (by decide) ?_
    refine th_callSp (n := 3) (As := [.int y1, .int 1, .int 4]) S hK hH hS (th_A.sub (by decide)) (m_X11_isIn l D cT T q hT hq (y1) j1 (1) (iv_top _) (4) (iv_top _)) gm_1618 gm_1616 gm_1617 gm_124 (by decide +kernel) ⟨rfl, rfl, Nat.le_of_ble_eq_true rfl, Nat.le_of_ble_eq_true rfl⟩ rfl hl.1 rfl (Nat.le_of_ble_eq_true rfl) dX11_drawers_8 ⟨Nat.zero_le _, Nat.zero_le _⟩ (fun x1 H locs ix1 ox1 hH hS hF1 => ?_)
    obtain ⟨ox1_0, ox1_1⟩ := ox1
    have ox1_0 : x1.toInt ≠ 0 → (1 : Int) ≤ y1.toInt ∧ y1.toInt ≤ (4 : Int) := ox1_0
    have ox1_1 : x1.toInt = 0 → y1.toInt < (1 : Int) ∨ (4 : Int) < y1.toInt := ox1_1
    refine lv_if_eq (tgt := 22) hx hb dX11_drawers_11 (by decide) (fun c2 => ?_) (fun c2 => ?_)
    · skip
      have rlc2 : x1.toInt = (0 : Int) := congrArg Int32.toInt c2
      have ir3 : IV x1 0 0 := iv_eL c2 (iv_c (by decide) : IV 0 0 0)
      have ir3a := ir3.1; have ir3b := ir3.2
      refine lv_iconst (v := (-1)) hx hb dX11_drawers_22 (by decide) ?_
      exact J23_s0_m1 H locs ls  hH hS (lv_sub hl [] rfl)
    · skip
      have rlc2 : x1.toInt ≠ (0 : Int) := iv_ne c2
      have ir4 : IV x1 1 1 := iv_cutL ix1 (iv_c (by decide) : IV 0 0 0) c2 (by decide)
      have ir4a := ir4.1; have ir4b := ir4.2
      have ir5 : IV y1 1 4 := ((fun z => by have z1 := iv_ne z; have z2 : x1.toInt ≠ 0 := z1; have z4 := ((iv_c (by decide) : IV 1 1 1)).1; have z5 := ((iv_c (by decide) : IV 4 4 4)).2; exact ⟨by omega, by omega⟩) : ¬ x1 = 0 → IV y1 1 4) c2
      have ir5a := ir5.1; have ir5b := ir5.2
      refine lv_aload_n hx hb dX11_drawers_14 rfl (lv_at hl 0 rfl) ?_
      refine lv_iload_n hx hb dX11_drawers_15 rfl (lv_at hl 1 rfl) ?_
      refine th_callVi (n := 1) (As := [.int y1]) S hK hH hS (th_A.sub (by decide)) (m_X11_waysInto l D cT T q hT hq a0 t0 (y1) ir5) gm_1836 gm_1833 gm_1835 gm_106 gm_124 (by decide +kernel) ⟨rfl, rfl, Nat.le_of_ble_eq_true rfl, Nat.le_of_ble_eq_true rfl⟩ t0 km_0 rfl rfl hl.1 rfl (Nat.le_of_ble_eq_true rfl) dX11_drawers_16 ⟨Nat.zero_le _, Nat.zero_le _⟩ (fun x6 H locs ix6 hH hS hF1 => ?_)
      refine lv_goto (tgt := 23) hx hb dX11_drawers_19 (by decide) ?_
      exact J23 H locs ls x6 ix6 hH hS (lv_sub hl [] rfl)
  exact J0 s.heap [] ls hH va_S.rf hl

set_option maxRecDepth 100000 in
theorem m_X11_least (l : Launch) (D : va_G) (cT : Nat → ClassId) (T : Nat → Option Nat) (q : Nat → Int) (hT : tokm T) (hq : qkm q) (a0 : Nat) (t0 : T a0 = some 0) : th_MetM l D cT T q yX11_least cX11_least 4 (some .int) (rmk 4 94) [.ref a0] (fun v q2 => ∃ r : Int32, v = some (.int r) ∧ IV r (-1) 4 ∧ qkm q2 ∧ fr [40, 41, 42, 43] q q2) [0, 36, 37] := by
  refine th_startM (by decide) (Nat.le_of_ble_eq_true rfl) ?_
  intro p e s m below meth c ls S hK hH hr hlocks hnm hl
  have hx := S.1
  have hb := S.2.1
  have hl : lv_has ls 4 [(0, .ref a0)] := hl
  have J71 : ∀ (n : Nat) (q71 : Nat → Int) (H : Heap) (locs : List Loc) (ls : Array Slot) (v71_2 : Int32) (v71_3 : Int32) (u71_a0_59 : Int32), qkm q71 → fr [40, 41, 42, 43] q q71 → IV v71_2 (-1) 4 → IV v71_3 0 4 → IV u71_a0_59 0 4 → th_fa D H a0 11 59 (.int u71_a0_59) → th_H D cT T (km q71) H → va_S (th_A T [0, 36, 37]) s.heap H locs → lv_has ls 4 [(0, .ref a0), (2, .int v71_2), (3, .int v71_3)] → (4 + 1 - Int32.toInt v71_3).toNat < n → W p l e (rmk 4 94) s m [.ref a0].toArray below meth c H locs 0 0 (MQ below (th_QM D cT T (fun v q2 => ∃ r : Int32, v = some (.int r) ∧ IV r (-1) 4 ∧ qkm q2 ∧ fr [40, 41, 42, 43] q q2) [0, 36, 37]) [.ref a0].toArray s 0 0 (th_A T [0, 36, 37])) (F0 m 71 ls []) := by
    intro n
    induction n with
    | zero => intro q71 H locs ls v71_2 v71_3 u71_a0_59 hq71 h071 iv71_2 iv71_3 iu71_a0_59 gu71_a0_59 hH hS hl hn; exact absurd hn (Nat.not_lt_zero _)
    | succ n ih71 =>
      intro q71 H locs ls v71_2 v71_3 u71_a0_59 hq71 h071 iv71_2 iv71_3 iu71_a0_59 gu71_a0_59 hH hS hl hn71
      have w71_11 : q71 11 = q 11 := h071 11 (by decide) (Or.inl (by decide))
      have l1v71_2 := iv71_2.1; have l2v71_2 := iv71_2.2
      have l1v71_3 := iv71_3.1; have l2v71_3 := iv71_3.2
      refine lv_iload_n hx hb dX11_least_71 rfl (lv_at hl 2 rfl) ?_
      refine lv_iconst (v := 4) hx hb dX11_least_72 (by decide) ?_
      refine lv_icmp_ge (tgt := 94) hx hb dX11_least_73 (by decide) (fun c1 => ?_) (fun c1 => ?_)
      · skip
        have rlc1 : (4 : Int) ≤ v71_3.toInt := iv_le c1
        have ir2 : IV v71_3 4 4 := iv_vR (iv_c (by decide) : IV 4 4 4) iv71_3 (iv_le c1) (by decide)
        have ir2a := ir2.1; have ir2b := ir2.2
        refine lv_iload_n hx hb dX11_least_94 rfl (lv_at hl 1 rfl) ?_
        exact th_iretM S hK hH hS hr hlocks ⟨_, rfl, iv71_2, hq71, h071⟩ dX11_least_95
      · skip
        have rlc1 : v71_3.toInt < (4 : Int) := iv_nle c1
        have ir3 : IV v71_3 0 3 := iv_uL iv71_3 (iv_c (by decide) : IV 4 4 4) (iv_nle c1) (by decide)
        have ir3a := ir3.1; have ir3b := ir3.2
        refine lv_aload_n hx hb dX11_least_76 rfl (lv_at hl 0 rfl) ?_
        refine th_get S hK hH inG11 t0 km_0 rfl 57 (by decide) gm_1287 rfl rfl dX11_least_77 (fun v4 hv4 fv4 => ?_)
        obtain ⟨rf5, rfl, trf5⟩ := th_V.ref hv4
        refine lv_iload_n hx hb dX11_least_80 rfl (lv_at hl 2 rfl) ?_
        refine lv_aload_n hx hb dX11_least_81 rfl (lv_at hl 0 rfl) ?_
        refine th_get S hK hH inG11 t0 km_0 rfl 58 (by decide) gm_1288 rfl rfl dX11_least_82 (fun v6 hv6 fv6 => ?_)
        obtain ⟨rf7, rfl, trf7⟩ := th_V.ref hv6
        refine lv_iload_n hx hb dX11_least_85 rfl (lv_at hl 2 rfl) ?_
        refine th_iald S hK hH trf7 km_37 (th_in (hi := 3) ir3 (by decide)) dX11_least_86 (fun v8 hv8 => ?_)
        obtain ⟨x9, rfl, kx9⟩ := th_eaR hv8 (th_lt (th_in (hi := 3) ir3 (by decide)))
        have ix9 := iv_top x9
        have jx9 := th_nat (hi := 3) ir3
        have yx9_0 : v71_3.toInt = 0 → x9.toInt = q71 40 := row_rd kx9 jx9 0
        have yx9_1 : v71_3.toInt = 1 → x9.toInt = q71 41 := row_rd kx9 jx9 1
        have yx9_2 : v71_3.toInt = 2 → x9.toInt = q71 42 := row_rd kx9 jx9 2
        have yx9_3 : v71_3.toInt = 3 → x9.toInt = q71 43 := row_rd kx9 jx9 3
        refine th_iast S hK hH hS ⟨36, by decide, trf5⟩ trf5 km_36 (th_in (hi := 3) ir3 (by decide)) (th_iv ix9) dX11_least_87 (fun H locs hH hS hq1 => ?_)
        have f10 := gu71_a0_59.kept (hq1 _ (th_ne t0 trf5 (by decide)))
        have f11 := fv4.kept (hq1 _ (th_ne t0 trf5 (by decide)))
        have f12 := fv6.kept (hq1 _ (th_ne t0 trf5 (by decide)))
        refine th_iinc S dX11_least_88 hl (k := 2) rfl (by decide) ir3 (by decide) (fun x13 ls ex13 ix13 hl => ?_)
        have hl : lv_has ls 4 [(3, .int x13), (0, .ref a0), (2, .int v71_2)] := hl
        have ix13 : IV x13 1 4 := ix13
        refine lv_goto (tgt := 71) hx hb dX11_least_91 (by decide) ?_
        exact ih71 q71 H locs ls v71_2 x13 u71_a0_59 hq71 h071 iv71_2 (iv_w ix13 (by decide)) iu71_a0_59 f10 hH hS (lv_sub hl [1, 2, 0] rfl) (th_up iv71_3 ex13 (by decide) hn71)
  have J43 : ∀ (n : Nat) (q43 : Nat → Int) (H : Heap) (locs : List Loc) (ls : Array Slot) (v43_1 : Int32) (v43_2 : Int32) (v43_3 : Int32), qkm q43 → fr [40, 41, 42, 43] q q43 → IV v43_1 0 4 → IV v43_2 (-1) 4 → IV v43_3 0 4 → th_H D cT T (km q43) H → va_S (th_A T [0, 36, 37]) s.heap H locs → lv_has ls 4 [(0, .ref a0), (1, .int v43_1), (2, .int v43_2), (3, .int v43_3)] → (Int32.toInt v43_3 + 1 - 0).toNat < n → W p l e (rmk 4 94) s m [.ref a0].toArray below meth c H locs 0 0 (MQ below (th_QM D cT T (fun v q2 => ∃ r : Int32, v = some (.int r) ∧ IV r (-1) 4 ∧ qkm q2 ∧ fr [40, 41, 42, 43] q q2) [0, 36, 37]) [.ref a0].toArray s 0 0 (th_A T [0, 36, 37])) (F0 m 43 ls []) := by
    intro n
    induction n with
    | zero => intro q43 H locs ls v43_1 v43_2 v43_3 hq43 h043 iv43_1 iv43_2 iv43_3 hH hS hl hn; exact absurd hn (Nat.not_lt_zero _)
    | succ n ih43 =>
      intro q43 H locs ls v43_1 v43_2 v43_3 hq43 h043 iv43_1 iv43_2 iv43_3 hH hS hl hn43
      have w43_11 : q43 11 = q 11 := h043 11 (by decide) (Or.inl (by decide))
      have J58 : ∀ (H : Heap) (locs : List Loc) (ls : Array Slot) (v58_2 : Int32), IV v58_2 (-1) 4 → IV v43_3 1 4 → th_H D cT T (km q43) H → va_S (th_A T [0, 36, 37]) s.heap H locs → lv_has ls 4 [(0, .ref a0), (1, .int v43_1), (2, .int v58_2), (3, .int v43_3)] → W p l e (rmk 4 94) s m [.ref a0].toArray below meth c H locs 0 0 (MQ below (th_QM D cT T (fun v q2 => ∃ r : Int32, v = some (.int r) ∧ IV r (-1) 4 ∧ qkm q2 ∧ fr [40, 41, 42, 43] q q2) [0, 36, 37]) [.ref a0].toArray s 0 0 (th_A T [0, 36, 37])) (F0 m 58 ls []) := by
        intro H locs ls v58_2 iv58_2 f58_v43_3 hH hS hl
        have l1v58_2 := iv58_2.1; have l2v58_2 := iv58_2.2
        refine th_iinc S dX11_least_58 hl (k := 3) rfl (by decide) f58_v43_3 (by decide) (fun x14 ls ex14 ix14 hl => ?_)
        have hl : lv_has ls 4 [(3, .int x14), (0, .ref a0), (1, .int v43_1), (2, .int v58_2)] := hl
        have ix14 : IV x14 0 3 := ix14
        refine lv_goto (tgt := 43) hx hb dX11_least_61 (by decide) ?_
        exact ih43 q43 H locs ls v43_1 v58_2 x14 hq43 h043 iv43_1 iv58_2 (iv_w ix14 (by decide)) hH hS (lv_sub hl [1, 2, 3, 0] rfl) (th_down iv43_3 ex14 (by decide) hn43)
      have l1v43_1 := iv43_1.1; have l2v43_1 := iv43_1.2
      have l1v43_2 := iv43_2.1; have l2v43_2 := iv43_2.2
      have l1v43_3 := iv43_3.1; have l2v43_3 := iv43_3.2
      refine lv_iload_n hx hb dX11_least_43 rfl (lv_at hl 3 rfl) ?_
      refine lv_iconst (v := 1) hx hb dX11_least_44 (by decide) ?_
      refine lv_icmp_lt (tgt := 64) hx hb dX11_least_45 (by decide) (fun c15 => ?_) (fun c15 => ?_)
      · skip
        have rlc15 : v43_3.toInt < (1 : Int) := iv_lt c15
        have ir16 : IV v43_3 0 0 := iv_uL iv43_3 (iv_c (by decide) : IV 1 1 1) (iv_lt c15) (by decide)
        have ir16a := ir16.1; have ir16b := ir16.2
        refine lv_aload_n hx hb dX11_least_64 rfl (lv_at hl 0 rfl) ?_
        refine lv_iload_n hx hb dX11_least_65 rfl (lv_at hl 1 rfl) ?_
        refine th_put S hK hH hS ⟨0, by decide, t0⟩ inG11 tyX11 tyX11_ok nmX11 t0 km_0 rfl 59 (by decide) gm_1289 rfl rfl rfl rfl (th_iv iv43_1) (fun vs h => nmR_set h.2.2 (by decide) rfl) (ty := .int) (by decide +kernel) rfl rfl dX11_least_66 (fun H locs hH hS hq1 hp1 => ?_)
        have f17 := hp1.1
        refine lv_iconst (v := 0) hx hb dX11_least_69 (by decide) ?_
        refine lv_istore_n (lv' := [(3, .int 0), (0, .ref a0), (1, .int v43_1), (2, .int v43_2)]) hx hb dX11_least_70 rfl hl (by decide) rfl (fun ls hl => ?_)
        exact J71 ((4 + 1 - Int32.toInt 0).toNat + 1) q43 H locs ls v43_2 0 v43_1 hq43 h043 iv43_2 (iv_w (iv_c (by decide) : IV 0 0 0) (by decide)) iv43_1 f17 hH hS (lv_sub hl [1, 3, 0] rfl) (Nat.lt_succ_self _)
      · skip
        have rlc15 : (1 : Int) ≤ v43_3.toInt := iv_nlt c15
        have ir18 : IV v43_3 1 4 := iv_vR (iv_c (by decide) : IV 1 1 1) iv43_3 (iv_nlt c15) (by decide)
        have ir18a := ir18.1; have ir18b := ir18.2
        refine lv_aload_n hx hb dX11_least_48 rfl (lv_at hl 0 rfl) ?_
        refine lv_iload_n hx hb dX11_least_49 rfl (lv_at hl 3 rfl) ?_
        refine th_callVi (n := 1) (As := [.int v43_3]) S hK hH hS (th_A.sub (by decide)) (m_X11_waysInto l D cT T q43 hT hq43 a0 t0 (v43_3) ir18) gm_1836 gm_1833 gm_1835 gm_106 gm_124 (by decide +kernel) ⟨rfl, rfl, Nat.le_of_ble_eq_true rfl, Nat.le_of_ble_eq_true rfl⟩ t0 km_0 rfl rfl hl.1 rfl (Nat.le_of_ble_eq_true rfl) dX11_least_50 ⟨Nat.zero_le _, Nat.zero_le _⟩ (fun x19 H locs ix19 hH hS hF1 => ?_)
        refine lv_if_le (tgt := 58) hx hb dX11_least_53 (by decide) (fun c20 => ?_) (fun c20 => ?_)
        · skip
          have rlc20 : x19.toInt ≤ (0 : Int) := iv_le c20
          have ir21 : IV x19 (-2147483648) 0 := iv_vL ix19 (iv_c (by decide) : IV 0 0 0) (iv_le c20) (by decide)
          have ir21a := ir21.1; have ir21b := ir21.2
          exact J58 H locs ls v43_2 iv43_2 ir18 hH hS (lv_sub hl [0, 1, 2, 3] rfl)
        · skip
          have rlc20 : (0 : Int) < x19.toInt := iv_nle c20
          have ir22 : IV x19 1 2147483647 := iv_uR (iv_c (by decide) : IV 0 0 0) ix19 (iv_nle c20) (by decide)
          have ir22a := ir22.1; have ir22b := ir22.2
          refine lv_iload_n hx hb dX11_least_56 rfl (lv_at hl 3 rfl) ?_
          refine lv_istore_n (lv' := [(2, .int v43_3), (0, .ref a0), (1, .int v43_1), (3, .int v43_3)]) hx hb dX11_least_57 rfl hl (by decide) rfl (fun ls hl => ?_)
          exact J58 H locs ls v43_3 (iv_w ir18 (by decide)) ir18 hH hS (lv_sub hl [1, 2, 0, 3] rfl)
  have J16 : ∀ (n : Nat) (q16 : Nat → Int) (H : Heap) (locs : List Loc) (ls : Array Slot) (v16_1 : Int32) (v16_2 : Int32), qkm q16 → fr [40, 41, 42, 43] q q16 → IV v16_1 0 4 → IV v16_2 0 4 → th_H D cT T (km q16) H → va_S (th_A T [0, 36, 37]) s.heap H locs → lv_has ls 4 [(0, .ref a0), (1, .int v16_1), (2, .int v16_2)] → (4 + 1 - Int32.toInt v16_2).toNat < n → W p l e (rmk 4 94) s m [.ref a0].toArray below meth c H locs 0 0 (MQ below (th_QM D cT T (fun v q2 => ∃ r : Int32, v = some (.int r) ∧ IV r (-1) 4 ∧ qkm q2 ∧ fr [40, 41, 42, 43] q q2) [0, 36, 37]) [.ref a0].toArray s 0 0 (th_A T [0, 36, 37])) (F0 m 16 ls []) := by
    intro n
    induction n with
    | zero => intro q16 H locs ls v16_1 v16_2 hq16 h016 iv16_1 iv16_2 hH hS hl hn; exact absurd hn (Nat.not_lt_zero _)
    | succ n ih16 =>
      intro q16 H locs ls v16_1 v16_2 hq16 h016 iv16_1 iv16_2 hH hS hl hn16
      have w16_11 : q16 11 = q 11 := h016 11 (by decide) (Or.inl (by decide))
      have l1v16_1 := iv16_1.1; have l2v16_1 := iv16_1.2
      have l1v16_2 := iv16_2.1; have l2v16_2 := iv16_2.2
      refine lv_iload_n hx hb dX11_least_16 rfl (lv_at hl 2 rfl) ?_
      refine lv_iconst (v := 4) hx hb dX11_least_17 (by decide) ?_
      refine lv_icmp_ge (tgt := 39) hx hb dX11_least_18 (by decide) (fun c23 => ?_) (fun c23 => ?_)
      · skip
        have rlc23 : (4 : Int) ≤ v16_2.toInt := iv_le c23
        have ir24 : IV v16_2 4 4 := iv_vR (iv_c (by decide) : IV 4 4 4) iv16_2 (iv_le c23) (by decide)
        have ir24a := ir24.1; have ir24b := ir24.2
        refine lv_iconst (v := (-1)) hx hb dX11_least_39 (by decide) ?_
        refine lv_istore_n (lv' := [(2, .int (-1)), (0, .ref a0), (1, .int v16_1)]) hx hb dX11_least_40 rfl hl (by decide) rfl (fun ls hl => ?_)
        refine lv_iconst (v := 4) hx hb dX11_least_41 (by decide) ?_
        refine lv_istore_n (lv' := [(3, .int 4), (2, .int (-1)), (0, .ref a0), (1, .int v16_1)]) hx hb dX11_least_42 rfl hl (by decide) rfl (fun ls hl => ?_)
        exact J43 ((Int32.toInt 4 + 1 - 0).toNat + 1) q16 H locs ls v16_1 (-1) 4 hq16 h016 iv16_1 (iv_w (iv_c (by decide) : IV (-1) (-1) (-1)) (by decide)) (iv_w (iv_c (by decide) : IV 4 4 4) (by decide)) hH hS (lv_sub hl [2, 3, 1, 0] rfl) (Nat.lt_succ_self _)
      · skip
        have rlc23 : v16_2.toInt < (4 : Int) := iv_nle c23
        have ir25 : IV v16_2 0 3 := iv_uL iv16_2 (iv_c (by decide) : IV 4 4 4) (iv_nle c23) (by decide)
        have ir25a := ir25.1; have ir25b := ir25.2
        refine lv_aload_n hx hb dX11_least_21 rfl (lv_at hl 0 rfl) ?_
        refine th_get S hK hH inG11 t0 km_0 rfl 58 (by decide) gm_1288 rfl rfl dX11_least_22 (fun v26 hv26 fv26 => ?_)
        obtain ⟨rf27, rfl, trf27⟩ := th_V.ref hv26
        refine lv_iload_n hx hb dX11_least_25 rfl (lv_at hl 2 rfl) ?_
        refine lv_aload_n hx hb dX11_least_26 rfl (lv_at hl 0 rfl) ?_
        refine th_get S hK hH inG11 t0 km_0 rfl 57 (by decide) gm_1287 rfl rfl dX11_least_27 (fun v28 hv28 fv28 => ?_)
        obtain ⟨rf29, rfl, trf29⟩ := th_V.ref hv28
        refine lv_iload_n hx hb dX11_least_30 rfl (lv_at hl 2 rfl) ?_
        refine th_iald S hK hH trf29 km_36 (th_in (hi := 3) ir25 (by decide)) dX11_least_31 (fun v30 hv30 => ?_)
        obtain ⟨x31, rfl, ix31⟩ := th_V.int hv30
        obtain ⟨n32, en32⟩ : ∃ z : Int, z = Int32.toInt x31 := ⟨_, rfl⟩
        have jq33 := th_nat (hi := 3) ir25
        refine mst_37 S hK hH hS ⟨37, by decide, trf27⟩ hT trf27 en32 (th_in (hi := 3) ir25 (by decide)) dX11_least_32 (fun q33 H locs eq33 hH hS hq1 => ?_)
        have hqq33 : qkm q33 := by rw [eq33]; exact qkm_row hq16 (th_lt (th_in (hi := 3) ir25 (by decide)))
        have h0q33 : fr [40, 41, 42, 43] q q33 := by rw [eq33]; exact fr_row h016 (th_lt (th_in (hi := 3) ir25 (by decide))) (by decide)
        have yq33_0 : (v16_2.toInt = 0 → q33 40 = n32) ∧ (v16_2.toInt ≠ 0 → q33 40 = q16 40) := row_at eq33 jq33 0
        have yq33_1 : (v16_2.toInt = 1 → q33 41 = n32) ∧ (v16_2.toInt ≠ 1 → q33 41 = q16 41) := row_at eq33 jq33 1
        have yq33_2 : (v16_2.toInt = 2 → q33 42 = n32) ∧ (v16_2.toInt ≠ 2 → q33 42 = q16 42) := row_at eq33 jq33 2
        have yq33_3 : (v16_2.toInt = 3 → q33 43 = n32) ∧ (v16_2.toInt ≠ 3 → q33 43 = q16 43) := row_at eq33 jq33 3
        have wq33_11 : q33 11 = q16 11 := by rw [eq33]; exact if_neg (by omega)
        have f34 := fv26.kept (hq1 _ (th_ne t0 trf27 (by decide)))
        have f35 := fv28.kept (hq1 _ (th_ne t0 trf27 (by decide)))
        refine th_iinc S dX11_least_33 hl (k := 2) rfl (by decide) ir25 (by decide) (fun x36 ls ex36 ix36 hl => ?_)
        have hl : lv_has ls 4 [(2, .int x36), (0, .ref a0), (1, .int v16_1)] := hl
        have ix36 : IV x36 1 4 := ix36
        refine lv_goto (tgt := 16) hx hb dX11_least_36 (by decide) ?_
        exact ih16 q33 H locs ls v16_1 x36 hqq33 h0q33 iv16_1 (iv_w ix36 (by decide)) hH hS (lv_sub hl [1, 2, 0] rfl) (th_up iv16_2 ex36 (by decide) hn16)
  have J0 : ∀ (H : Heap) (locs : List Loc) (ls : Array Slot), th_H D cT T (km q) H → va_S (th_A T [0, 36, 37]) s.heap H locs → lv_has ls 4 [(0, .ref a0)] → W p l e (rmk 4 94) s m [.ref a0].toArray below meth c H locs 0 0 (MQ below (th_QM D cT T (fun v q2 => ∃ r : Int32, v = some (.int r) ∧ IV r (-1) 4 ∧ qkm q2 ∧ fr [40, 41, 42, 43] q q2) [0, 36, 37]) [.ref a0].toArray s 0 0 (th_A T [0, 36, 37])) (F0 m 0 ls []) := by
    intro H locs ls hH hS hl
    refine lv_aload_n hx hb dX11_least_0 rfl (lv_at hl 0 rfl) ?_
    refine th_callVp (n := 0) (As := []) S hK hH hS (th_A.sub (by decide)) (m_X11_many l D cT T q hT hq a0 t0) gm_1229 gm_1226 gm_1228 gm_46 gm_124 (by decide +kernel) ⟨rfl, rfl, Nat.le_of_ble_eq_true rfl, Nat.le_of_ble_eq_true rfl⟩ t0 km_0 rfl rfl hl.1 rfl (Nat.le_of_ble_eq_true rfl) dX11_least_1 ⟨Nat.zero_le _, Nat.zero_le _⟩ (fun x37 H locs ix37 ox37 hH hS hF1 => ?_)
    have ox37 : x37.toInt = q 11 := ox37
    have l1x37 := ix37.1; have l2x37 := ix37.2
    refine lv_if_ne (tgt := 9) hx hb dX11_least_4 (by decide) (fun c38 => ?_) (fun c38 => ?_)
    · skip
      have rlc38 : x37.toInt ≠ (0 : Int) := iv_ne c38
      have ir39 : IV x37 1 4 := iv_cutL ix37 (iv_c (by decide) : IV 0 0 0) c38 (by decide)
      have ir39a := ir39.1; have ir39b := ir39.2
      refine lv_aload_n hx hb dX11_least_9 rfl (lv_at hl 0 rfl) ?_
      refine th_get S hK hH inG11 t0 km_0 rfl 59 (by decide) gm_1289 rfl rfl dX11_least_10 (fun v40 hv40 fv40 => ?_)
      obtain ⟨x41, rfl, ix41⟩ := th_V.int hv40
      refine lv_istore_n (lv' := [(1, .int x41), (0, .ref a0)]) hx hb dX11_least_13 rfl hl (by decide) rfl (fun ls hl => ?_)
      refine lv_iconst (v := 0) hx hb dX11_least_14 (by decide) ?_
      refine lv_istore_n (lv' := [(2, .int 0), (1, .int x41), (0, .ref a0)]) hx hb dX11_least_15 rfl hl (by decide) rfl (fun ls hl => ?_)
      exact J16 ((4 + 1 - Int32.toInt 0).toNat + 1) q H locs ls x41 0 hq fr_rf ix41 (iv_w (iv_c (by decide) : IV 0 0 0) (by decide)) hH hS (lv_sub hl [2, 1, 0] rfl) (Nat.lt_succ_self _)
    · skip
      have rlc38 : x37.toInt = (0 : Int) := congrArg Int32.toInt c38
      have ir42 : IV x37 0 0 := iv_eL c38 (iv_c (by decide) : IV 0 0 0)
      have ir42a := ir42.1; have ir42b := ir42.2
      refine lv_iconst (v := 0) hx hb dX11_least_7 (by decide) ?_
      exact th_iretM S hK hH hS hr hlocks ⟨_, rfl, (iv_w (iv_c (by decide) : IV 0 0 0) (by decide)), hq, fr_rf⟩ dX11_least_8
  exact J0 s.heap [] ls hH va_S.rf hl

set_option maxRecDepth 100000 in
theorem m_X11_bites (l : Launch) (D : va_G) (cT : Nat → ClassId) (T : Nat → Option Nat) (q : Nat → Int) (hT : tokm T) (hq : qkm q) (a0 : Nat) (t0 : T a0 = some 0) : th_Met l D cT T (km q) yX11_bites cX11_bites 4 (some .int) (rmk 2 43) [.ref a0] (th_R T (some (.inl (-2147483648, 2147483647)))) [] := by
  refine th_start (by decide) (Nat.le_of_ble_eq_true rfl) ?_
  intro p e s m below meth c ls S hK hH hr hlocks hnm hl
  have hx := S.1
  have hb := S.2.1
  have hl : lv_has ls 4 [(0, .ref a0)] := hl
  have J4 : ∀ (n : Nat) (H : Heap) (locs : List Loc) (ls : Array Slot) (v4_1 : Int32) (v4_2 : Int32), IV v4_1 (-2147483648) 2147483647 → IV v4_2 0 4 → th_H D cT T (km q) H → va_S (th_A T []) s.heap H locs → lv_has ls 4 [(0, .ref a0), (1, .int v4_1), (2, .int v4_2)] → (4 + 1 - Int32.toInt v4_2).toNat < n → W p l e (rmk 2 43) s m [.ref a0].toArray below meth c H locs 0 0 (MQ below (th_Q D cT T (km q) (th_R T (some (.inl (-2147483648, 2147483647)))) []) [.ref a0].toArray s 0 0 (th_A T [])) (F0 m 4 ls []) := by
    intro n
    induction n with
    | zero => intro H locs ls v4_1 v4_2 iv4_1 iv4_2 hH hS hl hn; exact absurd hn (Nat.not_lt_zero _)
    | succ n ih4 =>
      intro H locs ls v4_1 v4_2 iv4_1 iv4_2 hH hS hl hn4
      have J14 : ∀ (n : Nat) (H : Heap) (locs : List Loc) (ls : Array Slot) (v14_1 : Int32) (v14_3 : Int32), IV v14_1 (-2147483648) 2147483647 → IV v14_3 0 3 → IV v4_2 0 3 → th_H D cT T (km q) H → va_S (th_A T []) s.heap H locs → lv_has ls 4 [(0, .ref a0), (1, .int v14_1), (2, .int v4_2), (3, .int v14_3)] → (3 + 1 - Int32.toInt v14_3).toNat < n → W p l e (rmk 2 43) s m [.ref a0].toArray below meth c H locs 0 0 (MQ below (th_Q D cT T (km q) (th_R T (some (.inl (-2147483648, 2147483647)))) []) [.ref a0].toArray s 0 0 (th_A T [])) (F0 m 14 ls []) := by
        intro n
        induction n with
        | zero => intro H locs ls v14_1 v14_3 iv14_1 iv14_3 f14_v4_2 hH hS hl hn; exact absurd hn (Nat.not_lt_zero _)
        | succ n ih14 =>
          intro H locs ls v14_1 v14_3 iv14_1 iv14_3 f14_v4_2 hH hS hl hn14
          have J34_s1_0 : ∀ (H : Heap) (locs : List Loc) (ls : Array Slot), IV v14_3 0 2 → IV v4_2 1 3 → th_H D cT T (km q) H → va_S (th_A T []) s.heap H locs → lv_has ls 4 [(0, .ref a0), (2, .int v4_2), (3, .int v14_3)] → W p l e (rmk 2 43) s m [.ref a0].toArray below meth c H locs 0 0 (MQ below (th_Q D cT T (km q) (th_R T (some (.inl (-2147483648, 2147483647)))) []) [.ref a0].toArray s 0 0 (th_A T [])) (F0 m 34 ls [.int 0, .int v14_1]) := by
            intro H locs ls f34_v14_3 f34_v4_2 hH hS hl
            refine lv_iadd hx hb dX11_bites_34 ?_
            refine lv_topi (fun x1 ex1 => ?_)
            have ix1 : IV x1 (-2147483648) 2147483647 := by rw [ex1]; exact iv_add iv14_1 (iv_c (by decide) : IV 0 0 0) (by decide)
            have ux1 : x1.toInt = v14_1.toInt + (0 : Int) := by rw [ex1]; exact iv_addE (by have z1 := (iv14_1).1; have z2 := (iv14_1).2; have z3 := ((iv_c (by decide) : IV 0 0 0)).1; have z4 := ((iv_c (by decide) : IV 0 0 0)).2; omega)
            refine lv_istore_n (lv' := [(1, .int x1), (0, .ref a0), (2, .int v4_2), (3, .int v14_3)]) hx hb dX11_bites_35 rfl hl (by decide) rfl (fun ls hl => ?_)
            refine th_iinc S dX11_bites_36 hl (k := 3) rfl (by decide) f34_v14_3 (by decide) (fun x2 ls ex2 ix2 hl => ?_)
            have hl : lv_has ls 4 [(3, .int x2), (1, .int x1), (0, .ref a0), (2, .int v4_2)] := hl
            have ix2 : IV x2 1 3 := ix2
            refine lv_goto (tgt := 14) hx hb dX11_bites_39 (by decide) ?_
            exact ih14 H locs ls x1 x2 ix1 (iv_w ix2 (by decide)) (iv_w f34_v4_2 (by decide)) hH hS (lv_sub hl [2, 1, 3, 0] rfl) (th_up iv14_3 ex2 (by decide) hn14)
          have J34_s1_1 : ∀ (H : Heap) (locs : List Loc) (ls : Array Slot), IV v14_3 0 2 → IV v4_2 1 3 → th_H D cT T (km q) H → va_S (th_A T []) s.heap H locs → lv_has ls 4 [(0, .ref a0), (2, .int v4_2), (3, .int v14_3)] → W p l e (rmk 2 43) s m [.ref a0].toArray below meth c H locs 0 0 (MQ below (th_Q D cT T (km q) (th_R T (some (.inl (-2147483648, 2147483647)))) []) [.ref a0].toArray s 0 0 (th_A T [])) (F0 m 34 ls [.int 1, .int v14_1]) := by
            intro H locs ls f34_v14_3 f34_v4_2 hH hS hl
            refine lv_iadd hx hb dX11_bites_34 ?_
            refine lv_topi (fun x3 ex3 => ?_)
            have ix3 := iv_top x3
            refine lv_istore_n (lv' := [(1, .int x3), (0, .ref a0), (2, .int v4_2), (3, .int v14_3)]) hx hb dX11_bites_35 rfl hl (by decide) rfl (fun ls hl => ?_)
            refine th_iinc S dX11_bites_36 hl (k := 3) rfl (by decide) f34_v14_3 (by decide) (fun x4 ls ex4 ix4 hl => ?_)
            have hl : lv_has ls 4 [(3, .int x4), (1, .int x3), (0, .ref a0), (2, .int v4_2)] := hl
            have ix4 : IV x4 1 3 := ix4
            refine lv_goto (tgt := 14) hx hb dX11_bites_39 (by decide) ?_
            exact ih14 H locs ls x3 x4 ix3 (iv_w ix4 (by decide)) (iv_w f34_v4_2 (by decide)) hH hS (lv_sub hl [2, 1, 3, 0] rfl) (th_up iv14_3 ex4 (by decide) hn14)
          have l1v14_3 := iv14_3.1; have l2v14_3 := iv14_3.2
          refine lv_iload_n hx hb dX11_bites_14 rfl (lv_at hl 3 rfl) ?_
          refine lv_iload_n hx hb dX11_bites_15 rfl (lv_at hl 2 rfl) ?_
          refine lv_icmp_ge (tgt := 42) hx hb dX11_bites_16 (by decide) (fun c5 => ?_) (fun c5 => ?_)
          · skip
            have rlc5 : v4_2.toInt ≤ v14_3.toInt := iv_le c5
            refine th_iinc S dX11_bites_42 hl (k := 2) rfl (by decide) f14_v4_2 (by decide) (fun x6 ls ex6 ix6 hl => ?_)
            have hl : lv_has ls 4 [(2, .int x6), (0, .ref a0), (1, .int v14_1), (3, .int v14_3)] := hl
            have ix6 : IV x6 1 4 := ix6
            refine lv_goto (tgt := 4) hx hb dX11_bites_45 (by decide) ?_
            exact ih4 H locs ls v14_1 x6 iv14_1 (iv_w ix6 (by decide)) hH hS (lv_sub hl [1, 2, 0] rfl) (th_up iv4_2 ex6 (by decide) hn4)
          · skip
            have rlc5 : v14_3.toInt < v4_2.toInt := iv_nle c5
            have ir7 : IV v14_3 0 2 := iv_uL iv14_3 f14_v4_2 (iv_nle c5) (by decide)
            have ir7a := ir7.1; have ir7b := ir7.2
            have ir8 : IV v4_2 1 3 := iv_uR iv14_3 f14_v4_2 (iv_nle c5) (by decide)
            have ir8a := ir8.1; have ir8b := ir8.2
            refine lv_iload_n hx hb dX11_bites_19 rfl (lv_at hl 1 rfl) ?_
            refine lv_aload_n hx hb dX11_bites_20 rfl (lv_at hl 0 rfl) ?_
            refine lv_iload_n hx hb dX11_bites_21 rfl (lv_at hl 2 rfl) ?_
            refine lv_iload_n hx hb dX11_bites_22 rfl (lv_at hl 3 rfl) ?_
            refine th_callVi (n := 2) (As := [.int v4_2, .int v14_3]) S hK hH hS (th_A.sub (by decide)) (m_X11_doesBite l D cT T q hT hq a0 t0 (v4_2) (iv_w ir8 (by decide)) (v14_3) (iv_w ir7 (by decide))) gm_1648 gm_1645 gm_1647 gm_84 gm_124 (by decide +kernel) ⟨rfl, rfl, Nat.le_of_ble_eq_true rfl, Nat.le_of_ble_eq_true rfl⟩ t0 km_0 rfl rfl hl.1 rfl (Nat.le_of_ble_eq_true rfl) dX11_bites_23 ⟨Nat.zero_le _, Nat.zero_le _⟩ (fun x9 H locs ix9 hH hS hF1 => ?_)
            refine lv_if_eq (tgt := 33) hx hb dX11_bites_26 (by decide) (fun c10 => ?_) (fun c10 => ?_)
            · skip
              have rlc10 : x9.toInt = (0 : Int) := congrArg Int32.toInt c10
              have ir11 : IV x9 0 0 := iv_eL c10 (iv_c (by decide) : IV 0 0 0)
              have ir11a := ir11.1; have ir11b := ir11.2
              refine lv_iconst (v := 0) hx hb dX11_bites_33 (by decide) ?_
              exact J34_s1_0 H locs ls ir7 ir8 hH hS (lv_sub hl [0, 2, 3] rfl)
            · skip
              have rlc10 : x9.toInt ≠ (0 : Int) := iv_ne c10
              have ir12 : IV x9 1 1 := iv_cutL ix9 (iv_c (by decide) : IV 0 0 0) c10 (by decide)
              have ir12a := ir12.1; have ir12b := ir12.2
              refine lv_iconst (v := 1) hx hb dX11_bites_29 (by decide) ?_
              refine lv_goto (tgt := 34) hx hb dX11_bites_30 (by decide) ?_
              exact J34_s1_1 H locs ls ir7 ir8 hH hS (lv_sub hl [0, 2, 3] rfl)
      have l1v4_2 := iv4_2.1; have l2v4_2 := iv4_2.2
      refine lv_iload_n hx hb dX11_bites_4 rfl (lv_at hl 2 rfl) ?_
      refine lv_aload_n hx hb dX11_bites_5 rfl (lv_at hl 0 rfl) ?_
      refine th_callVp (n := 0) (As := []) S hK hH hS (th_A.sub (by decide)) (m_X11_many l D cT T q hT hq a0 t0) gm_1229 gm_1226 gm_1228 gm_46 gm_124 (by decide +kernel) ⟨rfl, rfl, Nat.le_of_ble_eq_true rfl, Nat.le_of_ble_eq_true rfl⟩ t0 km_0 rfl rfl hl.1 rfl (Nat.le_of_ble_eq_true rfl) dX11_bites_6 ⟨Nat.zero_le _, Nat.zero_le _⟩ (fun x13 H locs ix13 ox13 hH hS hF1 => ?_)
      have ox13 : x13.toInt = q 11 := ox13
      refine lv_icmp_ge (tgt := 48) hx hb dX11_bites_9 (by decide) (fun c14 => ?_) (fun c14 => ?_)
      · skip
        have rlc14 : x13.toInt ≤ v4_2.toInt := iv_le c14
        refine lv_iload_n hx hb dX11_bites_48 rfl (lv_at hl 1 rfl) ?_
        exact th_iret S hK hH hS hr hlocks (th_R.i iv4_1) dX11_bites_49
      · skip
        have rlc14 : v4_2.toInt < x13.toInt := iv_nle c14
        have ir15 : IV v4_2 0 3 := iv_uL iv4_2 ix13 (iv_nle c14) (by decide)
        have ir15a := ir15.1; have ir15b := ir15.2
        have ir16 : IV x13 1 4 := iv_uR iv4_2 ix13 (iv_nle c14) (by decide)
        have ir16a := ir16.1; have ir16b := ir16.2
        refine lv_iconst (v := 0) hx hb dX11_bites_12 (by decide) ?_
        refine lv_istore_n (lv' := [(3, .int 0), (0, .ref a0), (1, .int v4_1), (2, .int v4_2)]) hx hb dX11_bites_13 rfl hl (by decide) rfl (fun ls hl => ?_)
        exact J14 ((3 + 1 - Int32.toInt 0).toNat + 1) H locs ls v4_1 0 iv4_1 (iv_w (iv_c (by decide) : IV 0 0 0) (by decide)) ir15 hH hS (lv_sub hl [1, 2, 3, 0] rfl) (Nat.lt_succ_self _)
  have J0 : ∀ (H : Heap) (locs : List Loc) (ls : Array Slot), th_H D cT T (km q) H → va_S (th_A T []) s.heap H locs → lv_has ls 4 [(0, .ref a0)] → W p l e (rmk 2 43) s m [.ref a0].toArray below meth c H locs 0 0 (MQ below (th_Q D cT T (km q) (th_R T (some (.inl (-2147483648, 2147483647)))) []) [.ref a0].toArray s 0 0 (th_A T [])) (F0 m 0 ls []) := by
    intro H locs ls hH hS hl
    refine lv_iconst (v := 0) hx hb dX11_bites_0 (by decide) ?_
    refine lv_istore_n (lv' := [(1, .int 0), (0, .ref a0)]) hx hb dX11_bites_1 rfl hl (by decide) rfl (fun ls hl => ?_)
    refine lv_iconst (v := 0) hx hb dX11_bites_2 (by decide) ?_
    refine lv_istore_n (lv' := [(2, .int 0), (1, .int 0), (0, .ref a0)]) hx hb dX11_bites_3 rfl hl (by decide) rfl (fun ls hl => ?_)
    exact J4 ((4 + 1 - Int32.toInt 0).toNat + 1) H locs ls 0 0 (iv_top _) (iv_w (iv_c (by decide) : IV 0 0 0) (by decide)) hH hS (lv_sub hl [2, 1, 0] rfl) (Nat.lt_succ_self _)
  exact J0 s.heap [] ls hH va_S.rf hl

set_option maxRecDepth 100000 in
theorem m_X11_odds (l : Launch) (D : va_G) (cT : Nat → ClassId) (T : Nat → Option Nat) (q : Nat → Int) (hT : tokm T) (hq : qkm q) (a0 : Nat) (t0 : T a0 = some 0) (y1 : Int32) (j1 : IV y1 (-2147483648) 2147483647) (y2 : Int32) (j2 : IV y2 (-2147483648) 2147483647) (y3 : Int32) (j3 : IV y3 (-2147483648) 2147483647) : th_Met l D cT T (km q) yX11_odds cX11_odds 8 (some .int) (rmk 5 118) [.ref a0, .int y1, .int y2, .int y3] (th_R T (some (.inl (-2147483648, 2147483647)))) [0, 32, 33, 35] := by
  refine th_start (by decide) (Nat.le_of_ble_eq_true rfl) ?_
  intro p e s m below meth c ls S hK hH hr hlocks hnm hl
  have hx := S.1
  have hb := S.2.1
  have hl : lv_has ls 8 [(0, .ref a0), (1, .int y1), (2, .int y2), (3, .int y3)] := hl
  have J156 : ∀ (H : Heap) (locs : List Loc) (ls : Array Slot) (v156_4 : Int32) (v156_5 : Int32) (w156_0 : Int32), IV v156_4 1 1073741824 → IV v156_5 (-2147483648) 2147483647 → IV w156_0 (-2147483648) 2147483647 → th_H D cT T (km q) H → va_S (th_A T [0, 32, 33, 35]) s.heap H locs → lv_has ls 8 [(4, .int v156_4), (5, .int v156_5)] → W p l e (rmk 5 118) s m [.ref a0, .int y1, .int y2, .int y3].toArray below meth c H locs 0 0 (MQ below (th_Q D cT T (km q) (th_R T (some (.inl (-2147483648, 2147483647)))) [0, 32, 33, 35]) [.ref a0, .int y1, .int y2, .int y3].toArray s 0 0 (th_A T [0, 32, 33, 35])) (F0 m 156 ls [.int w156_0]) := by
    intro H locs ls v156_4 v156_5 w156_0 iv156_4 iv156_5 iw156_0 hH hS hl
    have l1v156_4 := iv156_4.1; have l2v156_4 := iv156_4.2
    refine lv_iload hx hb dX11_odds_156 (lv_at hl 0 rfl) ?_
    refine lv_iload hx hb dX11_odds_158 (lv_at hl 1 rfl) ?_
    refine th_callSi (n := 2) (As := [.int v156_4, .int v156_5]) S hK hH hS (th_A.sub (by decide)) (m_X11_divisor l D cT T q hT hq (v156_4) (iv_w iv156_4 (by decide)) (v156_5) iv156_5) gm_1859 gm_1857 gm_1858 gm_124 (by decide +kernel) ⟨rfl, rfl, Nat.le_of_ble_eq_true rfl, Nat.le_of_ble_eq_true rfl⟩ rfl hl.1 rfl (Nat.le_of_ble_eq_true rfl) dX11_odds_160 ⟨Nat.zero_le _, Nat.zero_le _⟩ (fun x1 H locs ix1 hH hS hF1 => ?_)
    refine lv_idiv hx hb dX11_odds_163 (iv_n0 ix1 (by decide)) ?_
    refine lv_topi (fun x2 ex2 => ?_)
    have ix2 := iv_top x2
    exact th_iret S hK hH hS hr hlocks (th_R.i ix2) dX11_odds_164
  have J55 : ∀ (n : Nat) (H : Heap) (locs : List Loc) (ls : Array Slot) (v55_4 : Int32) (v55_5 : Int32) (v55_6 : Int32), IV v55_4 1 1073741824 → IV v55_5 (-2147483648) 2147483647 → IV v55_6 0 2147483647 → IV y1 0 7 → IV y2 0 7 → IV y3 0 1 → th_H D cT T (km q) H → va_S (th_A T [0, 32, 33, 35]) s.heap H locs → lv_has ls 8 [(0, .ref a0), (1, .int y1), (2, .int y2), (3, .int y3), (4, .int v55_4), (5, .int v55_5), (6, .int v55_6)] → (2147483647 + 1 - Int32.toInt v55_6).toNat < n → W p l e (rmk 5 118) s m [.ref a0, .int y1, .int y2, .int y3].toArray below meth c H locs 0 0 (MQ below (th_Q D cT T (km q) (th_R T (some (.inl (-2147483648, 2147483647)))) [0, 32, 33, 35]) [.ref a0, .int y1, .int y2, .int y3].toArray s 0 0 (th_A T [0, 32, 33, 35])) (F0 m 55 ls []) := by
    intro n
    induction n with
    | zero => intro H locs ls v55_4 v55_5 v55_6 iv55_4 iv55_5 iv55_6 f55_y1 f55_y2 f55_y3 hH hS hl hn; exact absurd hn (Nat.not_lt_zero _)
    | succ n ih55 =>
      intro H locs ls v55_4 v55_5 v55_6 iv55_4 iv55_5 iv55_6 f55_y1 f55_y2 f55_y3 hH hS hl hn55
      have J132_s1_0 : ∀ (H : Heap) (locs : List Loc) (ls : Array Slot), IV v55_6 0 2147483646 → IV y1 0 7 → IV y2 0 7 → IV y3 0 1 → th_H D cT T (km q) H → va_S (th_A T [0, 32, 33, 35]) s.heap H locs → lv_has ls 8 [(0, .ref a0), (1, .int y1), (2, .int y2), (3, .int y3), (4, .int v55_4), (6, .int v55_6)] → W p l e (rmk 5 118) s m [.ref a0, .int y1, .int y2, .int y3].toArray below meth c H locs 0 0 (MQ below (th_Q D cT T (km q) (th_R T (some (.inl (-2147483648, 2147483647)))) [0, 32, 33, 35]) [.ref a0, .int y1, .int y2, .int y3].toArray s 0 0 (th_A T [0, 32, 33, 35])) (F0 m 132 ls [.int 0, .int v55_5]) := by
        intro H locs ls f132_v55_6 f132_y1 f132_y2 f132_y3 hH hS hl
        refine lv_iadd hx hb dX11_odds_132 ?_
        refine lv_topi (fun x3 ex3 => ?_)
        have ix3 : IV x3 (-2147483648) 2147483647 := by rw [ex3]; exact iv_add iv55_5 (iv_c (by decide) : IV 0 0 0) (by decide)
        have ux3 : x3.toInt = v55_5.toInt + (0 : Int) := by rw [ex3]; exact iv_addE (by have z1 := (iv55_5).1; have z2 := (iv55_5).2; have z3 := ((iv_c (by decide) : IV 0 0 0)).1; have z4 := ((iv_c (by decide) : IV 0 0 0)).2; omega)
        refine lv_istore (lv' := [(5, .int x3), (0, .ref a0), (1, .int y1), (2, .int y2), (3, .int y3), (4, .int v55_4), (6, .int v55_6)]) hx hb dX11_odds_133 hl (by decide) rfl (fun ls hl => ?_)
        refine lv_aload_n hx hb dX11_odds_135 rfl (lv_at hl 1 rfl) ?_
        refine th_callVv (n := 0) (As := []) S hK hH hS (th_A.sub (by decide)) (m_X11_bringBack l D cT T q hT hq a0 t0) gm_1768 gm_1765 gm_1767 gm_99 gm_124 (by decide +kernel) ⟨rfl, rfl, Nat.le_of_ble_eq_true rfl, Nat.le_of_ble_eq_true rfl⟩ t0 km_0 rfl rfl hl.1 rfl (Nat.le_of_ble_eq_true rfl) dX11_odds_136 ⟨Nat.zero_le _, Nat.zero_le _⟩ (fun H locs hH hS hF1 => ?_)
        refine th_iinc S dX11_odds_139 hl (k := 6) rfl (by decide) f132_v55_6 (by decide) (fun x4 ls ex4 ix4 hl => ?_)
        have hl : lv_has ls 8 [(6, .int x4), (5, .int x3), (0, .ref a0), (1, .int y1), (2, .int y2), (3, .int y3), (4, .int v55_4)] := hl
        have ix4 : IV x4 1 2147483647 := ix4
        refine lv_goto (tgt := 55) hx hb dX11_odds_142 (by decide) ?_
        exact ih55 H locs ls v55_4 x3 x4 iv55_4 ix3 (iv_w ix4 (by decide)) f132_y1 f132_y2 f132_y3 hH hS (lv_sub hl [2, 3, 4, 5, 6, 1, 0] rfl) (th_up iv55_6 ex4 (by decide) hn55)
      have J132_s1_1 : ∀ (H : Heap) (locs : List Loc) (ls : Array Slot), IV v55_6 0 2147483646 → IV y1 0 7 → IV y2 0 7 → IV y3 0 1 → th_H D cT T (km q) H → va_S (th_A T [0, 32, 33, 35]) s.heap H locs → lv_has ls 8 [(0, .ref a0), (1, .int y1), (2, .int y2), (3, .int y3), (4, .int v55_4), (6, .int v55_6)] → W p l e (rmk 5 118) s m [.ref a0, .int y1, .int y2, .int y3].toArray below meth c H locs 0 0 (MQ below (th_Q D cT T (km q) (th_R T (some (.inl (-2147483648, 2147483647)))) [0, 32, 33, 35]) [.ref a0, .int y1, .int y2, .int y3].toArray s 0 0 (th_A T [0, 32, 33, 35])) (F0 m 132 ls [.int 1, .int v55_5]) := by
        intro H locs ls f132_v55_6 f132_y1 f132_y2 f132_y3 hH hS hl
        refine lv_iadd hx hb dX11_odds_132 ?_
        refine lv_topi (fun x5 ex5 => ?_)
        have ix5 := iv_top x5
        refine lv_istore (lv' := [(5, .int x5), (0, .ref a0), (1, .int y1), (2, .int y2), (3, .int y3), (4, .int v55_4), (6, .int v55_6)]) hx hb dX11_odds_133 hl (by decide) rfl (fun ls hl => ?_)
        refine lv_aload_n hx hb dX11_odds_135 rfl (lv_at hl 1 rfl) ?_
        refine th_callVv (n := 0) (As := []) S hK hH hS (th_A.sub (by decide)) (m_X11_bringBack l D cT T q hT hq a0 t0) gm_1768 gm_1765 gm_1767 gm_99 gm_124 (by decide +kernel) ⟨rfl, rfl, Nat.le_of_ble_eq_true rfl, Nat.le_of_ble_eq_true rfl⟩ t0 km_0 rfl rfl hl.1 rfl (Nat.le_of_ble_eq_true rfl) dX11_odds_136 ⟨Nat.zero_le _, Nat.zero_le _⟩ (fun H locs hH hS hF1 => ?_)
        refine th_iinc S dX11_odds_139 hl (k := 6) rfl (by decide) f132_v55_6 (by decide) (fun x6 ls ex6 ix6 hl => ?_)
        have hl : lv_has ls 8 [(6, .int x6), (5, .int x5), (0, .ref a0), (1, .int y1), (2, .int y2), (3, .int y3), (4, .int v55_4)] := hl
        have ix6 : IV x6 1 2147483647 := ix6
        refine lv_goto (tgt := 55) hx hb dX11_odds_142 (by decide) ?_
        exact ih55 H locs ls v55_4 x5 x6 iv55_4 ix5 (iv_w ix6 (by decide)) f132_y1 f132_y2 f132_y3 hH hS (lv_sub hl [2, 3, 4, 5, 6, 1, 0] rfl) (th_up iv55_6 ex6 (by decide) hn55)
      have J65 : ∀ (n : Nat) (H : Heap) (locs : List Loc) (ls : Array Slot) (v65_7 : Int32), IV v65_7 0 7 → IV v55_6 0 2147483646 → IV y1 0 7 → IV y2 0 7 → IV y3 0 1 → th_H D cT T (km q) H → va_S (th_A T [0, 32, 33, 35]) s.heap H locs → lv_has ls 8 [(0, .ref a0), (1, .int y1), (2, .int y2), (3, .int y3), (4, .int v55_4), (5, .int v55_5), (6, .int v55_6), (7, .int v65_7)] → (7 + 1 - Int32.toInt v65_7).toNat < n → W p l e (rmk 5 118) s m [.ref a0, .int y1, .int y2, .int y3].toArray below meth c H locs 0 0 (MQ below (th_Q D cT T (km q) (th_R T (some (.inl (-2147483648, 2147483647)))) [0, 32, 33, 35]) [.ref a0, .int y1, .int y2, .int y3].toArray s 0 0 (th_A T [0, 32, 33, 35])) (F0 m 65 ls []) := by
        intro n
        induction n with
        | zero => intro H locs ls v65_7 iv65_7 f65_v55_6 f65_y1 f65_y2 f65_y3 hH hS hl hn; exact absurd hn (Nat.not_lt_zero _)
        | succ n ih65 =>
          intro H locs ls v65_7 iv65_7 f65_v55_6 f65_y1 f65_y2 f65_y3 hH hS hl hn65
          have J92 : ∀ (H : Heap) (locs : List Loc) (ls : Array Slot), IV v55_6 0 2147483646 → IV v65_7 0 6 → IV y1 0 7 → IV y2 1 7 → IV y3 0 1 → th_H D cT T (km q) H → va_S (th_A T [0, 32, 33, 35]) s.heap H locs → lv_has ls 8 [(0, .ref a0), (1, .int y1), (2, .int y2), (3, .int y3), (4, .int v55_4), (5, .int v55_5), (6, .int v55_6), (7, .int v65_7)] → W p l e (rmk 5 118) s m [.ref a0, .int y1, .int y2, .int y3].toArray below meth c H locs 0 0 (MQ below (th_Q D cT T (km q) (th_R T (some (.inl (-2147483648, 2147483647)))) [0, 32, 33, 35]) [.ref a0, .int y1, .int y2, .int y3].toArray s 0 0 (th_A T [0, 32, 33, 35])) (F0 m 92 ls []) := by
            intro H locs ls f92_v55_6 f92_v65_7 f92_y1 f92_y2 f92_y3 hH hS hl
            refine lv_aload_n hx hb dX11_odds_92 rfl (lv_at hl 0 rfl) ?_
            refine th_callVv (n := 0) (As := []) S hK hH hS (th_A.sub (by decide)) (m_X11_eat l D cT T q hT hq a0 t0) gm_1721 gm_1718 gm_1720 gm_94 gm_124 (by decide +kernel) ⟨rfl, rfl, Nat.le_of_ble_eq_true rfl, Nat.le_of_ble_eq_true rfl⟩ t0 km_0 rfl rfl hl.1 rfl (Nat.le_of_ble_eq_true rfl) dX11_odds_93 ⟨Nat.zero_le _, Nat.zero_le _⟩ (fun H locs hH hS hF1 => ?_)
            refine lv_aload_n hx hb dX11_odds_96 rfl (lv_at hl 0 rfl) ?_
            refine th_get S hK hH inG11 t0 km_0 rfl 52 (by decide) gm_1282 rfl rfl dX11_odds_97 (fun v7 hv7 fv7 => ?_)
            obtain ⟨rf8, rfl, trf8⟩ := th_V.ref hv7
            refine lv_bipush (v := 40) hx hb dX11_odds_100 (by decide) ?_
            refine lv_dup2_11 hx hb dX11_odds_102 rfl rfl ?_
            refine th_iald S hK hH trf8 km_33 (th_in (hi := 40) (iv_w (iv_c (by decide) : IV 40 40 40) (by decide)) (by decide)) dX11_odds_103 (fun v9 hv9 => ?_)
            obtain ⟨x10, rfl, ix10⟩ := th_V.int hv9
            refine lv_iconst (v := 1) hx hb dX11_odds_104 (by decide) ?_
            refine lv_iadd hx hb dX11_odds_105 ?_
            refine lv_topi (fun x11 ex11 => ?_)
            have ix11 := iv_top x11
            refine th_iast S hK hH hS ⟨33, by decide, trf8⟩ trf8 km_33 (th_in (hi := 40) (iv_w (iv_c (by decide) : IV 40 40 40) (by decide)) (by decide)) (th_iv ix11) dX11_odds_106 (fun H locs hH hS hq1 => ?_)
            have f12 := fv7.kept (hq1 _ (th_ne t0 trf8 (by decide)))
            refine th_iinc S dX11_odds_107 hl (k := 7) rfl (by decide) f92_v65_7 (by decide) (fun x13 ls ex13 ix13 hl => ?_)
            have hl : lv_has ls 8 [(7, .int x13), (0, .ref a0), (1, .int y1), (2, .int y2), (3, .int y3), (4, .int v55_4), (5, .int v55_5), (6, .int v55_6)] := hl
            have ix13 : IV x13 1 7 := ix13
            refine lv_goto (tgt := 65) hx hb dX11_odds_110 (by decide) ?_
            exact ih65 H locs ls x13 (iv_w ix13 (by decide)) f92_v55_6 f92_y1 (iv_w f92_y2 (by decide)) f92_y3 hH hS (lv_sub hl [1, 2, 3, 4, 5, 6, 7, 0] rfl) (th_up iv65_7 ex13 (by decide) hn65)
          have l1v65_7 := iv65_7.1; have l2v65_7 := iv65_7.2
          refine lv_iload hx hb dX11_odds_65 (lv_at hl 7 rfl) ?_
          refine lv_iload_n hx hb dX11_odds_67 rfl (lv_at hl 2 rfl) ?_
          refine lv_icmp_ge (tgt := 113) hx hb dX11_odds_68 (by decide) (fun c14 => ?_) (fun c14 => ?_)
          · skip
            have rlc14 : y2.toInt ≤ v65_7.toInt := iv_le c14
            refine lv_iload hx hb dX11_odds_113 (lv_at hl 5 rfl) ?_
            refine lv_aload_n hx hb dX11_odds_115 rfl (lv_at hl 0 rfl) ?_
            refine th_get S hK hH inG11 t0 km_0 rfl 52 (by decide) gm_1282 rfl rfl dX11_odds_116 (fun v15 hv15 fv15 => ?_)
            obtain ⟨rf16, rfl, trf16⟩ := th_V.ref hv15
            refine lv_bipush (v := 15) hx hb dX11_odds_119 (by decide) ?_
            refine lv_iload_n hx hb dX11_odds_121 rfl (lv_at hl 1 rfl) ?_
            refine lv_iadd hx hb dX11_odds_122 ?_
            refine lv_topi (fun x17 ex17 => ?_)
            have ix17 : IV x17 15 22 := by rw [ex17]; exact iv_add (iv_c (by decide) : IV 15 15 15) f65_y1 (by decide)
            have ux17 : x17.toInt = (15 : Int) + y1.toInt := by rw [ex17]; exact iv_addE (by have z1 := ((iv_c (by decide) : IV 15 15 15)).1; have z2 := ((iv_c (by decide) : IV 15 15 15)).2; have z3 := (f65_y1).1; have z4 := (f65_y1).2; omega)
            refine th_iald S hK hH trf16 km_33 (th_in (hi := 22) (iv_w ix17 (by decide)) (by decide)) dX11_odds_123 (fun v18 hv18 => ?_)
            obtain ⟨x19, rfl, ix19⟩ := th_V.int hv18
            refine lv_if_le (tgt := 131) hx hb dX11_odds_124 (by decide) (fun c20 => ?_) (fun c20 => ?_)
            · skip
              have rlc20 : x19.toInt ≤ (0 : Int) := iv_le c20
              have ir21 : IV x19 (-2147483648) 0 := iv_vL ix19 (iv_c (by decide) : IV 0 0 0) (iv_le c20) (by decide)
              have ir21a := ir21.1; have ir21b := ir21.2
              refine lv_iconst (v := 0) hx hb dX11_odds_131 (by decide) ?_
              exact J132_s1_0 H locs ls f65_v55_6 f65_y1 f65_y2 f65_y3 hH hS (lv_sub hl [0, 1, 2, 3, 4, 6] rfl)
            · skip
              have rlc20 : (0 : Int) < x19.toInt := iv_nle c20
              have ir22 : IV x19 1 2147483647 := iv_uR (iv_c (by decide) : IV 0 0 0) ix19 (iv_nle c20) (by decide)
              have ir22a := ir22.1; have ir22b := ir22.2
              refine lv_iconst (v := 1) hx hb dX11_odds_127 (by decide) ?_
              refine lv_goto (tgt := 132) hx hb dX11_odds_128 (by decide) ?_
              exact J132_s1_1 H locs ls f65_v55_6 f65_y1 f65_y2 f65_y3 hH hS (lv_sub hl [0, 1, 2, 3, 4, 6] rfl)
          · skip
            have rlc14 : v65_7.toInt < y2.toInt := iv_nle c14
            have ir23 : IV v65_7 0 6 := iv_uL iv65_7 f65_y2 (iv_nle c14) (by decide)
            have ir23a := ir23.1; have ir23b := ir23.2
            have ir24 : IV y2 1 7 := iv_uR iv65_7 f65_y2 (iv_nle c14) (by decide)
            have ir24a := ir24.1; have ir24b := ir24.2
            refine lv_iload hx hb dX11_odds_71 (lv_at hl 7 rfl) ?_
            refine lv_if_le (tgt := 92) hx hb dX11_odds_73 (by decide) (fun c25 => ?_) (fun c25 => ?_)
            · skip
              have rlc25 : v65_7.toInt ≤ (0 : Int) := iv_le c25
              have ir26 : IV v65_7 0 0 := iv_vL ir23 (iv_c (by decide) : IV 0 0 0) (iv_le c25) (by decide)
              have ir26a := ir26.1; have ir26b := ir26.2
              exact J92 H locs ls f65_v55_6 (iv_w ir26 (by decide)) f65_y1 ir24 f65_y3 hH hS (lv_sub hl [0, 1, 2, 3, 4, 5, 6, 7] rfl)
            · skip
              have rlc25 : (0 : Int) < v65_7.toInt := iv_nle c25
              have ir27 : IV v65_7 1 6 := iv_uR (iv_c (by decide) : IV 0 0 0) ir23 (iv_nle c25) (by decide)
              have ir27a := ir27.1; have ir27b := ir27.2
              refine lv_aload_n hx hb dX11_odds_76 rfl (lv_at hl 0 rfl) ?_
              refine th_get S hK hH inG11 t0 km_0 rfl 52 (by decide) gm_1282 rfl rfl dX11_odds_77 (fun v28 hv28 fv28 => ?_)
              obtain ⟨rf29, rfl, trf29⟩ := th_V.ref hv28
              refine lv_bipush (v := 41) hx hb dX11_odds_80 (by decide) ?_
              refine lv_iload hx hb dX11_odds_82 (lv_at hl 6 rfl) ?_
              refine lv_iload hx hb dX11_odds_84 (lv_at hl 7 rfl) ?_
              refine lv_iconst (v := 1) hx hb dX11_odds_86 (by decide) ?_
              refine lv_isub hx hb dX11_odds_87 ?_
              refine lv_topi (fun x30 ex30 => ?_)
              have ix30 : IV x30 0 5 := by rw [ex30]; exact iv_sub ir27 (iv_c (by decide) : IV 1 1 1) (by decide)
              have ux30 : x30.toInt = v65_7.toInt - (1 : Int) := by rw [ex30]; exact iv_subE (by have z1 := (ir27).1; have z2 := (ir27).2; have z3 := ((iv_c (by decide) : IV 1 1 1)).1; have z4 := ((iv_c (by decide) : IV 1 1 1)).2; omega)
              refine lv_ishr hx hb dX11_odds_88 ?_
              refine lv_topi (fun x31 ex31 => ?_)
              have ix31 := iv_top x31
              refine lv_iconst (v := 1) hx hb dX11_odds_89 (by decide) ?_
              refine lv_iand hx hb dX11_odds_90 ?_
              refine lv_topi (fun x32 ex32 => ?_)
              have ix32 : IV x32 0 1 := by rw [ex32]; exact iv_and (h2 := 1) (iv_w (iv_c (by decide) : IV 1 1 1) (by decide)) (by decide)
              refine th_iast S hK hH hS ⟨33, by decide, trf29⟩ trf29 km_33 (th_in (hi := 41) (iv_w (iv_c (by decide) : IV 41 41 41) (by decide)) (by decide)) (th_iv (iv_top _)) dX11_odds_91 (fun H locs hH hS hq1 => ?_)
              have f33 := fv28.kept (hq1 _ (th_ne t0 trf29 (by decide)))
              exact J92 H locs ls f65_v55_6 (iv_w ir27 (by decide)) f65_y1 ir24 f65_y3 hH hS (lv_sub hl [0, 1, 2, 3, 4, 5, 6, 7] rfl)
      have l1v55_4 := iv55_4.1; have l2v55_4 := iv55_4.2
      have l1v55_6 := iv55_6.1; have l2v55_6 := iv55_6.2
      refine lv_iload hx hb dX11_odds_55 (lv_at hl 6 rfl) ?_
      refine lv_iload hx hb dX11_odds_57 (lv_at hl 4 rfl) ?_
      refine lv_icmp_ge (tgt := 145) hx hb dX11_odds_59 (by decide) (fun c34 => ?_) (fun c34 => ?_)
      · skip
        have rlc34 : v55_4.toInt ≤ v55_6.toInt := iv_le c34
        have ir35 : IV v55_6 1 2147483647 := iv_vR iv55_4 iv55_6 (iv_le c34) (by decide)
        have ir35a := ir35.1; have ir35b := ir35.2
        refine lv_iload_n hx hb dX11_odds_145 rfl (lv_at hl 3 rfl) ?_
        refine lv_if_ne (tgt := 154) hx hb dX11_odds_146 (by decide) (fun c36 => ?_) (fun c36 => ?_)
        · skip
          have rlc36 : y3.toInt ≠ (0 : Int) := iv_ne c36
          have ir37 : IV y3 1 1 := iv_cutL f55_y3 (iv_c (by decide) : IV 0 0 0) c36 (by decide)
          have ir37a := ir37.1; have ir37b := ir37.2
          refine lv_iload hx hb dX11_odds_154 (lv_at hl 4 rfl) ?_
          exact J156 H locs ls v55_4 v55_5 v55_4 iv55_4 iv55_5 (iv_top _) hH hS (lv_sub hl [4, 5] rfl)
        · skip
          have rlc36 : y3.toInt = (0 : Int) := congrArg Int32.toInt c36
          have ir38 : IV y3 0 0 := iv_eL c36 (iv_c (by decide) : IV 0 0 0)
          have ir38a := ir38.1; have ir38b := ir38.2
          refine lv_iload hx hb dX11_odds_149 (lv_at hl 5 rfl) ?_
          refine lv_goto (tgt := 156) hx hb dX11_odds_151 (by decide) ?_
          exact J156 H locs ls v55_4 v55_5 v55_5 iv55_4 iv55_5 iv55_5 hH hS (lv_sub hl [4, 5] rfl)
      · skip
        have rlc34 : v55_6.toInt < v55_4.toInt := iv_nle c34
        have ir39 : IV v55_6 0 1073741823 := iv_uL iv55_6 iv55_4 (iv_nle c34) (by decide)
        have ir39a := ir39.1; have ir39b := ir39.2
        refine lv_iconst (v := 0) hx hb dX11_odds_62 (by decide) ?_
        refine lv_istore (lv' := [(7, .int 0), (0, .ref a0), (1, .int y1), (2, .int y2), (3, .int y3), (4, .int v55_4), (5, .int v55_5), (6, .int v55_6)]) hx hb dX11_odds_63 hl (by decide) rfl (fun ls hl => ?_)
        exact J65 ((7 + 1 - Int32.toInt 0).toNat + 1) H locs ls 0 (iv_w (iv_c (by decide) : IV 0 0 0) (by decide)) (iv_w ir39 (by decide)) f55_y1 f55_y2 f55_y3 hH hS (lv_sub hl [1, 2, 3, 4, 5, 6, 7, 0] rfl) (Nat.lt_succ_self _)
  have J47 : ∀ (H : Heap) (locs : List Loc) (ls : Array Slot) (w47_0 : Int32), IV w47_0 1 1073741824 → IV y1 0 7 → IV y2 2 7 → IV y3 0 1 → th_H D cT T (km q) H → va_S (th_A T [0, 32, 33, 35]) s.heap H locs → lv_has ls 8 [(0, .ref a0), (1, .int y1), (2, .int y2), (3, .int y3)] → W p l e (rmk 5 118) s m [.ref a0, .int y1, .int y2, .int y3].toArray below meth c H locs 0 0 (MQ below (th_Q D cT T (km q) (th_R T (some (.inl (-2147483648, 2147483647)))) [0, 32, 33, 35]) [.ref a0, .int y1, .int y2, .int y3].toArray s 0 0 (th_A T [0, 32, 33, 35])) (F0 m 47 ls [.int w47_0]) := by
    intro H locs ls w47_0 iw47_0 f47_y1 f47_y2 f47_y3 hH hS hl
    have l1w47_0 := iw47_0.1; have l2w47_0 := iw47_0.2
    refine lv_istore (lv' := [(4, .int w47_0), (0, .ref a0), (1, .int y1), (2, .int y2), (3, .int y3)]) hx hb dX11_odds_47 hl (by decide) rfl (fun ls hl => ?_)
    refine lv_iconst (v := 0) hx hb dX11_odds_49 (by decide) ?_
    refine lv_istore (lv' := [(5, .int 0), (4, .int w47_0), (0, .ref a0), (1, .int y1), (2, .int y2), (3, .int y3)]) hx hb dX11_odds_50 hl (by decide) rfl (fun ls hl => ?_)
    refine lv_iconst (v := 0) hx hb dX11_odds_52 (by decide) ?_
    refine lv_istore (lv' := [(6, .int 0), (5, .int 0), (4, .int w47_0), (0, .ref a0), (1, .int y1), (2, .int y2), (3, .int y3)]) hx hb dX11_odds_53 hl (by decide) rfl (fun ls hl => ?_)
    exact J55 ((2147483647 + 1 - Int32.toInt 0).toNat + 1) H locs ls w47_0 0 0 iw47_0 (iv_top _) (iv_w (iv_c (by decide) : IV 0 0 0) (by decide)) f47_y1 (iv_w f47_y2 (by decide)) f47_y3 hH hS (lv_sub hl [3, 4, 5, 6, 2, 1, 0] rfl) (Nat.lt_succ_self _)
  have J47_s0_1 : ∀ (H : Heap) (locs : List Loc) (ls : Array Slot), IV y1 0 7 → IV y2 0 1 → IV y3 0 1 → th_H D cT T (km q) H → va_S (th_A T [0, 32, 33, 35]) s.heap H locs → lv_has ls 8 [(0, .ref a0), (1, .int y1), (2, .int y2), (3, .int y3)] → W p l e (rmk 5 118) s m [.ref a0, .int y1, .int y2, .int y3].toArray below meth c H locs 0 0 (MQ below (th_Q D cT T (km q) (th_R T (some (.inl (-2147483648, 2147483647)))) [0, 32, 33, 35]) [.ref a0, .int y1, .int y2, .int y3].toArray s 0 0 (th_A T [0, 32, 33, 35])) (F0 m 47 ls [.int 1]) := by
    intro H locs ls f47_y1 f47_y2 f47_y3 hH hS hl
    refine lv_istore (lv' := [(4, .int 1), (0, .ref a0), (1, .int y1), (2, .int y2), (3, .int y3)]) hx hb dX11_odds_47 hl (by decide) rfl (fun ls hl => ?_)
    refine lv_iconst (v := 0) hx hb dX11_odds_49 (by decide) ?_
    refine lv_istore (lv' := [(5, .int 0), (4, .int 1), (0, .ref a0), (1, .int y1), (2, .int y2), (3, .int y3)]) hx hb dX11_odds_50 hl (by decide) rfl (fun ls hl => ?_)
    refine lv_iconst (v := 0) hx hb dX11_odds_52 (by decide) ?_
    refine lv_istore (lv' := [(6, .int 0), (5, .int 0), (4, .int 1), (0, .ref a0), (1, .int y1), (2, .int y2), (3, .int y3)]) hx hb dX11_odds_53 hl (by decide) rfl (fun ls hl => ?_)
    exact J55 ((2147483647 + 1 - Int32.toInt 0).toNat + 1) H locs ls 1 0 0 (iv_w (iv_c (by decide) : IV 1 1 1) (by decide)) (iv_top _) (iv_w (iv_c (by decide) : IV 0 0 0) (by decide)) f47_y1 (iv_w f47_y2 (by decide)) f47_y3 hH hS (lv_sub hl [3, 4, 5, 6, 2, 1, 0] rfl) (Nat.lt_succ_self _)
  have J27 : ∀ (H : Heap) (locs : List Loc) (ls : Array Slot), th_H D cT T (km q) H → va_S (th_A T [0, 32, 33, 35]) s.heap H locs → lv_has ls 8 [] → W p l e (rmk 5 118) s m [.ref a0, .int y1, .int y2, .int y3].toArray below meth c H locs 0 0 (MQ below (th_Q D cT T (km q) (th_R T (some (.inl (-2147483648, 2147483647)))) [0, 32, 33, 35]) [.ref a0, .int y1, .int y2, .int y3].toArray s 0 0 (th_A T [0, 32, 33, 35])) (F0 m 27 ls []) := by
    intro H locs ls hH hS hl
    refine lv_iconst (v := (-1)) hx hb dX11_odds_27 (by decide) ?_
    exact th_iret S hK hH hS hr hlocks (th_R.i (iv_top _)) dX11_odds_28
  have J0 : ∀ (H : Heap) (locs : List Loc) (ls : Array Slot), th_H D cT T (km q) H → va_S (th_A T [0, 32, 33, 35]) s.heap H locs → lv_has ls 8 [(0, .ref a0), (1, .int y1), (2, .int y2), (3, .int y3)] → W p l e (rmk 5 118) s m [.ref a0, .int y1, .int y2, .int y3].toArray below meth c H locs 0 0 (MQ below (th_Q D cT T (km q) (th_R T (some (.inl (-2147483648, 2147483647)))) [0, 32, 33, 35]) [.ref a0, .int y1, .int y2, .int y3].toArray s 0 0 (th_A T [0, 32, 33, 35])) (F0 m 0 ls []) := by
    intro H locs ls hH hS hl
    refine lv_aload_n hx hb dX11_odds_0 rfl (lv_at hl 0 rfl) ?_
    refine lv_iload_n hx hb dX11_odds_1 rfl (lv_at hl 1 rfl) ?_
    refine th_callVp (n := 1) (As := [.int y1]) S hK hH hS (th_A.sub (by decide)) (m_X11_isPlace l D cT T q hT hq a0 t0 (y1) j1) gm_1672 gm_1669 gm_1671 gm_89 gm_124 (by decide +kernel) ⟨rfl, rfl, Nat.le_of_ble_eq_true rfl, Nat.le_of_ble_eq_true rfl⟩ t0 km_0 rfl rfl hl.1 rfl (Nat.le_of_ble_eq_true rfl) dX11_odds_2 ⟨Nat.zero_le _, Nat.zero_le _⟩ (fun x40 H locs ix40 ox40 hH hS hF1 => ?_)
    have ox40 : x40.toInt ≠ 0 → 0 ≤ y1.toInt ∧ y1.toInt < q 18 := ox40
    refine lv_if_eq (tgt := 27) hx hb dX11_odds_5 (by decide) (fun c41 => ?_) (fun c41 => ?_)
    · skip
      have rlc41 : x40.toInt = (0 : Int) := congrArg Int32.toInt c41
      have ir42 : IV x40 0 0 := iv_eL c41 (iv_c (by decide) : IV 0 0 0)
      have ir42a := ir42.1; have ir42b := ir42.2
      exact J27 H locs ls  hH hS (lv_sub hl [] rfl)
    · skip
      have rlc41 : x40.toInt ≠ (0 : Int) := iv_ne c41
      have ir43 : IV x40 1 1 := iv_cutL ix40 (iv_c (by decide) : IV 0 0 0) c41 (by decide)
      have ir43a := ir43.1; have ir43b := ir43.2
      have ir44 : IV y1 0 7 := ((fun z => by have z1 := iv_ne z; have z2 : x40.toInt ≠ 0 := z1; have z60 := qkm_18 hq; exact ⟨by omega, by omega⟩) : ¬ x40 = 0 → IV y1 0 7) c41
      have ir44a := ir44.1; have ir44b := ir44.2
      refine lv_iload_n hx hb dX11_odds_8 rfl (lv_at hl 2 rfl) ?_
      refine lv_iconst (v := 0) hx hb dX11_odds_9 (by decide) ?_
      refine lv_bipush (v := 7) hx hb dX11_odds_10 (by decide) ?_
      refine th_callSp (n := 3) (As := [.int y2, .int 0, .int 7]) S hK hH hS (th_A.sub (by decide)) (m_X11_isIn l D cT T q hT hq (y2) j2 (0) (iv_top _) (7) (iv_top _)) gm_1618 gm_1616 gm_1617 gm_124 (by decide +kernel) ⟨rfl, rfl, Nat.le_of_ble_eq_true rfl, Nat.le_of_ble_eq_true rfl⟩ rfl hl.1 rfl (Nat.le_of_ble_eq_true rfl) dX11_odds_12 ⟨Nat.zero_le _, Nat.zero_le _⟩ (fun x45 H locs ix45 ox45 hH hS hF1 => ?_)
      obtain ⟨ox45_0, ox45_1⟩ := ox45
      have ox45_0 : x45.toInt ≠ 0 → (0 : Int) ≤ y2.toInt ∧ y2.toInt ≤ (7 : Int) := ox45_0
      have ox45_1 : x45.toInt = 0 → y2.toInt < (0 : Int) ∨ (7 : Int) < y2.toInt := ox45_1
      refine lv_if_eq (tgt := 27) hx hb dX11_odds_15 (by decide) (fun c46 => ?_) (fun c46 => ?_)
      · skip
        have rlc46 : x45.toInt = (0 : Int) := congrArg Int32.toInt c46
        have ir47 : IV x45 0 0 := iv_eL c46 (iv_c (by decide) : IV 0 0 0)
        have ir47a := ir47.1; have ir47b := ir47.2
        exact J27 H locs ls  hH hS (lv_sub hl [] rfl)
      · skip
        have rlc46 : x45.toInt ≠ (0 : Int) := iv_ne c46
        have ir48 : IV x45 1 1 := iv_cutL ix45 (iv_c (by decide) : IV 0 0 0) c46 (by decide)
        have ir48a := ir48.1; have ir48b := ir48.2
        have ir49 : IV y2 0 7 := ((fun z => by have z1 := iv_ne z; have z2 : x45.toInt ≠ 0 := z1; have z4 := ((iv_c (by decide) : IV 0 0 0)).1; have z5 := ((iv_c (by decide) : IV 7 7 7)).2; exact ⟨by omega, by omega⟩) : ¬ x45 = 0 → IV y2 0 7) c46
        have ir49a := ir49.1; have ir49b := ir49.2
        refine lv_iload_n hx hb dX11_odds_18 rfl (lv_at hl 3 rfl) ?_
        refine lv_iconst (v := 0) hx hb dX11_odds_19 (by decide) ?_
        refine lv_iconst (v := 1) hx hb dX11_odds_20 (by decide) ?_
        refine th_callSp (n := 3) (As := [.int y3, .int 0, .int 1]) S hK hH hS (th_A.sub (by decide)) (m_X11_isIn l D cT T q hT hq (y3) j3 (0) (iv_top _) (1) (iv_top _)) gm_1618 gm_1616 gm_1617 gm_124 (by decide +kernel) ⟨rfl, rfl, Nat.le_of_ble_eq_true rfl, Nat.le_of_ble_eq_true rfl⟩ rfl hl.1 rfl (Nat.le_of_ble_eq_true rfl) dX11_odds_21 ⟨Nat.zero_le _, Nat.zero_le _⟩ (fun x50 H locs ix50 ox50 hH hS hF1 => ?_)
        obtain ⟨ox50_0, ox50_1⟩ := ox50
        have ox50_0 : x50.toInt ≠ 0 → (0 : Int) ≤ y3.toInt ∧ y3.toInt ≤ (1 : Int) := ox50_0
        have ox50_1 : x50.toInt = 0 → y3.toInt < (0 : Int) ∨ (1 : Int) < y3.toInt := ox50_1
        refine lv_if_ne (tgt := 29) hx hb dX11_odds_24 (by decide) (fun c51 => ?_) (fun c51 => ?_)
        · skip
          have rlc51 : x50.toInt ≠ (0 : Int) := iv_ne c51
          have ir52 : IV x50 1 1 := iv_cutL ix50 (iv_c (by decide) : IV 0 0 0) c51 (by decide)
          have ir52a := ir52.1; have ir52b := ir52.2
          have ir53 : IV y3 0 1 := ((fun z => by have z1 := iv_ne z; have z2 : x50.toInt ≠ 0 := z1; have z4 := ((iv_c (by decide) : IV 0 0 0)).1; have z5 := ((iv_c (by decide) : IV 1 1 1)).2; exact ⟨by omega, by omega⟩) : ¬ x50 = 0 → IV y3 0 1) c51
          have ir53a := ir53.1; have ir53b := ir53.2
          refine lv_aload_n hx hb dX11_odds_29 rfl (lv_at hl 0 rfl) ?_
          refine th_callVv (n := 0) (As := []) S hK hH hS (th_A.sub (by decide)) (m_X11_keepNow l D cT T q hT hq a0 t0) gm_1713 gm_1710 gm_1712 gm_92 gm_124 (by decide +kernel) ⟨rfl, rfl, Nat.le_of_ble_eq_true rfl, Nat.le_of_ble_eq_true rfl⟩ t0 km_0 rfl rfl hl.1 rfl (Nat.le_of_ble_eq_true rfl) dX11_odds_30 ⟨Nat.zero_le _, Nat.zero_le _⟩ (fun H locs hH hS hF1 => ?_)
          refine lv_iload_n hx hb dX11_odds_33 rfl (lv_at hl 2 rfl) ?_
          refine lv_iconst (v := 2) hx hb dX11_odds_34 (by decide) ?_
          refine lv_icmp_ge (tgt := 42) hx hb dX11_odds_35 (by decide) (fun c54 => ?_) (fun c54 => ?_)
          · skip
            have rlc54 : (2 : Int) ≤ y2.toInt := iv_le c54
            have ir55 : IV y2 2 7 := iv_vR (iv_c (by decide) : IV 2 2 2) ir49 (iv_le c54) (by decide)
            have ir55a := ir55.1; have ir55b := ir55.2
            refine lv_iconst (v := 1) hx hb dX11_odds_42 (by decide) ?_
            refine lv_iload_n hx hb dX11_odds_43 rfl (lv_at hl 2 rfl) ?_
            refine lv_iconst (v := 1) hx hb dX11_odds_44 (by decide) ?_
            refine lv_isub hx hb dX11_odds_45 ?_
            refine lv_topi (fun x56 ex56 => ?_)
            have ix56 : IV x56 1 6 := by rw [ex56]; exact iv_sub ir55 (iv_c (by decide) : IV 1 1 1) (by decide)
            have ux56 : x56.toInt = y2.toInt - (1 : Int) := by rw [ex56]; exact iv_subE (by have z1 := (ir55).1; have z2 := (ir55).2; have z3 := ((iv_c (by decide) : IV 1 1 1)).1; have z4 := ((iv_c (by decide) : IV 1 1 1)).2; omega)
            refine lv_ishl hx hb dX11_odds_46 ?_
            refine lv_topi (fun x57 ex57 => ?_)
            have ix57 := iv_top x57
            have ix57 : IV x57 1 1073741824 := by rw [ex57]; exact iv_shl1 (iv_w ix56 (by decide))
            exact J47 H locs ls x57 ix57 ir44 ir55 ir53 hH hS (lv_sub hl [0, 1, 2, 3] rfl)
          · skip
            have rlc54 : y2.toInt < (2 : Int) := iv_nle c54
            have ir58 : IV y2 0 1 := iv_uL ir49 (iv_c (by decide) : IV 2 2 2) (iv_nle c54) (by decide)
            have ir58a := ir58.1; have ir58b := ir58.2
            refine lv_iconst (v := 1) hx hb dX11_odds_38 (by decide) ?_
            refine lv_goto (tgt := 47) hx hb dX11_odds_39 (by decide) ?_
            exact J47_s0_1 H locs ls ir44 ir58 ir53 hH hS (lv_sub hl [0, 1, 2, 3] rfl)
        · skip
          have rlc51 : x50.toInt = (0 : Int) := congrArg Int32.toInt c51
          have ir59 : IV x50 0 0 := iv_eL c51 (iv_c (by decide) : IV 0 0 0)
          have ir59a := ir59.1; have ir59b := ir59.2
          exact J27 H locs ls  hH hS (lv_sub hl [] rfl)
  exact J0 s.heap [] ls hH va_S.rf hl

set_option maxRecDepth 100000 in
theorem m_X11_trial (l : Launch) (D : va_G) (cT : Nat → ClassId) (T : Nat → Option Nat) (q : Nat → Int) (hT : tokm T) (hq : qkm q) (a0 : Nat) (t0 : T a0 = some 0) (y1 : Int32) (j1 : IV y1 (-2147483648) 2147483647) (y2 : Int32) (j2 : IV y2 (-2147483648) 2147483647) (y3 : Int32) (j3 : IV y3 (-2147483648) 2147483647) (y4 : Int32) (j4 : IV y4 (-2147483648) 2147483647) (y5 : Int32) (j5 : IV y5 0 1) : th_Met l D cT T (km q) yX11_trial cX11_trial 6 (some .int) (rmk 1 22) [.ref a0, .int y1, .int y2, .int y3, .int y4, .int y5] (th_R T (some (.inl (-1, 29)))) [0, 38, 39, 40, 41, 42] := by
  refine th_start (by decide) (Nat.le_of_ble_eq_true rfl) ?_
  intro p e s m below meth c ls S hK hH hr hlocks hnm hl
  have hx := S.1
  have hb := S.2.1
  have l1y5 := j5.1; have l2y5 := j5.2
  have hl : lv_has ls 6 [(0, .ref a0), (1, .int y1), (2, .int y2), (3, .int y3), (4, .int y4), (5, .int y5)] := hl
  have J121_s2_0 : ∀ (H : Heap) (locs : List Loc) (ls : Array Slot) (w121_0 : Nat) (w121_1 : Int32) (u121_a0_65 : Int32), T w121_0 = some 40 → IV w121_1 0 29 → IV u121_a0_65 0 29 → th_fa D H a0 11 65 (.int u121_a0_65) → th_H D cT T (km q) H → va_S (th_A T [0, 38, 39, 40, 41, 42]) s.heap H locs → lv_has ls 6 [(0, .ref a0)] → W p l e (rmk 1 22) s m [.ref a0, .int y1, .int y2, .int y3, .int y4, .int y5].toArray below meth c H locs 0 0 (MQ below (th_Q D cT T (km q) (th_R T (some (.inl (-1, 29)))) [0, 38, 39, 40, 41, 42]) [.ref a0, .int y1, .int y2, .int y3, .int y4, .int y5].toArray s 0 0 (th_A T [0, 38, 39, 40, 41, 42])) (F0 m 121 ls [.int 0, .int w121_1, .ref w121_0]) := by
    intro H locs ls w121_0 w121_1 u121_a0_65 tw121_0 iw121_1 iu121_a0_65 gu121_a0_65 hH hS hl
    have l1w121_1 := iw121_1.1; have l2w121_1 := iw121_1.2
    refine th_iast S hK hH hS ⟨40, by decide, tw121_0⟩ tw121_0 km_40 (th_in (hi := 29) iw121_1 (by decide)) (th_iv (iv_top _)) dX11_trial_121 (fun H locs hH hS hq1 => ?_)
    have f1 := gu121_a0_65.kept (hq1 _ (th_ne t0 tw121_0 (by decide)))
    refine lv_aload_n hx hb dX11_trial_122 rfl (lv_at hl 0 rfl) ?_
    refine th_get S hK hH inG11 t0 km_0 rfl 63 (by decide) gm_1293 rfl rfl dX11_trial_123 (fun v2 hv2 fv2 => ?_)
    obtain ⟨rf3, rfl, trf3⟩ := th_V.ref hv2
    refine lv_aload_n hx hb dX11_trial_126 rfl (lv_at hl 0 rfl) ?_
    refine th_getK S hK f1 inG11 rfl (by decide) gm_1295 rfl dX11_trial_127 ?_
    refine lv_aload_n hx hb dX11_trial_130 rfl (lv_at hl 0 rfl) ?_
    refine th_get S hK hH inG11 t0 km_0 rfl 66 (by decide) gm_1296 rfl rfl dX11_trial_131 (fun v5 hv5 fv5 => ?_)
    obtain ⟨x6, rfl, ix6⟩ := th_V.int hv5
    have kx6a : q 9 ≤ x6.toInt := ix6.1
    have kx6b : x6.toInt ≤ q 9 := ix6.2
    have ix6 : IV x6 0 100000 := iv_w ix6 (qkm_9 hq)
    refine th_iast S hK hH hS ⟨41, by decide, trf3⟩ trf3 km_41 (th_in (hi := 29) iu121_a0_65 (by decide)) (th_iv (iv_top _)) dX11_trial_134 (fun H locs hH hS hq1 => ?_)
    have f7 := f1.kept (hq1 _ (th_ne t0 trf3 (by decide)))
    refine lv_aload_n hx hb dX11_trial_135 rfl (lv_at hl 0 rfl) ?_
    refine th_get S hK hH inG11 t0 km_0 rfl 64 (by decide) gm_1294 rfl rfl dX11_trial_136 (fun v8 hv8 fv8 => ?_)
    obtain ⟨rf9, rfl, trf9⟩ := th_V.ref hv8
    refine lv_aload_n hx hb dX11_trial_139 rfl (lv_at hl 0 rfl) ?_
    refine th_getK S hK f7 inG11 rfl (by decide) gm_1295 rfl dX11_trial_140 ?_
    refine lv_iconst (v := (-1)) hx hb dX11_trial_143 (by decide) ?_
    refine th_iast S hK hH hS ⟨42, by decide, trf9⟩ trf9 km_42 (th_in (hi := 29) iu121_a0_65 (by decide)) (th_iv (iv_top _)) dX11_trial_144 (fun H locs hH hS hq1 => ?_)
    have f11 := f7.kept (hq1 _ (th_ne t0 trf9 (by decide)))
    refine lv_aload_n hx hb dX11_trial_145 rfl (lv_at hl 0 rfl) ?_
    refine lv_dup hx hb dX11_trial_146 rfl ?_
    refine th_getK S hK f11 inG11 rfl (by decide) gm_1295 rfl dX11_trial_147 ?_
    refine lv_iconst (v := 1) hx hb dX11_trial_150 (by decide) ?_
    refine lv_iadd hx hb dX11_trial_151 ?_
    refine lv_topi (fun x13 ex13 => ?_)
    have ix13 : IV x13 1 30 := by rw [ex13]; exact iv_add iu121_a0_65 (iv_c (by decide) : IV 1 1 1) (by decide)
    have ux13 : x13.toInt = u121_a0_65.toInt + (1 : Int) := by rw [ex13]; exact iv_addE (by have z1 := (iu121_a0_65).1; have z2 := (iu121_a0_65).2; have z3 := ((iv_c (by decide) : IV 1 1 1)).1; have z4 := ((iv_c (by decide) : IV 1 1 1)).2; omega)
    refine th_put S hK hH hS ⟨0, by decide, t0⟩ inG11 tyX11 tyX11_ok nmX11 t0 km_0 rfl 65 (by decide) gm_1295 rfl rfl rfl rfl (th_iv (iv_w ix13 (by decide))) (fun vs h => nmR_set h.2.2 (by decide) rfl) (ty := .int) (by decide +kernel) rfl rfl dX11_trial_152 (fun H locs hH hS hq1 hp1 => ?_)
    have f14 := hp1.1
    refine lv_aload_n hx hb dX11_trial_155 rfl (lv_at hl 0 rfl) ?_
    refine th_getK S hK f14 inG11 rfl (by decide) gm_1295 rfl dX11_trial_156 ?_
    refine lv_iconst (v := 1) hx hb dX11_trial_159 (by decide) ?_
    refine lv_isub hx hb dX11_trial_160 ?_
    refine lv_topi (fun x16 ex16 => ?_)
    have ix16 : IV x16 0 29 := by rw [ex16]; exact iv_sub ix13 (iv_c (by decide) : IV 1 1 1) (by decide)
    have ux16 : x16.toInt = x13.toInt - (1 : Int) := by rw [ex16]; exact iv_subE (by have z1 := (ix13).1; have z2 := (ix13).2; have z3 := ((iv_c (by decide) : IV 1 1 1)).1; have z4 := ((iv_c (by decide) : IV 1 1 1)).2; omega)
    exact th_iret S hK hH hS hr hlocks (th_R.i (iv_w ix16 (by decide))) dX11_trial_161
  have J121_s2_1 : ∀ (H : Heap) (locs : List Loc) (ls : Array Slot) (w121_0 : Nat) (w121_1 : Int32) (u121_a0_65 : Int32), T w121_0 = some 40 → IV w121_1 0 29 → IV u121_a0_65 0 29 → th_fa D H a0 11 65 (.int u121_a0_65) → th_H D cT T (km q) H → va_S (th_A T [0, 38, 39, 40, 41, 42]) s.heap H locs → lv_has ls 6 [(0, .ref a0)] → W p l e (rmk 1 22) s m [.ref a0, .int y1, .int y2, .int y3, .int y4, .int y5].toArray below meth c H locs 0 0 (MQ below (th_Q D cT T (km q) (th_R T (some (.inl (-1, 29)))) [0, 38, 39, 40, 41, 42]) [.ref a0, .int y1, .int y2, .int y3, .int y4, .int y5].toArray s 0 0 (th_A T [0, 38, 39, 40, 41, 42])) (F0 m 121 ls [.int 1, .int w121_1, .ref w121_0]) := by
    intro H locs ls w121_0 w121_1 u121_a0_65 tw121_0 iw121_1 iu121_a0_65 gu121_a0_65 hH hS hl
    have l1w121_1 := iw121_1.1; have l2w121_1 := iw121_1.2
    refine th_iast S hK hH hS ⟨40, by decide, tw121_0⟩ tw121_0 km_40 (th_in (hi := 29) iw121_1 (by decide)) (th_iv (iv_top _)) dX11_trial_121 (fun H locs hH hS hq1 => ?_)
    have f17 := gu121_a0_65.kept (hq1 _ (th_ne t0 tw121_0 (by decide)))
    refine lv_aload_n hx hb dX11_trial_122 rfl (lv_at hl 0 rfl) ?_
    refine th_get S hK hH inG11 t0 km_0 rfl 63 (by decide) gm_1293 rfl rfl dX11_trial_123 (fun v18 hv18 fv18 => ?_)
    obtain ⟨rf19, rfl, trf19⟩ := th_V.ref hv18
    refine lv_aload_n hx hb dX11_trial_126 rfl (lv_at hl 0 rfl) ?_
    refine th_getK S hK f17 inG11 rfl (by decide) gm_1295 rfl dX11_trial_127 ?_
    refine lv_aload_n hx hb dX11_trial_130 rfl (lv_at hl 0 rfl) ?_
    refine th_get S hK hH inG11 t0 km_0 rfl 66 (by decide) gm_1296 rfl rfl dX11_trial_131 (fun v21 hv21 fv21 => ?_)
    obtain ⟨x22, rfl, ix22⟩ := th_V.int hv21
    have kx22a : q 9 ≤ x22.toInt := ix22.1
    have kx22b : x22.toInt ≤ q 9 := ix22.2
    have ix22 : IV x22 0 100000 := iv_w ix22 (qkm_9 hq)
    refine th_iast S hK hH hS ⟨41, by decide, trf19⟩ trf19 km_41 (th_in (hi := 29) iu121_a0_65 (by decide)) (th_iv (iv_top _)) dX11_trial_134 (fun H locs hH hS hq1 => ?_)
    have f23 := f17.kept (hq1 _ (th_ne t0 trf19 (by decide)))
    refine lv_aload_n hx hb dX11_trial_135 rfl (lv_at hl 0 rfl) ?_
    refine th_get S hK hH inG11 t0 km_0 rfl 64 (by decide) gm_1294 rfl rfl dX11_trial_136 (fun v24 hv24 fv24 => ?_)
    obtain ⟨rf25, rfl, trf25⟩ := th_V.ref hv24
    refine lv_aload_n hx hb dX11_trial_139 rfl (lv_at hl 0 rfl) ?_
    refine th_getK S hK f23 inG11 rfl (by decide) gm_1295 rfl dX11_trial_140 ?_
    refine lv_iconst (v := (-1)) hx hb dX11_trial_143 (by decide) ?_
    refine th_iast S hK hH hS ⟨42, by decide, trf25⟩ trf25 km_42 (th_in (hi := 29) iu121_a0_65 (by decide)) (th_iv (iv_top _)) dX11_trial_144 (fun H locs hH hS hq1 => ?_)
    have f27 := f23.kept (hq1 _ (th_ne t0 trf25 (by decide)))
    refine lv_aload_n hx hb dX11_trial_145 rfl (lv_at hl 0 rfl) ?_
    refine lv_dup hx hb dX11_trial_146 rfl ?_
    refine th_getK S hK f27 inG11 rfl (by decide) gm_1295 rfl dX11_trial_147 ?_
    refine lv_iconst (v := 1) hx hb dX11_trial_150 (by decide) ?_
    refine lv_iadd hx hb dX11_trial_151 ?_
    refine lv_topi (fun x29 ex29 => ?_)
    have ix29 : IV x29 1 30 := by rw [ex29]; exact iv_add iu121_a0_65 (iv_c (by decide) : IV 1 1 1) (by decide)
    have ux29 : x29.toInt = u121_a0_65.toInt + (1 : Int) := by rw [ex29]; exact iv_addE (by have z1 := (iu121_a0_65).1; have z2 := (iu121_a0_65).2; have z3 := ((iv_c (by decide) : IV 1 1 1)).1; have z4 := ((iv_c (by decide) : IV 1 1 1)).2; omega)
    refine th_put S hK hH hS ⟨0, by decide, t0⟩ inG11 tyX11 tyX11_ok nmX11 t0 km_0 rfl 65 (by decide) gm_1295 rfl rfl rfl rfl (th_iv (iv_w ix29 (by decide))) (fun vs h => nmR_set h.2.2 (by decide) rfl) (ty := .int) (by decide +kernel) rfl rfl dX11_trial_152 (fun H locs hH hS hq1 hp1 => ?_)
    have f30 := hp1.1
    refine lv_aload_n hx hb dX11_trial_155 rfl (lv_at hl 0 rfl) ?_
    refine th_getK S hK f30 inG11 rfl (by decide) gm_1295 rfl dX11_trial_156 ?_
    refine lv_iconst (v := 1) hx hb dX11_trial_159 (by decide) ?_
    refine lv_isub hx hb dX11_trial_160 ?_
    refine lv_topi (fun x32 ex32 => ?_)
    have ix32 : IV x32 0 29 := by rw [ex32]; exact iv_sub ix29 (iv_c (by decide) : IV 1 1 1) (by decide)
    have ux32 : x32.toInt = x29.toInt - (1 : Int) := by rw [ex32]; exact iv_subE (by have z1 := (ix29).1; have z2 := (ix29).2; have z3 := ((iv_c (by decide) : IV 1 1 1)).1; have z4 := ((iv_c (by decide) : IV 1 1 1)).2; omega)
    exact th_iret S hK hH hS hr hlocks (th_R.i (iv_w ix32 (by decide))) dX11_trial_161
  have J50 : ∀ (H : Heap) (locs : List Loc) (ls : Array Slot), th_H D cT T (km q) H → va_S (th_A T [0, 38, 39, 40, 41, 42]) s.heap H locs → lv_has ls 6 [] → W p l e (rmk 1 22) s m [.ref a0, .int y1, .int y2, .int y3, .int y4, .int y5].toArray below meth c H locs 0 0 (MQ below (th_Q D cT T (km q) (th_R T (some (.inl (-1, 29)))) [0, 38, 39, 40, 41, 42]) [.ref a0, .int y1, .int y2, .int y3, .int y4, .int y5].toArray s 0 0 (th_A T [0, 38, 39, 40, 41, 42])) (F0 m 50 ls []) := by
    intro H locs ls hH hS hl
    refine lv_iconst (v := (-1)) hx hb dX11_trial_50 (by decide) ?_
    exact th_iret S hK hH hS hr hlocks (th_R.i (iv_w (iv_c (by decide) : IV (-1) (-1) (-1)) (by decide))) dX11_trial_51
  have J0 : ∀ (H : Heap) (locs : List Loc) (ls : Array Slot), th_H D cT T (km q) H → va_S (th_A T [0, 38, 39, 40, 41, 42]) s.heap H locs → lv_has ls 6 [(0, .ref a0), (1, .int y1), (2, .int y2), (3, .int y3), (4, .int y4), (5, .int y5)] → W p l e (rmk 1 22) s m [.ref a0, .int y1, .int y2, .int y3, .int y4, .int y5].toArray below meth c H locs 0 0 (MQ below (th_Q D cT T (km q) (th_R T (some (.inl (-1, 29)))) [0, 38, 39, 40, 41, 42]) [.ref a0, .int y1, .int y2, .int y3, .int y4, .int y5].toArray s 0 0 (th_A T [0, 38, 39, 40, 41, 42])) (F0 m 0 ls []) := by
    intro H locs ls hH hS hl
    refine lv_iload_n hx hb dX11_trial_0 rfl (lv_at hl 1 rfl) ?_
    refine lv_iconst (v := 0) hx hb dX11_trial_1 (by decide) ?_
    refine lv_bipush (v := 9) hx hb dX11_trial_2 (by decide) ?_
    refine th_callSp (n := 3) (As := [.int y1, .int 0, .int 9]) S hK hH hS (th_A.sub (by decide)) (m_X11_isIn l D cT T q hT hq (y1) j1 (0) (iv_top _) (9) (iv_top _)) gm_1618 gm_1616 gm_1617 gm_124 (by decide +kernel) ⟨rfl, rfl, Nat.le_of_ble_eq_true rfl, Nat.le_of_ble_eq_true rfl⟩ rfl hl.1 rfl (Nat.le_of_ble_eq_true rfl) dX11_trial_4 ⟨Nat.zero_le _, Nat.zero_le _⟩ (fun x33 H locs ix33 ox33 hH hS hF1 => ?_)
    obtain ⟨ox33_0, ox33_1⟩ := ox33
    have ox33_0 : x33.toInt ≠ 0 → (0 : Int) ≤ y1.toInt ∧ y1.toInt ≤ (9 : Int) := ox33_0
    have ox33_1 : x33.toInt = 0 → y1.toInt < (0 : Int) ∨ (9 : Int) < y1.toInt := ox33_1
    refine lv_if_eq (tgt := 50) hx hb dX11_trial_7 (by decide) (fun c34 => ?_) (fun c34 => ?_)
    · skip
      have rlc34 : x33.toInt = (0 : Int) := congrArg Int32.toInt c34
      have ir35 : IV x33 0 0 := iv_eL c34 (iv_c (by decide) : IV 0 0 0)
      have ir35a := ir35.1; have ir35b := ir35.2
      exact J50 H locs ls  hH hS (lv_sub hl [] rfl)
    · skip
      have rlc34 : x33.toInt ≠ (0 : Int) := iv_ne c34
      have ir36 : IV x33 1 1 := iv_cutL ix33 (iv_c (by decide) : IV 0 0 0) c34 (by decide)
      have ir36a := ir36.1; have ir36b := ir36.2
      have ir37 : IV y1 0 9 := ((fun z => by have z1 := iv_ne z; have z2 : x33.toInt ≠ 0 := z1; have z4 := ((iv_c (by decide) : IV 0 0 0)).1; have z5 := ((iv_c (by decide) : IV 9 9 9)).2; exact ⟨by omega, by omega⟩) : ¬ x33 = 0 → IV y1 0 9) c34
      have ir37a := ir37.1; have ir37b := ir37.2
      refine lv_iload_n hx hb dX11_trial_10 rfl (lv_at hl 2 rfl) ?_
      refine lv_iconst (v := 0) hx hb dX11_trial_11 (by decide) ?_
      refine lv_bipush (v := 9) hx hb dX11_trial_12 (by decide) ?_
      refine th_callSp (n := 3) (As := [.int y2, .int 0, .int 9]) S hK hH hS (th_A.sub (by decide)) (m_X11_isIn l D cT T q hT hq (y2) j2 (0) (iv_top _) (9) (iv_top _)) gm_1618 gm_1616 gm_1617 gm_124 (by decide +kernel) ⟨rfl, rfl, Nat.le_of_ble_eq_true rfl, Nat.le_of_ble_eq_true rfl⟩ rfl hl.1 rfl (Nat.le_of_ble_eq_true rfl) dX11_trial_14 ⟨Nat.zero_le _, Nat.zero_le _⟩ (fun x38 H locs ix38 ox38 hH hS hF1 => ?_)
      obtain ⟨ox38_0, ox38_1⟩ := ox38
      have ox38_0 : x38.toInt ≠ 0 → (0 : Int) ≤ y2.toInt ∧ y2.toInt ≤ (9 : Int) := ox38_0
      have ox38_1 : x38.toInt = 0 → y2.toInt < (0 : Int) ∨ (9 : Int) < y2.toInt := ox38_1
      refine lv_if_eq (tgt := 50) hx hb dX11_trial_17 (by decide) (fun c39 => ?_) (fun c39 => ?_)
      · skip
        have rlc39 : x38.toInt = (0 : Int) := congrArg Int32.toInt c39
        have ir40 : IV x38 0 0 := iv_eL c39 (iv_c (by decide) : IV 0 0 0)
        have ir40a := ir40.1; have ir40b := ir40.2
        exact J50 H locs ls  hH hS (lv_sub hl [] rfl)
      · skip
        have rlc39 : x38.toInt ≠ (0 : Int) := iv_ne c39
        have ir41 : IV x38 1 1 := iv_cutL ix38 (iv_c (by decide) : IV 0 0 0) c39 (by decide)
        have ir41a := ir41.1; have ir41b := ir41.2
        have ir42 : IV y2 0 9 := ((fun z => by have z1 := iv_ne z; have z2 : x38.toInt ≠ 0 := z1; have z4 := ((iv_c (by decide) : IV 0 0 0)).1; have z5 := ((iv_c (by decide) : IV 9 9 9)).2; exact ⟨by omega, by omega⟩) : ¬ x38 = 0 → IV y2 0 9) c39
        have ir42a := ir42.1; have ir42b := ir42.2
        refine lv_iload_n hx hb dX11_trial_20 rfl (lv_at hl 3 rfl) ?_
        refine lv_iconst (v := 0) hx hb dX11_trial_21 (by decide) ?_
        refine lv_bipush (v := 9) hx hb dX11_trial_22 (by decide) ?_
        refine th_callSp (n := 3) (As := [.int y3, .int 0, .int 9]) S hK hH hS (th_A.sub (by decide)) (m_X11_isIn l D cT T q hT hq (y3) j3 (0) (iv_top _) (9) (iv_top _)) gm_1618 gm_1616 gm_1617 gm_124 (by decide +kernel) ⟨rfl, rfl, Nat.le_of_ble_eq_true rfl, Nat.le_of_ble_eq_true rfl⟩ rfl hl.1 rfl (Nat.le_of_ble_eq_true rfl) dX11_trial_24 ⟨Nat.zero_le _, Nat.zero_le _⟩ (fun x43 H locs ix43 ox43 hH hS hF1 => ?_)
        obtain ⟨ox43_0, ox43_1⟩ := ox43
        have ox43_0 : x43.toInt ≠ 0 → (0 : Int) ≤ y3.toInt ∧ y3.toInt ≤ (9 : Int) := ox43_0
        have ox43_1 : x43.toInt = 0 → y3.toInt < (0 : Int) ∨ (9 : Int) < y3.toInt := ox43_1
        refine lv_if_eq (tgt := 50) hx hb dX11_trial_27 (by decide) (fun c44 => ?_) (fun c44 => ?_)
        · skip
          have rlc44 : x43.toInt = (0 : Int) := congrArg Int32.toInt c44
          have ir45 : IV x43 0 0 := iv_eL c44 (iv_c (by decide) : IV 0 0 0)
          have ir45a := ir45.1; have ir45b := ir45.2
          exact J50 H locs ls  hH hS (lv_sub hl [] rfl)
        · skip
          have rlc44 : x43.toInt ≠ (0 : Int) := iv_ne c44
          have ir46 : IV x43 1 1 := iv_cutL ix43 (iv_c (by decide) : IV 0 0 0) c44 (by decide)
          have ir46a := ir46.1; have ir46b := ir46.2
          have ir47 : IV y3 0 9 := ((fun z => by have z1 := iv_ne z; have z2 : x43.toInt ≠ 0 := z1; have z4 := ((iv_c (by decide) : IV 0 0 0)).1; have z5 := ((iv_c (by decide) : IV 9 9 9)).2; exact ⟨by omega, by omega⟩) : ¬ x43 = 0 → IV y3 0 9) c44
          have ir47a := ir47.1; have ir47b := ir47.2
          refine lv_iload hx hb dX11_trial_30 (lv_at hl 4 rfl) ?_
          refine lv_iconst (v := 1) hx hb dX11_trial_32 (by decide) ?_
          refine lv_bipush (v := 99) hx hb dX11_trial_33 (by decide) ?_
          refine th_callSp (n := 3) (As := [.int y4, .int 1, .int 99]) S hK hH hS (th_A.sub (by decide)) (m_X11_isIn l D cT T q hT hq (y4) j4 (1) (iv_top _) (99) (iv_top _)) gm_1618 gm_1616 gm_1617 gm_124 (by decide +kernel) ⟨rfl, rfl, Nat.le_of_ble_eq_true rfl, Nat.le_of_ble_eq_true rfl⟩ rfl hl.1 rfl (Nat.le_of_ble_eq_true rfl) dX11_trial_35 ⟨Nat.zero_le _, Nat.zero_le _⟩ (fun x48 H locs ix48 ox48 hH hS hF1 => ?_)
          obtain ⟨ox48_0, ox48_1⟩ := ox48
          have ox48_0 : x48.toInt ≠ 0 → (1 : Int) ≤ y4.toInt ∧ y4.toInt ≤ (99 : Int) := ox48_0
          have ox48_1 : x48.toInt = 0 → y4.toInt < (1 : Int) ∨ (99 : Int) < y4.toInt := ox48_1
          refine lv_if_eq (tgt := 50) hx hb dX11_trial_38 (by decide) (fun c49 => ?_) (fun c49 => ?_)
          · skip
            have rlc49 : x48.toInt = (0 : Int) := congrArg Int32.toInt c49
            have ir50 : IV x48 0 0 := iv_eL c49 (iv_c (by decide) : IV 0 0 0)
            have ir50a := ir50.1; have ir50b := ir50.2
            exact J50 H locs ls  hH hS (lv_sub hl [] rfl)
          · skip
            have rlc49 : x48.toInt ≠ (0 : Int) := iv_ne c49
            have ir51 : IV x48 1 1 := iv_cutL ix48 (iv_c (by decide) : IV 0 0 0) c49 (by decide)
            have ir51a := ir51.1; have ir51b := ir51.2
            have ir52 : IV y4 1 99 := ((fun z => by have z1 := iv_ne z; have z2 : x48.toInt ≠ 0 := z1; have z4 := ((iv_c (by decide) : IV 1 1 1)).1; have z5 := ((iv_c (by decide) : IV 99 99 99)).2; exact ⟨by omega, by omega⟩) : ¬ x48 = 0 → IV y4 1 99) c49
            have ir52a := ir52.1; have ir52b := ir52.2
            refine lv_aload_n hx hb dX11_trial_41 rfl (lv_at hl 0 rfl) ?_
            refine th_get S hK hH inG11 t0 km_0 rfl 65 (by decide) gm_1295 rfl rfl dX11_trial_42 (fun v53 hv53 fv53 => ?_)
            obtain ⟨x54, rfl, ix54⟩ := th_V.int hv53
            refine lv_bipush (v := 30) hx hb dX11_trial_45 (by decide) ?_
            refine lv_icmp_ne (tgt := 52) hx hb dX11_trial_47 (by decide) (fun c55 => ?_) (fun c55 => ?_)
            · skip
              have rlc55 : x54.toInt ≠ (30 : Int) := iv_ne c55
              have ir56 : IV x54 0 29 := iv_cutH ix54 (iv_c (by decide) : IV 30 30 30) c55 (by decide)
              have ir56a := ir56.1; have ir56b := ir56.2
              refine lv_aload_n hx hb dX11_trial_52 rfl (lv_at hl 0 rfl) ?_
              refine th_get S hK hH inG11 t0 km_0 rfl 60 (by decide) gm_1290 rfl rfl dX11_trial_53 (fun v57 hv57 fv57 => ?_)
              obtain ⟨rf58, rfl, trf58⟩ := th_V.ref hv57
              refine lv_iconst (v := 3) hx hb dX11_trial_56 (by decide) ?_
              refine lv_aload_n hx hb dX11_trial_57 rfl (lv_at hl 0 rfl) ?_
              refine th_getK S hK fv53 inG11 rfl (by decide) gm_1295 rfl dX11_trial_58 ?_
              refine lv_imul hx hb dX11_trial_61 ?_
              refine lv_topi (fun x60 ex60 => ?_)
              have ix60 : IV x60 0 87 := by rw [ex60]; exact iv_mul (iv_c (by decide) : IV 3 3 3) ir56 (by decide) (by decide)
              have ux60 : x60.toInt = (3 : Int) * x54.toInt := by rw [ex60]; exact iv_mulE (iv_corner ((iv_c (by decide) : IV 3 3 3)).1 ((iv_c (by decide) : IV 3 3 3)).2 (ir56).1 (ir56).2 (by decide))
              refine lv_iload_n hx hb dX11_trial_62 rfl (lv_at hl 1 rfl) ?_
              refine th_iast S hK hH hS ⟨38, by decide, trf58⟩ trf58 km_38 (th_in (hi := 87) ix60 (by decide)) (th_iv (iv_top _)) dX11_trial_63 (fun H locs hH hS hq1 => ?_)
              have f61 := fv53.kept (hq1 _ (th_ne t0 trf58 (by decide)))
              have f62 := fv57.kept (hq1 _ (th_ne t0 trf58 (by decide)))
              refine lv_aload_n hx hb dX11_trial_64 rfl (lv_at hl 0 rfl) ?_
              refine th_getK S hK f62 inG11 rfl (by decide) gm_1290 rfl dX11_trial_65 ?_
              refine lv_iconst (v := 3) hx hb dX11_trial_68 (by decide) ?_
              refine lv_aload_n hx hb dX11_trial_69 rfl (lv_at hl 0 rfl) ?_
              refine th_getK S hK f61 inG11 rfl (by decide) gm_1295 rfl dX11_trial_70 ?_
              refine lv_imul hx hb dX11_trial_73 ?_
              refine lv_topi (fun x65 ex65 => ?_)
              have zx65 : x60 = x65 := ex60.trans ex65.symm
              subst zx65
              refine lv_iconst (v := 1) hx hb dX11_trial_74 (by decide) ?_
              refine lv_iadd hx hb dX11_trial_75 ?_
              refine lv_topi (fun x66 ex66 => ?_)
              have ix66 : IV x66 1 88 := by rw [ex66]; exact iv_add ix60 (iv_c (by decide) : IV 1 1 1) (by decide)
              have ux66 : x66.toInt = x60.toInt + (1 : Int) := by rw [ex66]; exact iv_addE (by have z1 := (ix60).1; have z2 := (ix60).2; have z3 := ((iv_c (by decide) : IV 1 1 1)).1; have z4 := ((iv_c (by decide) : IV 1 1 1)).2; omega)
              refine lv_iload_n hx hb dX11_trial_76 rfl (lv_at hl 2 rfl) ?_
              refine th_iast S hK hH hS ⟨38, by decide, trf58⟩ trf58 km_38 (th_in (hi := 88) (iv_w ix66 (by decide)) (by decide)) (th_iv (iv_top _)) dX11_trial_77 (fun H locs hH hS hq1 => ?_)
              have f67 := f61.kept (hq1 _ (th_ne t0 trf58 (by decide)))
              have f68 := f62.kept (hq1 _ (th_ne t0 trf58 (by decide)))
              refine lv_aload_n hx hb dX11_trial_78 rfl (lv_at hl 0 rfl) ?_
              refine th_getK S hK f68 inG11 rfl (by decide) gm_1290 rfl dX11_trial_79 ?_
              refine lv_iconst (v := 3) hx hb dX11_trial_82 (by decide) ?_
              refine lv_aload_n hx hb dX11_trial_83 rfl (lv_at hl 0 rfl) ?_
              refine th_getK S hK f67 inG11 rfl (by decide) gm_1295 rfl dX11_trial_84 ?_
              refine lv_imul hx hb dX11_trial_87 ?_
              refine lv_topi (fun x71 ex71 => ?_)
              have zx71 : x60 = x71 := ex60.trans ex71.symm
              subst zx71
              refine lv_iconst (v := 2) hx hb dX11_trial_88 (by decide) ?_
              refine lv_iadd hx hb dX11_trial_89 ?_
              refine lv_topi (fun x72 ex72 => ?_)
              have ix72 : IV x72 2 89 := by rw [ex72]; exact iv_add ix60 (iv_c (by decide) : IV 2 2 2) (by decide)
              have ux72 : x72.toInt = x60.toInt + (2 : Int) := by rw [ex72]; exact iv_addE (by have z1 := (ix60).1; have z2 := (ix60).2; have z3 := ((iv_c (by decide) : IV 2 2 2)).1; have z4 := ((iv_c (by decide) : IV 2 2 2)).2; omega)
              refine lv_iload_n hx hb dX11_trial_90 rfl (lv_at hl 3 rfl) ?_
              refine th_iast S hK hH hS ⟨38, by decide, trf58⟩ trf58 km_38 (th_in (hi := 89) (iv_w ix72 (by decide)) (by decide)) (th_iv (iv_top _)) dX11_trial_91 (fun H locs hH hS hq1 => ?_)
              have f73 := f67.kept (hq1 _ (th_ne t0 trf58 (by decide)))
              have f74 := f68.kept (hq1 _ (th_ne t0 trf58 (by decide)))
              refine lv_aload_n hx hb dX11_trial_92 rfl (lv_at hl 0 rfl) ?_
              refine th_get S hK hH inG11 t0 km_0 rfl 61 (by decide) gm_1291 rfl rfl dX11_trial_93 (fun v75 hv75 fv75 => ?_)
              obtain ⟨rf76, rfl, trf76⟩ := th_V.ref hv75
              refine lv_aload_n hx hb dX11_trial_96 rfl (lv_at hl 0 rfl) ?_
              refine th_getK S hK f73 inG11 rfl (by decide) gm_1295 rfl dX11_trial_97 ?_
              refine lv_iload hx hb dX11_trial_100 (lv_at hl 4 rfl) ?_
              refine th_iast S hK hH hS ⟨39, by decide, trf76⟩ trf76 km_39 (th_in (hi := 29) ir56 (by decide)) (th_iv (iv_top _)) dX11_trial_102 (fun H locs hH hS hq1 => ?_)
              have f78 := f73.kept (hq1 _ (th_ne t0 trf76 (by decide)))
              have f79 := f74.kept (hq1 _ (th_ne t0 trf76 (by decide)))
              refine lv_aload_n hx hb dX11_trial_103 rfl (lv_at hl 0 rfl) ?_
              refine th_get S hK hH inG11 t0 km_0 rfl 62 (by decide) gm_1292 rfl rfl dX11_trial_104 (fun v80 hv80 fv80 => ?_)
              obtain ⟨rf81, rfl, trf81⟩ := th_V.ref hv80
              refine lv_aload_n hx hb dX11_trial_107 rfl (lv_at hl 0 rfl) ?_
              refine th_getK S hK f78 inG11 rfl (by decide) gm_1295 rfl dX11_trial_108 ?_
              refine lv_iload hx hb dX11_trial_111 (lv_at hl 5 rfl) ?_
              refine lv_if_eq (tgt := 120) hx hb dX11_trial_113 (by decide) (fun c83 => ?_) (fun c83 => ?_)
              · skip
                have rlc83 : y5.toInt = (0 : Int) := congrArg Int32.toInt c83
                have ir84 : IV y5 0 0 := iv_eL c83 (iv_c (by decide) : IV 0 0 0)
                have ir84a := ir84.1; have ir84b := ir84.2
                refine lv_iconst (v := 0) hx hb dX11_trial_120 (by decide) ?_
                exact J121_s2_0 H locs ls rf81 x54 x54 trf81 ir56 ir56 f78 hH hS (lv_sub hl [0] rfl)
              · skip
                have rlc83 : y5.toInt ≠ (0 : Int) := iv_ne c83
                have ir85 : IV y5 1 1 := iv_cutL j5 (iv_c (by decide) : IV 0 0 0) c83 (by decide)
                have ir85a := ir85.1; have ir85b := ir85.2
                refine lv_iconst (v := 1) hx hb dX11_trial_116 (by decide) ?_
                refine lv_goto (tgt := 121) hx hb dX11_trial_117 (by decide) ?_
                exact J121_s2_1 H locs ls rf81 x54 x54 trf81 ir56 ir56 f78 hH hS (lv_sub hl [0] rfl)
            · skip
              have rlc55 : x54.toInt = (30 : Int) := congrArg Int32.toInt c55
              have ir86 : IV x54 30 30 := ⟨(iv_eL c55 (iv_c (by decide) : IV 30 30 30)).1, ix54.2⟩
              have ir86a := ir86.1; have ir86b := ir86.2
              exact J50 H locs ls  hH hS (lv_sub hl [] rfl)
  exact J0 s.heap [] ls hH va_S.rf hl
