theorem dX11_drawerIn_0 : decode cX11_drawerIn 0 = .ok (.iload_n 1, 1) := by decide +kernel
theorem dX11_drawerIn_1 : decode cX11_drawerIn 1 = .ok (.istore 4, 2) := by decide +kernel
theorem dX11_drawerIn_3 : decode cX11_drawerIn 3 = .ok (.aload_n 0, 1) := by decide +kernel
theorem dX11_drawerIn_4 : decode cX11_drawerIn 4 = .ok (.invokevirtual 384, 3) := by decide +kernel
theorem dX11_drawerIn_7 : decode cX11_drawerIn 7 = .ok (.iconst 1, 1) := by decide +kernel
theorem dX11_drawerIn_8 : decode cX11_drawerIn 8 = .ok (.isub, 1) := by decide +kernel
theorem dX11_drawerIn_9 : decode cX11_drawerIn 9 = .ok (.istore 5, 2) := by decide +kernel
theorem dX11_drawerIn_11 : decode cX11_drawerIn 11 = .ok (.iload 5, 2) := by decide +kernel
theorem dX11_drawerIn_13 : decode cX11_drawerIn 13 = .ok (.iload_n 3, 1) := by decide +kernel
theorem dX11_drawerIn_14 : decode cX11_drawerIn 14 = .ok (.if_icmp .le 15, 3) := by decide +kernel
theorem dX11_drawerIn_17 : decode cX11_drawerIn 17 = .ok (.iload 4, 2) := by decide +kernel
theorem dX11_drawerIn_19 : decode cX11_drawerIn 19 = .ok (.iload_n 2, 1) := by decide +kernel
theorem dX11_drawerIn_20 : decode cX11_drawerIn 20 = .ok (.idiv, 1) := by decide +kernel
theorem dX11_drawerIn_21 : decode cX11_drawerIn 21 = .ok (.istore 4, 2) := by decide +kernel
theorem dX11_drawerIn_23 : decode cX11_drawerIn 23 = .ok (.iinc 5 (-1), 3) := by decide +kernel
theorem dX11_drawerIn_26 : decode cX11_drawerIn 26 = .ok (.goto (-15), 3) := by decide +kernel
theorem dX11_drawerIn_29 : decode cX11_drawerIn 29 = .ok (.iload 4, 2) := by decide +kernel
theorem dX11_drawerIn_31 : decode cX11_drawerIn 31 = .ok (.iload_n 2, 1) := by decide +kernel
theorem dX11_drawerIn_32 : decode cX11_drawerIn 32 = .ok (.irem, 1) := by decide +kernel
theorem dX11_drawerIn_33 : decode cX11_drawerIn 33 = .ok (.ireturn, 1) := by decide +kernel
theorem dX11_isParted_0 : decode cX11_isParted 0 = .ok (.iconst 0, 1) := by decide +kernel
theorem dX11_isParted_1 : decode cX11_isParted 1 = .ok (.istore_n 3, 1) := by decide +kernel
theorem dX11_isParted_2 : decode cX11_isParted 2 = .ok (.iload_n 3, 1) := by decide +kernel
theorem dX11_isParted_3 : decode cX11_isParted 3 = .ok (.aload_n 0, 1) := by decide +kernel
theorem dX11_isParted_4 : decode cX11_isParted 4 = .ok (.invokevirtual 384, 3) := by decide +kernel
theorem dX11_isParted_7 : decode cX11_isParted 7 = .ok (.if_icmp .ge 65, 3) := by decide +kernel
theorem dX11_isParted_10 : decode cX11_isParted 10 = .ok (.iconst 0, 1) := by decide +kernel
theorem dX11_isParted_11 : decode cX11_isParted 11 = .ok (.istore 4, 2) := by decide +kernel
theorem dX11_isParted_13 : decode cX11_isParted 13 = .ok (.iload 4, 2) := by decide +kernel
theorem dX11_isParted_15 : decode cX11_isParted 15 = .ok (.iload_n 3, 1) := by decide +kernel
theorem dX11_isParted_16 : decode cX11_isParted 16 = .ok (.if_icmp .ge 50, 3) := by decide +kernel
theorem dX11_isParted_19 : decode cX11_isParted 19 = .ok (.aload_n 0, 1) := by decide +kernel
theorem dX11_isParted_20 : decode cX11_isParted 20 = .ok (.getfield 54, 3) := by decide +kernel
theorem dX11_isParted_23 : decode cX11_isParted 23 = .ok (.iconst 4, 1) := by decide +kernel
theorem dX11_isParted_24 : decode cX11_isParted 24 = .ok (.aload_n 0, 1) := by decide +kernel
theorem dX11_isParted_25 : decode cX11_isParted 25 = .ok (.getfield 273, 3) := by decide +kernel
theorem dX11_isParted_28 : decode cX11_isParted 28 = .ok (.imul, 1) := by decide +kernel
theorem dX11_isParted_29 : decode cX11_isParted 29 = .ok (.iload_n 3, 1) := by decide +kernel
theorem dX11_isParted_30 : decode cX11_isParted 30 = .ok (.iadd, 1) := by decide +kernel
theorem dX11_isParted_31 : decode cX11_isParted 31 = .ok (.iaload, 1) := by decide +kernel
theorem dX11_isParted_32 : decode cX11_isParted 32 = .ok (.iload 4, 2) := by decide +kernel
theorem dX11_isParted_34 : decode cX11_isParted 34 = .ok (.invokestatic 391, 3) := by decide +kernel
theorem dX11_isParted_37 : decode cX11_isParted 37 = .ok (.ifCond .eq 23, 3) := by decide +kernel
theorem dX11_isParted_40 : decode cX11_isParted 40 = .ok (.aload_n 0, 1) := by decide +kernel
theorem dX11_isParted_41 : decode cX11_isParted 41 = .ok (.iload_n 1, 1) := by decide +kernel
theorem dX11_isParted_42 : decode cX11_isParted 42 = .ok (.iload_n 2, 1) := by decide +kernel
theorem dX11_isParted_43 : decode cX11_isParted 43 = .ok (.iload_n 3, 1) := by decide +kernel
theorem dX11_isParted_44 : decode cX11_isParted 44 = .ok (.invokevirtual 489, 3) := by decide +kernel
theorem dX11_isParted_47 : decode cX11_isParted 47 = .ok (.aload_n 0, 1) := by decide +kernel
theorem dX11_isParted_48 : decode cX11_isParted 48 = .ok (.iload_n 1, 1) := by decide +kernel
theorem dX11_isParted_49 : decode cX11_isParted 49 = .ok (.iload_n 2, 1) := by decide +kernel
theorem dX11_isParted_50 : decode cX11_isParted 50 = .ok (.iload 4, 2) := by decide +kernel
theorem dX11_isParted_52 : decode cX11_isParted 52 = .ok (.invokevirtual 489, 3) := by decide +kernel
theorem dX11_isParted_55 : decode cX11_isParted 55 = .ok (.if_icmp .ne 5, 3) := by decide +kernel
theorem dX11_isParted_58 : decode cX11_isParted 58 = .ok (.iconst 0, 1) := by decide +kernel
theorem dX11_isParted_59 : decode cX11_isParted 59 = .ok (.ireturn, 1) := by decide +kernel
theorem dX11_isParted_60 : decode cX11_isParted 60 = .ok (.iinc 4 1, 3) := by decide +kernel
theorem dX11_isParted_63 : decode cX11_isParted 63 = .ok (.goto (-50), 3) := by decide +kernel
theorem dX11_isParted_66 : decode cX11_isParted 66 = .ok (.iinc 3 1, 3) := by decide +kernel
theorem dX11_isParted_69 : decode cX11_isParted 69 = .ok (.goto (-67), 3) := by decide +kernel
theorem dX11_isParted_72 : decode cX11_isParted 72 = .ok (.iconst 1, 1) := by decide +kernel
theorem dX11_isParted_73 : decode cX11_isParted 73 = .ok (.ireturn, 1) := by decide +kernel
theorem dX11_waysInto_0 : decode cX11_waysInto 0 = .ok (.iconst 1, 1) := by decide +kernel
theorem dX11_waysInto_1 : decode cX11_waysInto 1 = .ok (.istore_n 2, 1) := by decide +kernel
theorem dX11_waysInto_2 : decode cX11_waysInto 2 = .ok (.iconst 0, 1) := by decide +kernel
theorem dX11_waysInto_3 : decode cX11_waysInto 3 = .ok (.istore_n 3, 1) := by decide +kernel
theorem dX11_waysInto_4 : decode cX11_waysInto 4 = .ok (.iload_n 3, 1) := by decide +kernel
theorem dX11_waysInto_5 : decode cX11_waysInto 5 = .ok (.aload_n 0, 1) := by decide +kernel
theorem dX11_waysInto_6 : decode cX11_waysInto 6 = .ok (.invokevirtual 384, 3) := by decide +kernel
theorem dX11_waysInto_9 : decode cX11_waysInto 9 = .ok (.if_icmp .ge 13, 3) := by decide +kernel
theorem dX11_waysInto_12 : decode cX11_waysInto 12 = .ok (.iload_n 2, 1) := by decide +kernel
theorem dX11_waysInto_13 : decode cX11_waysInto 13 = .ok (.iload_n 1, 1) := by decide +kernel
theorem dX11_waysInto_14 : decode cX11_waysInto 14 = .ok (.imul, 1) := by decide +kernel
theorem dX11_waysInto_15 : decode cX11_waysInto 15 = .ok (.istore_n 2, 1) := by decide +kernel
theorem dX11_waysInto_16 : decode cX11_waysInto 16 = .ok (.iinc 3 1, 3) := by decide +kernel
theorem dX11_waysInto_19 : decode cX11_waysInto 19 = .ok (.goto (-15), 3) := by decide +kernel
theorem dX11_waysInto_22 : decode cX11_waysInto 22 = .ok (.iconst 0, 1) := by decide +kernel
theorem dX11_waysInto_23 : decode cX11_waysInto 23 = .ok (.istore_n 3, 1) := by decide +kernel
theorem dX11_waysInto_24 : decode cX11_waysInto 24 = .ok (.iconst 0, 1) := by decide +kernel
theorem dX11_waysInto_25 : decode cX11_waysInto 25 = .ok (.istore 4, 2) := by decide +kernel
theorem dX11_waysInto_27 : decode cX11_waysInto 27 = .ok (.iload 4, 2) := by decide +kernel
theorem dX11_waysInto_29 : decode cX11_waysInto 29 = .ok (.iload_n 2, 1) := by decide +kernel
theorem dX11_waysInto_30 : decode cX11_waysInto 30 = .ok (.if_icmp .ge 71, 3) := by decide +kernel
theorem dX11_waysInto_33 : decode cX11_waysInto 33 = .ok (.aload_n 0, 1) := by decide +kernel
theorem dX11_waysInto_34 : decode cX11_waysInto 34 = .ok (.iload 4, 2) := by decide +kernel
theorem dX11_waysInto_36 : decode cX11_waysInto 36 = .ok (.iload_n 1, 1) := by decide +kernel
theorem dX11_waysInto_37 : decode cX11_waysInto 37 = .ok (.invokevirtual 492, 3) := by decide +kernel
theorem dX11_waysInto_40 : decode cX11_waysInto 40 = .ok (.ifCond .ne 6, 3) := by decide +kernel
theorem dX11_waysInto_43 : decode cX11_waysInto 43 = .ok (.goto 52, 3) := by decide +kernel
theorem dX11_waysInto_46 : decode cX11_waysInto 46 = .ok (.iload_n 3, 1) := by decide +kernel
theorem dX11_waysInto_47 : decode cX11_waysInto 47 = .ok (.ifCond .ne 45, 3) := by decide +kernel
theorem dX11_waysInto_50 : decode cX11_waysInto 50 = .ok (.iconst 0, 1) := by decide +kernel
theorem dX11_waysInto_51 : decode cX11_waysInto 51 = .ok (.istore 5, 2) := by decide +kernel
theorem dX11_waysInto_53 : decode cX11_waysInto 53 = .ok (.iload 5, 2) := by decide +kernel
theorem dX11_waysInto_55 : decode cX11_waysInto 55 = .ok (.aload_n 0, 1) := by decide +kernel
theorem dX11_waysInto_56 : decode cX11_waysInto 56 = .ok (.invokevirtual 384, 3) := by decide +kernel
theorem dX11_waysInto_59 : decode cX11_waysInto 59 = .ok (.if_icmp .ge 25, 3) := by decide +kernel
theorem dX11_waysInto_62 : decode cX11_waysInto 62 = .ok (.aload_n 0, 1) := by decide +kernel
theorem dX11_waysInto_63 : decode cX11_waysInto 63 = .ok (.getfield 122, 3) := by decide +kernel
theorem dX11_waysInto_66 : decode cX11_waysInto 66 = .ok (.iload 5, 2) := by decide +kernel
theorem dX11_waysInto_68 : decode cX11_waysInto 68 = .ok (.aload_n 0, 1) := by decide +kernel
theorem dX11_waysInto_69 : decode cX11_waysInto 69 = .ok (.iload 4, 2) := by decide +kernel
theorem dX11_waysInto_71 : decode cX11_waysInto 71 = .ok (.iload_n 1, 1) := by decide +kernel
theorem dX11_waysInto_72 : decode cX11_waysInto 72 = .ok (.iload 5, 2) := by decide +kernel
theorem dX11_waysInto_74 : decode cX11_waysInto 74 = .ok (.invokevirtual 489, 3) := by decide +kernel
theorem dX11_waysInto_77 : decode cX11_waysInto 77 = .ok (.iastore, 1) := by decide +kernel
theorem dX11_waysInto_78 : decode cX11_waysInto 78 = .ok (.iinc 5 1, 3) := by decide +kernel
theorem dX11_waysInto_81 : decode cX11_waysInto 81 = .ok (.goto (-28), 3) := by decide +kernel
theorem dX11_waysInto_84 : decode cX11_waysInto 84 = .ok (.aload_n 0, 1) := by decide +kernel
theorem dX11_waysInto_85 : decode cX11_waysInto 85 = .ok (.aload_n 0, 1) := by decide +kernel
theorem dX11_waysInto_86 : decode cX11_waysInto 86 = .ok (.invokevirtual 384, 3) := by decide +kernel
theorem dX11_waysInto_89 : decode cX11_waysInto 89 = .ok (.putfield 404, 3) := by decide +kernel
theorem dX11_waysInto_92 : decode cX11_waysInto 92 = .ok (.iinc 3 1, 3) := by decide +kernel
theorem dX11_waysInto_95 : decode cX11_waysInto 95 = .ok (.iinc 4 1, 3) := by decide +kernel
theorem dX11_waysInto_98 : decode cX11_waysInto 98 = .ok (.goto (-71), 3) := by decide +kernel
theorem dX11_waysInto_101 : decode cX11_waysInto 101 = .ok (.iload_n 3, 1) := by decide +kernel
theorem dX11_waysInto_102 : decode cX11_waysInto 102 = .ok (.ireturn, 1) := by decide +kernel
theorem dX11_drawers_0 : decode cX11_drawers 0 = .ok (.aload_n 0, 1) := by decide +kernel
theorem dX11_drawers_1 : decode cX11_drawers 1 = .ok (.iconst 0, 1) := by decide +kernel
theorem dX11_drawers_2 : decode cX11_drawers 2 = .ok (.putfield 404, 3) := by decide +kernel
theorem dX11_drawers_5 : decode cX11_drawers 5 = .ok (.iload_n 1, 1) := by decide +kernel
theorem dX11_drawers_6 : decode cX11_drawers 6 = .ok (.iconst 1, 1) := by decide +kernel
theorem dX11_drawers_7 : decode cX11_drawers 7 = .ok (.iconst 4, 1) := by decide +kernel
theorem dX11_drawers_8 : decode cX11_drawers 8 = .ok (.invokestatic 387, 3) := by decide +kernel
theorem dX11_drawers_11 : decode cX11_drawers 11 = .ok (.ifCond .eq 11, 3) := by decide +kernel
theorem dX11_drawers_14 : decode cX11_drawers 14 = .ok (.aload_n 0, 1) := by decide +kernel
theorem dX11_drawers_15 : decode cX11_drawers 15 = .ok (.iload_n 1, 1) := by decide +kernel
theorem dX11_drawers_16 : decode cX11_drawers 16 = .ok (.invokevirtual 495, 3) := by decide +kernel
theorem dX11_drawers_19 : decode cX11_drawers 19 = .ok (.goto 4, 3) := by decide +kernel
theorem dX11_drawers_22 : decode cX11_drawers 22 = .ok (.iconst (-1), 1) := by decide +kernel
theorem dX11_drawers_23 : decode cX11_drawers 23 = .ok (.ireturn, 1) := by decide +kernel
theorem dX11_bites_0 : decode cX11_bites 0 = .ok (.iconst 0, 1) := by decide +kernel
theorem dX11_bites_1 : decode cX11_bites 1 = .ok (.istore_n 1, 1) := by decide +kernel
theorem dX11_bites_2 : decode cX11_bites 2 = .ok (.iconst 0, 1) := by decide +kernel
theorem dX11_bites_3 : decode cX11_bites 3 = .ok (.istore_n 2, 1) := by decide +kernel
theorem dX11_bites_4 : decode cX11_bites 4 = .ok (.iload_n 2, 1) := by decide +kernel
theorem dX11_bites_5 : decode cX11_bites 5 = .ok (.aload_n 0, 1) := by decide +kernel
theorem dX11_bites_6 : decode cX11_bites 6 = .ok (.invokevirtual 384, 3) := by decide +kernel
theorem dX11_bites_9 : decode cX11_bites 9 = .ok (.if_icmp .ge 39, 3) := by decide +kernel
theorem dX11_bites_12 : decode cX11_bites 12 = .ok (.iconst 0, 1) := by decide +kernel
theorem dX11_bites_13 : decode cX11_bites 13 = .ok (.istore_n 3, 1) := by decide +kernel
theorem dX11_bites_14 : decode cX11_bites 14 = .ok (.iload_n 3, 1) := by decide +kernel
theorem dX11_bites_15 : decode cX11_bites 15 = .ok (.iload_n 2, 1) := by decide +kernel
theorem dX11_bites_16 : decode cX11_bites 16 = .ok (.if_icmp .ge 26, 3) := by decide +kernel
theorem dX11_bites_19 : decode cX11_bites 19 = .ok (.iload_n 1, 1) := by decide +kernel
theorem dX11_bites_20 : decode cX11_bites 20 = .ok (.aload_n 0, 1) := by decide +kernel
theorem dX11_bites_21 : decode cX11_bites 21 = .ok (.iload_n 2, 1) := by decide +kernel
theorem dX11_bites_22 : decode cX11_bites 22 = .ok (.iload_n 3, 1) := by decide +kernel
theorem dX11_bites_23 : decode cX11_bites 23 = .ok (.invokevirtual 410, 3) := by decide +kernel
theorem dX11_bites_26 : decode cX11_bites 26 = .ok (.ifCond .eq 7, 3) := by decide +kernel
theorem dX11_bites_29 : decode cX11_bites 29 = .ok (.iconst 1, 1) := by decide +kernel
theorem dX11_bites_30 : decode cX11_bites 30 = .ok (.goto 4, 3) := by decide +kernel
theorem dX11_bites_33 : decode cX11_bites 33 = .ok (.iconst 0, 1) := by decide +kernel
theorem dX11_bites_34 : decode cX11_bites 34 = .ok (.iadd, 1) := by decide +kernel
theorem dX11_bites_35 : decode cX11_bites 35 = .ok (.istore_n 1, 1) := by decide +kernel
theorem dX11_bites_36 : decode cX11_bites 36 = .ok (.iinc 3 1, 3) := by decide +kernel
theorem dX11_bites_39 : decode cX11_bites 39 = .ok (.goto (-25), 3) := by decide +kernel
theorem dX11_bites_42 : decode cX11_bites 42 = .ok (.iinc 2 1, 3) := by decide +kernel
theorem dX11_bites_45 : decode cX11_bites 45 = .ok (.goto (-41), 3) := by decide +kernel
theorem dX11_bites_48 : decode cX11_bites 48 = .ok (.iload_n 1, 1) := by decide +kernel
theorem dX11_bites_49 : decode cX11_bites 49 = .ok (.ireturn, 1) := by decide +kernel
theorem dX11_trial_0 : decode cX11_trial 0 = .ok (.iload_n 1, 1) := by decide +kernel
theorem dX11_trial_1 : decode cX11_trial 1 = .ok (.iconst 0, 1) := by decide +kernel
theorem dX11_trial_2 : decode cX11_trial 2 = .ok (.bipush 9, 2) := by decide +kernel
theorem dX11_trial_4 : decode cX11_trial 4 = .ok (.invokestatic 387, 3) := by decide +kernel
theorem dX11_trial_7 : decode cX11_trial 7 = .ok (.ifCond .eq 43, 3) := by decide +kernel
theorem dX11_trial_10 : decode cX11_trial 10 = .ok (.iload_n 2, 1) := by decide +kernel
theorem dX11_trial_11 : decode cX11_trial 11 = .ok (.iconst 0, 1) := by decide +kernel
theorem dX11_trial_12 : decode cX11_trial 12 = .ok (.bipush 9, 2) := by decide +kernel
theorem dX11_trial_14 : decode cX11_trial 14 = .ok (.invokestatic 387, 3) := by decide +kernel
theorem dX11_trial_17 : decode cX11_trial 17 = .ok (.ifCond .eq 33, 3) := by decide +kernel
theorem dX11_trial_20 : decode cX11_trial 20 = .ok (.iload_n 3, 1) := by decide +kernel
theorem dX11_trial_21 : decode cX11_trial 21 = .ok (.iconst 0, 1) := by decide +kernel
theorem dX11_trial_22 : decode cX11_trial 22 = .ok (.bipush 9, 2) := by decide +kernel
theorem dX11_trial_24 : decode cX11_trial 24 = .ok (.invokestatic 387, 3) := by decide +kernel
theorem dX11_trial_27 : decode cX11_trial 27 = .ok (.ifCond .eq 23, 3) := by decide +kernel
theorem dX11_trial_30 : decode cX11_trial 30 = .ok (.iload 4, 2) := by decide +kernel
theorem dX11_trial_32 : decode cX11_trial 32 = .ok (.iconst 1, 1) := by decide +kernel
theorem dX11_trial_33 : decode cX11_trial 33 = .ok (.bipush 99, 2) := by decide +kernel
theorem dX11_trial_35 : decode cX11_trial 35 = .ok (.invokestatic 387, 3) := by decide +kernel
theorem dX11_trial_38 : decode cX11_trial 38 = .ok (.ifCond .eq 12, 3) := by decide +kernel
theorem dX11_trial_41 : decode cX11_trial 41 = .ok (.aload_n 0, 1) := by decide +kernel
theorem dX11_trial_42 : decode cX11_trial 42 = .ok (.getfield 401, 3) := by decide +kernel
theorem dX11_trial_45 : decode cX11_trial 45 = .ok (.bipush 30, 2) := by decide +kernel
theorem dX11_trial_47 : decode cX11_trial 47 = .ok (.if_icmp .ne 5, 3) := by decide +kernel
theorem dX11_trial_50 : decode cX11_trial 50 = .ok (.iconst (-1), 1) := by decide +kernel
theorem dX11_trial_51 : decode cX11_trial 51 = .ok (.ireturn, 1) := by decide +kernel
theorem dX11_trial_52 : decode cX11_trial 52 = .ok (.aload_n 0, 1) := by decide +kernel
theorem dX11_trial_53 : decode cX11_trial 53 = .ok (.getfield 128, 3) := by decide +kernel
theorem dX11_trial_56 : decode cX11_trial 56 = .ok (.iconst 3, 1) := by decide +kernel
theorem dX11_trial_57 : decode cX11_trial 57 = .ok (.aload_n 0, 1) := by decide +kernel
theorem dX11_trial_58 : decode cX11_trial 58 = .ok (.getfield 401, 3) := by decide +kernel
theorem dX11_trial_61 : decode cX11_trial 61 = .ok (.imul, 1) := by decide +kernel
theorem dX11_trial_62 : decode cX11_trial 62 = .ok (.iload_n 1, 1) := by decide +kernel
theorem dX11_trial_63 : decode cX11_trial 63 = .ok (.iastore, 1) := by decide +kernel
theorem dX11_trial_64 : decode cX11_trial 64 = .ok (.aload_n 0, 1) := by decide +kernel
theorem dX11_trial_65 : decode cX11_trial 65 = .ok (.getfield 128, 3) := by decide +kernel
theorem dX11_trial_68 : decode cX11_trial 68 = .ok (.iconst 3, 1) := by decide +kernel
theorem dX11_trial_69 : decode cX11_trial 69 = .ok (.aload_n 0, 1) := by decide +kernel
theorem dX11_trial_70 : decode cX11_trial 70 = .ok (.getfield 401, 3) := by decide +kernel
theorem dX11_trial_73 : decode cX11_trial 73 = .ok (.imul, 1) := by decide +kernel
theorem dX11_trial_74 : decode cX11_trial 74 = .ok (.iconst 1, 1) := by decide +kernel
theorem dX11_trial_75 : decode cX11_trial 75 = .ok (.iadd, 1) := by decide +kernel
theorem dX11_trial_76 : decode cX11_trial 76 = .ok (.iload_n 2, 1) := by decide +kernel
theorem dX11_trial_77 : decode cX11_trial 77 = .ok (.iastore, 1) := by decide +kernel
theorem dX11_trial_78 : decode cX11_trial 78 = .ok (.aload_n 0, 1) := by decide +kernel
theorem dX11_trial_79 : decode cX11_trial 79 = .ok (.getfield 128, 3) := by decide +kernel
theorem dX11_trial_82 : decode cX11_trial 82 = .ok (.iconst 3, 1) := by decide +kernel
theorem dX11_trial_83 : decode cX11_trial 83 = .ok (.aload_n 0, 1) := by decide +kernel
theorem dX11_trial_84 : decode cX11_trial 84 = .ok (.getfield 401, 3) := by decide +kernel
theorem dX11_trial_87 : decode cX11_trial 87 = .ok (.imul, 1) := by decide +kernel
theorem dX11_trial_88 : decode cX11_trial 88 = .ok (.iconst 2, 1) := by decide +kernel
theorem dX11_trial_89 : decode cX11_trial 89 = .ok (.iadd, 1) := by decide +kernel
theorem dX11_trial_90 : decode cX11_trial 90 = .ok (.iload_n 3, 1) := by decide +kernel
theorem dX11_trial_91 : decode cX11_trial 91 = .ok (.iastore, 1) := by decide +kernel
theorem dX11_trial_92 : decode cX11_trial 92 = .ok (.aload_n 0, 1) := by decide +kernel
theorem dX11_trial_93 : decode cX11_trial 93 = .ok (.getfield 131, 3) := by decide +kernel
theorem dX11_trial_96 : decode cX11_trial 96 = .ok (.aload_n 0, 1) := by decide +kernel
theorem dX11_trial_97 : decode cX11_trial 97 = .ok (.getfield 401, 3) := by decide +kernel
theorem dX11_trial_100 : decode cX11_trial 100 = .ok (.iload 4, 2) := by decide +kernel
theorem dX11_trial_102 : decode cX11_trial 102 = .ok (.iastore, 1) := by decide +kernel
theorem dX11_trial_103 : decode cX11_trial 103 = .ok (.aload_n 0, 1) := by decide +kernel
theorem dX11_trial_104 : decode cX11_trial 104 = .ok (.getfield 134, 3) := by decide +kernel
theorem dX11_trial_107 : decode cX11_trial 107 = .ok (.aload_n 0, 1) := by decide +kernel
theorem dX11_trial_108 : decode cX11_trial 108 = .ok (.getfield 401, 3) := by decide +kernel
theorem dX11_trial_111 : decode cX11_trial 111 = .ok (.iload 5, 2) := by decide +kernel
theorem dX11_trial_113 : decode cX11_trial 113 = .ok (.ifCond .eq 7, 3) := by decide +kernel
theorem dX11_trial_116 : decode cX11_trial 116 = .ok (.iconst 1, 1) := by decide +kernel
theorem dX11_trial_117 : decode cX11_trial 117 = .ok (.goto 4, 3) := by decide +kernel
theorem dX11_trial_120 : decode cX11_trial 120 = .ok (.iconst 0, 1) := by decide +kernel
theorem dX11_trial_121 : decode cX11_trial 121 = .ok (.iastore, 1) := by decide +kernel
theorem dX11_trial_122 : decode cX11_trial 122 = .ok (.aload_n 0, 1) := by decide +kernel
theorem dX11_trial_123 : decode cX11_trial 123 = .ok (.getfield 137, 3) := by decide +kernel
theorem dX11_trial_126 : decode cX11_trial 126 = .ok (.aload_n 0, 1) := by decide +kernel
theorem dX11_trial_127 : decode cX11_trial 127 = .ok (.getfield 401, 3) := by decide +kernel
theorem dX11_trial_130 : decode cX11_trial 130 = .ok (.aload_n 0, 1) := by decide +kernel
theorem dX11_trial_131 : decode cX11_trial 131 = .ok (.getfield 501, 3) := by decide +kernel
theorem dX11_trial_134 : decode cX11_trial 134 = .ok (.iastore, 1) := by decide +kernel
theorem dX11_trial_135 : decode cX11_trial 135 = .ok (.aload_n 0, 1) := by decide +kernel
theorem dX11_trial_136 : decode cX11_trial 136 = .ok (.getfield 140, 3) := by decide +kernel
theorem dX11_trial_139 : decode cX11_trial 139 = .ok (.aload_n 0, 1) := by decide +kernel
theorem dX11_trial_140 : decode cX11_trial 140 = .ok (.getfield 401, 3) := by decide +kernel
theorem dX11_trial_143 : decode cX11_trial 143 = .ok (.iconst (-1), 1) := by decide +kernel
theorem dX11_trial_144 : decode cX11_trial 144 = .ok (.iastore, 1) := by decide +kernel
theorem dX11_trial_145 : decode cX11_trial 145 = .ok (.aload_n 0, 1) := by decide +kernel
theorem dX11_trial_146 : decode cX11_trial 146 = .ok (.dup, 1) := by decide +kernel
theorem dX11_trial_147 : decode cX11_trial 147 = .ok (.getfield 401, 3) := by decide +kernel
theorem dX11_trial_150 : decode cX11_trial 150 = .ok (.iconst 1, 1) := by decide +kernel
theorem dX11_trial_151 : decode cX11_trial 151 = .ok (.iadd, 1) := by decide +kernel
theorem dX11_trial_152 : decode cX11_trial 152 = .ok (.putfield 401, 3) := by decide +kernel
theorem dX11_trial_155 : decode cX11_trial 155 = .ok (.aload_n 0, 1) := by decide +kernel
theorem dX11_trial_156 : decode cX11_trial 156 = .ok (.getfield 401, 3) := by decide +kernel
theorem dX11_trial_159 : decode cX11_trial 159 = .ok (.iconst 1, 1) := by decide +kernel
theorem dX11_trial_160 : decode cX11_trial 160 = .ok (.isub, 1) := by decide +kernel
theorem dX11_trial_161 : decode cX11_trial 161 = .ok (.ireturn, 1) := by decide +kernel
theorem dX11_untell_0 : decode cX11_untell 0 = .ok (.iload_n 1, 1) := by decide +kernel
theorem dX11_untell_1 : decode cX11_untell 1 = .ok (.iconst 0, 1) := by decide +kernel
theorem dX11_untell_2 : decode cX11_untell 2 = .ok (.aload_n 0, 1) := by decide +kernel
theorem dX11_untell_3 : decode cX11_untell 3 = .ok (.getfield 401, 3) := by decide +kernel
theorem dX11_untell_6 : decode cX11_untell 6 = .ok (.iconst 1, 1) := by decide +kernel
theorem dX11_untell_7 : decode cX11_untell 7 = .ok (.isub, 1) := by decide +kernel
theorem dX11_untell_8 : decode cX11_untell 8 = .ok (.invokestatic 387, 3) := by decide +kernel
theorem dX11_untell_11 : decode cX11_untell 11 = .ok (.ifCond .eq 12, 3) := by decide +kernel
theorem dX11_untell_14 : decode cX11_untell 14 = .ok (.aload_n 0, 1) := by decide +kernel
theorem dX11_untell_15 : decode cX11_untell 15 = .ok (.getfield 140, 3) := by decide +kernel
theorem dX11_untell_18 : decode cX11_untell 18 = .ok (.iload_n 1, 1) := by decide +kernel
theorem dX11_untell_19 : decode cX11_untell 19 = .ok (.iaload, 1) := by decide +kernel
theorem dX11_untell_20 : decode cX11_untell 20 = .ok (.ifCond .lt 5, 3) := by decide +kernel
theorem dX11_untell_23 : decode cX11_untell 23 = .ok (.iconst 0, 1) := by decide +kernel
theorem dX11_untell_24 : decode cX11_untell 24 = .ok (.ireturn, 1) := by decide +kernel
theorem dX11_untell_25 : decode cX11_untell 25 = .ok (.aload_n 0, 1) := by decide +kernel
theorem dX11_untell_26 : decode cX11_untell 26 = .ok (.getfield 140, 3) := by decide +kernel
theorem dX11_untell_29 : decode cX11_untell 29 = .ok (.iload_n 1, 1) := by decide +kernel
theorem dX11_untell_30 : decode cX11_untell 30 = .ok (.aload_n 0, 1) := by decide +kernel
theorem dX11_untell_31 : decode cX11_untell 31 = .ok (.getfield 501, 3) := by decide +kernel
theorem dX11_untell_34 : decode cX11_untell 34 = .ok (.iastore, 1) := by decide +kernel
theorem dX11_untell_35 : decode cX11_untell 35 = .ok (.iconst 1, 1) := by decide +kernel
theorem dX11_untell_36 : decode cX11_untell 36 = .ok (.ireturn, 1) := by decide +kernel
theorem dX11_likingsMany_0 : decode cX11_likingsMany 0 = .ok (.iconst 1, 1) := by decide +kernel
theorem dX11_likingsMany_1 : decode cX11_likingsMany 1 = .ok (.istore_n 1, 1) := by decide +kernel
theorem dX11_likingsMany_2 : decode cX11_likingsMany 2 = .ok (.iconst 0, 1) := by decide +kernel
theorem dX11_likingsMany_3 : decode cX11_likingsMany 3 = .ok (.istore_n 2, 1) := by decide +kernel
theorem dX11_likingsMany_4 : decode cX11_likingsMany 4 = .ok (.iload_n 2, 1) := by decide +kernel
theorem dX11_likingsMany_5 : decode cX11_likingsMany 5 = .ok (.aload_n 0, 1) := by decide +kernel
theorem dX11_likingsMany_6 : decode cX11_likingsMany 6 = .ok (.getfield 20, 3) := by decide +kernel
theorem dX11_likingsMany_9 : decode cX11_likingsMany 9 = .ok (.aload_n 0, 1) := by decide +kernel
theorem dX11_likingsMany_10 : decode cX11_likingsMany 10 = .ok (.getfield 273, 3) := by decide +kernel
theorem dX11_likingsMany_13 : decode cX11_likingsMany 13 = .ok (.iaload, 1) := by decide +kernel
theorem dX11_likingsMany_14 : decode cX11_likingsMany 14 = .ok (.if_icmp .ge 14, 3) := by decide +kernel
theorem dX11_likingsMany_17 : decode cX11_likingsMany 17 = .ok (.iload_n 1, 1) := by decide +kernel
theorem dX11_likingsMany_18 : decode cX11_likingsMany 18 = .ok (.bipush 6, 2) := by decide +kernel
theorem dX11_likingsMany_20 : decode cX11_likingsMany 20 = .ok (.imul, 1) := by decide +kernel
theorem dX11_likingsMany_21 : decode cX11_likingsMany 21 = .ok (.istore_n 1, 1) := by decide +kernel
theorem dX11_likingsMany_22 : decode cX11_likingsMany 22 = .ok (.iinc 2 1, 3) := by decide +kernel
theorem dX11_likingsMany_25 : decode cX11_likingsMany 25 = .ok (.goto (-21), 3) := by decide +kernel
theorem dX11_likingsMany_28 : decode cX11_likingsMany 28 = .ok (.iload_n 1, 1) := by decide +kernel
theorem dX11_likingsMany_29 : decode cX11_likingsMany 29 = .ok (.ireturn, 1) := by decide +kernel
theorem dX11_likingOf_0 : decode cX11_likingOf 0 = .ok (.iload_n 0, 1) := by decide +kernel
theorem dX11_likingOf_1 : decode cX11_likingOf 1 = .ok (.istore_n 2, 1) := by decide +kernel
theorem dX11_likingOf_2 : decode cX11_likingOf 2 = .ok (.iconst 0, 1) := by decide +kernel
theorem dX11_likingOf_3 : decode cX11_likingOf 3 = .ok (.istore_n 3, 1) := by decide +kernel
theorem dX11_likingOf_4 : decode cX11_likingOf 4 = .ok (.iload_n 3, 1) := by decide +kernel
theorem dX11_likingOf_5 : decode cX11_likingOf 5 = .ok (.iload_n 1, 1) := by decide +kernel
theorem dX11_likingOf_6 : decode cX11_likingOf 6 = .ok (.if_icmp .ge 14, 3) := by decide +kernel
theorem dX11_likingOf_9 : decode cX11_likingOf 9 = .ok (.iload_n 2, 1) := by decide +kernel
theorem dX11_likingOf_10 : decode cX11_likingOf 10 = .ok (.bipush 6, 2) := by decide +kernel
theorem dX11_likingOf_12 : decode cX11_likingOf 12 = .ok (.idiv, 1) := by decide +kernel
theorem dX11_likingOf_13 : decode cX11_likingOf 13 = .ok (.istore_n 2, 1) := by decide +kernel
theorem dX11_likingOf_14 : decode cX11_likingOf 14 = .ok (.iinc 3 1, 3) := by decide +kernel
theorem dX11_likingOf_17 : decode cX11_likingOf 17 = .ok (.goto (-13), 3) := by decide +kernel
theorem dX11_likingOf_20 : decode cX11_likingOf 20 = .ok (.iload_n 2, 1) := by decide +kernel
theorem dX11_likingOf_21 : decode cX11_likingOf 21 = .ok (.bipush 6, 2) := by decide +kernel
theorem dX11_likingOf_23 : decode cX11_likingOf 23 = .ok (.irem, 1) := by decide +kernel
theorem dX11_likingOf_24 : decode cX11_likingOf 24 = .ok (.ireturn, 1) := by decide +kernel
theorem dX11_doesFit_0 : decode cX11_doesFit 0 = .ok (.iconst 0, 1) := by decide +kernel
theorem dX11_doesFit_1 : decode cX11_doesFit 1 = .ok (.istore_n 3, 1) := by decide +kernel
theorem dX11_doesFit_2 : decode cX11_doesFit 2 = .ok (.iload_n 3, 1) := by decide +kernel
theorem dX11_doesFit_3 : decode cX11_doesFit 3 = .ok (.aload_n 0, 1) := by decide +kernel
theorem dX11_doesFit_4 : decode cX11_doesFit 4 = .ok (.getfield 401, 3) := by decide +kernel
theorem dX11_doesFit_7 : decode cX11_doesFit 7 = .ok (.if_icmp .ge 121, 3) := by decide +kernel
theorem dX11_doesFit_10 : decode cX11_doesFit 10 = .ok (.aload_n 0, 1) := by decide +kernel
theorem dX11_doesFit_11 : decode cX11_doesFit 11 = .ok (.getfield 137, 3) := by decide +kernel
theorem dX11_doesFit_14 : decode cX11_doesFit 14 = .ok (.iload_n 3, 1) := by decide +kernel
theorem dX11_doesFit_15 : decode cX11_doesFit 15 = .ok (.iaload, 1) := by decide +kernel
theorem dX11_doesFit_16 : decode cX11_doesFit 16 = .ok (.iload_n 2, 1) := by decide +kernel
theorem dX11_doesFit_17 : decode cX11_doesFit 17 = .ok (.if_icmp .gt 105, 3) := by decide +kernel
theorem dX11_doesFit_20 : decode cX11_doesFit 20 = .ok (.aload_n 0, 1) := by decide +kernel
theorem dX11_doesFit_21 : decode cX11_doesFit 21 = .ok (.getfield 140, 3) := by decide +kernel
theorem dX11_doesFit_24 : decode cX11_doesFit 24 = .ok (.iload_n 3, 1) := by decide +kernel
theorem dX11_doesFit_25 : decode cX11_doesFit 25 = .ok (.iaload, 1) := by decide +kernel
theorem dX11_doesFit_26 : decode cX11_doesFit 26 = .ok (.ifCond .lt 16, 3) := by decide +kernel
theorem dX11_doesFit_29 : decode cX11_doesFit 29 = .ok (.aload_n 0, 1) := by decide +kernel
theorem dX11_doesFit_30 : decode cX11_doesFit 30 = .ok (.getfield 140, 3) := by decide +kernel
theorem dX11_doesFit_33 : decode cX11_doesFit 33 = .ok (.iload_n 3, 1) := by decide +kernel
theorem dX11_doesFit_34 : decode cX11_doesFit 34 = .ok (.iaload, 1) := by decide +kernel
theorem dX11_doesFit_35 : decode cX11_doesFit 35 = .ok (.iload_n 2, 1) := by decide +kernel
theorem dX11_doesFit_36 : decode cX11_doesFit 36 = .ok (.if_icmp .gt 6, 3) := by decide +kernel
theorem dX11_doesFit_39 : decode cX11_doesFit 39 = .ok (.goto 83, 3) := by decide +kernel
theorem dX11_doesFit_42 : decode cX11_doesFit 42 = .ok (.iconst 0, 1) := by decide +kernel
theorem dX11_doesFit_43 : decode cX11_doesFit 43 = .ok (.istore 4, 2) := by decide +kernel
theorem dX11_doesFit_45 : decode cX11_doesFit 45 = .ok (.iconst 0, 1) := by decide +kernel
theorem dX11_doesFit_46 : decode cX11_doesFit 46 = .ok (.istore 5, 2) := by decide +kernel
theorem dX11_doesFit_48 : decode cX11_doesFit 48 = .ok (.iload 5, 2) := by decide +kernel
theorem dX11_doesFit_50 : decode cX11_doesFit 50 = .ok (.aload_n 0, 1) := by decide +kernel
theorem dX11_doesFit_51 : decode cX11_doesFit 51 = .ok (.getfield 20, 3) := by decide +kernel
theorem dX11_doesFit_54 : decode cX11_doesFit 54 = .ok (.aload_n 0, 1) := by decide +kernel
theorem dX11_doesFit_55 : decode cX11_doesFit 55 = .ok (.getfield 273, 3) := by decide +kernel
theorem dX11_doesFit_58 : decode cX11_doesFit 58 = .ok (.iaload, 1) := by decide +kernel
theorem dX11_doesFit_59 : decode cX11_doesFit 59 = .ok (.if_icmp .ge 32, 3) := by decide +kernel
theorem dX11_doesFit_62 : decode cX11_doesFit 62 = .ok (.iload 4, 2) := by decide +kernel
theorem dX11_doesFit_64 : decode cX11_doesFit 64 = .ok (.aload_n 0, 1) := by decide +kernel
theorem dX11_doesFit_65 : decode cX11_doesFit 65 = .ok (.getfield 128, 3) := by decide +kernel
theorem dX11_doesFit_68 : decode cX11_doesFit 68 = .ok (.iconst 3, 1) := by decide +kernel
theorem dX11_doesFit_69 : decode cX11_doesFit 69 = .ok (.iload_n 3, 1) := by decide +kernel
theorem dX11_doesFit_70 : decode cX11_doesFit 70 = .ok (.imul, 1) := by decide +kernel
theorem dX11_doesFit_71 : decode cX11_doesFit 71 = .ok (.iload 5, 2) := by decide +kernel
theorem dX11_doesFit_73 : decode cX11_doesFit 73 = .ok (.iadd, 1) := by decide +kernel
theorem dX11_doesFit_74 : decode cX11_doesFit 74 = .ok (.iaload, 1) := by decide +kernel
theorem dX11_doesFit_75 : decode cX11_doesFit 75 = .ok (.iload_n 1, 1) := by decide +kernel
theorem dX11_doesFit_76 : decode cX11_doesFit 76 = .ok (.iload 5, 2) := by decide +kernel
theorem dX11_doesFit_78 : decode cX11_doesFit 78 = .ok (.invokestatic 505, 3) := by decide +kernel
theorem dX11_doesFit_81 : decode cX11_doesFit 81 = .ok (.imul, 1) := by decide +kernel
theorem dX11_doesFit_82 : decode cX11_doesFit 82 = .ok (.iadd, 1) := by decide +kernel
theorem dX11_doesFit_83 : decode cX11_doesFit 83 = .ok (.istore 4, 2) := by decide +kernel
theorem dX11_doesFit_85 : decode cX11_doesFit 85 = .ok (.iinc 5 1, 3) := by decide +kernel
theorem dX11_doesFit_88 : decode cX11_doesFit 88 = .ok (.goto (-40), 3) := by decide +kernel
theorem dX11_doesFit_91 : decode cX11_doesFit 91 = .ok (.iload 4, 2) := by decide +kernel
theorem dX11_doesFit_93 : decode cX11_doesFit 93 = .ok (.aload_n 0, 1) := by decide +kernel
theorem dX11_doesFit_94 : decode cX11_doesFit 94 = .ok (.getfield 131, 3) := by decide +kernel
theorem dX11_doesFit_97 : decode cX11_doesFit 97 = .ok (.iload_n 3, 1) := by decide +kernel
theorem dX11_doesFit_98 : decode cX11_doesFit 98 = .ok (.iaload, 1) := by decide +kernel
theorem dX11_doesFit_99 : decode cX11_doesFit 99 = .ok (.if_icmp .lt 7, 3) := by decide +kernel
theorem dX11_doesFit_102 : decode cX11_doesFit 102 = .ok (.iconst 1, 1) := by decide +kernel
theorem dX11_doesFit_103 : decode cX11_doesFit 103 = .ok (.goto 4, 3) := by decide +kernel
theorem dX11_doesFit_106 : decode cX11_doesFit 106 = .ok (.iconst 0, 1) := by decide +kernel
theorem dX11_doesFit_107 : decode cX11_doesFit 107 = .ok (.istore 5, 2) := by decide +kernel
theorem dX11_doesFit_109 : decode cX11_doesFit 109 = .ok (.iload 5, 2) := by decide +kernel
theorem dX11_doesFit_111 : decode cX11_doesFit 111 = .ok (.aload_n 0, 1) := by decide +kernel
theorem dX11_doesFit_112 : decode cX11_doesFit 112 = .ok (.getfield 134, 3) := by decide +kernel
theorem dX11_doesFit_115 : decode cX11_doesFit 115 = .ok (.iload_n 3, 1) := by decide +kernel
theorem dX11_doesFit_116 : decode cX11_doesFit 116 = .ok (.iaload, 1) := by decide +kernel
theorem dX11_doesFit_117 : decode cX11_doesFit 117 = .ok (.if_icmp .eq 5, 3) := by decide +kernel
theorem dX11_doesFit_120 : decode cX11_doesFit 120 = .ok (.iconst 0, 1) := by decide +kernel
theorem dX11_doesFit_121 : decode cX11_doesFit 121 = .ok (.ireturn, 1) := by decide +kernel
theorem dX11_doesFit_122 : decode cX11_doesFit 122 = .ok (.iinc 3 1, 3) := by decide +kernel
theorem dX11_doesFit_125 : decode cX11_doesFit 125 = .ok (.goto (-123), 3) := by decide +kernel
theorem dX11_doesFit_128 : decode cX11_doesFit 128 = .ok (.iconst 1, 1) := by decide +kernel
theorem dX11_doesFit_129 : decode cX11_doesFit 129 = .ok (.ireturn, 1) := by decide +kernel
theorem dX11_fit_0 : decode cX11_fit 0 = .ok (.iconst 0, 1) := by decide +kernel
theorem dX11_fit_1 : decode cX11_fit 1 = .ok (.istore_n 2, 1) := by decide +kernel
theorem dX11_fit_2 : decode cX11_fit 2 = .ok (.iconst 0, 1) := by decide +kernel
theorem dX11_fit_3 : decode cX11_fit 3 = .ok (.istore_n 3, 1) := by decide +kernel
theorem dX11_fit_4 : decode cX11_fit 4 = .ok (.iload_n 3, 1) := by decide +kernel
theorem dX11_fit_5 : decode cX11_fit 5 = .ok (.aload_n 0, 1) := by decide +kernel
theorem dX11_fit_6 : decode cX11_fit 6 = .ok (.invokevirtual 508, 3) := by decide +kernel
theorem dX11_fit_9 : decode cX11_fit 9 = .ok (.if_icmp .ge 26, 3) := by decide +kernel
theorem dX11_fit_12 : decode cX11_fit 12 = .ok (.iload_n 2, 1) := by decide +kernel
theorem dX11_fit_13 : decode cX11_fit 13 = .ok (.aload_n 0, 1) := by decide +kernel
theorem dX11_fit_14 : decode cX11_fit 14 = .ok (.iload_n 3, 1) := by decide +kernel
theorem dX11_fit_15 : decode cX11_fit 15 = .ok (.iload_n 1, 1) := by decide +kernel
theorem dX11_fit_16 : decode cX11_fit 16 = .ok (.invokevirtual 511, 3) := by decide +kernel
theorem dX11_fit_19 : decode cX11_fit 19 = .ok (.ifCond .eq 7, 3) := by decide +kernel
theorem dX11_fit_22 : decode cX11_fit 22 = .ok (.iconst 1, 1) := by decide +kernel
theorem dX11_fit_23 : decode cX11_fit 23 = .ok (.goto 4, 3) := by decide +kernel
theorem dX11_fit_26 : decode cX11_fit 26 = .ok (.iconst 0, 1) := by decide +kernel
theorem dX11_fit_27 : decode cX11_fit 27 = .ok (.iadd, 1) := by decide +kernel
theorem dX11_fit_28 : decode cX11_fit 28 = .ok (.istore_n 2, 1) := by decide +kernel
theorem dX11_fit_29 : decode cX11_fit 29 = .ok (.iinc 3 1, 3) := by decide +kernel
theorem dX11_fit_32 : decode cX11_fit 32 = .ok (.goto (-28), 3) := by decide +kernel
theorem dX11_fit_35 : decode cX11_fit 35 = .ok (.iload_n 2, 1) := by decide +kernel
theorem dX11_fit_36 : decode cX11_fit 36 = .ok (.ireturn, 1) := by decide +kernel
theorem dX11_sure_0 : decode cX11_sure 0 = .ok (.aload_n 0, 1) := by decide +kernel
theorem dX11_sure_1 : decode cX11_sure 1 = .ok (.iload_n 1, 1) := by decide +kernel
theorem dX11_sure_2 : decode cX11_sure 2 = .ok (.invokevirtual 437, 3) := by decide +kernel
theorem dX11_sure_5 : decode cX11_sure 5 = .ok (.ifCond .ne 5, 3) := by decide +kernel
theorem dX11_sure_8 : decode cX11_sure 8 = .ok (.iconst (-1), 1) := by decide +kernel
theorem dX11_sure_9 : decode cX11_sure 9 = .ok (.ireturn, 1) := by decide +kernel
theorem dX11_sure_10 : decode cX11_sure 10 = .ok (.iconst (-1), 1) := by decide +kernel
theorem dX11_sure_11 : decode cX11_sure 11 = .ok (.istore_n 3, 1) := by decide +kernel
theorem dX11_sure_12 : decode cX11_sure 12 = .ok (.iconst 0, 1) := by decide +kernel
theorem dX11_sure_13 : decode cX11_sure 13 = .ok (.istore 4, 2) := by decide +kernel
theorem dX11_sure_15 : decode cX11_sure 15 = .ok (.iload 4, 2) := by decide +kernel
theorem dX11_sure_17 : decode cX11_sure 17 = .ok (.aload_n 0, 1) := by decide +kernel
theorem dX11_sure_18 : decode cX11_sure 18 = .ok (.invokevirtual 508, 3) := by decide +kernel
theorem dX11_sure_21 : decode cX11_sure 21 = .ok (.if_icmp .ge 46, 3) := by decide +kernel
theorem dX11_sure_24 : decode cX11_sure 24 = .ok (.aload_n 0, 1) := by decide +kernel
theorem dX11_sure_25 : decode cX11_sure 25 = .ok (.iload 4, 2) := by decide +kernel
theorem dX11_sure_27 : decode cX11_sure 27 = .ok (.iload_n 2, 1) := by decide +kernel
theorem dX11_sure_28 : decode cX11_sure 28 = .ok (.invokevirtual 511, 3) := by decide +kernel
theorem dX11_sure_31 : decode cX11_sure 31 = .ok (.ifCond .ne 6, 3) := by decide +kernel
theorem dX11_sure_34 : decode cX11_sure 34 = .ok (.goto 27, 3) := by decide +kernel
theorem dX11_sure_37 : decode cX11_sure 37 = .ok (.iload_n 3, 1) := by decide +kernel
theorem dX11_sure_38 : decode cX11_sure 38 = .ok (.ifCond .lt 16, 3) := by decide +kernel
theorem dX11_sure_41 : decode cX11_sure 41 = .ok (.iload_n 3, 1) := by decide +kernel
theorem dX11_sure_42 : decode cX11_sure 42 = .ok (.iload 4, 2) := by decide +kernel
theorem dX11_sure_44 : decode cX11_sure 44 = .ok (.iload_n 1, 1) := by decide +kernel
theorem dX11_sure_45 : decode cX11_sure 45 = .ok (.invokestatic 505, 3) := by decide +kernel
theorem dX11_sure_48 : decode cX11_sure 48 = .ok (.if_icmp .eq 6, 3) := by decide +kernel
theorem dX11_sure_51 : decode cX11_sure 51 = .ok (.bipush (-2), 2) := by decide +kernel
theorem dX11_sure_53 : decode cX11_sure 53 = .ok (.ireturn, 1) := by decide +kernel
theorem dX11_sure_54 : decode cX11_sure 54 = .ok (.iload 4, 2) := by decide +kernel
theorem dX11_sure_56 : decode cX11_sure 56 = .ok (.iload_n 1, 1) := by decide +kernel
theorem dX11_sure_57 : decode cX11_sure 57 = .ok (.invokestatic 505, 3) := by decide +kernel
theorem dX11_sure_60 : decode cX11_sure 60 = .ok (.istore_n 3, 1) := by decide +kernel
theorem dX11_sure_61 : decode cX11_sure 61 = .ok (.iinc 4 1, 3) := by decide +kernel
theorem dX11_sure_64 : decode cX11_sure 64 = .ok (.goto (-49), 3) := by decide +kernel
theorem dX11_sure_67 : decode cX11_sure 67 = .ok (.iload_n 3, 1) := by decide +kernel
theorem dX11_sure_68 : decode cX11_sure 68 = .ok (.ireturn, 1) := by decide +kernel
theorem dX11_fullBy_0 : decode cX11_fullBy 0 = .ok (.iconst 0, 1) := by decide +kernel
theorem dX11_fullBy_1 : decode cX11_fullBy 1 = .ok (.istore 5, 2) := by decide +kernel
theorem dX11_fullBy_3 : decode cX11_fullBy 3 = .ok (.iconst 0, 1) := by decide +kernel
theorem dX11_fullBy_4 : decode cX11_fullBy 4 = .ok (.istore 6, 2) := by decide +kernel
theorem dX11_fullBy_6 : decode cX11_fullBy 6 = .ok (.iload 6, 2) := by decide +kernel
theorem dX11_fullBy_8 : decode cX11_fullBy 8 = .ok (.aload_n 0, 1) := by decide +kernel
theorem dX11_fullBy_9 : decode cX11_fullBy 9 = .ok (.invokevirtual 508, 3) := by decide +kernel
theorem dX11_fullBy_12 : decode cX11_fullBy 12 = .ok (.if_icmp .ge 35, 3) := by decide +kernel
theorem dX11_fullBy_15 : decode cX11_fullBy 15 = .ok (.aload_n 0, 1) := by decide +kernel
theorem dX11_fullBy_16 : decode cX11_fullBy 16 = .ok (.iload 6, 2) := by decide +kernel
theorem dX11_fullBy_18 : decode cX11_fullBy 18 = .ok (.iload 4, 2) := by decide +kernel
theorem dX11_fullBy_20 : decode cX11_fullBy 20 = .ok (.invokevirtual 511, 3) := by decide +kernel
theorem dX11_fullBy_23 : decode cX11_fullBy 23 = .ok (.ifCond .eq 18, 3) := by decide +kernel
theorem dX11_fullBy_26 : decode cX11_fullBy 26 = .ok (.iload_n 2, 1) := by decide +kernel
theorem dX11_fullBy_27 : decode cX11_fullBy 27 = .ok (.iload 6, 2) := by decide +kernel
theorem dX11_fullBy_29 : decode cX11_fullBy 29 = .ok (.iload_n 1, 1) := by decide +kernel
theorem dX11_fullBy_30 : decode cX11_fullBy 30 = .ok (.invokestatic 505, 3) := by decide +kernel
theorem dX11_fullBy_33 : decode cX11_fullBy 33 = .ok (.imul, 1) := by decide +kernel
theorem dX11_fullBy_34 : decode cX11_fullBy 34 = .ok (.iload_n 3, 1) := by decide +kernel
theorem dX11_fullBy_35 : decode cX11_fullBy 35 = .ok (.if_icmp .lt 6, 3) := by decide +kernel
theorem dX11_fullBy_38 : decode cX11_fullBy 38 = .ok (.iinc 5 1, 3) := by decide +kernel
theorem dX11_fullBy_41 : decode cX11_fullBy 41 = .ok (.iinc 6 1, 3) := by decide +kernel
theorem dX11_fullBy_44 : decode cX11_fullBy 44 = .ok (.goto (-38), 3) := by decide +kernel
theorem dX11_fullBy_47 : decode cX11_fullBy 47 = .ok (.iload 5, 2) := by decide +kernel
theorem dX11_fullBy_49 : decode cX11_fullBy 49 = .ok (.ireturn, 1) := by decide +kernel
theorem dX11_ask_0 : decode cX11_ask 0 = .ok (.iload_n 1, 1) := by decide +kernel
theorem dX11_ask_1 : decode cX11_ask 1 = .ok (.iconst 1, 1) := by decide +kernel
theorem dX11_ask_2 : decode cX11_ask 2 = .ok (.bipush 99, 2) := by decide +kernel
theorem dX11_ask_4 : decode cX11_ask 4 = .ok (.invokestatic 387, 3) := by decide +kernel
theorem dX11_ask_7 : decode cX11_ask 7 = .ok (.ifCond .eq 12, 3) := by decide +kernel
theorem dX11_ask_10 : decode cX11_ask 10 = .ok (.iload_n 2, 1) := by decide +kernel
theorem dX11_ask_11 : decode cX11_ask 11 = .ok (.iconst 0, 1) := by decide +kernel
theorem dX11_ask_12 : decode cX11_ask 12 = .ok (.iconst 1, 1) := by decide +kernel
theorem dX11_ask_13 : decode cX11_ask 13 = .ok (.invokestatic 387, 3) := by decide +kernel
theorem dX11_ask_16 : decode cX11_ask 16 = .ok (.ifCond .ne 5, 3) := by decide +kernel
theorem dX11_ask_19 : decode cX11_ask 19 = .ok (.iconst (-1), 1) := by decide +kernel
theorem dX11_ask_20 : decode cX11_ask 20 = .ok (.ireturn, 1) := by decide +kernel
theorem dX11_ask_21 : decode cX11_ask 21 = .ok (.aload_n 0, 1) := by decide +kernel
theorem dX11_ask_22 : decode cX11_ask 22 = .ok (.iload_n 3, 1) := by decide +kernel
theorem dX11_ask_23 : decode cX11_ask 23 = .ok (.invokevirtual 514, 3) := by decide +kernel
theorem dX11_ask_26 : decode cX11_ask 26 = .ok (.istore 4, 2) := by decide +kernel
theorem dX11_ask_28 : decode cX11_ask 28 = .ok (.iload 4, 2) := by decide +kernel
theorem dX11_ask_30 : decode cX11_ask 30 = .ok (.ifCond .ne 5, 3) := by decide +kernel
theorem dX11_ask_33 : decode cX11_ask 33 = .ok (.iconst (-1), 1) := by decide +kernel
theorem dX11_ask_34 : decode cX11_ask 34 = .ok (.ireturn, 1) := by decide +kernel
theorem dX11_ask_35 : decode cX11_ask 35 = .ok (.iconst (-1), 1) := by decide +kernel
theorem dX11_ask_36 : decode cX11_ask 36 = .ok (.istore 5, 2) := by decide +kernel
theorem dX11_ask_38 : decode cX11_ask 38 = .ok (.iconst 0, 1) := by decide +kernel
theorem dX11_ask_39 : decode cX11_ask 39 = .ok (.istore 6, 2) := by decide +kernel
theorem dX11_ask_41 : decode cX11_ask 41 = .ok (.iconst 0, 1) := by decide +kernel
theorem dX11_ask_42 : decode cX11_ask 42 = .ok (.istore 7, 2) := by decide +kernel
theorem dX11_ask_44 : decode cX11_ask 44 = .ok (.iload 7, 2) := by decide +kernel
theorem dX11_ask_46 : decode cX11_ask 46 = .ok (.aload_n 0, 1) := by decide +kernel
theorem dX11_ask_47 : decode cX11_ask 47 = .ok (.getfield 20, 3) := by decide +kernel
theorem dX11_ask_50 : decode cX11_ask 50 = .ok (.aload_n 0, 1) := by decide +kernel
theorem dX11_ask_51 : decode cX11_ask 51 = .ok (.getfield 273, 3) := by decide +kernel
theorem dX11_ask_54 : decode cX11_ask 54 = .ok (.iaload, 1) := by decide +kernel
theorem dX11_ask_55 : decode cX11_ask 55 = .ok (.if_icmp .ge 88, 3) := by decide +kernel
theorem dX11_ask_58 : decode cX11_ask 58 = .ok (.iconst 1, 1) := by decide +kernel
theorem dX11_ask_59 : decode cX11_ask 59 = .ok (.istore 8, 2) := by decide +kernel
theorem dX11_ask_61 : decode cX11_ask 61 = .ok (.iload 8, 2) := by decide +kernel
theorem dX11_ask_63 : decode cX11_ask 63 = .ok (.bipush 9, 2) := by decide +kernel
theorem dX11_ask_65 : decode cX11_ask 65 = .ok (.if_icmp .gt 72, 3) := by decide +kernel
theorem dX11_ask_68 : decode cX11_ask 68 = .ok (.aload_n 0, 1) := by decide +kernel
theorem dX11_ask_69 : decode cX11_ask 69 = .ok (.iload 7, 2) := by decide +kernel
theorem dX11_ask_71 : decode cX11_ask 71 = .ok (.iload 8, 2) := by decide +kernel
theorem dX11_ask_73 : decode cX11_ask 73 = .ok (.iload_n 1, 1) := by decide +kernel
theorem dX11_ask_74 : decode cX11_ask 74 = .ok (.iload_n 3, 1) := by decide +kernel
theorem dX11_ask_75 : decode cX11_ask 75 = .ok (.invokevirtual 517, 3) := by decide +kernel
theorem dX11_ask_78 : decode cX11_ask 78 = .ok (.istore 9, 2) := by decide +kernel
theorem dX11_ask_80 : decode cX11_ask 80 = .ok (.iload 9, 2) := by decide +kernel
theorem dX11_ask_82 : decode cX11_ask 82 = .ok (.iload 4, 2) := by decide +kernel
theorem dX11_ask_84 : decode cX11_ask 84 = .ok (.iload 9, 2) := by decide +kernel
theorem dX11_ask_86 : decode cX11_ask 86 = .ok (.isub, 1) := by decide +kernel
theorem dX11_ask_87 : decode cX11_ask 87 = .ok (.if_icmp .le 8, 3) := by decide +kernel
theorem dX11_ask_90 : decode cX11_ask 90 = .ok (.iload 9, 2) := by decide +kernel
theorem dX11_ask_92 : decode cX11_ask 92 = .ok (.goto 8, 3) := by decide +kernel
theorem dX11_ask_95 : decode cX11_ask 95 = .ok (.iload 4, 2) := by decide +kernel
theorem dX11_ask_97 : decode cX11_ask 97 = .ok (.iload 9, 2) := by decide +kernel
theorem dX11_ask_99 : decode cX11_ask 99 = .ok (.isub, 1) := by decide +kernel
theorem dX11_ask_100 : decode cX11_ask 100 = .ok (.istore 10, 2) := by decide +kernel
theorem dX11_ask_102 : decode cX11_ask 102 = .ok (.iload 5, 2) := by decide +kernel
theorem dX11_ask_104 : decode cX11_ask 104 = .ok (.ifCond .lt 13, 3) := by decide +kernel
theorem dX11_ask_107 : decode cX11_ask 107 = .ok (.iload 10, 2) := by decide +kernel
theorem dX11_ask_109 : decode cX11_ask 109 = .ok (.iload 6, 2) := by decide +kernel
theorem dX11_ask_111 : decode cX11_ask 111 = .ok (.if_icmp .lt 6, 3) := by decide +kernel
theorem dX11_ask_114 : decode cX11_ask 114 = .ok (.goto 17, 3) := by decide +kernel
theorem dX11_ask_117 : decode cX11_ask 117 = .ok (.bipush 10, 2) := by decide +kernel
theorem dX11_ask_119 : decode cX11_ask 119 = .ok (.iload 7, 2) := by decide +kernel
theorem dX11_ask_121 : decode cX11_ask 121 = .ok (.imul, 1) := by decide +kernel
theorem dX11_ask_122 : decode cX11_ask 122 = .ok (.iload 8, 2) := by decide +kernel
theorem dX11_ask_124 : decode cX11_ask 124 = .ok (.iadd, 1) := by decide +kernel
theorem dX11_ask_125 : decode cX11_ask 125 = .ok (.istore 5, 2) := by decide +kernel
theorem dX11_ask_127 : decode cX11_ask 127 = .ok (.iload 10, 2) := by decide +kernel
theorem dX11_ask_129 : decode cX11_ask 129 = .ok (.istore 6, 2) := by decide +kernel
theorem dX11_ask_131 : decode cX11_ask 131 = .ok (.iinc 8 1, 3) := by decide +kernel
theorem dX11_ask_134 : decode cX11_ask 134 = .ok (.goto (-73), 3) := by decide +kernel
theorem dX11_ask_137 : decode cX11_ask 137 = .ok (.iinc 7 1, 3) := by decide +kernel
theorem dX11_ask_140 : decode cX11_ask 140 = .ok (.goto (-96), 3) := by decide +kernel
theorem dX11_ask_143 : decode cX11_ask 143 = .ok (.iload 5, 2) := by decide +kernel
theorem dX11_ask_145 : decode cX11_ask 145 = .ok (.ifCond .ge 7, 3) := by decide +kernel
theorem dX11_ask_148 : decode cX11_ask 148 = .ok (.iconst (-1), 1) := by decide +kernel
theorem dX11_ask_149 : decode cX11_ask 149 = .ok (.goto 14, 3) := by decide +kernel
theorem dX11_ask_152 : decode cX11_ask 152 = .ok (.iload_n 2, 1) := by decide +kernel
theorem dX11_ask_153 : decode cX11_ask 153 = .ok (.ifCond .ne 8, 3) := by decide +kernel
theorem dX11_ask_156 : decode cX11_ask 156 = .ok (.iload 5, 2) := by decide +kernel
theorem dX11_ask_158 : decode cX11_ask 158 = .ok (.goto 5, 3) := by decide +kernel
theorem dX11_ask_161 : decode cX11_ask 161 = .ok (.iload 6, 2) := by decide +kernel
theorem dX11_ask_163 : decode cX11_ask 163 = .ok (.ireturn, 1) := by decide +kernel
set_option maxRecDepth 100000 in
theorem m_X11_drawerIn (l : Launch) (D : va_G) (cT : Nat → ClassId) (T : Nat → Option Nat) (q : Nat → Int) (hq : qkm q) (a0 : Nat) (t0 : T a0 = some 0) (y1 : Int32) (j1 : IV y1 (-2147483648) 2147483647) (y2 : Int32) (j2 : IV y2 1 4) (y3 : Int32) (j3 : IV y3 0 3) : th_Met l D cT T (km q) yX11_drawerIn cX11_drawerIn 6 (some .int) (rmk 1 20) [.ref a0, .int y1, .int y2, .int y3] (th_R T (some (.inl (-3, 3)))) [] := by
  refine th_start (by decide) (Nat.le_of_ble_eq_true rfl) ?_
  intro p e s m below meth c ls S hK hH hr hlocks hnm hl
  have hx := S.1
  have hb := S.2.1
  have l1y2 := j2.1; have l2y2 := j2.2
  have l1y3 := j3.1; have l2y3 := j3.2
  have hl : lv_has ls 6 [(0, .ref a0), (1, .int y1), (2, .int y2), (3, .int y3)] := hl
  have J11 : ∀ (n : Nat) (H : Heap) (locs : List Loc) (ls : Array Slot) (v11_4 : Int32) (v11_5 : Int32), IV v11_4 (-2147483648) 2147483647 → IV v11_5 (-1) 3 → th_H D cT T (km q) H → va_S (th_A T []) s.heap H locs → lv_has ls 6 [(2, .int y2), (3, .int y3), (4, .int v11_4), (5, .int v11_5)] → (Int32.toInt v11_5 + 1 - (-1)).toNat < n → W p l e (rmk 1 20) s m [.ref a0, .int y1, .int y2, .int y3].toArray below meth c H locs 0 0 (MQ below (th_Q D cT T (km q) (th_R T (some (.inl (-3, 3)))) []) [.ref a0, .int y1, .int y2, .int y3].toArray s 0 0 (th_A T [])) (F0 m 11 ls []) := by
    intro n
    induction n with
    | zero => intro H locs ls v11_4 v11_5 iv11_4 iv11_5 hH hS hl hn; exact absurd hn (Nat.not_lt_zero _)
    | succ n ih11 =>
      intro H locs ls v11_4 v11_5 iv11_4 iv11_5 hH hS hl hn11
      have l1v11_5 := iv11_5.1; have l2v11_5 := iv11_5.2
      refine lv_iload hx hb dX11_drawerIn_11 (lv_at hl 3 rfl) ?_
      refine lv_iload_n hx hb dX11_drawerIn_13 rfl (lv_at hl 1 rfl) ?_
      refine lv_icmp_le (tgt := 29) hx hb dX11_drawerIn_14 (by decide) (fun c1 => ?_) (fun c1 => ?_)
      · skip
        have rlc1 : v11_5.toInt ≤ y3.toInt := iv_le c1
        refine lv_iload hx hb dX11_drawerIn_29 (lv_at hl 2 rfl) ?_
        refine lv_iload_n hx hb dX11_drawerIn_31 rfl (lv_at hl 0 rfl) ?_
        refine lv_irem hx hb dX11_drawerIn_32 (iv_n0 j2 (by decide)) ?_
        refine lv_topi (fun x2 ex2 => ?_)
        have ix2 : IV x2 (-3) 3 := by rw [ex2]; exact iv_rmS j2 (by decide)
        exact th_iret S hK hH hS hr hlocks (th_R.i ix2) dX11_drawerIn_33
      · skip
        have rlc1 : y3.toInt < v11_5.toInt := iv_nle c1
        have ir3 : IV y3 0 2 := iv_uL j3 iv11_5 (iv_nle c1) (by decide)
        have ir3a := ir3.1; have ir3b := ir3.2
        have ir4 : IV v11_5 1 3 := iv_uR j3 iv11_5 (iv_nle c1) (by decide)
        have ir4a := ir4.1; have ir4b := ir4.2
        refine lv_iload hx hb dX11_drawerIn_17 (lv_at hl 2 rfl) ?_
        refine lv_iload_n hx hb dX11_drawerIn_19 rfl (lv_at hl 0 rfl) ?_
        refine lv_idiv hx hb dX11_drawerIn_20 (iv_n0 j2 (by decide)) ?_
        refine lv_topi (fun x5 ex5 => ?_)
        have ix5 := iv_top x5
        refine lv_istore (lv' := [(4, .int x5), (2, .int y2), (3, .int y3), (5, .int v11_5)]) hx hb dX11_drawerIn_21 hl (by decide) rfl (fun ls hl => ?_)
        refine th_iinc S dX11_drawerIn_23 hl (k := 3) rfl (by decide) ir4 (by decide) (fun x6 ls ex6 ix6 hl => ?_)
        have hl : lv_has ls 6 [(5, .int x6), (4, .int x5), (2, .int y2), (3, .int y3)] := hl
        have ix6 : IV x6 0 2 := ix6
        refine lv_goto (tgt := 11) hx hb dX11_drawerIn_26 (by decide) ?_
        exact ih11 H locs ls x5 x6 ix5 (iv_w ix6 (by decide)) hH hS (lv_sub hl [2, 3, 1, 0] rfl) (th_down iv11_5 ex6 (by decide) hn11)
  have J0 : ∀ (H : Heap) (locs : List Loc) (ls : Array Slot), th_H D cT T (km q) H → va_S (th_A T []) s.heap H locs → lv_has ls 6 [(0, .ref a0), (1, .int y1), (2, .int y2), (3, .int y3)] → W p l e (rmk 1 20) s m [.ref a0, .int y1, .int y2, .int y3].toArray below meth c H locs 0 0 (MQ below (th_Q D cT T (km q) (th_R T (some (.inl (-3, 3)))) []) [.ref a0, .int y1, .int y2, .int y3].toArray s 0 0 (th_A T [])) (F0 m 0 ls []) := by
    intro H locs ls hH hS hl
    refine lv_iload_n hx hb dX11_drawerIn_0 rfl (lv_at hl 1 rfl) ?_
    refine lv_istore (lv' := [(4, .int y1), (0, .ref a0), (1, .int y1), (2, .int y2), (3, .int y3)]) hx hb dX11_drawerIn_1 hl (by decide) rfl (fun ls hl => ?_)
    refine lv_aload_n hx hb dX11_drawerIn_3 rfl (lv_at hl 1 rfl) ?_
    refine th_callVp (n := 0) (As := []) S hK hH hS (th_A.sub (by decide)) (m_X11_many l D cT T q hq a0 t0) gm_1229 gm_1226 gm_1228 gm_46 gm_124 (by decide +kernel) ⟨rfl, rfl, Nat.le_of_ble_eq_true rfl, Nat.le_of_ble_eq_true rfl⟩ t0 km_0 rfl rfl hl.1 rfl (Nat.le_of_ble_eq_true rfl) dX11_drawerIn_4 ⟨Nat.zero_le _, Nat.zero_le _⟩ (fun x7 H locs ix7 ox7 hH hS hF1 => ?_)
    have ox7 : x7.toInt = q 11 := ox7
    refine lv_iconst (v := 1) hx hb dX11_drawerIn_7 (by decide) ?_
    refine lv_isub hx hb dX11_drawerIn_8 ?_
    refine lv_topi (fun x8 ex8 => ?_)
    have ix8 : IV x8 (-1) 3 := by rw [ex8]; exact iv_sub ix7 (iv_c (by decide) : IV 1 1 1) (by decide)
    have ux8 : x8.toInt = x7.toInt - (1 : Int) := by rw [ex8]; exact iv_subE (by have z1 := (ix7).1; have z2 := (ix7).2; have z3 := ((iv_c (by decide) : IV 1 1 1)).1; have z4 := ((iv_c (by decide) : IV 1 1 1)).2; omega)
    refine lv_istore (lv' := [(5, .int x8), (4, .int y1), (0, .ref a0), (1, .int y1), (2, .int y2), (3, .int y3)]) hx hb dX11_drawerIn_9 hl (by decide) rfl (fun ls hl => ?_)
    exact J11 ((Int32.toInt x8 + 1 - (-1)).toNat + 1) H locs ls y1 x8 j1 ix8 hH hS (lv_sub hl [4, 5, 1, 0] rfl) (Nat.lt_succ_self _)
  exact J0 s.heap [] ls hH va_S.rf hl

set_option maxRecDepth 100000 in
theorem m_X11_isParted (l : Launch) (D : va_G) (cT : Nat → ClassId) (T : Nat → Option Nat) (q : Nat → Int) (hq : qkm q) (a0 : Nat) (t0 : T a0 = some 0) (y1 : Int32) (j1 : IV y1 (-2147483648) 2147483647) (y2 : Int32) (j2 : IV y2 1 4) : th_Met l D cT T (km q) yX11_isParted cX11_isParted 5 (some .boolean) (rmk 2 45) [.ref a0, .int y1, .int y2] (th_R T (some (.inl (0, 1)))) [] := by
  refine th_start (by decide) (Nat.le_of_ble_eq_true rfl) ?_
  intro p e s m below meth c ls S hK hH hr hlocks hnm hl
  have hx := S.1
  have hb := S.2.1
  have l1y2 := j2.1; have l2y2 := j2.2
  have hl : lv_has ls 5 [(0, .ref a0), (1, .int y1), (2, .int y2)] := hl
  have J2 : ∀ (n : Nat) (H : Heap) (locs : List Loc) (ls : Array Slot) (v2_3 : Int32), IV v2_3 0 4 → th_H D cT T (km q) H → va_S (th_A T []) s.heap H locs → lv_has ls 5 [(0, .ref a0), (1, .int y1), (2, .int y2), (3, .int v2_3)] → (4 + 1 - Int32.toInt v2_3).toNat < n → W p l e (rmk 2 45) s m [.ref a0, .int y1, .int y2].toArray below meth c H locs 0 0 (MQ below (th_Q D cT T (km q) (th_R T (some (.inl (0, 1)))) []) [.ref a0, .int y1, .int y2].toArray s 0 0 (th_A T [])) (F0 m 2 ls []) := by
    intro n
    induction n with
    | zero => intro H locs ls v2_3 iv2_3 hH hS hl hn; exact absurd hn (Nat.not_lt_zero _)
    | succ n ih2 =>
      intro H locs ls v2_3 iv2_3 hH hS hl hn2
      have J13 : ∀ (n : Nat) (H : Heap) (locs : List Loc) (ls : Array Slot) (v13_4 : Int32), IV v13_4 0 3 → IV v2_3 0 3 → th_H D cT T (km q) H → va_S (th_A T []) s.heap H locs → lv_has ls 5 [(0, .ref a0), (1, .int y1), (2, .int y2), (3, .int v2_3), (4, .int v13_4)] → (3 + 1 - Int32.toInt v13_4).toNat < n → W p l e (rmk 2 45) s m [.ref a0, .int y1, .int y2].toArray below meth c H locs 0 0 (MQ below (th_Q D cT T (km q) (th_R T (some (.inl (0, 1)))) []) [.ref a0, .int y1, .int y2].toArray s 0 0 (th_A T [])) (F0 m 13 ls []) := by
        intro n
        induction n with
        | zero => intro H locs ls v13_4 iv13_4 f13_v2_3 hH hS hl hn; exact absurd hn (Nat.not_lt_zero _)
        | succ n ih13 =>
          intro H locs ls v13_4 iv13_4 f13_v2_3 hH hS hl hn13
          have J60 : ∀ (H : Heap) (locs : List Loc) (ls : Array Slot), IV v13_4 0 2 → IV v2_3 1 3 → th_H D cT T (km q) H → va_S (th_A T []) s.heap H locs → lv_has ls 5 [(0, .ref a0), (1, .int y1), (2, .int y2), (3, .int v2_3), (4, .int v13_4)] → W p l e (rmk 2 45) s m [.ref a0, .int y1, .int y2].toArray below meth c H locs 0 0 (MQ below (th_Q D cT T (km q) (th_R T (some (.inl (0, 1)))) []) [.ref a0, .int y1, .int y2].toArray s 0 0 (th_A T [])) (F0 m 60 ls []) := by
            intro H locs ls f60_v13_4 f60_v2_3 hH hS hl
            refine th_iinc S dX11_isParted_60 hl (k := 4) rfl (by decide) f60_v13_4 (by decide) (fun x1 ls ex1 ix1 hl => ?_)
            have hl : lv_has ls 5 [(4, .int x1), (0, .ref a0), (1, .int y1), (2, .int y2), (3, .int v2_3)] := hl
            have ix1 : IV x1 1 3 := ix1
            refine lv_goto (tgt := 13) hx hb dX11_isParted_63 (by decide) ?_
            exact ih13 H locs ls x1 (iv_w ix1 (by decide)) (iv_w f60_v2_3 (by decide)) hH hS (lv_sub hl [1, 2, 3, 4, 0] rfl) (th_up iv13_4 ex1 (by decide) hn13)
          have l1v13_4 := iv13_4.1; have l2v13_4 := iv13_4.2
          refine lv_iload hx hb dX11_isParted_13 (lv_at hl 4 rfl) ?_
          refine lv_iload_n hx hb dX11_isParted_15 rfl (lv_at hl 3 rfl) ?_
          refine lv_icmp_ge (tgt := 66) hx hb dX11_isParted_16 (by decide) (fun c2 => ?_) (fun c2 => ?_)
          · skip
            have rlc2 : v2_3.toInt ≤ v13_4.toInt := iv_le c2
            refine th_iinc S dX11_isParted_66 hl (k := 3) rfl (by decide) f13_v2_3 (by decide) (fun x3 ls ex3 ix3 hl => ?_)
            have hl : lv_has ls 5 [(3, .int x3), (0, .ref a0), (1, .int y1), (2, .int y2), (4, .int v13_4)] := hl
            have ix3 : IV x3 1 4 := ix3
            refine lv_goto (tgt := 2) hx hb dX11_isParted_69 (by decide) ?_
            exact ih2 H locs ls x3 (iv_w ix3 (by decide)) hH hS (lv_sub hl [1, 2, 3, 0] rfl) (th_up iv2_3 ex3 (by decide) hn2)
          · skip
            have rlc2 : v13_4.toInt < v2_3.toInt := iv_nle c2
            have ir4 : IV v13_4 0 2 := iv_uL iv13_4 f13_v2_3 (iv_nle c2) (by decide)
            have ir4a := ir4.1; have ir4b := ir4.2
            have ir5 : IV v2_3 1 3 := iv_uR iv13_4 f13_v2_3 (iv_nle c2) (by decide)
            have ir5a := ir5.1; have ir5b := ir5.2
            refine lv_aload_n hx hb dX11_isParted_19 rfl (lv_at hl 0 rfl) ?_
            refine th_get S hK hH inG11 t0 km_0 rfl 22 (by decide) gm_1252 rfl rfl dX11_isParted_20 (fun v6 hv6 fv6 => ?_)
            obtain ⟨rf7, rfl, trf7⟩ := th_V.ref hv6
            refine lv_iconst (v := 4) hx hb dX11_isParted_23 (by decide) ?_
            refine lv_aload_n hx hb dX11_isParted_24 rfl (lv_at hl 0 rfl) ?_
            refine th_get S hK hH inG11 t0 km_0 rfl 41 (by decide) gm_1271 rfl rfl dX11_isParted_25 (fun v8 hv8 fv8 => ?_)
            obtain ⟨x9, rfl, ix9⟩ := th_V.int hv8
            have kx9a : q 10 ≤ x9.toInt := ix9.1
            have kx9b : x9.toInt ≤ q 10 := ix9.2
            have ix9 : IV x9 0 1 := iv_w ix9 (qkm_10 hq)
            refine lv_imul hx hb dX11_isParted_28 ?_
            refine lv_topi (fun x10 ex10 => ?_)
            have ix10 : IV x10 0 4 := by rw [ex10]; exact iv_mul (iv_c (by decide) : IV 4 4 4) ix9 (by decide) (by decide)
            have ux10 : x10.toInt = (4 : Int) * x9.toInt := by rw [ex10]; exact iv_mulE (iv_corner ((iv_c (by decide) : IV 4 4 4)).1 ((iv_c (by decide) : IV 4 4 4)).2 (ix9).1 (ix9).2 (by decide))
            refine lv_iload_n hx hb dX11_isParted_29 rfl (lv_at hl 3 rfl) ?_
            refine lv_iadd hx hb dX11_isParted_30 ?_
            refine lv_topi (fun x11 ex11 => ?_)
            have ix11 : IV x11 1 7 := by rw [ex11]; exact iv_add ix10 ir5 (by decide)
            have ux11 : x11.toInt = x10.toInt + v2_3.toInt := by rw [ex11]; exact iv_addE (by have z1 := (ix10).1; have z2 := (ix10).2; have z3 := (ir5).1; have z4 := (ir5).2; omega)
            refine th_iald S hK hH trf7 km_14 (th_in (hi := 7) (iv_w ix11 (by decide)) (by decide)) dX11_isParted_31 (fun v12 hv12 => ?_)
            obtain ⟨x13, rfl, ix13⟩ := th_V.int hv12
            refine lv_iload hx hb dX11_isParted_32 (lv_at hl 4 rfl) ?_
            refine th_callSi (n := 2) (As := [.int x13, .int v13_4]) S hK hH hS (th_A.sub (by decide)) (m_X11_has l D cT T q hq (x13) ix13 (v13_4) (iv_top _)) gm_1633 gm_1631 gm_1632 gm_124 (by decide +kernel) ⟨rfl, rfl, Nat.le_of_ble_eq_true rfl, Nat.le_of_ble_eq_true rfl⟩ rfl hl.1 rfl (Nat.le_of_ble_eq_true rfl) dX11_isParted_34 ⟨Nat.zero_le _, Nat.zero_le _⟩ (fun x14 H locs ix14 hH hS hF1 => ?_)
            refine lv_if_eq (tgt := 60) hx hb dX11_isParted_37 (by decide) (fun c15 => ?_) (fun c15 => ?_)
            · skip
              have rlc15 : x14.toInt = (0 : Int) := congrArg Int32.toInt c15
              have ir16 : IV x14 0 0 := iv_eL c15 (iv_c (by decide) : IV 0 0 0)
              have ir16a := ir16.1; have ir16b := ir16.2
              exact J60 H locs ls ir4 ir5 hH hS (lv_sub hl [0, 1, 2, 3, 4] rfl)
            · skip
              have rlc15 : x14.toInt ≠ (0 : Int) := iv_ne c15
              have ir17 : IV x14 1 1 := iv_cutL ix14 (iv_c (by decide) : IV 0 0 0) c15 (by decide)
              have ir17a := ir17.1; have ir17b := ir17.2
              refine lv_aload_n hx hb dX11_isParted_40 rfl (lv_at hl 0 rfl) ?_
              refine lv_iload_n hx hb dX11_isParted_41 rfl (lv_at hl 1 rfl) ?_
              refine lv_iload_n hx hb dX11_isParted_42 rfl (lv_at hl 2 rfl) ?_
              refine lv_iload_n hx hb dX11_isParted_43 rfl (lv_at hl 3 rfl) ?_
              refine th_callVi (n := 3) (As := [.int y1, .int y2, .int v2_3]) S hK hH hS (th_A.sub (by decide)) (m_X11_drawerIn l D cT T q hq a0 t0 (y1) j1 (y2) j2 (v2_3) (iv_w ir5 (by decide))) gm_1844 gm_1841 gm_1843 gm_108 gm_124 (by decide +kernel) ⟨rfl, rfl, Nat.le_of_ble_eq_true rfl, Nat.le_of_ble_eq_true rfl⟩ t0 km_0 rfl rfl hl.1 rfl (Nat.le_of_ble_eq_true rfl) dX11_isParted_44 ⟨Nat.zero_le _, Nat.zero_le _⟩ (fun x18 H locs ix18 hH hS hF1 => ?_)
              refine lv_aload_n hx hb dX11_isParted_47 rfl (lv_at hl 0 rfl) ?_
              refine lv_iload_n hx hb dX11_isParted_48 rfl (lv_at hl 1 rfl) ?_
              refine lv_iload_n hx hb dX11_isParted_49 rfl (lv_at hl 2 rfl) ?_
              refine lv_iload hx hb dX11_isParted_50 (lv_at hl 4 rfl) ?_
              refine th_callVi (n := 3) (As := [.int y1, .int y2, .int v13_4]) S hK hH hS (th_A.sub (by decide)) (m_X11_drawerIn l D cT T q hq a0 t0 (y1) j1 (y2) j2 (v13_4) (iv_w ir4 (by decide))) gm_1844 gm_1841 gm_1843 gm_108 gm_124 (by decide +kernel) ⟨rfl, rfl, Nat.le_of_ble_eq_true rfl, Nat.le_of_ble_eq_true rfl⟩ t0 km_0 rfl rfl hl.1 rfl (Nat.le_of_ble_eq_true rfl) dX11_isParted_52 ⟨Nat.zero_le _, Nat.zero_le _⟩ (fun x19 H locs ix19 hH hS hF1 => ?_)
              refine lv_icmp_ne (tgt := 60) hx hb dX11_isParted_55 (by decide) (fun c20 => ?_) (fun c20 => ?_)
              · skip
                have rlc20 : x18.toInt ≠ x19.toInt := iv_ne c20
                exact J60 H locs ls ir4 ir5 hH hS (lv_sub hl [0, 1, 2, 3, 4] rfl)
              · skip
                have rlc20 : x18.toInt = x19.toInt := congrArg Int32.toInt c20
                refine lv_iconst (v := 0) hx hb dX11_isParted_58 (by decide) ?_
                exact th_zret S hK hH hS hr hlocks (iv_w (iv_c (by decide) : IV 0 0 0) (by decide)) (th_R.i (iv_w (iv_c (by decide) : IV 0 0 0) (by decide))) dX11_isParted_59
      have l1v2_3 := iv2_3.1; have l2v2_3 := iv2_3.2
      refine lv_iload_n hx hb dX11_isParted_2 rfl (lv_at hl 3 rfl) ?_
      refine lv_aload_n hx hb dX11_isParted_3 rfl (lv_at hl 0 rfl) ?_
      refine th_callVp (n := 0) (As := []) S hK hH hS (th_A.sub (by decide)) (m_X11_many l D cT T q hq a0 t0) gm_1229 gm_1226 gm_1228 gm_46 gm_124 (by decide +kernel) ⟨rfl, rfl, Nat.le_of_ble_eq_true rfl, Nat.le_of_ble_eq_true rfl⟩ t0 km_0 rfl rfl hl.1 rfl (Nat.le_of_ble_eq_true rfl) dX11_isParted_4 ⟨Nat.zero_le _, Nat.zero_le _⟩ (fun x21 H locs ix21 ox21 hH hS hF1 => ?_)
      have ox21 : x21.toInt = q 11 := ox21
      refine lv_icmp_ge (tgt := 72) hx hb dX11_isParted_7 (by decide) (fun c22 => ?_) (fun c22 => ?_)
      · skip
        have rlc22 : x21.toInt ≤ v2_3.toInt := iv_le c22
        refine lv_iconst (v := 1) hx hb dX11_isParted_72 (by decide) ?_
        exact th_zret S hK hH hS hr hlocks (iv_w (iv_c (by decide) : IV 1 1 1) (by decide)) (th_R.i (iv_w (iv_c (by decide) : IV 1 1 1) (by decide))) dX11_isParted_73
      · skip
        have rlc22 : v2_3.toInt < x21.toInt := iv_nle c22
        have ir23 : IV v2_3 0 3 := iv_uL iv2_3 ix21 (iv_nle c22) (by decide)
        have ir23a := ir23.1; have ir23b := ir23.2
        have ir24 : IV x21 1 4 := iv_uR iv2_3 ix21 (iv_nle c22) (by decide)
        have ir24a := ir24.1; have ir24b := ir24.2
        refine lv_iconst (v := 0) hx hb dX11_isParted_10 (by decide) ?_
        refine lv_istore (lv' := [(4, .int 0), (0, .ref a0), (1, .int y1), (2, .int y2), (3, .int v2_3)]) hx hb dX11_isParted_11 hl (by decide) rfl (fun ls hl => ?_)
        exact J13 ((3 + 1 - Int32.toInt 0).toNat + 1) H locs ls 0 (iv_w (iv_c (by decide) : IV 0 0 0) (by decide)) ir23 hH hS (lv_sub hl [1, 2, 3, 4, 0] rfl) (Nat.lt_succ_self _)
  have J0 : ∀ (H : Heap) (locs : List Loc) (ls : Array Slot), th_H D cT T (km q) H → va_S (th_A T []) s.heap H locs → lv_has ls 5 [(0, .ref a0), (1, .int y1), (2, .int y2)] → W p l e (rmk 2 45) s m [.ref a0, .int y1, .int y2].toArray below meth c H locs 0 0 (MQ below (th_Q D cT T (km q) (th_R T (some (.inl (0, 1)))) []) [.ref a0, .int y1, .int y2].toArray s 0 0 (th_A T [])) (F0 m 0 ls []) := by
    intro H locs ls hH hS hl
    refine lv_iconst (v := 0) hx hb dX11_isParted_0 (by decide) ?_
    refine lv_istore_n (lv' := [(3, .int 0), (0, .ref a0), (1, .int y1), (2, .int y2)]) hx hb dX11_isParted_1 rfl hl (by decide) rfl (fun ls hl => ?_)
    exact J2 ((4 + 1 - Int32.toInt 0).toNat + 1) H locs ls 0 (iv_w (iv_c (by decide) : IV 0 0 0) (by decide)) hH hS (lv_sub hl [1, 2, 3, 0] rfl) (Nat.lt_succ_self _)
  exact J0 s.heap [] ls hH va_S.rf hl

set_option maxRecDepth 100000 in
theorem m_X11_waysInto (l : Launch) (D : va_G) (cT : Nat → ClassId) (T : Nat → Option Nat) (q : Nat → Int) (hq : qkm q) (a0 : Nat) (t0 : T a0 = some 0) (y1 : Int32) (j1 : IV y1 1 4) : th_Met l D cT T (km q) yX11_waysInto cX11_waysInto 6 (some .int) (rmk 3 69) [.ref a0, .int y1] (th_R T (some (.inl (-2147483648, 2147483647)))) [0, 36] := by
  refine th_start (by decide) (Nat.le_of_ble_eq_true rfl) ?_
  intro p e s m below meth c ls S hK hH hr hlocks hnm hl
  have hx := S.1
  have hb := S.2.1
  have l1y1 := j1.1; have l2y1 := j1.2
  have hl : lv_has ls 6 [(0, .ref a0), (1, .int y1)] := hl
  have J27 : ∀ (n : Nat) (H : Heap) (locs : List Loc) (ls : Array Slot) (v27_2 : Int32) (v27_3 : Int32) (v27_4 : Int32), IV v27_2 (-2147483648) 2147483647 → IV v27_3 (-2147483648) 2147483647 → IV v27_4 0 2147483647 → th_H D cT T (km q) H → va_S (th_A T [0, 36]) s.heap H locs → lv_has ls 6 [(0, .ref a0), (1, .int y1), (2, .int v27_2), (3, .int v27_3), (4, .int v27_4)] → (2147483647 + 1 - Int32.toInt v27_4).toNat < n → W p l e (rmk 3 69) s m [.ref a0, .int y1].toArray below meth c H locs 0 0 (MQ below (th_Q D cT T (km q) (th_R T (some (.inl (-2147483648, 2147483647)))) [0, 36]) [.ref a0, .int y1].toArray s 0 0 (th_A T [0, 36])) (F0 m 27 ls []) := by
    intro n
    induction n with
    | zero => intro H locs ls v27_2 v27_3 v27_4 iv27_2 iv27_3 iv27_4 hH hS hl hn; exact absurd hn (Nat.not_lt_zero _)
    | succ n ih27 =>
      intro H locs ls v27_2 v27_3 v27_4 iv27_2 iv27_3 iv27_4 hH hS hl hn27
      have J95 : ∀ (H : Heap) (locs : List Loc) (ls : Array Slot) (v95_3 : Int32), IV v95_3 (-2147483648) 2147483647 → IV v27_2 1 2147483647 → IV v27_4 0 2147483646 → th_H D cT T (km q) H → va_S (th_A T [0, 36]) s.heap H locs → lv_has ls 6 [(0, .ref a0), (1, .int y1), (2, .int v27_2), (3, .int v95_3), (4, .int v27_4)] → W p l e (rmk 3 69) s m [.ref a0, .int y1].toArray below meth c H locs 0 0 (MQ below (th_Q D cT T (km q) (th_R T (some (.inl (-2147483648, 2147483647)))) [0, 36]) [.ref a0, .int y1].toArray s 0 0 (th_A T [0, 36])) (F0 m 95 ls []) := by
        intro H locs ls v95_3 iv95_3 f95_v27_2 f95_v27_4 hH hS hl
        refine th_iinc S dX11_waysInto_95 hl (k := 4) rfl (by decide) f95_v27_4 (by decide) (fun x1 ls ex1 ix1 hl => ?_)
        have hl : lv_has ls 6 [(4, .int x1), (0, .ref a0), (1, .int y1), (2, .int v27_2), (3, .int v95_3)] := hl
        have ix1 : IV x1 1 2147483647 := ix1
        refine lv_goto (tgt := 27) hx hb dX11_waysInto_98 (by decide) ?_
        exact ih27 H locs ls v27_2 v95_3 x1 (iv_top _) iv95_3 (iv_w ix1 (by decide)) hH hS (lv_sub hl [1, 2, 3, 4, 0] rfl) (th_up iv27_4 ex1 (by decide) hn27)
      have J92 : ∀ (H : Heap) (locs : List Loc) (ls : Array Slot), IV v27_2 1 2147483647 → IV v27_4 0 2147483646 → th_H D cT T (km q) H → va_S (th_A T [0, 36]) s.heap H locs → lv_has ls 6 [(0, .ref a0), (1, .int y1), (2, .int v27_2), (3, .int v27_3), (4, .int v27_4)] → W p l e (rmk 3 69) s m [.ref a0, .int y1].toArray below meth c H locs 0 0 (MQ below (th_Q D cT T (km q) (th_R T (some (.inl (-2147483648, 2147483647)))) [0, 36]) [.ref a0, .int y1].toArray s 0 0 (th_A T [0, 36])) (F0 m 92 ls []) := by
        intro H locs ls f92_v27_2 f92_v27_4 hH hS hl
        obtain ⟨x2, ex2⟩ : ∃ z : Int32, z = v27_3 + Int32.ofInt 1 := ⟨_, rfl⟩
        refine lv_iinc (v := x2) (lv' := [(3, .int x2), (0, .ref a0), (1, .int y1), (2, .int v27_2), (4, .int v27_4)]) hx hb dX11_waysInto_92 hl (k := 3) rfl (by rw [ex2]) (by decide) rfl (fun ls hl => ?_)
        have ix2 := iv_top x2
        exact J95 H locs ls x2 ix2 f92_v27_2 f92_v27_4 hH hS (lv_sub hl [1, 2, 3, 0, 4] rfl)
      have J53 : ∀ (n : Nat) (H : Heap) (locs : List Loc) (ls : Array Slot) (v53_5 : Int32), IV v53_5 0 4 → IV v27_2 1 2147483647 → IV v27_3 0 0 → IV v27_4 0 2147483646 → th_H D cT T (km q) H → va_S (th_A T [0, 36]) s.heap H locs → lv_has ls 6 [(0, .ref a0), (1, .int y1), (2, .int v27_2), (3, .int v27_3), (4, .int v27_4), (5, .int v53_5)] → (4 + 1 - Int32.toInt v53_5).toNat < n → W p l e (rmk 3 69) s m [.ref a0, .int y1].toArray below meth c H locs 0 0 (MQ below (th_Q D cT T (km q) (th_R T (some (.inl (-2147483648, 2147483647)))) [0, 36]) [.ref a0, .int y1].toArray s 0 0 (th_A T [0, 36])) (F0 m 53 ls []) := by
        intro n
        induction n with
        | zero => intro H locs ls v53_5 iv53_5 f53_v27_2 f53_v27_3 f53_v27_4 hH hS hl hn; exact absurd hn (Nat.not_lt_zero _)
        | succ n ih53 =>
          intro H locs ls v53_5 iv53_5 f53_v27_2 f53_v27_3 f53_v27_4 hH hS hl hn53
          have l1v53_5 := iv53_5.1; have l2v53_5 := iv53_5.2
          refine lv_iload hx hb dX11_waysInto_53 (lv_at hl 5 rfl) ?_
          refine lv_aload_n hx hb dX11_waysInto_55 rfl (lv_at hl 0 rfl) ?_
          refine th_callVp (n := 0) (As := []) S hK hH hS (th_A.sub (by decide)) (m_X11_many l D cT T q hq a0 t0) gm_1229 gm_1226 gm_1228 gm_46 gm_124 (by decide +kernel) ⟨rfl, rfl, Nat.le_of_ble_eq_true rfl, Nat.le_of_ble_eq_true rfl⟩ t0 km_0 rfl rfl hl.1 rfl (Nat.le_of_ble_eq_true rfl) dX11_waysInto_56 ⟨Nat.zero_le _, Nat.zero_le _⟩ (fun x3 H locs ix3 ox3 hH hS hF1 => ?_)
          have ox3 : x3.toInt = q 11 := ox3
          refine lv_icmp_ge (tgt := 84) hx hb dX11_waysInto_59 (by decide) (fun c4 => ?_) (fun c4 => ?_)
          · skip
            have rlc4 : x3.toInt ≤ v53_5.toInt := iv_le c4
            refine lv_aload_n hx hb dX11_waysInto_84 rfl (lv_at hl 0 rfl) ?_
            refine lv_aload_n hx hb dX11_waysInto_85 rfl (lv_at hl 0 rfl) ?_
            refine th_callVp (n := 0) (As := []) S hK hH hS (th_A.sub (by decide)) (m_X11_many l D cT T q hq a0 t0) gm_1229 gm_1226 gm_1228 gm_46 gm_124 (by decide +kernel) ⟨rfl, rfl, Nat.le_of_ble_eq_true rfl, Nat.le_of_ble_eq_true rfl⟩ t0 km_0 rfl rfl hl.1 rfl (Nat.le_of_ble_eq_true rfl) dX11_waysInto_86 ⟨Nat.zero_le _, Nat.zero_le _⟩ (fun x5 H locs ix5 ox5 hH hS hF1 => ?_)
            have ox5 : x5.toInt = q 11 := ox5
            refine th_put S hK hH hS ⟨0, by decide, t0⟩ inG11 tyX11 tyX11_ok nmX11 t0 km_0 rfl 59 (by decide) gm_1289 rfl rfl rfl rfl (th_iv ix5) (fun vs h => nmR_set h.2.2 (by decide) rfl) (ty := .int) (by decide +kernel) rfl rfl dX11_waysInto_89 (fun H locs hH hS hq1 hp1 => ?_)
            exact J92 H locs ls f53_v27_2 f53_v27_4 hH hS (lv_sub hl [0, 1, 2, 3, 4] rfl)
          · skip
            have rlc4 : v53_5.toInt < x3.toInt := iv_nle c4
            have ir6 : IV v53_5 0 3 := iv_uL iv53_5 ix3 (iv_nle c4) (by decide)
            have ir6a := ir6.1; have ir6b := ir6.2
            have ir7 : IV x3 1 4 := iv_uR iv53_5 ix3 (iv_nle c4) (by decide)
            have ir7a := ir7.1; have ir7b := ir7.2
            refine lv_aload_n hx hb dX11_waysInto_62 rfl (lv_at hl 0 rfl) ?_
            refine th_get S hK hH inG11 t0 km_0 rfl 57 (by decide) gm_1287 rfl rfl dX11_waysInto_63 (fun v8 hv8 fv8 => ?_)
            obtain ⟨rf9, rfl, trf9⟩ := th_V.ref hv8
            refine lv_iload hx hb dX11_waysInto_66 (lv_at hl 5 rfl) ?_
            refine lv_aload_n hx hb dX11_waysInto_68 rfl (lv_at hl 0 rfl) ?_
            refine lv_iload hx hb dX11_waysInto_69 (lv_at hl 4 rfl) ?_
            refine lv_iload_n hx hb dX11_waysInto_71 rfl (lv_at hl 1 rfl) ?_
            refine lv_iload hx hb dX11_waysInto_72 (lv_at hl 5 rfl) ?_
            refine th_callVi (n := 3) (As := [.int v27_4, .int y1, .int v53_5]) S hK hH hS (th_A.sub (by decide)) (m_X11_drawerIn l D cT T q hq a0 t0 (v27_4) (iv_top _) (y1) j1 (v53_5) ir6) gm_1844 gm_1841 gm_1843 gm_108 gm_124 (by decide +kernel) ⟨rfl, rfl, Nat.le_of_ble_eq_true rfl, Nat.le_of_ble_eq_true rfl⟩ t0 km_0 rfl rfl hl.1 rfl (Nat.le_of_ble_eq_true rfl) dX11_waysInto_74 ⟨Nat.zero_le _, Nat.zero_le _⟩ (fun x10 H locs ix10 hH hS hF1 => ?_)
            refine th_iast S hK hH hS ⟨36, by decide, trf9⟩ trf9 km_36 (th_in (hi := 3) ir6 (by decide)) (th_iv (iv_top _)) dX11_waysInto_77 (fun H locs hH hS hq1 => ?_)
            refine th_iinc S dX11_waysInto_78 hl (k := 5) rfl (by decide) ir6 (by decide) (fun x11 ls ex11 ix11 hl => ?_)
            have hl : lv_has ls 6 [(5, .int x11), (0, .ref a0), (1, .int y1), (2, .int v27_2), (3, .int v27_3), (4, .int v27_4)] := hl
            have ix11 : IV x11 1 4 := ix11
            refine lv_goto (tgt := 53) hx hb dX11_waysInto_81 (by decide) ?_
            exact ih53 H locs ls x11 (iv_w ix11 (by decide)) f53_v27_2 f53_v27_3 f53_v27_4 hH hS (lv_sub hl [1, 2, 3, 4, 5, 0] rfl) (th_up iv53_5 ex11 (by decide) hn53)
      have l1v27_4 := iv27_4.1; have l2v27_4 := iv27_4.2
      refine lv_iload hx hb dX11_waysInto_27 (lv_at hl 4 rfl) ?_
      refine lv_iload_n hx hb dX11_waysInto_29 rfl (lv_at hl 2 rfl) ?_
      refine lv_icmp_ge (tgt := 101) hx hb dX11_waysInto_30 (by decide) (fun c12 => ?_) (fun c12 => ?_)
      · skip
        have rlc12 : v27_2.toInt ≤ v27_4.toInt := iv_le c12
        refine lv_iload_n hx hb dX11_waysInto_101 rfl (lv_at hl 3 rfl) ?_
        exact th_iret S hK hH hS hr hlocks (th_R.i iv27_3) dX11_waysInto_102
      · skip
        have rlc12 : v27_4.toInt < v27_2.toInt := iv_nle c12
        have ir13 : IV v27_4 0 2147483646 := iv_uL iv27_4 iv27_2 (iv_nle c12) (by decide)
        have ir13a := ir13.1; have ir13b := ir13.2
        have ir14 : IV v27_2 1 2147483647 := iv_uR iv27_4 iv27_2 (iv_nle c12) (by decide)
        have ir14a := ir14.1; have ir14b := ir14.2
        refine lv_aload_n hx hb dX11_waysInto_33 rfl (lv_at hl 0 rfl) ?_
        refine lv_iload hx hb dX11_waysInto_34 (lv_at hl 4 rfl) ?_
        refine lv_iload_n hx hb dX11_waysInto_36 rfl (lv_at hl 1 rfl) ?_
        refine th_callVi (n := 2) (As := [.int v27_4, .int y1]) S hK hH hS (th_A.sub (by decide)) (m_X11_isParted l D cT T q hq a0 t0 (v27_4) (iv_top _) (y1) j1) gm_1840 gm_1837 gm_1839 gm_107 gm_124 (by decide +kernel) ⟨rfl, rfl, Nat.le_of_ble_eq_true rfl, Nat.le_of_ble_eq_true rfl⟩ t0 km_0 rfl rfl hl.1 rfl (Nat.le_of_ble_eq_true rfl) dX11_waysInto_37 ⟨Nat.zero_le _, Nat.zero_le _⟩ (fun x15 H locs ix15 hH hS hF1 => ?_)
        refine lv_if_ne (tgt := 46) hx hb dX11_waysInto_40 (by decide) (fun c16 => ?_) (fun c16 => ?_)
        · skip
          have rlc16 : x15.toInt ≠ (0 : Int) := iv_ne c16
          have ir17 : IV x15 1 1 := iv_cutL ix15 (iv_c (by decide) : IV 0 0 0) c16 (by decide)
          have ir17a := ir17.1; have ir17b := ir17.2
          refine lv_iload_n hx hb dX11_waysInto_46 rfl (lv_at hl 3 rfl) ?_
          refine lv_if_ne (tgt := 92) hx hb dX11_waysInto_47 (by decide) (fun c18 => ?_) (fun c18 => ?_)
          · skip
            have rlc18 : v27_3.toInt ≠ (0 : Int) := iv_ne c18
            exact J92 H locs ls ir14 ir13 hH hS (lv_sub hl [0, 1, 2, 3, 4] rfl)
          · skip
            have rlc18 : v27_3.toInt = (0 : Int) := congrArg Int32.toInt c18
            have ir19 : IV v27_3 0 0 := iv_eL c18 (iv_c (by decide) : IV 0 0 0)
            have ir19a := ir19.1; have ir19b := ir19.2
            refine lv_iconst (v := 0) hx hb dX11_waysInto_50 (by decide) ?_
            refine lv_istore (lv' := [(5, .int 0), (0, .ref a0), (1, .int y1), (2, .int v27_2), (3, .int v27_3), (4, .int v27_4)]) hx hb dX11_waysInto_51 hl (by decide) rfl (fun ls hl => ?_)
            exact J53 ((4 + 1 - Int32.toInt 0).toNat + 1) H locs ls 0 (iv_w (iv_c (by decide) : IV 0 0 0) (by decide)) ir14 ir19 ir13 hH hS (lv_sub hl [1, 2, 3, 4, 5, 0] rfl) (Nat.lt_succ_self _)
        · skip
          have rlc16 : x15.toInt = (0 : Int) := congrArg Int32.toInt c16
          have ir20 : IV x15 0 0 := iv_eL c16 (iv_c (by decide) : IV 0 0 0)
          have ir20a := ir20.1; have ir20b := ir20.2
          refine lv_goto (tgt := 95) hx hb dX11_waysInto_43 (by decide) ?_
          exact J95 H locs ls v27_3 iv27_3 ir14 ir13 hH hS (lv_sub hl [0, 1, 2, 3, 4] rfl)
  have J4 : ∀ (n : Nat) (H : Heap) (locs : List Loc) (ls : Array Slot) (v4_2 : Int32) (v4_3 : Int32), IV v4_2 (-2147483648) 2147483647 → IV v4_3 0 4 → th_H D cT T (km q) H → va_S (th_A T [0, 36]) s.heap H locs → lv_has ls 6 [(0, .ref a0), (1, .int y1), (2, .int v4_2), (3, .int v4_3)] → (4 + 1 - Int32.toInt v4_3).toNat < n → W p l e (rmk 3 69) s m [.ref a0, .int y1].toArray below meth c H locs 0 0 (MQ below (th_Q D cT T (km q) (th_R T (some (.inl (-2147483648, 2147483647)))) [0, 36]) [.ref a0, .int y1].toArray s 0 0 (th_A T [0, 36])) (F0 m 4 ls []) := by
    intro n
    induction n with
    | zero => intro H locs ls v4_2 v4_3 iv4_2 iv4_3 hH hS hl hn; exact absurd hn (Nat.not_lt_zero _)
    | succ n ih4 =>
      intro H locs ls v4_2 v4_3 iv4_2 iv4_3 hH hS hl hn4
      have l1v4_3 := iv4_3.1; have l2v4_3 := iv4_3.2
      refine lv_iload_n hx hb dX11_waysInto_4 rfl (lv_at hl 3 rfl) ?_
      refine lv_aload_n hx hb dX11_waysInto_5 rfl (lv_at hl 0 rfl) ?_
      refine th_callVp (n := 0) (As := []) S hK hH hS (th_A.sub (by decide)) (m_X11_many l D cT T q hq a0 t0) gm_1229 gm_1226 gm_1228 gm_46 gm_124 (by decide +kernel) ⟨rfl, rfl, Nat.le_of_ble_eq_true rfl, Nat.le_of_ble_eq_true rfl⟩ t0 km_0 rfl rfl hl.1 rfl (Nat.le_of_ble_eq_true rfl) dX11_waysInto_6 ⟨Nat.zero_le _, Nat.zero_le _⟩ (fun x21 H locs ix21 ox21 hH hS hF1 => ?_)
      have ox21 : x21.toInt = q 11 := ox21
      refine lv_icmp_ge (tgt := 22) hx hb dX11_waysInto_9 (by decide) (fun c22 => ?_) (fun c22 => ?_)
      · skip
        have rlc22 : x21.toInt ≤ v4_3.toInt := iv_le c22
        refine lv_iconst (v := 0) hx hb dX11_waysInto_22 (by decide) ?_
        refine lv_istore_n (lv' := [(3, .int 0), (0, .ref a0), (1, .int y1), (2, .int v4_2)]) hx hb dX11_waysInto_23 rfl hl (by decide) rfl (fun ls hl => ?_)
        refine lv_iconst (v := 0) hx hb dX11_waysInto_24 (by decide) ?_
        refine lv_istore (lv' := [(4, .int 0), (3, .int 0), (0, .ref a0), (1, .int y1), (2, .int v4_2)]) hx hb dX11_waysInto_25 hl (by decide) rfl (fun ls hl => ?_)
        exact J27 ((2147483647 + 1 - Int32.toInt 0).toNat + 1) H locs ls v4_2 0 0 iv4_2 (iv_top _) (iv_w (iv_c (by decide) : IV 0 0 0) (by decide)) hH hS (lv_sub hl [2, 3, 4, 1, 0] rfl) (Nat.lt_succ_self _)
      · skip
        have rlc22 : v4_3.toInt < x21.toInt := iv_nle c22
        have ir23 : IV v4_3 0 3 := iv_uL iv4_3 ix21 (iv_nle c22) (by decide)
        have ir23a := ir23.1; have ir23b := ir23.2
        have ir24 : IV x21 1 4 := iv_uR iv4_3 ix21 (iv_nle c22) (by decide)
        have ir24a := ir24.1; have ir24b := ir24.2
        refine lv_iload_n hx hb dX11_waysInto_12 rfl (lv_at hl 2 rfl) ?_
        refine lv_iload_n hx hb dX11_waysInto_13 rfl (lv_at hl 1 rfl) ?_
        refine lv_imul hx hb dX11_waysInto_14 ?_
        refine lv_topi (fun x25 ex25 => ?_)
        have ix25 := iv_top x25
        refine lv_istore_n (lv' := [(2, .int x25), (0, .ref a0), (1, .int y1), (3, .int v4_3)]) hx hb dX11_waysInto_15 rfl hl (by decide) rfl (fun ls hl => ?_)
        refine th_iinc S dX11_waysInto_16 hl (k := 3) rfl (by decide) ir23 (by decide) (fun x26 ls ex26 ix26 hl => ?_)
        have hl : lv_has ls 6 [(3, .int x26), (2, .int x25), (0, .ref a0), (1, .int y1)] := hl
        have ix26 : IV x26 1 4 := ix26
        refine lv_goto (tgt := 4) hx hb dX11_waysInto_19 (by decide) ?_
        exact ih4 H locs ls x25 x26 ix25 (iv_w ix26 (by decide)) hH hS (lv_sub hl [2, 3, 1, 0] rfl) (th_up iv4_3 ex26 (by decide) hn4)
  have J0 : ∀ (H : Heap) (locs : List Loc) (ls : Array Slot), th_H D cT T (km q) H → va_S (th_A T [0, 36]) s.heap H locs → lv_has ls 6 [(0, .ref a0), (1, .int y1)] → W p l e (rmk 3 69) s m [.ref a0, .int y1].toArray below meth c H locs 0 0 (MQ below (th_Q D cT T (km q) (th_R T (some (.inl (-2147483648, 2147483647)))) [0, 36]) [.ref a0, .int y1].toArray s 0 0 (th_A T [0, 36])) (F0 m 0 ls []) := by
    intro H locs ls hH hS hl
    refine lv_iconst (v := 1) hx hb dX11_waysInto_0 (by decide) ?_
    refine lv_istore_n (lv' := [(2, .int 1), (0, .ref a0), (1, .int y1)]) hx hb dX11_waysInto_1 rfl hl (by decide) rfl (fun ls hl => ?_)
    refine lv_iconst (v := 0) hx hb dX11_waysInto_2 (by decide) ?_
    refine lv_istore_n (lv' := [(3, .int 0), (2, .int 1), (0, .ref a0), (1, .int y1)]) hx hb dX11_waysInto_3 rfl hl (by decide) rfl (fun ls hl => ?_)
    exact J4 ((4 + 1 - Int32.toInt 0).toNat + 1) H locs ls 1 0 (iv_top _) (iv_w (iv_c (by decide) : IV 0 0 0) (by decide)) hH hS (lv_sub hl [2, 3, 1, 0] rfl) (Nat.lt_succ_self _)
  exact J0 s.heap [] ls hH va_S.rf hl

set_option maxRecDepth 100000 in
theorem m_X11_drawers (l : Launch) (D : va_G) (cT : Nat → ClassId) (T : Nat → Option Nat) (q : Nat → Int) (hq : qkm q) (a0 : Nat) (t0 : T a0 = some 0) (y1 : Int32) (j1 : IV y1 (-2147483648) 2147483647) : th_Met l D cT T (km q) yX11_drawers cX11_drawers 2 (some .int) (rmk 4 94) [.ref a0, .int y1] (th_R T (some (.inl (-2147483648, 2147483647)))) [0, 36] := by
  refine th_start (by decide) (Nat.le_of_ble_eq_true rfl) ?_
  intro p e s m below meth c ls S hK hH hr hlocks hnm hl
  have hx := S.1
  have hb := S.2.1
  have hl : lv_has ls 2 [(0, .ref a0), (1, .int y1)] := hl
  have J23 : ∀ (H : Heap) (locs : List Loc) (ls : Array Slot) (w23_0 : Int32), IV w23_0 (-2147483648) 2147483647 → th_H D cT T (km q) H → va_S (th_A T [0, 36]) s.heap H locs → lv_has ls 2 [] → W p l e (rmk 4 94) s m [.ref a0, .int y1].toArray below meth c H locs 0 0 (MQ below (th_Q D cT T (km q) (th_R T (some (.inl (-2147483648, 2147483647)))) [0, 36]) [.ref a0, .int y1].toArray s 0 0 (th_A T [0, 36])) (F0 m 23 ls [.int w23_0]) := by
    intro H locs ls w23_0 iw23_0 hH hS hl
    exact th_iret S hK hH hS hr hlocks (th_R.i iw23_0) dX11_drawers_23
  have J23_s0_m1 : ∀ (H : Heap) (locs : List Loc) (ls : Array Slot), th_H D cT T (km q) H → va_S (th_A T [0, 36]) s.heap H locs → lv_has ls 2 [] → W p l e (rmk 4 94) s m [.ref a0, .int y1].toArray below meth c H locs 0 0 (MQ below (th_Q D cT T (km q) (th_R T (some (.inl (-2147483648, 2147483647)))) [0, 36]) [.ref a0, .int y1].toArray s 0 0 (th_A T [0, 36])) (F0 m 23 ls [.int (-1)]) := by
    intro H locs ls hH hS hl
    exact th_iret S hK hH hS hr hlocks (th_R.i (iv_top _)) dX11_drawers_23
  have J0 : ∀ (H : Heap) (locs : List Loc) (ls : Array Slot), th_H D cT T (km q) H → va_S (th_A T [0, 36]) s.heap H locs → lv_has ls 2 [(0, .ref a0), (1, .int y1)] → W p l e (rmk 4 94) s m [.ref a0, .int y1].toArray below meth c H locs 0 0 (MQ below (th_Q D cT T (km q) (th_R T (some (.inl (-2147483648, 2147483647)))) [0, 36]) [.ref a0, .int y1].toArray s 0 0 (th_A T [0, 36])) (F0 m 0 ls []) := by
    intro H locs ls hH hS hl
    refine lv_aload_n hx hb dX11_drawers_0 rfl (lv_at hl 0 rfl) ?_
    refine lv_iconst (v := 0) hx hb dX11_drawers_1 (by decide) ?_
    refine th_put S hK hH hS ⟨0, by decide, t0⟩ inG11 tyX11 tyX11_ok nmX11 t0 km_0 rfl 59 (by decide) gm_1289 rfl rfl rfl rfl (th_iv (iv_w (iv_c (by decide) : IV 0 0 0) (by decide))) (fun vs h => nmR_set h.2.2 (by decide) rfl) (ty := .int) (by decide +kernel) rfl rfl dX11_drawers_2 (fun H locs hH hS hq1 hp1 => ?_)
    refine lv_iload_n hx hb dX11_drawers_5 rfl (lv_at hl 1 rfl) ?_
    refine lv_iconst (v := 1) hx hb dX11_drawers_6 (by decide) ?_
    refine lv_iconst (v := 4) hx hb dX11_drawers_7 (by decide) ?_
    refine th_callSp (n := 3) (As := [.int y1, .int 1, .int 4]) S hK hH hS (th_A.sub (by decide)) (m_X11_isIn l D cT T q hq (y1) j1 (1) (iv_top _) (4) (iv_top _)) gm_1618 gm_1616 gm_1617 gm_124 (by decide +kernel) ⟨rfl, rfl, Nat.le_of_ble_eq_true rfl, Nat.le_of_ble_eq_true rfl⟩ rfl hl.1 rfl (Nat.le_of_ble_eq_true rfl) dX11_drawers_8 ⟨Nat.zero_le _, Nat.zero_le _⟩ (fun x1 H locs ix1 ox1 hH hS hF1 => ?_)
    obtain ⟨ox1_0, ox1_1⟩ := ox1
    have ox1_0 : x1.toInt ≠ 0 → (1 : Int) ≤ y1.toInt ∧ y1.toInt ≤ (4 : Int) := ox1_0
    have ox1_1 : x1.toInt = 0 → y1.toInt < (1 : Int) ∨ (4 : Int) < y1.toInt := ox1_1
    refine lv_if_eq (tgt := 22) hx hb dX11_drawers_11 (by decide) (fun c2 => ?_) (fun c2 => ?_)
    · skip
      have rlc2 : x1.toInt = (0 : Int) := congrArg Int32.toInt c2
      have ir3 : IV x1 0 0 := iv_eL c2 (iv_c (by decide) : IV 0 0 0)
      have ir3a := ir3.1; have ir3b := ir3.2
      refine lv_iconst (v := (-1)) hx hb dX11_drawers_22 (by decide) ?_
      exact J23_s0_m1 H locs ls  hH hS (lv_sub hl [] rfl)
    · skip
      have rlc2 : x1.toInt ≠ (0 : Int) := iv_ne c2
      have ir4 : IV x1 1 1 := iv_cutL ix1 (iv_c (by decide) : IV 0 0 0) c2 (by decide)
      have ir4a := ir4.1; have ir4b := ir4.2
      have ir5 : IV y1 1 4 := ((fun z => by have z1 := iv_ne z; have z2 : x1.toInt ≠ 0 := z1; have z4 := ((iv_c (by decide) : IV 1 1 1)).1; have z5 := ((iv_c (by decide) : IV 4 4 4)).2; exact ⟨by omega, by omega⟩) : ¬ x1 = 0 → IV y1 1 4) c2
      have ir5a := ir5.1; have ir5b := ir5.2
      refine lv_aload_n hx hb dX11_drawers_14 rfl (lv_at hl 0 rfl) ?_
      refine lv_iload_n hx hb dX11_drawers_15 rfl (lv_at hl 1 rfl) ?_
      refine th_callVi (n := 1) (As := [.int y1]) S hK hH hS (th_A.sub (by decide)) (m_X11_waysInto l D cT T q hq a0 t0 (y1) ir5) gm_1836 gm_1833 gm_1835 gm_106 gm_124 (by decide +kernel) ⟨rfl, rfl, Nat.le_of_ble_eq_true rfl, Nat.le_of_ble_eq_true rfl⟩ t0 km_0 rfl rfl hl.1 rfl (Nat.le_of_ble_eq_true rfl) dX11_drawers_16 ⟨Nat.zero_le _, Nat.zero_le _⟩ (fun x6 H locs ix6 hH hS hF1 => ?_)
      refine lv_goto (tgt := 23) hx hb dX11_drawers_19 (by decide) ?_
      exact J23 H locs ls x6 ix6 hH hS (lv_sub hl [] rfl)
  exact J0 s.heap [] ls hH va_S.rf hl

set_option maxRecDepth 100000 in
theorem m_X11_bites (l : Launch) (D : va_G) (cT : Nat → ClassId) (T : Nat → Option Nat) (q : Nat → Int) (hq : qkm q) (a0 : Nat) (t0 : T a0 = some 0) : th_Met l D cT T (km q) yX11_bites cX11_bites 4 (some .int) (rmk 2 43) [.ref a0] (th_R T (some (.inl (-2147483648, 2147483647)))) [] := by
  refine th_start (by decide) (Nat.le_of_ble_eq_true rfl) ?_
  intro p e s m below meth c ls S hK hH hr hlocks hnm hl
  have hx := S.1
  have hb := S.2.1
  have hl : lv_has ls 4 [(0, .ref a0)] := hl
  have J4 : ∀ (n : Nat) (H : Heap) (locs : List Loc) (ls : Array Slot) (v4_1 : Int32) (v4_2 : Int32), IV v4_1 (-2147483648) 2147483647 → IV v4_2 0 4 → th_H D cT T (km q) H → va_S (th_A T []) s.heap H locs → lv_has ls 4 [(0, .ref a0), (1, .int v4_1), (2, .int v4_2)] → (4 + 1 - Int32.toInt v4_2).toNat < n → W p l e (rmk 2 43) s m [.ref a0].toArray below meth c H locs 0 0 (MQ below (th_Q D cT T (km q) (th_R T (some (.inl (-2147483648, 2147483647)))) []) [.ref a0].toArray s 0 0 (th_A T [])) (F0 m 4 ls []) := by
    intro n
    induction n with
    | zero => intro H locs ls v4_1 v4_2 iv4_1 iv4_2 hH hS hl hn; exact absurd hn (Nat.not_lt_zero _)
    | succ n ih4 =>
      intro H locs ls v4_1 v4_2 iv4_1 iv4_2 hH hS hl hn4
      have J14 : ∀ (n : Nat) (H : Heap) (locs : List Loc) (ls : Array Slot) (v14_1 : Int32) (v14_3 : Int32), IV v14_1 (-2147483648) 2147483647 → IV v14_3 0 3 → IV v4_2 0 3 → th_H D cT T (km q) H → va_S (th_A T []) s.heap H locs → lv_has ls 4 [(0, .ref a0), (1, .int v14_1), (2, .int v4_2), (3, .int v14_3)] → (3 + 1 - Int32.toInt v14_3).toNat < n → W p l e (rmk 2 43) s m [.ref a0].toArray below meth c H locs 0 0 (MQ below (th_Q D cT T (km q) (th_R T (some (.inl (-2147483648, 2147483647)))) []) [.ref a0].toArray s 0 0 (th_A T [])) (F0 m 14 ls []) := by
        intro n
        induction n with
        | zero => intro H locs ls v14_1 v14_3 iv14_1 iv14_3 f14_v4_2 hH hS hl hn; exact absurd hn (Nat.not_lt_zero _)
        | succ n ih14 =>
          intro H locs ls v14_1 v14_3 iv14_1 iv14_3 f14_v4_2 hH hS hl hn14
          have J34_s1_0 : ∀ (H : Heap) (locs : List Loc) (ls : Array Slot), IV v14_3 0 2 → IV v4_2 1 3 → th_H D cT T (km q) H → va_S (th_A T []) s.heap H locs → lv_has ls 4 [(0, .ref a0), (2, .int v4_2), (3, .int v14_3)] → W p l e (rmk 2 43) s m [.ref a0].toArray below meth c H locs 0 0 (MQ below (th_Q D cT T (km q) (th_R T (some (.inl (-2147483648, 2147483647)))) []) [.ref a0].toArray s 0 0 (th_A T [])) (F0 m 34 ls [.int 0, .int v14_1]) := by
            intro H locs ls f34_v14_3 f34_v4_2 hH hS hl
            refine lv_iadd hx hb dX11_bites_34 ?_
            refine lv_topi (fun x1 ex1 => ?_)
            have ix1 : IV x1 (-2147483648) 2147483647 := by rw [ex1]; exact iv_add iv14_1 (iv_c (by decide) : IV 0 0 0) (by decide)
            have ux1 : x1.toInt = v14_1.toInt + (0 : Int) := by rw [ex1]; exact iv_addE (by have z1 := (iv14_1).1; have z2 := (iv14_1).2; have z3 := ((iv_c (by decide) : IV 0 0 0)).1; have z4 := ((iv_c (by decide) : IV 0 0 0)).2; omega)
            refine lv_istore_n (lv' := [(1, .int x1), (0, .ref a0), (2, .int v4_2), (3, .int v14_3)]) hx hb dX11_bites_35 rfl hl (by decide) rfl (fun ls hl => ?_)
            refine th_iinc S dX11_bites_36 hl (k := 3) rfl (by decide) f34_v14_3 (by decide) (fun x2 ls ex2 ix2 hl => ?_)
            have hl : lv_has ls 4 [(3, .int x2), (1, .int x1), (0, .ref a0), (2, .int v4_2)] := hl
            have ix2 : IV x2 1 3 := ix2
            refine lv_goto (tgt := 14) hx hb dX11_bites_39 (by decide) ?_
            exact ih14 H locs ls x1 x2 ix1 (iv_w ix2 (by decide)) (iv_w f34_v4_2 (by decide)) hH hS (lv_sub hl [2, 1, 3, 0] rfl) (th_up iv14_3 ex2 (by decide) hn14)
          have J34_s1_1 : ∀ (H : Heap) (locs : List Loc) (ls : Array Slot), IV v14_3 0 2 → IV v4_2 1 3 → th_H D cT T (km q) H → va_S (th_A T []) s.heap H locs → lv_has ls 4 [(0, .ref a0), (2, .int v4_2), (3, .int v14_3)] → W p l e (rmk 2 43) s m [.ref a0].toArray below meth c H locs 0 0 (MQ below (th_Q D cT T (km q) (th_R T (some (.inl (-2147483648, 2147483647)))) []) [.ref a0].toArray s 0 0 (th_A T [])) (F0 m 34 ls [.int 1, .int v14_1]) := by
            intro H locs ls f34_v14_3 f34_v4_2 hH hS hl
            refine lv_iadd hx hb dX11_bites_34 ?_
            refine lv_topi (fun x3 ex3 => ?_)
            have ix3 := iv_top x3
            refine lv_istore_n (lv' := [(1, .int x3), (0, .ref a0), (2, .int v4_2), (3, .int v14_3)]) hx hb dX11_bites_35 rfl hl (by decide) rfl (fun ls hl => ?_)
            refine th_iinc S dX11_bites_36 hl (k := 3) rfl (by decide) f34_v14_3 (by decide) (fun x4 ls ex4 ix4 hl => ?_)
            have hl : lv_has ls 4 [(3, .int x4), (1, .int x3), (0, .ref a0), (2, .int v4_2)] := hl
            have ix4 : IV x4 1 3 := ix4
            refine lv_goto (tgt := 14) hx hb dX11_bites_39 (by decide) ?_
            exact ih14 H locs ls x3 x4 ix3 (iv_w ix4 (by decide)) (iv_w f34_v4_2 (by decide)) hH hS (lv_sub hl [2, 1, 3, 0] rfl) (th_up iv14_3 ex4 (by decide) hn14)
          have l1v14_3 := iv14_3.1; have l2v14_3 := iv14_3.2
          refine lv_iload_n hx hb dX11_bites_14 rfl (lv_at hl 3 rfl) ?_
          refine lv_iload_n hx hb dX11_bites_15 rfl (lv_at hl 2 rfl) ?_
          refine lv_icmp_ge (tgt := 42) hx hb dX11_bites_16 (by decide) (fun c5 => ?_) (fun c5 => ?_)
          · skip
            have rlc5 : v4_2.toInt ≤ v14_3.toInt := iv_le c5
            refine th_iinc S dX11_bites_42 hl (k := 2) rfl (by decide) f14_v4_2 (by decide) (fun x6 ls ex6 ix6 hl => ?_)
            have hl : lv_has ls 4 [(2, .int x6), (0, .ref a0), (1, .int v14_1), (3, .int v14_3)] := hl
            have ix6 : IV x6 1 4 := ix6
            refine lv_goto (tgt := 4) hx hb dX11_bites_45 (by decide) ?_
            exact ih4 H locs ls v14_1 x6 iv14_1 (iv_w ix6 (by decide)) hH hS (lv_sub hl [1, 2, 0] rfl) (th_up iv4_2 ex6 (by decide) hn4)
          · skip
            have rlc5 : v14_3.toInt < v4_2.toInt := iv_nle c5
            have ir7 : IV v14_3 0 2 := iv_uL iv14_3 f14_v4_2 (iv_nle c5) (by decide)
            have ir7a := ir7.1; have ir7b := ir7.2
            have ir8 : IV v4_2 1 3 := iv_uR iv14_3 f14_v4_2 (iv_nle c5) (by decide)
            have ir8a := ir8.1; have ir8b := ir8.2
            refine lv_iload_n hx hb dX11_bites_19 rfl (lv_at hl 1 rfl) ?_
            refine lv_aload_n hx hb dX11_bites_20 rfl (lv_at hl 0 rfl) ?_
            refine lv_iload_n hx hb dX11_bites_21 rfl (lv_at hl 2 rfl) ?_
            refine lv_iload_n hx hb dX11_bites_22 rfl (lv_at hl 3 rfl) ?_
            refine th_callVi (n := 2) (As := [.int v4_2, .int v14_3]) S hK hH hS (th_A.sub (by decide)) (m_X11_doesBite l D cT T q hq a0 t0 (v4_2) (iv_w ir8 (by decide)) (v14_3) (iv_w ir7 (by decide))) gm_1648 gm_1645 gm_1647 gm_84 gm_124 (by decide +kernel) ⟨rfl, rfl, Nat.le_of_ble_eq_true rfl, Nat.le_of_ble_eq_true rfl⟩ t0 km_0 rfl rfl hl.1 rfl (Nat.le_of_ble_eq_true rfl) dX11_bites_23 ⟨Nat.zero_le _, Nat.zero_le _⟩ (fun x9 H locs ix9 hH hS hF1 => ?_)
            refine lv_if_eq (tgt := 33) hx hb dX11_bites_26 (by decide) (fun c10 => ?_) (fun c10 => ?_)
            · skip
              have rlc10 : x9.toInt = (0 : Int) := congrArg Int32.toInt c10
              have ir11 : IV x9 0 0 := iv_eL c10 (iv_c (by decide) : IV 0 0 0)
              have ir11a := ir11.1; have ir11b := ir11.2
              refine lv_iconst (v := 0) hx hb dX11_bites_33 (by decide) ?_
              exact J34_s1_0 H locs ls ir7 ir8 hH hS (lv_sub hl [0, 2, 3] rfl)
            · skip
              have rlc10 : x9.toInt ≠ (0 : Int) := iv_ne c10
              have ir12 : IV x9 1 1 := iv_cutL ix9 (iv_c (by decide) : IV 0 0 0) c10 (by decide)
              have ir12a := ir12.1; have ir12b := ir12.2
              refine lv_iconst (v := 1) hx hb dX11_bites_29 (by decide) ?_
              refine lv_goto (tgt := 34) hx hb dX11_bites_30 (by decide) ?_
              exact J34_s1_1 H locs ls ir7 ir8 hH hS (lv_sub hl [0, 2, 3] rfl)
      have l1v4_2 := iv4_2.1; have l2v4_2 := iv4_2.2
      refine lv_iload_n hx hb dX11_bites_4 rfl (lv_at hl 2 rfl) ?_
      refine lv_aload_n hx hb dX11_bites_5 rfl (lv_at hl 0 rfl) ?_
      refine th_callVp (n := 0) (As := []) S hK hH hS (th_A.sub (by decide)) (m_X11_many l D cT T q hq a0 t0) gm_1229 gm_1226 gm_1228 gm_46 gm_124 (by decide +kernel) ⟨rfl, rfl, Nat.le_of_ble_eq_true rfl, Nat.le_of_ble_eq_true rfl⟩ t0 km_0 rfl rfl hl.1 rfl (Nat.le_of_ble_eq_true rfl) dX11_bites_6 ⟨Nat.zero_le _, Nat.zero_le _⟩ (fun x13 H locs ix13 ox13 hH hS hF1 => ?_)
      have ox13 : x13.toInt = q 11 := ox13
      refine lv_icmp_ge (tgt := 48) hx hb dX11_bites_9 (by decide) (fun c14 => ?_) (fun c14 => ?_)
      · skip
        have rlc14 : x13.toInt ≤ v4_2.toInt := iv_le c14
        refine lv_iload_n hx hb dX11_bites_48 rfl (lv_at hl 1 rfl) ?_
        exact th_iret S hK hH hS hr hlocks (th_R.i iv4_1) dX11_bites_49
      · skip
        have rlc14 : v4_2.toInt < x13.toInt := iv_nle c14
        have ir15 : IV v4_2 0 3 := iv_uL iv4_2 ix13 (iv_nle c14) (by decide)
        have ir15a := ir15.1; have ir15b := ir15.2
        have ir16 : IV x13 1 4 := iv_uR iv4_2 ix13 (iv_nle c14) (by decide)
        have ir16a := ir16.1; have ir16b := ir16.2
        refine lv_iconst (v := 0) hx hb dX11_bites_12 (by decide) ?_
        refine lv_istore_n (lv' := [(3, .int 0), (0, .ref a0), (1, .int v4_1), (2, .int v4_2)]) hx hb dX11_bites_13 rfl hl (by decide) rfl (fun ls hl => ?_)
        exact J14 ((3 + 1 - Int32.toInt 0).toNat + 1) H locs ls v4_1 0 iv4_1 (iv_w (iv_c (by decide) : IV 0 0 0) (by decide)) ir15 hH hS (lv_sub hl [1, 2, 3, 0] rfl) (Nat.lt_succ_self _)
  have J0 : ∀ (H : Heap) (locs : List Loc) (ls : Array Slot), th_H D cT T (km q) H → va_S (th_A T []) s.heap H locs → lv_has ls 4 [(0, .ref a0)] → W p l e (rmk 2 43) s m [.ref a0].toArray below meth c H locs 0 0 (MQ below (th_Q D cT T (km q) (th_R T (some (.inl (-2147483648, 2147483647)))) []) [.ref a0].toArray s 0 0 (th_A T [])) (F0 m 0 ls []) := by
    intro H locs ls hH hS hl
    refine lv_iconst (v := 0) hx hb dX11_bites_0 (by decide) ?_
    refine lv_istore_n (lv' := [(1, .int 0), (0, .ref a0)]) hx hb dX11_bites_1 rfl hl (by decide) rfl (fun ls hl => ?_)
    refine lv_iconst (v := 0) hx hb dX11_bites_2 (by decide) ?_
    refine lv_istore_n (lv' := [(2, .int 0), (1, .int 0), (0, .ref a0)]) hx hb dX11_bites_3 rfl hl (by decide) rfl (fun ls hl => ?_)
    exact J4 ((4 + 1 - Int32.toInt 0).toNat + 1) H locs ls 0 0 (iv_top _) (iv_w (iv_c (by decide) : IV 0 0 0) (by decide)) hH hS (lv_sub hl [2, 1, 0] rfl) (Nat.lt_succ_self _)
  exact J0 s.heap [] ls hH va_S.rf hl

set_option maxRecDepth 100000 in
theorem m_X11_trial (l : Launch) (D : va_G) (cT : Nat → ClassId) (T : Nat → Option Nat) (q : Nat → Int) (hq : qkm q) (a0 : Nat) (t0 : T a0 = some 0) (y1 : Int32) (j1 : IV y1 (-2147483648) 2147483647) (y2 : Int32) (j2 : IV y2 (-2147483648) 2147483647) (y3 : Int32) (j3 : IV y3 (-2147483648) 2147483647) (y4 : Int32) (j4 : IV y4 (-2147483648) 2147483647) (y5 : Int32) (j5 : IV y5 0 1) : th_Met l D cT T (km q) yX11_trial cX11_trial 6 (some .int) (rmk 1 22) [.ref a0, .int y1, .int y2, .int y3, .int y4, .int y5] (th_R T (some (.inl (-1, 29)))) [0, 38, 39, 40, 41, 42] := by
  refine th_start (by decide) (Nat.le_of_ble_eq_true rfl) ?_
  intro p e s m below meth c ls S hK hH hr hlocks hnm hl
  have hx := S.1
  have hb := S.2.1
  have l1y5 := j5.1; have l2y5 := j5.2
  have hl : lv_has ls 6 [(0, .ref a0), (1, .int y1), (2, .int y2), (3, .int y3), (4, .int y4), (5, .int y5)] := hl
  have J121_s2_0 : ∀ (H : Heap) (locs : List Loc) (ls : Array Slot) (w121_0 : Nat) (w121_1 : Int32) (u121_a0_65 : Int32), T w121_0 = some 40 → IV w121_1 0 29 → IV u121_a0_65 0 29 → th_fa D H a0 11 65 (.int u121_a0_65) → th_H D cT T (km q) H → va_S (th_A T [0, 38, 39, 40, 41, 42]) s.heap H locs → lv_has ls 6 [(0, .ref a0)] → W p l e (rmk 1 22) s m [.ref a0, .int y1, .int y2, .int y3, .int y4, .int y5].toArray below meth c H locs 0 0 (MQ below (th_Q D cT T (km q) (th_R T (some (.inl (-1, 29)))) [0, 38, 39, 40, 41, 42]) [.ref a0, .int y1, .int y2, .int y3, .int y4, .int y5].toArray s 0 0 (th_A T [0, 38, 39, 40, 41, 42])) (F0 m 121 ls [.int 0, .int w121_1, .ref w121_0]) := by
    intro H locs ls w121_0 w121_1 u121_a0_65 tw121_0 iw121_1 iu121_a0_65 gu121_a0_65 hH hS hl
    have l1w121_1 := iw121_1.1; have l2w121_1 := iw121_1.2
    refine th_iast S hK hH hS ⟨40, by decide, tw121_0⟩ tw121_0 km_40 (th_in (hi := 29) iw121_1 (by decide)) (th_iv (iv_top _)) dX11_trial_121 (fun H locs hH hS hq1 => ?_)
    have f1 := gu121_a0_65.kept (hq1 _ (th_ne t0 tw121_0 (by decide)))
    refine lv_aload_n hx hb dX11_trial_122 rfl (lv_at hl 0 rfl) ?_
    refine th_get S hK hH inG11 t0 km_0 rfl 63 (by decide) gm_1293 rfl rfl dX11_trial_123 (fun v2 hv2 fv2 => ?_)
    obtain ⟨rf3, rfl, trf3⟩ := th_V.ref hv2
    refine lv_aload_n hx hb dX11_trial_126 rfl (lv_at hl 0 rfl) ?_
    refine th_getK S hK f1 inG11 rfl (by decide) gm_1295 rfl dX11_trial_127 ?_
    refine lv_aload_n hx hb dX11_trial_130 rfl (lv_at hl 0 rfl) ?_
    refine th_get S hK hH inG11 t0 km_0 rfl 66 (by decide) gm_1296 rfl rfl dX11_trial_131 (fun v5 hv5 fv5 => ?_)
    obtain ⟨x6, rfl, ix6⟩ := th_V.int hv5
    have kx6a : q 9 ≤ x6.toInt := ix6.1
    have kx6b : x6.toInt ≤ q 9 := ix6.2
    have ix6 : IV x6 0 100000 := iv_w ix6 (qkm_9 hq)
    refine th_iast S hK hH hS ⟨41, by decide, trf3⟩ trf3 km_41 (th_in (hi := 29) iu121_a0_65 (by decide)) (th_iv (iv_top _)) dX11_trial_134 (fun H locs hH hS hq1 => ?_)
    have f7 := f1.kept (hq1 _ (th_ne t0 trf3 (by decide)))
    refine lv_aload_n hx hb dX11_trial_135 rfl (lv_at hl 0 rfl) ?_
    refine th_get S hK hH inG11 t0 km_0 rfl 64 (by decide) gm_1294 rfl rfl dX11_trial_136 (fun v8 hv8 fv8 => ?_)
    obtain ⟨rf9, rfl, trf9⟩ := th_V.ref hv8
    refine lv_aload_n hx hb dX11_trial_139 rfl (lv_at hl 0 rfl) ?_
    refine th_getK S hK f7 inG11 rfl (by decide) gm_1295 rfl dX11_trial_140 ?_
    refine lv_iconst (v := (-1)) hx hb dX11_trial_143 (by decide) ?_
    refine th_iast S hK hH hS ⟨42, by decide, trf9⟩ trf9 km_42 (th_in (hi := 29) iu121_a0_65 (by decide)) (th_iv (iv_top _)) dX11_trial_144 (fun H locs hH hS hq1 => ?_)
    have f11 := f7.kept (hq1 _ (th_ne t0 trf9 (by decide)))
    refine lv_aload_n hx hb dX11_trial_145 rfl (lv_at hl 0 rfl) ?_
    refine lv_dup hx hb dX11_trial_146 rfl ?_
    refine th_getK S hK f11 inG11 rfl (by decide) gm_1295 rfl dX11_trial_147 ?_
    refine lv_iconst (v := 1) hx hb dX11_trial_150 (by decide) ?_
    refine lv_iadd hx hb dX11_trial_151 ?_
    refine lv_topi (fun x13 ex13 => ?_)
    have ix13 : IV x13 1 30 := by rw [ex13]; exact iv_add iu121_a0_65 (iv_c (by decide) : IV 1 1 1) (by decide)
    have ux13 : x13.toInt = u121_a0_65.toInt + (1 : Int) := by rw [ex13]; exact iv_addE (by have z1 := (iu121_a0_65).1; have z2 := (iu121_a0_65).2; have z3 := ((iv_c (by decide) : IV 1 1 1)).1; have z4 := ((iv_c (by decide) : IV 1 1 1)).2; omega)
    refine th_put S hK hH hS ⟨0, by decide, t0⟩ inG11 tyX11 tyX11_ok nmX11 t0 km_0 rfl 65 (by decide) gm_1295 rfl rfl rfl rfl (th_iv (iv_w ix13 (by decide))) (fun vs h => nmR_set h.2.2 (by decide) rfl) (ty := .int) (by decide +kernel) rfl rfl dX11_trial_152 (fun H locs hH hS hq1 hp1 => ?_)
    have f14 := hp1.1
    refine lv_aload_n hx hb dX11_trial_155 rfl (lv_at hl 0 rfl) ?_
    refine th_getK S hK f14 inG11 rfl (by decide) gm_1295 rfl dX11_trial_156 ?_
    refine lv_iconst (v := 1) hx hb dX11_trial_159 (by decide) ?_
    refine lv_isub hx hb dX11_trial_160 ?_
    refine lv_topi (fun x16 ex16 => ?_)
    have ix16 : IV x16 0 29 := by rw [ex16]; exact iv_sub ix13 (iv_c (by decide) : IV 1 1 1) (by decide)
    have ux16 : x16.toInt = x13.toInt - (1 : Int) := by rw [ex16]; exact iv_subE (by have z1 := (ix13).1; have z2 := (ix13).2; have z3 := ((iv_c (by decide) : IV 1 1 1)).1; have z4 := ((iv_c (by decide) : IV 1 1 1)).2; omega)
    exact th_iret S hK hH hS hr hlocks (th_R.i (iv_w ix16 (by decide))) dX11_trial_161
  have J121_s2_1 : ∀ (H : Heap) (locs : List Loc) (ls : Array Slot) (w121_0 : Nat) (w121_1 : Int32) (u121_a0_65 : Int32), T w121_0 = some 40 → IV w121_1 0 29 → IV u121_a0_65 0 29 → th_fa D H a0 11 65 (.int u121_a0_65) → th_H D cT T (km q) H → va_S (th_A T [0, 38, 39, 40, 41, 42]) s.heap H locs → lv_has ls 6 [(0, .ref a0)] → W p l e (rmk 1 22) s m [.ref a0, .int y1, .int y2, .int y3, .int y4, .int y5].toArray below meth c H locs 0 0 (MQ below (th_Q D cT T (km q) (th_R T (some (.inl (-1, 29)))) [0, 38, 39, 40, 41, 42]) [.ref a0, .int y1, .int y2, .int y3, .int y4, .int y5].toArray s 0 0 (th_A T [0, 38, 39, 40, 41, 42])) (F0 m 121 ls [.int 1, .int w121_1, .ref w121_0]) := by
    intro H locs ls w121_0 w121_1 u121_a0_65 tw121_0 iw121_1 iu121_a0_65 gu121_a0_65 hH hS hl
    have l1w121_1 := iw121_1.1; have l2w121_1 := iw121_1.2
    refine th_iast S hK hH hS ⟨40, by decide, tw121_0⟩ tw121_0 km_40 (th_in (hi := 29) iw121_1 (by decide)) (th_iv (iv_top _)) dX11_trial_121 (fun H locs hH hS hq1 => ?_)
    have f17 := gu121_a0_65.kept (hq1 _ (th_ne t0 tw121_0 (by decide)))
    refine lv_aload_n hx hb dX11_trial_122 rfl (lv_at hl 0 rfl) ?_
    refine th_get S hK hH inG11 t0 km_0 rfl 63 (by decide) gm_1293 rfl rfl dX11_trial_123 (fun v18 hv18 fv18 => ?_)
    obtain ⟨rf19, rfl, trf19⟩ := th_V.ref hv18
    refine lv_aload_n hx hb dX11_trial_126 rfl (lv_at hl 0 rfl) ?_
    refine th_getK S hK f17 inG11 rfl (by decide) gm_1295 rfl dX11_trial_127 ?_
    refine lv_aload_n hx hb dX11_trial_130 rfl (lv_at hl 0 rfl) ?_
    refine th_get S hK hH inG11 t0 km_0 rfl 66 (by decide) gm_1296 rfl rfl dX11_trial_131 (fun v21 hv21 fv21 => ?_)
    obtain ⟨x22, rfl, ix22⟩ := th_V.int hv21
    have kx22a : q 9 ≤ x22.toInt := ix22.1
    have kx22b : x22.toInt ≤ q 9 := ix22.2
    have ix22 : IV x22 0 100000 := iv_w ix22 (qkm_9 hq)
    refine th_iast S hK hH hS ⟨41, by decide, trf19⟩ trf19 km_41 (th_in (hi := 29) iu121_a0_65 (by decide)) (th_iv (iv_top _)) dX11_trial_134 (fun H locs hH hS hq1 => ?_)
    have f23 := f17.kept (hq1 _ (th_ne t0 trf19 (by decide)))
    refine lv_aload_n hx hb dX11_trial_135 rfl (lv_at hl 0 rfl) ?_
    refine th_get S hK hH inG11 t0 km_0 rfl 64 (by decide) gm_1294 rfl rfl dX11_trial_136 (fun v24 hv24 fv24 => ?_)
    obtain ⟨rf25, rfl, trf25⟩ := th_V.ref hv24
    refine lv_aload_n hx hb dX11_trial_139 rfl (lv_at hl 0 rfl) ?_
    refine th_getK S hK f23 inG11 rfl (by decide) gm_1295 rfl dX11_trial_140 ?_
    refine lv_iconst (v := (-1)) hx hb dX11_trial_143 (by decide) ?_
    refine th_iast S hK hH hS ⟨42, by decide, trf25⟩ trf25 km_42 (th_in (hi := 29) iu121_a0_65 (by decide)) (th_iv (iv_top _)) dX11_trial_144 (fun H locs hH hS hq1 => ?_)
    have f27 := f23.kept (hq1 _ (th_ne t0 trf25 (by decide)))
    refine lv_aload_n hx hb dX11_trial_145 rfl (lv_at hl 0 rfl) ?_
    refine lv_dup hx hb dX11_trial_146 rfl ?_
    refine th_getK S hK f27 inG11 rfl (by decide) gm_1295 rfl dX11_trial_147 ?_
    refine lv_iconst (v := 1) hx hb dX11_trial_150 (by decide) ?_
    refine lv_iadd hx hb dX11_trial_151 ?_
    refine lv_topi (fun x29 ex29 => ?_)
    have ix29 : IV x29 1 30 := by rw [ex29]; exact iv_add iu121_a0_65 (iv_c (by decide) : IV 1 1 1) (by decide)
    have ux29 : x29.toInt = u121_a0_65.toInt + (1 : Int) := by rw [ex29]; exact iv_addE (by have z1 := (iu121_a0_65).1; have z2 := (iu121_a0_65).2; have z3 := ((iv_c (by decide) : IV 1 1 1)).1; have z4 := ((iv_c (by decide) : IV 1 1 1)).2; omega)
    refine th_put S hK hH hS ⟨0, by decide, t0⟩ inG11 tyX11 tyX11_ok nmX11 t0 km_0 rfl 65 (by decide) gm_1295 rfl rfl rfl rfl (th_iv (iv_w ix29 (by decide))) (fun vs h => nmR_set h.2.2 (by decide) rfl) (ty := .int) (by decide +kernel) rfl rfl dX11_trial_152 (fun H locs hH hS hq1 hp1 => ?_)
    have f30 := hp1.1
    refine lv_aload_n hx hb dX11_trial_155 rfl (lv_at hl 0 rfl) ?_
    refine th_getK S hK f30 inG11 rfl (by decide) gm_1295 rfl dX11_trial_156 ?_
    refine lv_iconst (v := 1) hx hb dX11_trial_159 (by decide) ?_
    refine lv_isub hx hb dX11_trial_160 ?_
    refine lv_topi (fun x32 ex32 => ?_)
    have ix32 : IV x32 0 29 := by rw [ex32]; exact iv_sub ix29 (iv_c (by decide) : IV 1 1 1) (by decide)
    have ux32 : x32.toInt = x29.toInt - (1 : Int) := by rw [ex32]; exact iv_subE (by have z1 := (ix29).1; have z2 := (ix29).2; have z3 := ((iv_c (by decide) : IV 1 1 1)).1; have z4 := ((iv_c (by decide) : IV 1 1 1)).2; omega)
    exact th_iret S hK hH hS hr hlocks (th_R.i (iv_w ix32 (by decide))) dX11_trial_161
  have J50 : ∀ (H : Heap) (locs : List Loc) (ls : Array Slot), th_H D cT T (km q) H → va_S (th_A T [0, 38, 39, 40, 41, 42]) s.heap H locs → lv_has ls 6 [] → W p l e (rmk 1 22) s m [.ref a0, .int y1, .int y2, .int y3, .int y4, .int y5].toArray below meth c H locs 0 0 (MQ below (th_Q D cT T (km q) (th_R T (some (.inl (-1, 29)))) [0, 38, 39, 40, 41, 42]) [.ref a0, .int y1, .int y2, .int y3, .int y4, .int y5].toArray s 0 0 (th_A T [0, 38, 39, 40, 41, 42])) (F0 m 50 ls []) := by
    intro H locs ls hH hS hl
    refine lv_iconst (v := (-1)) hx hb dX11_trial_50 (by decide) ?_
    exact th_iret S hK hH hS hr hlocks (th_R.i (iv_w (iv_c (by decide) : IV (-1) (-1) (-1)) (by decide))) dX11_trial_51
  have J0 : ∀ (H : Heap) (locs : List Loc) (ls : Array Slot), th_H D cT T (km q) H → va_S (th_A T [0, 38, 39, 40, 41, 42]) s.heap H locs → lv_has ls 6 [(0, .ref a0), (1, .int y1), (2, .int y2), (3, .int y3), (4, .int y4), (5, .int y5)] → W p l e (rmk 1 22) s m [.ref a0, .int y1, .int y2, .int y3, .int y4, .int y5].toArray below meth c H locs 0 0 (MQ below (th_Q D cT T (km q) (th_R T (some (.inl (-1, 29)))) [0, 38, 39, 40, 41, 42]) [.ref a0, .int y1, .int y2, .int y3, .int y4, .int y5].toArray s 0 0 (th_A T [0, 38, 39, 40, 41, 42])) (F0 m 0 ls []) := by
    intro H locs ls hH hS hl
    refine lv_iload_n hx hb dX11_trial_0 rfl (lv_at hl 1 rfl) ?_
    refine lv_iconst (v := 0) hx hb dX11_trial_1 (by decide) ?_
    refine lv_bipush (v := 9) hx hb dX11_trial_2 (by decide) ?_
    refine th_callSp (n := 3) (As := [.int y1, .int 0, .int 9]) S hK hH hS (th_A.sub (by decide)) (m_X11_isIn l D cT T q hq (y1) j1 (0) (iv_top _) (9) (iv_top _)) gm_1618 gm_1616 gm_1617 gm_124 (by decide +kernel) ⟨rfl, rfl, Nat.le_of_ble_eq_true rfl, Nat.le_of_ble_eq_true rfl⟩ rfl hl.1 rfl (Nat.le_of_ble_eq_true rfl) dX11_trial_4 ⟨Nat.zero_le _, Nat.zero_le _⟩ (fun x33 H locs ix33 ox33 hH hS hF1 => ?_)
    obtain ⟨ox33_0, ox33_1⟩ := ox33
    have ox33_0 : x33.toInt ≠ 0 → (0 : Int) ≤ y1.toInt ∧ y1.toInt ≤ (9 : Int) := ox33_0
    have ox33_1 : x33.toInt = 0 → y1.toInt < (0 : Int) ∨ (9 : Int) < y1.toInt := ox33_1
    refine lv_if_eq (tgt := 50) hx hb dX11_trial_7 (by decide) (fun c34 => ?_) (fun c34 => ?_)
    · skip
      have rlc34 : x33.toInt = (0 : Int) := congrArg Int32.toInt c34
      have ir35 : IV x33 0 0 := iv_eL c34 (iv_c (by decide) : IV 0 0 0)
      have ir35a := ir35.1; have ir35b := ir35.2
      exact J50 H locs ls  hH hS (lv_sub hl [] rfl)
    · skip
      have rlc34 : x33.toInt ≠ (0 : Int) := iv_ne c34
      have ir36 : IV x33 1 1 := iv_cutL ix33 (iv_c (by decide) : IV 0 0 0) c34 (by decide)
      have ir36a := ir36.1; have ir36b := ir36.2
      have ir37 : IV y1 0 9 := ((fun z => by have z1 := iv_ne z; have z2 : x33.toInt ≠ 0 := z1; have z4 := ((iv_c (by decide) : IV 0 0 0)).1; have z5 := ((iv_c (by decide) : IV 9 9 9)).2; exact ⟨by omega, by omega⟩) : ¬ x33 = 0 → IV y1 0 9) c34
      have ir37a := ir37.1; have ir37b := ir37.2
      refine lv_iload_n hx hb dX11_trial_10 rfl (lv_at hl 2 rfl) ?_
      refine lv_iconst (v := 0) hx hb dX11_trial_11 (by decide) ?_
      refine lv_bipush (v := 9) hx hb dX11_trial_12 (by decide) ?_
      refine th_callSp (n := 3) (As := [.int y2, .int 0, .int 9]) S hK hH hS (th_A.sub (by decide)) (m_X11_isIn l D cT T q hq (y2) j2 (0) (iv_top _) (9) (iv_top _)) gm_1618 gm_1616 gm_1617 gm_124 (by decide +kernel) ⟨rfl, rfl, Nat.le_of_ble_eq_true rfl, Nat.le_of_ble_eq_true rfl⟩ rfl hl.1 rfl (Nat.le_of_ble_eq_true rfl) dX11_trial_14 ⟨Nat.zero_le _, Nat.zero_le _⟩ (fun x38 H locs ix38 ox38 hH hS hF1 => ?_)
      obtain ⟨ox38_0, ox38_1⟩ := ox38
      have ox38_0 : x38.toInt ≠ 0 → (0 : Int) ≤ y2.toInt ∧ y2.toInt ≤ (9 : Int) := ox38_0
      have ox38_1 : x38.toInt = 0 → y2.toInt < (0 : Int) ∨ (9 : Int) < y2.toInt := ox38_1
      refine lv_if_eq (tgt := 50) hx hb dX11_trial_17 (by decide) (fun c39 => ?_) (fun c39 => ?_)
      · skip
        have rlc39 : x38.toInt = (0 : Int) := congrArg Int32.toInt c39
        have ir40 : IV x38 0 0 := iv_eL c39 (iv_c (by decide) : IV 0 0 0)
        have ir40a := ir40.1; have ir40b := ir40.2
        exact J50 H locs ls  hH hS (lv_sub hl [] rfl)
      · skip
        have rlc39 : x38.toInt ≠ (0 : Int) := iv_ne c39
        have ir41 : IV x38 1 1 := iv_cutL ix38 (iv_c (by decide) : IV 0 0 0) c39 (by decide)
        have ir41a := ir41.1; have ir41b := ir41.2
        have ir42 : IV y2 0 9 := ((fun z => by have z1 := iv_ne z; have z2 : x38.toInt ≠ 0 := z1; have z4 := ((iv_c (by decide) : IV 0 0 0)).1; have z5 := ((iv_c (by decide) : IV 9 9 9)).2; exact ⟨by omega, by omega⟩) : ¬ x38 = 0 → IV y2 0 9) c39
        have ir42a := ir42.1; have ir42b := ir42.2
        refine lv_iload_n hx hb dX11_trial_20 rfl (lv_at hl 3 rfl) ?_
        refine lv_iconst (v := 0) hx hb dX11_trial_21 (by decide) ?_
        refine lv_bipush (v := 9) hx hb dX11_trial_22 (by decide) ?_
        refine th_callSp (n := 3) (As := [.int y3, .int 0, .int 9]) S hK hH hS (th_A.sub (by decide)) (m_X11_isIn l D cT T q hq (y3) j3 (0) (iv_top _) (9) (iv_top _)) gm_1618 gm_1616 gm_1617 gm_124 (by decide +kernel) ⟨rfl, rfl, Nat.le_of_ble_eq_true rfl, Nat.le_of_ble_eq_true rfl⟩ rfl hl.1 rfl (Nat.le_of_ble_eq_true rfl) dX11_trial_24 ⟨Nat.zero_le _, Nat.zero_le _⟩ (fun x43 H locs ix43 ox43 hH hS hF1 => ?_)
        obtain ⟨ox43_0, ox43_1⟩ := ox43
        have ox43_0 : x43.toInt ≠ 0 → (0 : Int) ≤ y3.toInt ∧ y3.toInt ≤ (9 : Int) := ox43_0
        have ox43_1 : x43.toInt = 0 → y3.toInt < (0 : Int) ∨ (9 : Int) < y3.toInt := ox43_1
        refine lv_if_eq (tgt := 50) hx hb dX11_trial_27 (by decide) (fun c44 => ?_) (fun c44 => ?_)
        · skip
          have rlc44 : x43.toInt = (0 : Int) := congrArg Int32.toInt c44
          have ir45 : IV x43 0 0 := iv_eL c44 (iv_c (by decide) : IV 0 0 0)
          have ir45a := ir45.1; have ir45b := ir45.2
          exact J50 H locs ls  hH hS (lv_sub hl [] rfl)
        · skip
          have rlc44 : x43.toInt ≠ (0 : Int) := iv_ne c44
          have ir46 : IV x43 1 1 := iv_cutL ix43 (iv_c (by decide) : IV 0 0 0) c44 (by decide)
          have ir46a := ir46.1; have ir46b := ir46.2
          have ir47 : IV y3 0 9 := ((fun z => by have z1 := iv_ne z; have z2 : x43.toInt ≠ 0 := z1; have z4 := ((iv_c (by decide) : IV 0 0 0)).1; have z5 := ((iv_c (by decide) : IV 9 9 9)).2; exact ⟨by omega, by omega⟩) : ¬ x43 = 0 → IV y3 0 9) c44
          have ir47a := ir47.1; have ir47b := ir47.2
          refine lv_iload hx hb dX11_trial_30 (lv_at hl 4 rfl) ?_
          refine lv_iconst (v := 1) hx hb dX11_trial_32 (by decide) ?_
          refine lv_bipush (v := 99) hx hb dX11_trial_33 (by decide) ?_
          refine th_callSp (n := 3) (As := [.int y4, .int 1, .int 99]) S hK hH hS (th_A.sub (by decide)) (m_X11_isIn l D cT T q hq (y4) j4 (1) (iv_top _) (99) (iv_top _)) gm_1618 gm_1616 gm_1617 gm_124 (by decide +kernel) ⟨rfl, rfl, Nat.le_of_ble_eq_true rfl, Nat.le_of_ble_eq_true rfl⟩ rfl hl.1 rfl (Nat.le_of_ble_eq_true rfl) dX11_trial_35 ⟨Nat.zero_le _, Nat.zero_le _⟩ (fun x48 H locs ix48 ox48 hH hS hF1 => ?_)
          obtain ⟨ox48_0, ox48_1⟩ := ox48
          have ox48_0 : x48.toInt ≠ 0 → (1 : Int) ≤ y4.toInt ∧ y4.toInt ≤ (99 : Int) := ox48_0
          have ox48_1 : x48.toInt = 0 → y4.toInt < (1 : Int) ∨ (99 : Int) < y4.toInt := ox48_1
          refine lv_if_eq (tgt := 50) hx hb dX11_trial_38 (by decide) (fun c49 => ?_) (fun c49 => ?_)
          · skip
            have rlc49 : x48.toInt = (0 : Int) := congrArg Int32.toInt c49
            have ir50 : IV x48 0 0 := iv_eL c49 (iv_c (by decide) : IV 0 0 0)
            have ir50a := ir50.1; have ir50b := ir50.2
            exact J50 H locs ls  hH hS (lv_sub hl [] rfl)
          · skip
            have rlc49 : x48.toInt ≠ (0 : Int) := iv_ne c49
            have ir51 : IV x48 1 1 := iv_cutL ix48 (iv_c (by decide) : IV 0 0 0) c49 (by decide)
            have ir51a := ir51.1; have ir51b := ir51.2
            have ir52 : IV y4 1 99 := ((fun z => by have z1 := iv_ne z; have z2 : x48.toInt ≠ 0 := z1; have z4 := ((iv_c (by decide) : IV 1 1 1)).1; have z5 := ((iv_c (by decide) : IV 99 99 99)).2; exact ⟨by omega, by omega⟩) : ¬ x48 = 0 → IV y4 1 99) c49
            have ir52a := ir52.1; have ir52b := ir52.2
            refine lv_aload_n hx hb dX11_trial_41 rfl (lv_at hl 0 rfl) ?_
            refine th_get S hK hH inG11 t0 km_0 rfl 65 (by decide) gm_1295 rfl rfl dX11_trial_42 (fun v53 hv53 fv53 => ?_)
            obtain ⟨x54, rfl, ix54⟩ := th_V.int hv53
            refine lv_bipush (v := 30) hx hb dX11_trial_45 (by decide) ?_
            refine lv_icmp_ne (tgt := 52) hx hb dX11_trial_47 (by decide) (fun c55 => ?_) (fun c55 => ?_)
            · skip
              have rlc55 : x54.toInt ≠ (30 : Int) := iv_ne c55
              have ir56 : IV x54 0 29 := iv_cutH ix54 (iv_c (by decide) : IV 30 30 30) c55 (by decide)
              have ir56a := ir56.1; have ir56b := ir56.2
              refine lv_aload_n hx hb dX11_trial_52 rfl (lv_at hl 0 rfl) ?_
              refine th_get S hK hH inG11 t0 km_0 rfl 60 (by decide) gm_1290 rfl rfl dX11_trial_53 (fun v57 hv57 fv57 => ?_)
              obtain ⟨rf58, rfl, trf58⟩ := th_V.ref hv57
              refine lv_iconst (v := 3) hx hb dX11_trial_56 (by decide) ?_
              refine lv_aload_n hx hb dX11_trial_57 rfl (lv_at hl 0 rfl) ?_
              refine th_getK S hK fv53 inG11 rfl (by decide) gm_1295 rfl dX11_trial_58 ?_
              refine lv_imul hx hb dX11_trial_61 ?_
              refine lv_topi (fun x60 ex60 => ?_)
              have ix60 : IV x60 0 87 := by rw [ex60]; exact iv_mul (iv_c (by decide) : IV 3 3 3) ir56 (by decide) (by decide)
              have ux60 : x60.toInt = (3 : Int) * x54.toInt := by rw [ex60]; exact iv_mulE (iv_corner ((iv_c (by decide) : IV 3 3 3)).1 ((iv_c (by decide) : IV 3 3 3)).2 (ir56).1 (ir56).2 (by decide))
              refine lv_iload_n hx hb dX11_trial_62 rfl (lv_at hl 1 rfl) ?_
              refine th_iast S hK hH hS ⟨38, by decide, trf58⟩ trf58 km_38 (th_in (hi := 87) ix60 (by decide)) (th_iv (iv_top _)) dX11_trial_63 (fun H locs hH hS hq1 => ?_)
              have f61 := fv53.kept (hq1 _ (th_ne t0 trf58 (by decide)))
              have f62 := fv57.kept (hq1 _ (th_ne t0 trf58 (by decide)))
              refine lv_aload_n hx hb dX11_trial_64 rfl (lv_at hl 0 rfl) ?_
              refine th_getK S hK f62 inG11 rfl (by decide) gm_1290 rfl dX11_trial_65 ?_
              refine lv_iconst (v := 3) hx hb dX11_trial_68 (by decide) ?_
              refine lv_aload_n hx hb dX11_trial_69 rfl (lv_at hl 0 rfl) ?_
              refine th_getK S hK f61 inG11 rfl (by decide) gm_1295 rfl dX11_trial_70 ?_
              refine lv_imul hx hb dX11_trial_73 ?_
              refine lv_topi (fun x65 ex65 => ?_)
              have zx65 : x60 = x65 := ex60.trans ex65.symm
              subst zx65
              refine lv_iconst (v := 1) hx hb dX11_trial_74 (by decide) ?_
              refine lv_iadd hx hb dX11_trial_75 ?_
              refine lv_topi (fun x66 ex66 => ?_)
              have ix66 : IV x66 1 88 := by rw [ex66]; exact iv_add ix60 (iv_c (by decide) : IV 1 1 1) (by decide)
              have ux66 : x66.toInt = x60.toInt + (1 : Int) := by rw [ex66]; exact iv_addE (by have z1 := (ix60).1; have z2 := (ix60).2; have z3 := ((iv_c (by decide) : IV 1 1 1)).1; have z4 := ((iv_c (by decide) : IV 1 1 1)).2; omega)
              refine lv_iload_n hx hb dX11_trial_76 rfl (lv_at hl 2 rfl) ?_
              refine th_iast S hK hH hS ⟨38, by decide, trf58⟩ trf58 km_38 (th_in (hi := 88) (iv_w ix66 (by decide)) (by decide)) (th_iv (iv_top _)) dX11_trial_77 (fun H locs hH hS hq1 => ?_)
              have f67 := f61.kept (hq1 _ (th_ne t0 trf58 (by decide)))
              have f68 := f62.kept (hq1 _ (th_ne t0 trf58 (by decide)))
              refine lv_aload_n hx hb dX11_trial_78 rfl (lv_at hl 0 rfl) ?_
              refine th_getK S hK f68 inG11 rfl (by decide) gm_1290 rfl dX11_trial_79 ?_
              refine lv_iconst (v := 3) hx hb dX11_trial_82 (by decide) ?_
              refine lv_aload_n hx hb dX11_trial_83 rfl (lv_at hl 0 rfl) ?_
              refine th_getK S hK f67 inG11 rfl (by decide) gm_1295 rfl dX11_trial_84 ?_
              refine lv_imul hx hb dX11_trial_87 ?_
              refine lv_topi (fun x71 ex71 => ?_)
              have zx71 : x60 = x71 := ex60.trans ex71.symm
              subst zx71
              refine lv_iconst (v := 2) hx hb dX11_trial_88 (by decide) ?_
              refine lv_iadd hx hb dX11_trial_89 ?_
              refine lv_topi (fun x72 ex72 => ?_)
              have ix72 : IV x72 2 89 := by rw [ex72]; exact iv_add ix60 (iv_c (by decide) : IV 2 2 2) (by decide)
              have ux72 : x72.toInt = x60.toInt + (2 : Int) := by rw [ex72]; exact iv_addE (by have z1 := (ix60).1; have z2 := (ix60).2; have z3 := ((iv_c (by decide) : IV 2 2 2)).1; have z4 := ((iv_c (by decide) : IV 2 2 2)).2; omega)
              refine lv_iload_n hx hb dX11_trial_90 rfl (lv_at hl 3 rfl) ?_
              refine th_iast S hK hH hS ⟨38, by decide, trf58⟩ trf58 km_38 (th_in (hi := 89) (iv_w ix72 (by decide)) (by decide)) (th_iv (iv_top _)) dX11_trial_91 (fun H locs hH hS hq1 => ?_)
              have f73 := f67.kept (hq1 _ (th_ne t0 trf58 (by decide)))
              have f74 := f68.kept (hq1 _ (th_ne t0 trf58 (by decide)))
              refine lv_aload_n hx hb dX11_trial_92 rfl (lv_at hl 0 rfl) ?_
              refine th_get S hK hH inG11 t0 km_0 rfl 61 (by decide) gm_1291 rfl rfl dX11_trial_93 (fun v75 hv75 fv75 => ?_)
              obtain ⟨rf76, rfl, trf76⟩ := th_V.ref hv75
              refine lv_aload_n hx hb dX11_trial_96 rfl (lv_at hl 0 rfl) ?_
              refine th_getK S hK f73 inG11 rfl (by decide) gm_1295 rfl dX11_trial_97 ?_
              refine lv_iload hx hb dX11_trial_100 (lv_at hl 4 rfl) ?_
              refine th_iast S hK hH hS ⟨39, by decide, trf76⟩ trf76 km_39 (th_in (hi := 29) ir56 (by decide)) (th_iv (iv_top _)) dX11_trial_102 (fun H locs hH hS hq1 => ?_)
              have f78 := f73.kept (hq1 _ (th_ne t0 trf76 (by decide)))
              have f79 := f74.kept (hq1 _ (th_ne t0 trf76 (by decide)))
              refine lv_aload_n hx hb dX11_trial_103 rfl (lv_at hl 0 rfl) ?_
              refine th_get S hK hH inG11 t0 km_0 rfl 62 (by decide) gm_1292 rfl rfl dX11_trial_104 (fun v80 hv80 fv80 => ?_)
              obtain ⟨rf81, rfl, trf81⟩ := th_V.ref hv80
              refine lv_aload_n hx hb dX11_trial_107 rfl (lv_at hl 0 rfl) ?_
              refine th_getK S hK f78 inG11 rfl (by decide) gm_1295 rfl dX11_trial_108 ?_
              refine lv_iload hx hb dX11_trial_111 (lv_at hl 5 rfl) ?_
              refine lv_if_eq (tgt := 120) hx hb dX11_trial_113 (by decide) (fun c83 => ?_) (fun c83 => ?_)
              · skip
                have rlc83 : y5.toInt = (0 : Int) := congrArg Int32.toInt c83
                have ir84 : IV y5 0 0 := iv_eL c83 (iv_c (by decide) : IV 0 0 0)
                have ir84a := ir84.1; have ir84b := ir84.2
                refine lv_iconst (v := 0) hx hb dX11_trial_120 (by decide) ?_
                exact J121_s2_0 H locs ls rf81 x54 x54 trf81 ir56 ir56 f78 hH hS (lv_sub hl [0] rfl)
              · skip
                have rlc83 : y5.toInt ≠ (0 : Int) := iv_ne c83
                have ir85 : IV y5 1 1 := iv_cutL j5 (iv_c (by decide) : IV 0 0 0) c83 (by decide)
                have ir85a := ir85.1; have ir85b := ir85.2
                refine lv_iconst (v := 1) hx hb dX11_trial_116 (by decide) ?_
                refine lv_goto (tgt := 121) hx hb dX11_trial_117 (by decide) ?_
                exact J121_s2_1 H locs ls rf81 x54 x54 trf81 ir56 ir56 f78 hH hS (lv_sub hl [0] rfl)
            · skip
              have rlc55 : x54.toInt = (30 : Int) := congrArg Int32.toInt c55
              have ir86 : IV x54 30 30 := ⟨(iv_eL c55 (iv_c (by decide) : IV 30 30 30)).1, ix54.2⟩
              have ir86a := ir86.1; have ir86b := ir86.2
              exact J50 H locs ls  hH hS (lv_sub hl [] rfl)
  exact J0 s.heap [] ls hH va_S.rf hl

set_option maxRecDepth 100000 in
theorem m_X11_untell (l : Launch) (D : va_G) (cT : Nat → ClassId) (T : Nat → Option Nat) (q : Nat → Int) (hq : qkm q) (a0 : Nat) (t0 : T a0 = some 0) (y1 : Int32) (j1 : IV y1 (-2147483648) 2147483647) : th_Met l D cT T (km q) yX11_untell cX11_untell 2 (some .boolean) (rmk 1 22) [.ref a0, .int y1] (th_R T (some (.inl (0, 1)))) [42] := by
  refine th_start (by decide) (Nat.le_of_ble_eq_true rfl) ?_
  intro p e s m below meth c ls S hK hH hr hlocks hnm hl
  have hx := S.1
  have hb := S.2.1
  have hl : lv_has ls 2 [(0, .ref a0), (1, .int y1)] := hl
  have J23 : ∀ (H : Heap) (locs : List Loc) (ls : Array Slot), th_H D cT T (km q) H → va_S (th_A T [42]) s.heap H locs → lv_has ls 2 [] → W p l e (rmk 1 22) s m [.ref a0, .int y1].toArray below meth c H locs 0 0 (MQ below (th_Q D cT T (km q) (th_R T (some (.inl (0, 1)))) [42]) [.ref a0, .int y1].toArray s 0 0 (th_A T [42])) (F0 m 23 ls []) := by
    intro H locs ls hH hS hl
    refine lv_iconst (v := 0) hx hb dX11_untell_23 (by decide) ?_
    exact th_zret S hK hH hS hr hlocks (iv_w (iv_c (by decide) : IV 0 0 0) (by decide)) (th_R.i (iv_w (iv_c (by decide) : IV 0 0 0) (by decide))) dX11_untell_24
  have J0 : ∀ (H : Heap) (locs : List Loc) (ls : Array Slot), th_H D cT T (km q) H → va_S (th_A T [42]) s.heap H locs → lv_has ls 2 [(0, .ref a0), (1, .int y1)] → W p l e (rmk 1 22) s m [.ref a0, .int y1].toArray below meth c H locs 0 0 (MQ below (th_Q D cT T (km q) (th_R T (some (.inl (0, 1)))) [42]) [.ref a0, .int y1].toArray s 0 0 (th_A T [42])) (F0 m 0 ls []) := by
    intro H locs ls hH hS hl
    refine lv_iload_n hx hb dX11_untell_0 rfl (lv_at hl 1 rfl) ?_
    refine lv_iconst (v := 0) hx hb dX11_untell_1 (by decide) ?_
    refine lv_aload_n hx hb dX11_untell_2 rfl (lv_at hl 0 rfl) ?_
    refine th_get S hK hH inG11 t0 km_0 rfl 65 (by decide) gm_1295 rfl rfl dX11_untell_3 (fun v1 hv1 fv1 => ?_)
    obtain ⟨x2, rfl, ix2⟩ := th_V.int hv1
    refine lv_iconst (v := 1) hx hb dX11_untell_6 (by decide) ?_
    refine lv_isub hx hb dX11_untell_7 ?_
    refine lv_topi (fun x3 ex3 => ?_)
    have ix3 : IV x3 (-1) 29 := by rw [ex3]; exact iv_sub ix2 (iv_c (by decide) : IV 1 1 1) (by decide)
    have ux3 : x3.toInt = x2.toInt - (1 : Int) := by rw [ex3]; exact iv_subE (by have z1 := (ix2).1; have z2 := (ix2).2; have z3 := ((iv_c (by decide) : IV 1 1 1)).1; have z4 := ((iv_c (by decide) : IV 1 1 1)).2; omega)
    refine th_callSp (n := 3) (As := [.int y1, .int 0, .int x3]) S hK hH hS (th_A.sub (by decide)) (m_X11_isIn l D cT T q hq (y1) j1 (0) (iv_top _) (x3) (iv_top _)) gm_1618 gm_1616 gm_1617 gm_124 (by decide +kernel) ⟨rfl, rfl, Nat.le_of_ble_eq_true rfl, Nat.le_of_ble_eq_true rfl⟩ rfl hl.1 rfl (Nat.le_of_ble_eq_true rfl) dX11_untell_8 ⟨Nat.zero_le _, Nat.zero_le _⟩ (fun x4 H locs ix4 ox4 hH hS hF1 => ?_)
    obtain ⟨ox4_0, ox4_1⟩ := ox4
    have ox4_0 : x4.toInt ≠ 0 → (0 : Int) ≤ y1.toInt ∧ y1.toInt ≤ x3.toInt := ox4_0
    have ox4_1 : x4.toInt = 0 → y1.toInt < (0 : Int) ∨ x3.toInt < y1.toInt := ox4_1
    refine lv_if_eq (tgt := 23) hx hb dX11_untell_11 (by decide) (fun c5 => ?_) (fun c5 => ?_)
    · skip
      have rlc5 : x4.toInt = (0 : Int) := congrArg Int32.toInt c5
      have ir6 : IV x4 0 0 := iv_eL c5 (iv_c (by decide) : IV 0 0 0)
      have ir6a := ir6.1; have ir6b := ir6.2
      exact J23 H locs ls  hH hS (lv_sub hl [] rfl)
    · skip
      have rlc5 : x4.toInt ≠ (0 : Int) := iv_ne c5
      have ir7 : IV x4 1 1 := iv_cutL ix4 (iv_c (by decide) : IV 0 0 0) c5 (by decide)
      have ir7a := ir7.1; have ir7b := ir7.2
      have ir8 : IV y1 0 29 := ((fun z => by have z1 := iv_ne z; have z2 : x4.toInt ≠ 0 := z1; have z4 := ((iv_c (by decide) : IV 0 0 0)).1; have z5 := (ix3).2; exact ⟨by omega, by omega⟩) : ¬ x4 = 0 → IV y1 0 29) c5
      have ir8a := ir8.1; have ir8b := ir8.2
      refine lv_aload_n hx hb dX11_untell_14 rfl (lv_at hl 0 rfl) ?_
      refine th_get S hK hH inG11 t0 km_0 rfl 64 (by decide) gm_1294 rfl rfl dX11_untell_15 (fun v9 hv9 fv9 => ?_)
      obtain ⟨rf10, rfl, trf10⟩ := th_V.ref hv9
      refine lv_iload_n hx hb dX11_untell_18 rfl (lv_at hl 1 rfl) ?_
      refine th_iald S hK hH trf10 km_42 (th_in (hi := 29) ir8 (by decide)) dX11_untell_19 (fun v11 hv11 => ?_)
      obtain ⟨x12, rfl, ix12⟩ := th_V.int hv11
      refine lv_if_lt (tgt := 25) hx hb dX11_untell_20 (by decide) (fun c13 => ?_) (fun c13 => ?_)
      · skip
        have rlc13 : x12.toInt < (0 : Int) := iv_lt c13
        have ir14 : IV x12 (-2147483648) (-1) := iv_uL ix12 (iv_c (by decide) : IV 0 0 0) (iv_lt c13) (by decide)
        have ir14a := ir14.1; have ir14b := ir14.2
        refine lv_aload_n hx hb dX11_untell_25 rfl (lv_at hl 0 rfl) ?_
        refine th_getK S hK fv9 inG11 rfl (by decide) gm_1294 rfl dX11_untell_26 ?_
        refine lv_iload_n hx hb dX11_untell_29 rfl (lv_at hl 1 rfl) ?_
        refine lv_aload_n hx hb dX11_untell_30 rfl (lv_at hl 0 rfl) ?_
        refine th_get S hK hH inG11 t0 km_0 rfl 66 (by decide) gm_1296 rfl rfl dX11_untell_31 (fun v16 hv16 fv16 => ?_)
        obtain ⟨x17, rfl, ix17⟩ := th_V.int hv16
        have kx17a : q 9 ≤ x17.toInt := ix17.1
        have kx17b : x17.toInt ≤ q 9 := ix17.2
        have ix17 : IV x17 0 100000 := iv_w ix17 (qkm_9 hq)
        refine th_iast S hK hH hS ⟨42, by decide, trf10⟩ trf10 km_42 (th_in (hi := 29) ir8 (by decide)) (th_iv (iv_top _)) dX11_untell_34 (fun H locs hH hS hq1 => ?_)
        have f18 := fv9.kept (hq1 _ (th_ne t0 trf10 (by decide)))
        refine lv_iconst (v := 1) hx hb dX11_untell_35 (by decide) ?_
        exact th_zret S hK hH hS hr hlocks (iv_w (iv_c (by decide) : IV 1 1 1) (by decide)) (th_R.i (iv_w (iv_c (by decide) : IV 1 1 1) (by decide))) dX11_untell_36
      · skip
        have rlc13 : (0 : Int) ≤ x12.toInt := iv_nlt c13
        have ir19 : IV x12 0 2147483647 := iv_vR (iv_c (by decide) : IV 0 0 0) ix12 (iv_nlt c13) (by decide)
        have ir19a := ir19.1; have ir19b := ir19.2
        exact J23 H locs ls  hH hS (lv_sub hl [] rfl)
  exact J0 s.heap [] ls hH va_S.rf hl

set_option maxRecDepth 100000 in
theorem m_X11_likingsMany (l : Launch) (D : va_G) (cT : Nat → ClassId) (T : Nat → Option Nat) (q : Nat → Int) (hq : qkm q) (a0 : Nat) (t0 : T a0 = some 0) : th_Met l D cT T (km q) yX11_likingsMany cX11_likingsMany 3 (some .int) (rmk 0 0) [.ref a0] (th_R T (some (.inl (-2147483648, 2147483647)))) [] := by
  refine th_start (by decide) (Nat.le_of_ble_eq_true rfl) ?_
  intro p e s m below meth c ls S hK hH hr hlocks hnm hl
  have hx := S.1
  have hb := S.2.1
  have hl : lv_has ls 3 [(0, .ref a0)] := hl
  have J4 : ∀ (n : Nat) (H : Heap) (locs : List Loc) (ls : Array Slot) (v4_1 : Int32) (v4_2 : Int32), IV v4_1 (-2147483648) 2147483647 → IV v4_2 0 3 → th_H D cT T (km q) H → va_S (th_A T []) s.heap H locs → lv_has ls 3 [(0, .ref a0), (1, .int v4_1), (2, .int v4_2)] → (3 + 1 - Int32.toInt v4_2).toNat < n → W p l e (rmk 0 0) s m [.ref a0].toArray below meth c H locs 0 0 (MQ below (th_Q D cT T (km q) (th_R T (some (.inl (-2147483648, 2147483647)))) []) [.ref a0].toArray s 0 0 (th_A T [])) (F0 m 4 ls []) := by
    intro n
    induction n with
    | zero => intro H locs ls v4_1 v4_2 iv4_1 iv4_2 hH hS hl hn; exact absurd hn (Nat.not_lt_zero _)
    | succ n ih4 =>
      intro H locs ls v4_1 v4_2 iv4_1 iv4_2 hH hS hl hn4
      have l1v4_2 := iv4_2.1; have l2v4_2 := iv4_2.2
      refine lv_iload_n hx hb dX11_likingsMany_4 rfl (lv_at hl 2 rfl) ?_
      refine lv_aload_n hx hb dX11_likingsMany_5 rfl (lv_at hl 0 rfl) ?_
      refine th_get S hK hH inG11 t0 km_0 rfl 11 (by decide) gm_1241 rfl rfl dX11_likingsMany_6 (fun v1 hv1 fv1 => ?_)
      obtain ⟨rf2, rfl, trf2⟩ := th_V.ref hv1
      refine lv_aload_n hx hb dX11_likingsMany_9 rfl (lv_at hl 0 rfl) ?_
      refine th_get S hK hH inG11 t0 km_0 rfl 41 (by decide) gm_1271 rfl rfl dX11_likingsMany_10 (fun v3 hv3 fv3 => ?_)
      obtain ⟨x4, rfl, ix4⟩ := th_V.int hv3
      have kx4a : q 10 ≤ x4.toInt := ix4.1
      have kx4b : x4.toInt ≤ q 10 := ix4.2
      have ix4 : IV x4 0 1 := iv_w ix4 (qkm_10 hq)
      refine th_iald S hK hH trf2 km_3 (th_in (hi := 1) ix4 (by decide)) dX11_likingsMany_13 (fun v5 hv5 => ?_)
      obtain ⟨x6, rfl, ix6⟩ := th_bkA hv5 ix4 (by omega)
      have kx6a : q 16 ≤ x6.toInt := ix6.1
      have kx6b : x6.toInt ≤ q 16 := ix6.2
      have ix6 : IV x6 0 3 := iv_w ix6 (qkm_16 hq)
      refine lv_icmp_ge (tgt := 28) hx hb dX11_likingsMany_14 (by decide) (fun c7 => ?_) (fun c7 => ?_)
      · skip
        have rlc7 : x6.toInt ≤ v4_2.toInt := iv_le c7
        refine lv_iload_n hx hb dX11_likingsMany_28 rfl (lv_at hl 1 rfl) ?_
        exact th_iret S hK hH hS hr hlocks (th_R.i iv4_1) dX11_likingsMany_29
      · skip
        have rlc7 : v4_2.toInt < x6.toInt := iv_nle c7
        have ir8 : IV v4_2 0 2 := iv_uL iv4_2 ix6 (iv_nle c7) (by decide)
        have ir8a := ir8.1; have ir8b := ir8.2
        have ir9 : IV x6 1 3 := iv_uR iv4_2 ix6 (iv_nle c7) (by decide)
        have ir9a := ir9.1; have ir9b := ir9.2
        refine lv_iload_n hx hb dX11_likingsMany_17 rfl (lv_at hl 1 rfl) ?_
        refine lv_bipush (v := 6) hx hb dX11_likingsMany_18 (by decide) ?_
        refine lv_imul hx hb dX11_likingsMany_20 ?_
        refine lv_topi (fun x10 ex10 => ?_)
        have ix10 := iv_top x10
        refine lv_istore_n (lv' := [(1, .int x10), (0, .ref a0), (2, .int v4_2)]) hx hb dX11_likingsMany_21 rfl hl (by decide) rfl (fun ls hl => ?_)
        refine th_iinc S dX11_likingsMany_22 hl (k := 2) rfl (by decide) ir8 (by decide) (fun x11 ls ex11 ix11 hl => ?_)
        have hl : lv_has ls 3 [(2, .int x11), (1, .int x10), (0, .ref a0)] := hl
        have ix11 : IV x11 1 3 := ix11
        refine lv_goto (tgt := 4) hx hb dX11_likingsMany_25 (by decide) ?_
        exact ih4 H locs ls x10 x11 ix10 (iv_w ix11 (by decide)) hH hS (lv_sub hl [2, 1, 0] rfl) (th_up iv4_2 ex11 (by decide) hn4)
  have J0 : ∀ (H : Heap) (locs : List Loc) (ls : Array Slot), th_H D cT T (km q) H → va_S (th_A T []) s.heap H locs → lv_has ls 3 [(0, .ref a0)] → W p l e (rmk 0 0) s m [.ref a0].toArray below meth c H locs 0 0 (MQ below (th_Q D cT T (km q) (th_R T (some (.inl (-2147483648, 2147483647)))) []) [.ref a0].toArray s 0 0 (th_A T [])) (F0 m 0 ls []) := by
    intro H locs ls hH hS hl
    refine lv_iconst (v := 1) hx hb dX11_likingsMany_0 (by decide) ?_
    refine lv_istore_n (lv' := [(1, .int 1), (0, .ref a0)]) hx hb dX11_likingsMany_1 rfl hl (by decide) rfl (fun ls hl => ?_)
    refine lv_iconst (v := 0) hx hb dX11_likingsMany_2 (by decide) ?_
    refine lv_istore_n (lv' := [(2, .int 0), (1, .int 1), (0, .ref a0)]) hx hb dX11_likingsMany_3 rfl hl (by decide) rfl (fun ls hl => ?_)
    exact J4 ((3 + 1 - Int32.toInt 0).toNat + 1) H locs ls 1 0 (iv_top _) (iv_w (iv_c (by decide) : IV 0 0 0) (by decide)) hH hS (lv_sub hl [2, 1, 0] rfl) (Nat.lt_succ_self _)
  exact J0 s.heap [] ls hH va_S.rf hl

set_option maxRecDepth 100000 in
theorem m_X11_likingOf (l : Launch) (D : va_G) (cT : Nat → ClassId) (T : Nat → Option Nat) (q : Nat → Int) (hq : qkm q) (y0 : Int32) (j0 : IV y0 (-2147483648) 2147483647) (y1 : Int32) (j1 : IV y1 (-2147483648) 2147483647) : th_Met l D cT T (km q) yX11_likingOf cX11_likingOf 4 (some .int) (rmk 0 0) [.int y0, .int y1] (th_R T (some (.inl (-5, 5)))) [] := by
  refine th_start (by decide) (Nat.le_of_ble_eq_true rfl) ?_
  intro p e s m below meth c ls S hK hH hr hlocks hnm hl
  have hx := S.1
  have hb := S.2.1
  have hl : lv_has ls 4 [(0, .int y0), (1, .int y1)] := hl
  have J4 : ∀ (n : Nat) (H : Heap) (locs : List Loc) (ls : Array Slot) (v4_2 : Int32) (v4_3 : Int32), IV v4_2 (-2147483648) 2147483647 → IV v4_3 0 2147483647 → th_H D cT T (km q) H → va_S (th_A T []) s.heap H locs → lv_has ls 4 [(1, .int y1), (2, .int v4_2), (3, .int v4_3)] → (2147483647 + 1 - Int32.toInt v4_3).toNat < n → W p l e (rmk 0 0) s m [.int y0, .int y1].toArray below meth c H locs 0 0 (MQ below (th_Q D cT T (km q) (th_R T (some (.inl (-5, 5)))) []) [.int y0, .int y1].toArray s 0 0 (th_A T [])) (F0 m 4 ls []) := by
    intro n
    induction n with
    | zero => intro H locs ls v4_2 v4_3 iv4_2 iv4_3 hH hS hl hn; exact absurd hn (Nat.not_lt_zero _)
    | succ n ih4 =>
      intro H locs ls v4_2 v4_3 iv4_2 iv4_3 hH hS hl hn4
      have l1v4_3 := iv4_3.1; have l2v4_3 := iv4_3.2
      refine lv_iload_n hx hb dX11_likingOf_4 rfl (lv_at hl 2 rfl) ?_
      refine lv_iload_n hx hb dX11_likingOf_5 rfl (lv_at hl 0 rfl) ?_
      refine lv_icmp_ge (tgt := 20) hx hb dX11_likingOf_6 (by decide) (fun c1 => ?_) (fun c1 => ?_)
      · skip
        have rlc1 : y1.toInt ≤ v4_3.toInt := iv_le c1
        refine lv_iload_n hx hb dX11_likingOf_20 rfl (lv_at hl 1 rfl) ?_
        refine lv_bipush (v := 6) hx hb dX11_likingOf_21 (by decide) ?_
        refine lv_irem hx hb dX11_likingOf_23 (iv_n0 (iv_c (by decide) : IV 6 6 6) (by decide)) ?_
        refine lv_topi (fun x2 ex2 => ?_)
        have ix2 : IV x2 (-5) 5 := by rw [ex2]; exact iv_rmS (iv_c (by decide) : IV 6 6 6) (by decide)
        exact th_iret S hK hH hS hr hlocks (th_R.i ix2) dX11_likingOf_24
      · skip
        have rlc1 : v4_3.toInt < y1.toInt := iv_nle c1
        have ir3 : IV v4_3 0 2147483646 := iv_uL iv4_3 j1 (iv_nle c1) (by decide)
        have ir3a := ir3.1; have ir3b := ir3.2
        have ir4 : IV y1 1 2147483647 := iv_uR iv4_3 j1 (iv_nle c1) (by decide)
        have ir4a := ir4.1; have ir4b := ir4.2
        refine lv_iload_n hx hb dX11_likingOf_9 rfl (lv_at hl 1 rfl) ?_
        refine lv_bipush (v := 6) hx hb dX11_likingOf_10 (by decide) ?_
        refine lv_idiv hx hb dX11_likingOf_12 (iv_n0 (iv_c (by decide) : IV 6 6 6) (by decide)) ?_
        refine lv_topi (fun x5 ex5 => ?_)
        have ix5 := iv_top x5
        refine lv_istore_n (lv' := [(2, .int x5), (1, .int y1), (3, .int v4_3)]) hx hb dX11_likingOf_13 rfl hl (by decide) rfl (fun ls hl => ?_)
        refine th_iinc S dX11_likingOf_14 hl (k := 2) rfl (by decide) ir3 (by decide) (fun x6 ls ex6 ix6 hl => ?_)
        have hl : lv_has ls 4 [(3, .int x6), (2, .int x5), (1, .int y1)] := hl
        have ix6 : IV x6 1 2147483647 := ix6
        refine lv_goto (tgt := 4) hx hb dX11_likingOf_17 (by decide) ?_
        exact ih4 H locs ls x5 x6 ix5 (iv_w ix6 (by decide)) hH hS (lv_sub hl [2, 1, 0] rfl) (th_up iv4_3 ex6 (by decide) hn4)
  have J0 : ∀ (H : Heap) (locs : List Loc) (ls : Array Slot), th_H D cT T (km q) H → va_S (th_A T []) s.heap H locs → lv_has ls 4 [(0, .int y0), (1, .int y1)] → W p l e (rmk 0 0) s m [.int y0, .int y1].toArray below meth c H locs 0 0 (MQ below (th_Q D cT T (km q) (th_R T (some (.inl (-5, 5)))) []) [.int y0, .int y1].toArray s 0 0 (th_A T [])) (F0 m 0 ls []) := by
    intro H locs ls hH hS hl
    refine lv_iload_n hx hb dX11_likingOf_0 rfl (lv_at hl 0 rfl) ?_
    refine lv_istore_n (lv' := [(2, .int y0), (0, .int y0), (1, .int y1)]) hx hb dX11_likingOf_1 rfl hl (by decide) rfl (fun ls hl => ?_)
    refine lv_iconst (v := 0) hx hb dX11_likingOf_2 (by decide) ?_
    refine lv_istore_n (lv' := [(3, .int 0), (2, .int y0), (0, .int y0), (1, .int y1)]) hx hb dX11_likingOf_3 rfl hl (by decide) rfl (fun ls hl => ?_)
    exact J4 ((2147483647 + 1 - Int32.toInt 0).toNat + 1) H locs ls y0 0 j0 (iv_w (iv_c (by decide) : IV 0 0 0) (by decide)) hH hS (lv_sub hl [3, 1, 0] rfl) (Nat.lt_succ_self _)
  exact J0 s.heap [] ls hH va_S.rf hl

set_option maxRecDepth 100000 in
theorem m_X11_doesFit (l : Launch) (D : va_G) (cT : Nat → ClassId) (T : Nat → Option Nat) (q : Nat → Int) (hq : qkm q) (a0 : Nat) (t0 : T a0 = some 0) (y1 : Int32) (j1 : IV y1 (-2147483648) 2147483647) (y2 : Int32) (j2 : IV y2 (-2147483648) 2147483647) : th_Met l D cT T (km q) yX11_doesFit cX11_doesFit 6 (some .boolean) (rmk 1 23) [.ref a0, .int y1, .int y2] (th_R T (some (.inl (0, 1)))) [] := by
  refine th_start (by decide) (Nat.le_of_ble_eq_true rfl) ?_
  intro p e s m below meth c ls S hK hH hr hlocks hnm hl
  have hx := S.1
  have hb := S.2.1
  have hl : lv_has ls 6 [(0, .ref a0), (1, .int y1), (2, .int y2)] := hl
  have J2 : ∀ (n : Nat) (H : Heap) (locs : List Loc) (ls : Array Slot) (v2_3 : Int32), IV v2_3 0 30 → th_H D cT T (km q) H → va_S (th_A T []) s.heap H locs → lv_has ls 6 [(0, .ref a0), (1, .int y1), (2, .int y2), (3, .int v2_3)] → (30 + 1 - Int32.toInt v2_3).toNat < n → W p l e (rmk 1 23) s m [.ref a0, .int y1, .int y2].toArray below meth c H locs 0 0 (MQ below (th_Q D cT T (km q) (th_R T (some (.inl (0, 1)))) []) [.ref a0, .int y1, .int y2].toArray s 0 0 (th_A T [])) (F0 m 2 ls []) := by
    intro n
    induction n with
    | zero => intro H locs ls v2_3 iv2_3 hH hS hl hn; exact absurd hn (Nat.not_lt_zero _)
    | succ n ih2 =>
      intro H locs ls v2_3 iv2_3 hH hS hl hn2
      have J122 : ∀ (H : Heap) (locs : List Loc) (ls : Array Slot), IV v2_3 0 29 → th_H D cT T (km q) H → va_S (th_A T []) s.heap H locs → lv_has ls 6 [(0, .ref a0), (1, .int y1), (2, .int y2), (3, .int v2_3)] → W p l e (rmk 1 23) s m [.ref a0, .int y1, .int y2].toArray below meth c H locs 0 0 (MQ below (th_Q D cT T (km q) (th_R T (some (.inl (0, 1)))) []) [.ref a0, .int y1, .int y2].toArray s 0 0 (th_A T [])) (F0 m 122 ls []) := by
        intro H locs ls f122_v2_3 hH hS hl
        refine th_iinc S dX11_doesFit_122 hl (k := 3) rfl (by decide) f122_v2_3 (by decide) (fun x1 ls ex1 ix1 hl => ?_)
        have hl : lv_has ls 6 [(3, .int x1), (0, .ref a0), (1, .int y1), (2, .int y2)] := hl
        have ix1 : IV x1 1 30 := ix1
        refine lv_goto (tgt := 2) hx hb dX11_doesFit_125 (by decide) ?_
        exact ih2 H locs ls x1 (iv_w ix1 (by decide)) hH hS (lv_sub hl [1, 2, 3, 0] rfl) (th_up iv2_3 ex1 (by decide) hn2)
      have J107_s0_0 : ∀ (H : Heap) (locs : List Loc) (ls : Array Slot), IV v2_3 0 29 → th_H D cT T (km q) H → va_S (th_A T []) s.heap H locs → lv_has ls 6 [(0, .ref a0), (1, .int y1), (2, .int y2), (3, .int v2_3)] → W p l e (rmk 1 23) s m [.ref a0, .int y1, .int y2].toArray below meth c H locs 0 0 (MQ below (th_Q D cT T (km q) (th_R T (some (.inl (0, 1)))) []) [.ref a0, .int y1, .int y2].toArray s 0 0 (th_A T [])) (F0 m 107 ls [.int 0]) := by
        intro H locs ls f107_v2_3 hH hS hl
        refine lv_istore (lv' := [(5, .int 0), (0, .ref a0), (1, .int y1), (2, .int y2), (3, .int v2_3)]) hx hb dX11_doesFit_107 hl (by decide) rfl (fun ls hl => ?_)
        refine lv_iload hx hb dX11_doesFit_109 (lv_at hl 0 rfl) ?_
        refine lv_aload_n hx hb dX11_doesFit_111 rfl (lv_at hl 1 rfl) ?_
        refine th_get S hK hH inG11 t0 km_0 rfl 62 (by decide) gm_1292 rfl rfl dX11_doesFit_112 (fun v2 hv2 fv2 => ?_)
        obtain ⟨rf3, rfl, trf3⟩ := th_V.ref hv2
        refine lv_iload_n hx hb dX11_doesFit_115 rfl (lv_at hl 4 rfl) ?_
        refine th_iald S hK hH trf3 km_40 (th_in (hi := 29) f107_v2_3 (by decide)) dX11_doesFit_116 (fun v4 hv4 => ?_)
        obtain ⟨x5, rfl, ix5⟩ := th_V.int hv4
        refine lv_icmp_eq (tgt := 122) hx hb dX11_doesFit_117 (by decide) (fun c6 => ?_) (fun c6 => ?_)
        · skip
          have rlc6 : (0 : Int) = x5.toInt := congrArg Int32.toInt c6
          have ir7 : IV x5 0 0 := iv_eR c6 (iv_c (by decide) : IV 0 0 0)
          have ir7a := ir7.1; have ir7b := ir7.2
          exact J122 H locs ls f107_v2_3 hH hS (lv_sub hl [1, 2, 3, 4] rfl)
        · skip
          have rlc6 : (0 : Int) ≠ x5.toInt := iv_ne c6
          refine lv_iconst (v := 0) hx hb dX11_doesFit_120 (by decide) ?_
          exact th_zret S hK hH hS hr hlocks (iv_w (iv_c (by decide) : IV 0 0 0) (by decide)) (th_R.i (iv_w (iv_c (by decide) : IV 0 0 0) (by decide))) dX11_doesFit_121
      have J107_s0_1 : ∀ (H : Heap) (locs : List Loc) (ls : Array Slot), IV v2_3 0 29 → th_H D cT T (km q) H → va_S (th_A T []) s.heap H locs → lv_has ls 6 [(0, .ref a0), (1, .int y1), (2, .int y2), (3, .int v2_3)] → W p l e (rmk 1 23) s m [.ref a0, .int y1, .int y2].toArray below meth c H locs 0 0 (MQ below (th_Q D cT T (km q) (th_R T (some (.inl (0, 1)))) []) [.ref a0, .int y1, .int y2].toArray s 0 0 (th_A T [])) (F0 m 107 ls [.int 1]) := by
        intro H locs ls f107_v2_3 hH hS hl
        refine lv_istore (lv' := [(5, .int 1), (0, .ref a0), (1, .int y1), (2, .int y2), (3, .int v2_3)]) hx hb dX11_doesFit_107 hl (by decide) rfl (fun ls hl => ?_)
        refine lv_iload hx hb dX11_doesFit_109 (lv_at hl 0 rfl) ?_
        refine lv_aload_n hx hb dX11_doesFit_111 rfl (lv_at hl 1 rfl) ?_
        refine th_get S hK hH inG11 t0 km_0 rfl 62 (by decide) gm_1292 rfl rfl dX11_doesFit_112 (fun v8 hv8 fv8 => ?_)
        obtain ⟨rf9, rfl, trf9⟩ := th_V.ref hv8
        refine lv_iload_n hx hb dX11_doesFit_115 rfl (lv_at hl 4 rfl) ?_
        refine th_iald S hK hH trf9 km_40 (th_in (hi := 29) f107_v2_3 (by decide)) dX11_doesFit_116 (fun v10 hv10 => ?_)
        obtain ⟨x11, rfl, ix11⟩ := th_V.int hv10
        refine lv_icmp_eq (tgt := 122) hx hb dX11_doesFit_117 (by decide) (fun c12 => ?_) (fun c12 => ?_)
        · skip
          have rlc12 : (1 : Int) = x11.toInt := congrArg Int32.toInt c12
          have ir13 : IV x11 1 1 := iv_eR c12 (iv_c (by decide) : IV 1 1 1)
          have ir13a := ir13.1; have ir13b := ir13.2
          exact J122 H locs ls f107_v2_3 hH hS (lv_sub hl [1, 2, 3, 4] rfl)
        · skip
          have rlc12 : (1 : Int) ≠ x11.toInt := iv_ne c12
          refine lv_iconst (v := 0) hx hb dX11_doesFit_120 (by decide) ?_
          exact th_zret S hK hH hS hr hlocks (iv_w (iv_c (by decide) : IV 0 0 0) (by decide)) (th_R.i (iv_w (iv_c (by decide) : IV 0 0 0) (by decide))) dX11_doesFit_121
      have J48 : ∀ (n : Nat) (H : Heap) (locs : List Loc) (ls : Array Slot) (v48_4 : Int32) (v48_5 : Int32), IV v48_4 (-2147483648) 2147483647 → IV v48_5 0 3 → IV v2_3 0 29 → th_H D cT T (km q) H → va_S (th_A T []) s.heap H locs → lv_has ls 6 [(0, .ref a0), (1, .int y1), (2, .int y2), (3, .int v2_3), (4, .int v48_4), (5, .int v48_5)] → (3 + 1 - Int32.toInt v48_5).toNat < n → W p l e (rmk 1 23) s m [.ref a0, .int y1, .int y2].toArray below meth c H locs 0 0 (MQ below (th_Q D cT T (km q) (th_R T (some (.inl (0, 1)))) []) [.ref a0, .int y1, .int y2].toArray s 0 0 (th_A T [])) (F0 m 48 ls []) := by
        intro n
        induction n with
        | zero => intro H locs ls v48_4 v48_5 iv48_4 iv48_5 f48_v2_3 hH hS hl hn; exact absurd hn (Nat.not_lt_zero _)
        | succ n ih48 =>
          intro H locs ls v48_4 v48_5 iv48_4 iv48_5 f48_v2_3 hH hS hl hn48
          have l1v48_5 := iv48_5.1; have l2v48_5 := iv48_5.2
          refine lv_iload hx hb dX11_doesFit_48 (lv_at hl 5 rfl) ?_
          refine lv_aload_n hx hb dX11_doesFit_50 rfl (lv_at hl 0 rfl) ?_
          refine th_get S hK hH inG11 t0 km_0 rfl 11 (by decide) gm_1241 rfl rfl dX11_doesFit_51 (fun v14 hv14 fv14 => ?_)
          obtain ⟨rf15, rfl, trf15⟩ := th_V.ref hv14
          refine lv_aload_n hx hb dX11_doesFit_54 rfl (lv_at hl 0 rfl) ?_
          refine th_get S hK hH inG11 t0 km_0 rfl 41 (by decide) gm_1271 rfl rfl dX11_doesFit_55 (fun v16 hv16 fv16 => ?_)
          obtain ⟨x17, rfl, ix17⟩ := th_V.int hv16
          have kx17a : q 10 ≤ x17.toInt := ix17.1
          have kx17b : x17.toInt ≤ q 10 := ix17.2
          have ix17 : IV x17 0 1 := iv_w ix17 (qkm_10 hq)
          refine th_iald S hK hH trf15 km_3 (th_in (hi := 1) ix17 (by decide)) dX11_doesFit_58 (fun v18 hv18 => ?_)
          obtain ⟨x19, rfl, ix19⟩ := th_bkA hv18 ix17 (by omega)
          have kx19a : q 16 ≤ x19.toInt := ix19.1
          have kx19b : x19.toInt ≤ q 16 := ix19.2
          have ix19 : IV x19 0 3 := iv_w ix19 (qkm_16 hq)
          refine lv_icmp_ge (tgt := 91) hx hb dX11_doesFit_59 (by decide) (fun c20 => ?_) (fun c20 => ?_)
          · skip
            have rlc20 : x19.toInt ≤ v48_5.toInt := iv_le c20
            refine lv_iload hx hb dX11_doesFit_91 (lv_at hl 4 rfl) ?_
            refine lv_aload_n hx hb dX11_doesFit_93 rfl (lv_at hl 0 rfl) ?_
            refine th_get S hK hH inG11 t0 km_0 rfl 61 (by decide) gm_1291 rfl rfl dX11_doesFit_94 (fun v21 hv21 fv21 => ?_)
            obtain ⟨rf22, rfl, trf22⟩ := th_V.ref hv21
            refine lv_iload_n hx hb dX11_doesFit_97 rfl (lv_at hl 3 rfl) ?_
            refine th_iald S hK hH trf22 km_39 (th_in (hi := 29) f48_v2_3 (by decide)) dX11_doesFit_98 (fun v23 hv23 => ?_)
            obtain ⟨x24, rfl, ix24⟩ := th_V.int hv23
            refine lv_icmp_lt (tgt := 106) hx hb dX11_doesFit_99 (by decide) (fun c25 => ?_) (fun c25 => ?_)
            · skip
              have rlc25 : v48_4.toInt < x24.toInt := iv_lt c25
              have ir26 : IV v48_4 (-2147483648) 2147483646 := iv_uL iv48_4 ix24 (iv_lt c25) (by decide)
              have ir26a := ir26.1; have ir26b := ir26.2
              have ir27 : IV x24 (-2147483647) 2147483647 := iv_uR iv48_4 ix24 (iv_lt c25) (by decide)
              have ir27a := ir27.1; have ir27b := ir27.2
              refine lv_iconst (v := 0) hx hb dX11_doesFit_106 (by decide) ?_
              exact J107_s0_0 H locs ls f48_v2_3 hH hS (lv_sub hl [0, 1, 2, 3] rfl)
            · skip
              have rlc25 : x24.toInt ≤ v48_4.toInt := iv_nlt c25
              refine lv_iconst (v := 1) hx hb dX11_doesFit_102 (by decide) ?_
              refine lv_goto (tgt := 107) hx hb dX11_doesFit_103 (by decide) ?_
              exact J107_s0_1 H locs ls f48_v2_3 hH hS (lv_sub hl [0, 1, 2, 3] rfl)
          · skip
            have rlc20 : v48_5.toInt < x19.toInt := iv_nle c20
            have ir28 : IV v48_5 0 2 := iv_uL iv48_5 ix19 (iv_nle c20) (by decide)
            have ir28a := ir28.1; have ir28b := ir28.2
            have ir29 : IV x19 1 3 := iv_uR iv48_5 ix19 (iv_nle c20) (by decide)
            have ir29a := ir29.1; have ir29b := ir29.2
            refine lv_iload hx hb dX11_doesFit_62 (lv_at hl 4 rfl) ?_
            refine lv_aload_n hx hb dX11_doesFit_64 rfl (lv_at hl 0 rfl) ?_
            refine th_get S hK hH inG11 t0 km_0 rfl 60 (by decide) gm_1290 rfl rfl dX11_doesFit_65 (fun v30 hv30 fv30 => ?_)
            obtain ⟨rf31, rfl, trf31⟩ := th_V.ref hv30
            refine lv_iconst (v := 3) hx hb dX11_doesFit_68 (by decide) ?_
            refine lv_iload_n hx hb dX11_doesFit_69 rfl (lv_at hl 3 rfl) ?_
            refine lv_imul hx hb dX11_doesFit_70 ?_
            refine lv_topi (fun x32 ex32 => ?_)
            have ix32 : IV x32 0 87 := by rw [ex32]; exact iv_mul (iv_c (by decide) : IV 3 3 3) f48_v2_3 (by decide) (by decide)
            have ux32 : x32.toInt = (3 : Int) * v2_3.toInt := by rw [ex32]; exact iv_mulE (iv_corner ((iv_c (by decide) : IV 3 3 3)).1 ((iv_c (by decide) : IV 3 3 3)).2 (f48_v2_3).1 (f48_v2_3).2 (by decide))
            refine lv_iload hx hb dX11_doesFit_71 (lv_at hl 5 rfl) ?_
            refine lv_iadd hx hb dX11_doesFit_73 ?_
            refine lv_topi (fun x33 ex33 => ?_)
            have ix33 : IV x33 0 89 := by rw [ex33]; exact iv_add ix32 ir28 (by decide)
            have ux33 : x33.toInt = x32.toInt + v48_5.toInt := by rw [ex33]; exact iv_addE (by have z1 := (ix32).1; have z2 := (ix32).2; have z3 := (ir28).1; have z4 := (ir28).2; omega)
            refine th_iald S hK hH trf31 km_38 (th_in (hi := 89) ix33 (by decide)) dX11_doesFit_74 (fun v34 hv34 => ?_)
            obtain ⟨x35, rfl, ix35⟩ := th_V.int hv34
            refine lv_iload_n hx hb dX11_doesFit_75 rfl (lv_at hl 1 rfl) ?_
            refine lv_iload hx hb dX11_doesFit_76 (lv_at hl 5 rfl) ?_
            refine th_callSi (n := 2) (As := [.int y1, .int v48_5]) S hK hH hS (th_A.sub (by decide)) (m_X11_likingOf l D cT T q hq (y1) j1 (v48_5) (iv_top _)) gm_1887 gm_1885 gm_1886 gm_124 (by decide +kernel) ⟨rfl, rfl, Nat.le_of_ble_eq_true rfl, Nat.le_of_ble_eq_true rfl⟩ rfl hl.1 rfl (Nat.le_of_ble_eq_true rfl) dX11_doesFit_78 ⟨Nat.zero_le _, Nat.zero_le _⟩ (fun x36 H locs ix36 hH hS hF1 => ?_)
            refine lv_imul hx hb dX11_doesFit_81 ?_
            refine lv_topi (fun x37 ex37 => ?_)
            have ix37 := iv_top x37
            refine lv_iadd hx hb dX11_doesFit_82 ?_
            refine lv_topi (fun x38 ex38 => ?_)
            have ix38 := iv_top x38
            refine lv_istore (lv' := [(4, .int x38), (0, .ref a0), (1, .int y1), (2, .int y2), (3, .int v2_3), (5, .int v48_5)]) hx hb dX11_doesFit_83 hl (by decide) rfl (fun ls hl => ?_)
            refine th_iinc S dX11_doesFit_85 hl (k := 5) rfl (by decide) ir28 (by decide) (fun x39 ls ex39 ix39 hl => ?_)
            have hl : lv_has ls 6 [(5, .int x39), (4, .int x38), (0, .ref a0), (1, .int y1), (2, .int y2), (3, .int v2_3)] := hl
            have ix39 : IV x39 1 3 := ix39
            refine lv_goto (tgt := 48) hx hb dX11_doesFit_88 (by decide) ?_
            exact ih48 H locs ls x38 x39 ix38 (iv_w ix39 (by decide)) f48_v2_3 hH hS (lv_sub hl [2, 3, 4, 5, 1, 0] rfl) (th_up iv48_5 ex39 (by decide) hn48)
      have J42 : ∀ (H : Heap) (locs : List Loc) (ls : Array Slot), IV v2_3 0 29 → th_H D cT T (km q) H → va_S (th_A T []) s.heap H locs → lv_has ls 6 [(0, .ref a0), (1, .int y1), (2, .int y2), (3, .int v2_3)] → W p l e (rmk 1 23) s m [.ref a0, .int y1, .int y2].toArray below meth c H locs 0 0 (MQ below (th_Q D cT T (km q) (th_R T (some (.inl (0, 1)))) []) [.ref a0, .int y1, .int y2].toArray s 0 0 (th_A T [])) (F0 m 42 ls []) := by
        intro H locs ls f42_v2_3 hH hS hl
        refine lv_iconst (v := 0) hx hb dX11_doesFit_42 (by decide) ?_
        refine lv_istore (lv' := [(4, .int 0), (0, .ref a0), (1, .int y1), (2, .int y2), (3, .int v2_3)]) hx hb dX11_doesFit_43 hl (by decide) rfl (fun ls hl => ?_)
        refine lv_iconst (v := 0) hx hb dX11_doesFit_45 (by decide) ?_
        refine lv_istore (lv' := [(5, .int 0), (4, .int 0), (0, .ref a0), (1, .int y1), (2, .int y2), (3, .int v2_3)]) hx hb dX11_doesFit_46 hl (by decide) rfl (fun ls hl => ?_)
        exact J48 ((3 + 1 - Int32.toInt 0).toNat + 1) H locs ls 0 0 (iv_top _) (iv_w (iv_c (by decide) : IV 0 0 0) (by decide)) f42_v2_3 hH hS (lv_sub hl [2, 3, 4, 5, 1, 0] rfl) (Nat.lt_succ_self _)
      have l1v2_3 := iv2_3.1; have l2v2_3 := iv2_3.2
      refine lv_iload_n hx hb dX11_doesFit_2 rfl (lv_at hl 3 rfl) ?_
      refine lv_aload_n hx hb dX11_doesFit_3 rfl (lv_at hl 0 rfl) ?_
      refine th_get S hK hH inG11 t0 km_0 rfl 65 (by decide) gm_1295 rfl rfl dX11_doesFit_4 (fun v40 hv40 fv40 => ?_)
      obtain ⟨x41, rfl, ix41⟩ := th_V.int hv40
      refine lv_icmp_ge (tgt := 128) hx hb dX11_doesFit_7 (by decide) (fun c42 => ?_) (fun c42 => ?_)
      · skip
        have rlc42 : x41.toInt ≤ v2_3.toInt := iv_le c42
        refine lv_iconst (v := 1) hx hb dX11_doesFit_128 (by decide) ?_
        exact th_zret S hK hH hS hr hlocks (iv_w (iv_c (by decide) : IV 1 1 1) (by decide)) (th_R.i (iv_w (iv_c (by decide) : IV 1 1 1) (by decide))) dX11_doesFit_129
      · skip
        have rlc42 : v2_3.toInt < x41.toInt := iv_nle c42
        have ir43 : IV v2_3 0 29 := iv_uL iv2_3 ix41 (iv_nle c42) (by decide)
        have ir43a := ir43.1; have ir43b := ir43.2
        have ir44 : IV x41 1 30 := iv_uR iv2_3 ix41 (iv_nle c42) (by decide)
        have ir44a := ir44.1; have ir44b := ir44.2
        refine lv_aload_n hx hb dX11_doesFit_10 rfl (lv_at hl 0 rfl) ?_
        refine th_get S hK hH inG11 t0 km_0 rfl 63 (by decide) gm_1293 rfl rfl dX11_doesFit_11 (fun v45 hv45 fv45 => ?_)
        obtain ⟨rf46, rfl, trf46⟩ := th_V.ref hv45
        refine lv_iload_n hx hb dX11_doesFit_14 rfl (lv_at hl 3 rfl) ?_
        refine th_iald S hK hH trf46 km_41 (th_in (hi := 29) ir43 (by decide)) dX11_doesFit_15 (fun v47 hv47 => ?_)
        obtain ⟨x48, rfl, ix48⟩ := th_V.int hv47
        refine lv_iload_n hx hb dX11_doesFit_16 rfl (lv_at hl 2 rfl) ?_
        refine lv_icmp_gt (tgt := 122) hx hb dX11_doesFit_17 (by decide) (fun c49 => ?_) (fun c49 => ?_)
        · skip
          have rlc49 : y2.toInt < x48.toInt := iv_lt c49
          have ir50 : IV y2 (-2147483648) 2147483646 := iv_uL j2 ix48 (iv_lt c49) (by decide)
          have ir50a := ir50.1; have ir50b := ir50.2
          have ir51 : IV x48 (-2147483647) 2147483647 := iv_uR j2 ix48 (iv_lt c49) (by decide)
          have ir51a := ir51.1; have ir51b := ir51.2
          exact J122 H locs ls ir43 hH hS (lv_sub hl [0, 1, 2, 3] rfl)
        · skip
          have rlc49 : x48.toInt ≤ y2.toInt := iv_nlt c49
          refine lv_aload_n hx hb dX11_doesFit_20 rfl (lv_at hl 0 rfl) ?_
          refine th_get S hK hH inG11 t0 km_0 rfl 64 (by decide) gm_1294 rfl rfl dX11_doesFit_21 (fun v52 hv52 fv52 => ?_)
          obtain ⟨rf53, rfl, trf53⟩ := th_V.ref hv52
          refine lv_iload_n hx hb dX11_doesFit_24 rfl (lv_at hl 3 rfl) ?_
          refine th_iald S hK hH trf53 km_42 (th_in (hi := 29) ir43 (by decide)) dX11_doesFit_25 (fun v54 hv54 => ?_)
          obtain ⟨x55, rfl, ix55⟩ := th_V.int hv54
          refine lv_if_lt (tgt := 42) hx hb dX11_doesFit_26 (by decide) (fun c56 => ?_) (fun c56 => ?_)
          · skip
            have rlc56 : x55.toInt < (0 : Int) := iv_lt c56
            have ir57 : IV x55 (-2147483648) (-1) := iv_uL ix55 (iv_c (by decide) : IV 0 0 0) (iv_lt c56) (by decide)
            have ir57a := ir57.1; have ir57b := ir57.2
            exact J42 H locs ls ir43 hH hS (lv_sub hl [0, 1, 2, 3] rfl)
          · skip
            have rlc56 : (0 : Int) ≤ x55.toInt := iv_nlt c56
            have ir58 : IV x55 0 2147483647 := iv_vR (iv_c (by decide) : IV 0 0 0) ix55 (iv_nlt c56) (by decide)
            have ir58a := ir58.1; have ir58b := ir58.2
            refine lv_aload_n hx hb dX11_doesFit_29 rfl (lv_at hl 0 rfl) ?_
            refine th_getK S hK fv52 inG11 rfl (by decide) gm_1294 rfl dX11_doesFit_30 ?_
            refine lv_iload_n hx hb dX11_doesFit_33 rfl (lv_at hl 3 rfl) ?_
            refine th_iald S hK hH trf53 km_42 (th_in (hi := 29) ir43 (by decide)) dX11_doesFit_34 (fun v60 hv60 => ?_)
            obtain ⟨x61, rfl, ix61⟩ := th_V.int hv60
            refine lv_iload_n hx hb dX11_doesFit_35 rfl (lv_at hl 2 rfl) ?_
            refine lv_icmp_gt (tgt := 42) hx hb dX11_doesFit_36 (by decide) (fun c62 => ?_) (fun c62 => ?_)
            · skip
              have rlc62 : y2.toInt < x61.toInt := iv_lt c62
              have ir63 : IV y2 (-2147483648) 2147483646 := iv_uL j2 ix61 (iv_lt c62) (by decide)
              have ir63a := ir63.1; have ir63b := ir63.2
              have ir64 : IV x61 (-2147483647) 2147483647 := iv_uR j2 ix61 (iv_lt c62) (by decide)
              have ir64a := ir64.1; have ir64b := ir64.2
              exact J42 H locs ls ir43 hH hS (lv_sub hl [0, 1, 2, 3] rfl)
            · skip
              have rlc62 : x61.toInt ≤ y2.toInt := iv_nlt c62
              refine lv_goto (tgt := 122) hx hb dX11_doesFit_39 (by decide) ?_
              exact J122 H locs ls ir43 hH hS (lv_sub hl [0, 1, 2, 3] rfl)
  have J0 : ∀ (H : Heap) (locs : List Loc) (ls : Array Slot), th_H D cT T (km q) H → va_S (th_A T []) s.heap H locs → lv_has ls 6 [(0, .ref a0), (1, .int y1), (2, .int y2)] → W p l e (rmk 1 23) s m [.ref a0, .int y1, .int y2].toArray below meth c H locs 0 0 (MQ below (th_Q D cT T (km q) (th_R T (some (.inl (0, 1)))) []) [.ref a0, .int y1, .int y2].toArray s 0 0 (th_A T [])) (F0 m 0 ls []) := by
    intro H locs ls hH hS hl
    refine lv_iconst (v := 0) hx hb dX11_doesFit_0 (by decide) ?_
    refine lv_istore_n (lv' := [(3, .int 0), (0, .ref a0), (1, .int y1), (2, .int y2)]) hx hb dX11_doesFit_1 rfl hl (by decide) rfl (fun ls hl => ?_)
    exact J2 ((30 + 1 - Int32.toInt 0).toNat + 1) H locs ls 0 (iv_w (iv_c (by decide) : IV 0 0 0) (by decide)) hH hS (lv_sub hl [1, 2, 3, 0] rfl) (Nat.lt_succ_self _)
  exact J0 s.heap [] ls hH va_S.rf hl

set_option maxRecDepth 100000 in
theorem m_X11_fit (l : Launch) (D : va_G) (cT : Nat → ClassId) (T : Nat → Option Nat) (q : Nat → Int) (hq : qkm q) (a0 : Nat) (t0 : T a0 = some 0) (y1 : Int32) (j1 : IV y1 (-2147483648) 2147483647) : th_Met l D cT T (km q) yX11_fit cX11_fit 4 (some .int) (rmk 2 48) [.ref a0, .int y1] (th_R T (some (.inl (-2147483648, 2147483647)))) [] := by
  refine th_start (by decide) (Nat.le_of_ble_eq_true rfl) ?_
  intro p e s m below meth c ls S hK hH hr hlocks hnm hl
  have hx := S.1
  have hb := S.2.1
  have hl : lv_has ls 4 [(0, .ref a0), (1, .int y1)] := hl
  have J4 : ∀ (n : Nat) (H : Heap) (locs : List Loc) (ls : Array Slot) (v4_2 : Int32) (v4_3 : Int32), IV v4_2 (-2147483648) 2147483647 → IV v4_3 0 2147483647 → th_H D cT T (km q) H → va_S (th_A T []) s.heap H locs → lv_has ls 4 [(0, .ref a0), (1, .int y1), (2, .int v4_2), (3, .int v4_3)] → (2147483647 + 1 - Int32.toInt v4_3).toNat < n → W p l e (rmk 2 48) s m [.ref a0, .int y1].toArray below meth c H locs 0 0 (MQ below (th_Q D cT T (km q) (th_R T (some (.inl (-2147483648, 2147483647)))) []) [.ref a0, .int y1].toArray s 0 0 (th_A T [])) (F0 m 4 ls []) := by
    intro n
    induction n with
    | zero => intro H locs ls v4_2 v4_3 iv4_2 iv4_3 hH hS hl hn; exact absurd hn (Nat.not_lt_zero _)
    | succ n ih4 =>
      intro H locs ls v4_2 v4_3 iv4_2 iv4_3 hH hS hl hn4
      have J27_s1_0 : ∀ (H : Heap) (locs : List Loc) (ls : Array Slot), IV v4_3 0 2147483646 → th_H D cT T (km q) H → va_S (th_A T []) s.heap H locs → lv_has ls 4 [(0, .ref a0), (1, .int y1), (3, .int v4_3)] → W p l e (rmk 2 48) s m [.ref a0, .int y1].toArray below meth c H locs 0 0 (MQ below (th_Q D cT T (km q) (th_R T (some (.inl (-2147483648, 2147483647)))) []) [.ref a0, .int y1].toArray s 0 0 (th_A T [])) (F0 m 27 ls [.int 0, .int v4_2]) := by
        intro H locs ls f27_v4_3 hH hS hl
        refine lv_iadd hx hb dX11_fit_27 ?_
        refine lv_topi (fun x1 ex1 => ?_)
        have ix1 : IV x1 (-2147483648) 2147483647 := by rw [ex1]; exact iv_add iv4_2 (iv_c (by decide) : IV 0 0 0) (by decide)
        have ux1 : x1.toInt = v4_2.toInt + (0 : Int) := by rw [ex1]; exact iv_addE (by have z1 := (iv4_2).1; have z2 := (iv4_2).2; have z3 := ((iv_c (by decide) : IV 0 0 0)).1; have z4 := ((iv_c (by decide) : IV 0 0 0)).2; omega)
        refine lv_istore_n (lv' := [(2, .int x1), (0, .ref a0), (1, .int y1), (3, .int v4_3)]) hx hb dX11_fit_28 rfl hl (by decide) rfl (fun ls hl => ?_)
        refine th_iinc S dX11_fit_29 hl (k := 3) rfl (by decide) f27_v4_3 (by decide) (fun x2 ls ex2 ix2 hl => ?_)
        have hl : lv_has ls 4 [(3, .int x2), (2, .int x1), (0, .ref a0), (1, .int y1)] := hl
        have ix2 : IV x2 1 2147483647 := ix2
        refine lv_goto (tgt := 4) hx hb dX11_fit_32 (by decide) ?_
        exact ih4 H locs ls x1 x2 ix1 (iv_w ix2 (by decide)) hH hS (lv_sub hl [2, 3, 1, 0] rfl) (th_up iv4_3 ex2 (by decide) hn4)
      have J27_s1_1 : ∀ (H : Heap) (locs : List Loc) (ls : Array Slot), IV v4_3 0 2147483646 → th_H D cT T (km q) H → va_S (th_A T []) s.heap H locs → lv_has ls 4 [(0, .ref a0), (1, .int y1), (3, .int v4_3)] → W p l e (rmk 2 48) s m [.ref a0, .int y1].toArray below meth c H locs 0 0 (MQ below (th_Q D cT T (km q) (th_R T (some (.inl (-2147483648, 2147483647)))) []) [.ref a0, .int y1].toArray s 0 0 (th_A T [])) (F0 m 27 ls [.int 1, .int v4_2]) := by
        intro H locs ls f27_v4_3 hH hS hl
        refine lv_iadd hx hb dX11_fit_27 ?_
        refine lv_topi (fun x3 ex3 => ?_)
        have ix3 := iv_top x3
        refine lv_istore_n (lv' := [(2, .int x3), (0, .ref a0), (1, .int y1), (3, .int v4_3)]) hx hb dX11_fit_28 rfl hl (by decide) rfl (fun ls hl => ?_)
        refine th_iinc S dX11_fit_29 hl (k := 3) rfl (by decide) f27_v4_3 (by decide) (fun x4 ls ex4 ix4 hl => ?_)
        have hl : lv_has ls 4 [(3, .int x4), (2, .int x3), (0, .ref a0), (1, .int y1)] := hl
        have ix4 : IV x4 1 2147483647 := ix4
        refine lv_goto (tgt := 4) hx hb dX11_fit_32 (by decide) ?_
        exact ih4 H locs ls x3 x4 ix3 (iv_w ix4 (by decide)) hH hS (lv_sub hl [2, 3, 1, 0] rfl) (th_up iv4_3 ex4 (by decide) hn4)
      have l1v4_3 := iv4_3.1; have l2v4_3 := iv4_3.2
      refine lv_iload_n hx hb dX11_fit_4 rfl (lv_at hl 3 rfl) ?_
      refine lv_aload_n hx hb dX11_fit_5 rfl (lv_at hl 0 rfl) ?_
      refine th_callVi (n := 0) (As := []) S hK hH hS (th_A.sub (by decide)) (m_X11_likingsMany l D cT T q hq a0 t0) gm_1880 gm_1877 gm_1879 gm_109 gm_124 (by decide +kernel) ⟨rfl, rfl, Nat.le_of_ble_eq_true rfl, Nat.le_of_ble_eq_true rfl⟩ t0 km_0 rfl rfl hl.1 rfl (Nat.le_of_ble_eq_true rfl) dX11_fit_6 ⟨Nat.zero_le _, Nat.zero_le _⟩ (fun x5 H locs ix5 hH hS hF1 => ?_)
      refine lv_icmp_ge (tgt := 35) hx hb dX11_fit_9 (by decide) (fun c6 => ?_) (fun c6 => ?_)
      · skip
        have rlc6 : x5.toInt ≤ v4_3.toInt := iv_le c6
        refine lv_iload_n hx hb dX11_fit_35 rfl (lv_at hl 2 rfl) ?_
        exact th_iret S hK hH hS hr hlocks (th_R.i iv4_2) dX11_fit_36
      · skip
        have rlc6 : v4_3.toInt < x5.toInt := iv_nle c6
        have ir7 : IV v4_3 0 2147483646 := iv_uL iv4_3 ix5 (iv_nle c6) (by decide)
        have ir7a := ir7.1; have ir7b := ir7.2
        have ir8 : IV x5 1 2147483647 := iv_uR iv4_3 ix5 (iv_nle c6) (by decide)
        have ir8a := ir8.1; have ir8b := ir8.2
        refine lv_iload_n hx hb dX11_fit_12 rfl (lv_at hl 2 rfl) ?_
        refine lv_aload_n hx hb dX11_fit_13 rfl (lv_at hl 0 rfl) ?_
        refine lv_iload_n hx hb dX11_fit_14 rfl (lv_at hl 3 rfl) ?_
        refine lv_iload_n hx hb dX11_fit_15 rfl (lv_at hl 1 rfl) ?_
        refine th_callVi (n := 2) (As := [.int v4_3, .int y1]) S hK hH hS (th_A.sub (by decide)) (m_X11_doesFit l D cT T q hq a0 t0 (v4_3) (iv_top _) (y1) j1) gm_1884 gm_1881 gm_1883 gm_110 gm_124 (by decide +kernel) ⟨rfl, rfl, Nat.le_of_ble_eq_true rfl, Nat.le_of_ble_eq_true rfl⟩ t0 km_0 rfl rfl hl.1 rfl (Nat.le_of_ble_eq_true rfl) dX11_fit_16 ⟨Nat.zero_le _, Nat.zero_le _⟩ (fun x9 H locs ix9 hH hS hF1 => ?_)
        refine lv_if_eq (tgt := 26) hx hb dX11_fit_19 (by decide) (fun c10 => ?_) (fun c10 => ?_)
        · skip
          have rlc10 : x9.toInt = (0 : Int) := congrArg Int32.toInt c10
          have ir11 : IV x9 0 0 := iv_eL c10 (iv_c (by decide) : IV 0 0 0)
          have ir11a := ir11.1; have ir11b := ir11.2
          refine lv_iconst (v := 0) hx hb dX11_fit_26 (by decide) ?_
          exact J27_s1_0 H locs ls ir7 hH hS (lv_sub hl [0, 1, 3] rfl)
        · skip
          have rlc10 : x9.toInt ≠ (0 : Int) := iv_ne c10
          have ir12 : IV x9 1 1 := iv_cutL ix9 (iv_c (by decide) : IV 0 0 0) c10 (by decide)
          have ir12a := ir12.1; have ir12b := ir12.2
          refine lv_iconst (v := 1) hx hb dX11_fit_22 (by decide) ?_
          refine lv_goto (tgt := 27) hx hb dX11_fit_23 (by decide) ?_
          exact J27_s1_1 H locs ls ir7 hH hS (lv_sub hl [0, 1, 3] rfl)
  have J0 : ∀ (H : Heap) (locs : List Loc) (ls : Array Slot), th_H D cT T (km q) H → va_S (th_A T []) s.heap H locs → lv_has ls 4 [(0, .ref a0), (1, .int y1)] → W p l e (rmk 2 48) s m [.ref a0, .int y1].toArray below meth c H locs 0 0 (MQ below (th_Q D cT T (km q) (th_R T (some (.inl (-2147483648, 2147483647)))) []) [.ref a0, .int y1].toArray s 0 0 (th_A T [])) (F0 m 0 ls []) := by
    intro H locs ls hH hS hl
    refine lv_iconst (v := 0) hx hb dX11_fit_0 (by decide) ?_
    refine lv_istore_n (lv' := [(2, .int 0), (0, .ref a0), (1, .int y1)]) hx hb dX11_fit_1 rfl hl (by decide) rfl (fun ls hl => ?_)
    refine lv_iconst (v := 0) hx hb dX11_fit_2 (by decide) ?_
    refine lv_istore_n (lv' := [(3, .int 0), (2, .int 0), (0, .ref a0), (1, .int y1)]) hx hb dX11_fit_3 rfl hl (by decide) rfl (fun ls hl => ?_)
    exact J4 ((2147483647 + 1 - Int32.toInt 0).toNat + 1) H locs ls 0 0 (iv_top _) (iv_w (iv_c (by decide) : IV 0 0 0) (by decide)) hH hS (lv_sub hl [2, 3, 1, 0] rfl) (Nat.lt_succ_self _)
  exact J0 s.heap [] ls hH va_S.rf hl

set_option maxRecDepth 100000 in
theorem m_X11_sure (l : Launch) (D : va_G) (cT : Nat → ClassId) (T : Nat → Option Nat) (q : Nat → Int) (hq : qkm q) (a0 : Nat) (t0 : T a0 = some 0) (y1 : Int32) (j1 : IV y1 (-2147483648) 2147483647) (y2 : Int32) (j2 : IV y2 (-2147483648) 2147483647) : th_Met l D cT T (km q) yX11_sure cX11_sure 5 (some .int) (rmk 2 48) [.ref a0, .int y1, .int y2] (th_R T (some (.inl (-5, 5)))) [] := by
  refine th_start (by decide) (Nat.le_of_ble_eq_true rfl) ?_
  intro p e s m below meth c ls S hK hH hr hlocks hnm hl
  have hx := S.1
  have hb := S.2.1
  have hl : lv_has ls 5 [(0, .ref a0), (1, .int y1), (2, .int y2)] := hl
  have J15 : ∀ (n : Nat) (H : Heap) (locs : List Loc) (ls : Array Slot) (v15_3 : Int32) (v15_4 : Int32), IV v15_3 (-5) 5 → IV v15_4 0 2147483647 → IV y1 0 2 → th_H D cT T (km q) H → va_S (th_A T []) s.heap H locs → lv_has ls 5 [(0, .ref a0), (1, .int y1), (2, .int y2), (3, .int v15_3), (4, .int v15_4)] → (2147483647 + 1 - Int32.toInt v15_4).toNat < n → W p l e (rmk 2 48) s m [.ref a0, .int y1, .int y2].toArray below meth c H locs 0 0 (MQ below (th_Q D cT T (km q) (th_R T (some (.inl (-5, 5)))) []) [.ref a0, .int y1, .int y2].toArray s 0 0 (th_A T [])) (F0 m 15 ls []) := by
    intro n
    induction n with
    | zero => intro H locs ls v15_3 v15_4 iv15_3 iv15_4 f15_y1 hH hS hl hn; exact absurd hn (Nat.not_lt_zero _)
    | succ n ih15 =>
      intro H locs ls v15_3 v15_4 iv15_3 iv15_4 f15_y1 hH hS hl hn15
      have J61 : ∀ (H : Heap) (locs : List Loc) (ls : Array Slot) (v61_3 : Int32), IV v61_3 (-5) 5 → IV v15_4 0 2147483646 → IV y1 0 2 → th_H D cT T (km q) H → va_S (th_A T []) s.heap H locs → lv_has ls 5 [(0, .ref a0), (1, .int y1), (2, .int y2), (3, .int v61_3), (4, .int v15_4)] → W p l e (rmk 2 48) s m [.ref a0, .int y1, .int y2].toArray below meth c H locs 0 0 (MQ below (th_Q D cT T (km q) (th_R T (some (.inl (-5, 5)))) []) [.ref a0, .int y1, .int y2].toArray s 0 0 (th_A T [])) (F0 m 61 ls []) := by
        intro H locs ls v61_3 iv61_3 f61_v15_4 f61_y1 hH hS hl
        have l1v61_3 := iv61_3.1; have l2v61_3 := iv61_3.2
        refine th_iinc S dX11_sure_61 hl (k := 4) rfl (by decide) f61_v15_4 (by decide) (fun x1 ls ex1 ix1 hl => ?_)
        have hl : lv_has ls 5 [(4, .int x1), (0, .ref a0), (1, .int y1), (2, .int y2), (3, .int v61_3)] := hl
        have ix1 : IV x1 1 2147483647 := ix1
        refine lv_goto (tgt := 15) hx hb dX11_sure_64 (by decide) ?_
        exact ih15 H locs ls v61_3 x1 iv61_3 (iv_w ix1 (by decide)) f61_y1 hH hS (lv_sub hl [1, 2, 3, 4, 0] rfl) (th_up iv15_4 ex1 (by decide) hn15)
      have J54 : ∀ (H : Heap) (locs : List Loc) (ls : Array Slot), IV v15_4 0 2147483646 → IV y1 0 2 → th_H D cT T (km q) H → va_S (th_A T []) s.heap H locs → lv_has ls 5 [(0, .ref a0), (1, .int y1), (2, .int y2), (4, .int v15_4)] → W p l e (rmk 2 48) s m [.ref a0, .int y1, .int y2].toArray below meth c H locs 0 0 (MQ below (th_Q D cT T (km q) (th_R T (some (.inl (-5, 5)))) []) [.ref a0, .int y1, .int y2].toArray s 0 0 (th_A T [])) (F0 m 54 ls []) := by
        intro H locs ls f54_v15_4 f54_y1 hH hS hl
        refine lv_iload hx hb dX11_sure_54 (lv_at hl 3 rfl) ?_
        refine lv_iload_n hx hb dX11_sure_56 rfl (lv_at hl 1 rfl) ?_
        refine th_callSi (n := 2) (As := [.int v15_4, .int y1]) S hK hH hS (th_A.sub (by decide)) (m_X11_likingOf l D cT T q hq (v15_4) (iv_top _) (y1) (iv_top _)) gm_1887 gm_1885 gm_1886 gm_124 (by decide +kernel) ⟨rfl, rfl, Nat.le_of_ble_eq_true rfl, Nat.le_of_ble_eq_true rfl⟩ rfl hl.1 rfl (Nat.le_of_ble_eq_true rfl) dX11_sure_57 ⟨Nat.zero_le _, Nat.zero_le _⟩ (fun x2 H locs ix2 hH hS hF1 => ?_)
        refine lv_istore_n (lv' := [(3, .int x2), (0, .ref a0), (1, .int y1), (2, .int y2), (4, .int v15_4)]) hx hb dX11_sure_60 rfl hl (by decide) rfl (fun ls hl => ?_)
        exact J61 H locs ls x2 ix2 f54_v15_4 f54_y1 hH hS (lv_sub hl [1, 2, 3, 0, 4] rfl)
      have l1v15_3 := iv15_3.1; have l2v15_3 := iv15_3.2
      have l1v15_4 := iv15_4.1; have l2v15_4 := iv15_4.2
      refine lv_iload hx hb dX11_sure_15 (lv_at hl 4 rfl) ?_
      refine lv_aload_n hx hb dX11_sure_17 rfl (lv_at hl 0 rfl) ?_
      refine th_callVi (n := 0) (As := []) S hK hH hS (th_A.sub (by decide)) (m_X11_likingsMany l D cT T q hq a0 t0) gm_1880 gm_1877 gm_1879 gm_109 gm_124 (by decide +kernel) ⟨rfl, rfl, Nat.le_of_ble_eq_true rfl, Nat.le_of_ble_eq_true rfl⟩ t0 km_0 rfl rfl hl.1 rfl (Nat.le_of_ble_eq_true rfl) dX11_sure_18 ⟨Nat.zero_le _, Nat.zero_le _⟩ (fun x3 H locs ix3 hH hS hF1 => ?_)
      refine lv_icmp_ge (tgt := 67) hx hb dX11_sure_21 (by decide) (fun c4 => ?_) (fun c4 => ?_)
      · skip
        have rlc4 : x3.toInt ≤ v15_4.toInt := iv_le c4
        refine lv_iload_n hx hb dX11_sure_67 rfl (lv_at hl 3 rfl) ?_
        exact th_iret S hK hH hS hr hlocks (th_R.i iv15_3) dX11_sure_68
      · skip
        have rlc4 : v15_4.toInt < x3.toInt := iv_nle c4
        have ir5 : IV v15_4 0 2147483646 := iv_uL iv15_4 ix3 (iv_nle c4) (by decide)
        have ir5a := ir5.1; have ir5b := ir5.2
        have ir6 : IV x3 1 2147483647 := iv_uR iv15_4 ix3 (iv_nle c4) (by decide)
        have ir6a := ir6.1; have ir6b := ir6.2
        refine lv_aload_n hx hb dX11_sure_24 rfl (lv_at hl 0 rfl) ?_
        refine lv_iload hx hb dX11_sure_25 (lv_at hl 4 rfl) ?_
        refine lv_iload_n hx hb dX11_sure_27 rfl (lv_at hl 2 rfl) ?_
        refine th_callVi (n := 2) (As := [.int v15_4, .int y2]) S hK hH hS (th_A.sub (by decide)) (m_X11_doesFit l D cT T q hq a0 t0 (v15_4) (iv_top _) (y2) j2) gm_1884 gm_1881 gm_1883 gm_110 gm_124 (by decide +kernel) ⟨rfl, rfl, Nat.le_of_ble_eq_true rfl, Nat.le_of_ble_eq_true rfl⟩ t0 km_0 rfl rfl hl.1 rfl (Nat.le_of_ble_eq_true rfl) dX11_sure_28 ⟨Nat.zero_le _, Nat.zero_le _⟩ (fun x7 H locs ix7 hH hS hF1 => ?_)
        refine lv_if_ne (tgt := 37) hx hb dX11_sure_31 (by decide) (fun c8 => ?_) (fun c8 => ?_)
        · skip
          have rlc8 : x7.toInt ≠ (0 : Int) := iv_ne c8
          have ir9 : IV x7 1 1 := iv_cutL ix7 (iv_c (by decide) : IV 0 0 0) c8 (by decide)
          have ir9a := ir9.1; have ir9b := ir9.2
          refine lv_iload_n hx hb dX11_sure_37 rfl (lv_at hl 3 rfl) ?_
          refine lv_if_lt (tgt := 54) hx hb dX11_sure_38 (by decide) (fun c10 => ?_) (fun c10 => ?_)
          · skip
            have rlc10 : v15_3.toInt < (0 : Int) := iv_lt c10
            have ir11 : IV v15_3 (-5) (-1) := iv_uL iv15_3 (iv_c (by decide) : IV 0 0 0) (iv_lt c10) (by decide)
            have ir11a := ir11.1; have ir11b := ir11.2
            exact J54 H locs ls ir5 f15_y1 hH hS (lv_sub hl [0, 1, 2, 4] rfl)
          · skip
            have rlc10 : (0 : Int) ≤ v15_3.toInt := iv_nlt c10
            have ir12 : IV v15_3 0 5 := iv_vR (iv_c (by decide) : IV 0 0 0) iv15_3 (iv_nlt c10) (by decide)
            have ir12a := ir12.1; have ir12b := ir12.2
            refine lv_iload_n hx hb dX11_sure_41 rfl (lv_at hl 3 rfl) ?_
            refine lv_iload hx hb dX11_sure_42 (lv_at hl 4 rfl) ?_
            refine lv_iload_n hx hb dX11_sure_44 rfl (lv_at hl 1 rfl) ?_
            refine th_callSi (n := 2) (As := [.int v15_4, .int y1]) S hK hH hS (th_A.sub (by decide)) (m_X11_likingOf l D cT T q hq (v15_4) (iv_top _) (y1) (iv_top _)) gm_1887 gm_1885 gm_1886 gm_124 (by decide +kernel) ⟨rfl, rfl, Nat.le_of_ble_eq_true rfl, Nat.le_of_ble_eq_true rfl⟩ rfl hl.1 rfl (Nat.le_of_ble_eq_true rfl) dX11_sure_45 ⟨Nat.zero_le _, Nat.zero_le _⟩ (fun x13 H locs ix13 hH hS hF1 => ?_)
            refine lv_icmp_eq (tgt := 54) hx hb dX11_sure_48 (by decide) (fun c14 => ?_) (fun c14 => ?_)
            · skip
              have rlc14 : v15_3.toInt = x13.toInt := congrArg Int32.toInt c14
              have ir15 : IV x13 0 5 := iv_eR c14 ir12
              have ir15a := ir15.1; have ir15b := ir15.2
              exact J54 H locs ls ir5 f15_y1 hH hS (lv_sub hl [0, 1, 2, 4] rfl)
            · skip
              have rlc14 : v15_3.toInt ≠ x13.toInt := iv_ne c14
              refine lv_bipush (v := (-2)) hx hb dX11_sure_51 (by decide) ?_
              exact th_iret S hK hH hS hr hlocks (th_R.i (iv_w (iv_c (by decide) : IV (-2) (-2) (-2)) (by decide))) dX11_sure_53
        · skip
          have rlc8 : x7.toInt = (0 : Int) := congrArg Int32.toInt c8
          have ir16 : IV x7 0 0 := iv_eL c8 (iv_c (by decide) : IV 0 0 0)
          have ir16a := ir16.1; have ir16b := ir16.2
          refine lv_goto (tgt := 61) hx hb dX11_sure_34 (by decide) ?_
          exact J61 H locs ls v15_3 iv15_3 ir5 f15_y1 hH hS (lv_sub hl [0, 1, 2, 3, 4] rfl)
  have J0 : ∀ (H : Heap) (locs : List Loc) (ls : Array Slot), th_H D cT T (km q) H → va_S (th_A T []) s.heap H locs → lv_has ls 5 [(0, .ref a0), (1, .int y1), (2, .int y2)] → W p l e (rmk 2 48) s m [.ref a0, .int y1, .int y2].toArray below meth c H locs 0 0 (MQ below (th_Q D cT T (km q) (th_R T (some (.inl (-5, 5)))) []) [.ref a0, .int y1, .int y2].toArray s 0 0 (th_A T [])) (F0 m 0 ls []) := by
    intro H locs ls hH hS hl
    refine lv_aload_n hx hb dX11_sure_0 rfl (lv_at hl 0 rfl) ?_
    refine lv_iload_n hx hb dX11_sure_1 rfl (lv_at hl 1 rfl) ?_
    refine th_callVp (n := 1) (As := [.int y1]) S hK hH hS (th_A.sub (by decide)) (m_X11_isFood l D cT T q hq a0 t0 (y1) j1) gm_1615 gm_1612 gm_1614 gm_79 gm_124 (by decide +kernel) ⟨rfl, rfl, Nat.le_of_ble_eq_true rfl, Nat.le_of_ble_eq_true rfl⟩ t0 km_0 rfl rfl hl.1 rfl (Nat.le_of_ble_eq_true rfl) dX11_sure_2 ⟨Nat.zero_le _, Nat.zero_le _⟩ (fun x17 H locs ix17 ox17 hH hS hF1 => ?_)
    have ox17 : x17.toInt ≠ 0 → 0 ≤ y1.toInt ∧ y1.toInt < q 16 := ox17
    refine lv_if_ne (tgt := 10) hx hb dX11_sure_5 (by decide) (fun c18 => ?_) (fun c18 => ?_)
    · skip
      have rlc18 : x17.toInt ≠ (0 : Int) := iv_ne c18
      have ir19 : IV x17 1 1 := iv_cutL ix17 (iv_c (by decide) : IV 0 0 0) c18 (by decide)
      have ir19a := ir19.1; have ir19b := ir19.2
      have ir20 : IV y1 0 2 := ((fun z => by have z1 := iv_ne z; have z2 : x17.toInt ≠ 0 := z1; have z60 := qkm_16 hq; exact ⟨by omega, by omega⟩) : ¬ x17 = 0 → IV y1 0 2) c18
      have ir20a := ir20.1; have ir20b := ir20.2
      refine lv_iconst (v := (-1)) hx hb dX11_sure_10 (by decide) ?_
      refine lv_istore_n (lv' := [(3, .int (-1)), (0, .ref a0), (1, .int y1), (2, .int y2)]) hx hb dX11_sure_11 rfl hl (by decide) rfl (fun ls hl => ?_)
      refine lv_iconst (v := 0) hx hb dX11_sure_12 (by decide) ?_
      refine lv_istore (lv' := [(4, .int 0), (3, .int (-1)), (0, .ref a0), (1, .int y1), (2, .int y2)]) hx hb dX11_sure_13 hl (by decide) rfl (fun ls hl => ?_)
      exact J15 ((2147483647 + 1 - Int32.toInt 0).toNat + 1) H locs ls (-1) 0 (iv_w (iv_c (by decide) : IV (-1) (-1) (-1)) (by decide)) (iv_w (iv_c (by decide) : IV 0 0 0) (by decide)) ir20 hH hS (lv_sub hl [2, 3, 4, 1, 0] rfl) (Nat.lt_succ_self _)
    · skip
      have rlc18 : x17.toInt = (0 : Int) := congrArg Int32.toInt c18
      have ir21 : IV x17 0 0 := iv_eL c18 (iv_c (by decide) : IV 0 0 0)
      have ir21a := ir21.1; have ir21b := ir21.2
      refine lv_iconst (v := (-1)) hx hb dX11_sure_8 (by decide) ?_
      exact th_iret S hK hH hS hr hlocks (th_R.i (iv_w (iv_c (by decide) : IV (-1) (-1) (-1)) (by decide))) dX11_sure_9
  exact J0 s.heap [] ls hH va_S.rf hl

set_option maxRecDepth 100000 in
theorem m_X11_fullBy (l : Launch) (D : va_G) (cT : Nat → ClassId) (T : Nat → Option Nat) (q : Nat → Int) (hq : qkm q) (a0 : Nat) (t0 : T a0 = some 0) (y1 : Int32) (j1 : IV y1 (-2147483648) 2147483647) (y2 : Int32) (j2 : IV y2 (-2147483648) 2147483647) (y3 : Int32) (j3 : IV y3 (-2147483648) 2147483647) (y4 : Int32) (j4 : IV y4 (-2147483648) 2147483647) : th_Met l D cT T (km q) yX11_fullBy cX11_fullBy 7 (some .int) (rmk 2 48) [.ref a0, .int y1, .int y2, .int y3, .int y4] (th_R T (some (.inl (-2147483648, 2147483647)))) [] := by
  refine th_start (by decide) (Nat.le_of_ble_eq_true rfl) ?_
  intro p e s m below meth c ls S hK hH hr hlocks hnm hl
  have hx := S.1
  have hb := S.2.1
  have hl : lv_has ls 7 [(0, .ref a0), (1, .int y1), (2, .int y2), (3, .int y3), (4, .int y4)] := hl
  have J6 : ∀ (n : Nat) (H : Heap) (locs : List Loc) (ls : Array Slot) (v6_5 : Int32) (v6_6 : Int32), IV v6_5 (-2147483648) 2147483647 → IV v6_6 0 2147483647 → th_H D cT T (km q) H → va_S (th_A T []) s.heap H locs → lv_has ls 7 [(0, .ref a0), (1, .int y1), (2, .int y2), (3, .int y3), (4, .int y4), (5, .int v6_5), (6, .int v6_6)] → (2147483647 + 1 - Int32.toInt v6_6).toNat < n → W p l e (rmk 2 48) s m [.ref a0, .int y1, .int y2, .int y3, .int y4].toArray below meth c H locs 0 0 (MQ below (th_Q D cT T (km q) (th_R T (some (.inl (-2147483648, 2147483647)))) []) [.ref a0, .int y1, .int y2, .int y3, .int y4].toArray s 0 0 (th_A T [])) (F0 m 6 ls []) := by
    intro n
    induction n with
    | zero => intro H locs ls v6_5 v6_6 iv6_5 iv6_6 hH hS hl hn; exact absurd hn (Nat.not_lt_zero _)
    | succ n ih6 =>
      intro H locs ls v6_5 v6_6 iv6_5 iv6_6 hH hS hl hn6
      have J41 : ∀ (H : Heap) (locs : List Loc) (ls : Array Slot) (v41_5 : Int32), IV v41_5 (-2147483648) 2147483647 → IV v6_6 0 2147483646 → th_H D cT T (km q) H → va_S (th_A T []) s.heap H locs → lv_has ls 7 [(0, .ref a0), (1, .int y1), (2, .int y2), (3, .int y3), (4, .int y4), (5, .int v41_5), (6, .int v6_6)] → W p l e (rmk 2 48) s m [.ref a0, .int y1, .int y2, .int y3, .int y4].toArray below meth c H locs 0 0 (MQ below (th_Q D cT T (km q) (th_R T (some (.inl (-2147483648, 2147483647)))) []) [.ref a0, .int y1, .int y2, .int y3, .int y4].toArray s 0 0 (th_A T [])) (F0 m 41 ls []) := by
        intro H locs ls v41_5 iv41_5 f41_v6_6 hH hS hl
        refine th_iinc S dX11_fullBy_41 hl (k := 6) rfl (by decide) f41_v6_6 (by decide) (fun x1 ls ex1 ix1 hl => ?_)
        have hl : lv_has ls 7 [(6, .int x1), (0, .ref a0), (1, .int y1), (2, .int y2), (3, .int y3), (4, .int y4), (5, .int v41_5)] := hl
        have ix1 : IV x1 1 2147483647 := ix1
        refine lv_goto (tgt := 6) hx hb dX11_fullBy_44 (by decide) ?_
        exact ih6 H locs ls v41_5 x1 iv41_5 (iv_w ix1 (by decide)) hH hS (lv_sub hl [1, 2, 3, 4, 5, 6, 0] rfl) (th_up iv6_6 ex1 (by decide) hn6)
      have l1v6_6 := iv6_6.1; have l2v6_6 := iv6_6.2
      refine lv_iload hx hb dX11_fullBy_6 (lv_at hl 6 rfl) ?_
      refine lv_aload_n hx hb dX11_fullBy_8 rfl (lv_at hl 0 rfl) ?_
      refine th_callVi (n := 0) (As := []) S hK hH hS (th_A.sub (by decide)) (m_X11_likingsMany l D cT T q hq a0 t0) gm_1880 gm_1877 gm_1879 gm_109 gm_124 (by decide +kernel) ⟨rfl, rfl, Nat.le_of_ble_eq_true rfl, Nat.le_of_ble_eq_true rfl⟩ t0 km_0 rfl rfl hl.1 rfl (Nat.le_of_ble_eq_true rfl) dX11_fullBy_9 ⟨Nat.zero_le _, Nat.zero_le _⟩ (fun x2 H locs ix2 hH hS hF1 => ?_)
      refine lv_icmp_ge (tgt := 47) hx hb dX11_fullBy_12 (by decide) (fun c3 => ?_) (fun c3 => ?_)
      · skip
        have rlc3 : x2.toInt ≤ v6_6.toInt := iv_le c3
        refine lv_iload hx hb dX11_fullBy_47 (lv_at hl 5 rfl) ?_
        exact th_iret S hK hH hS hr hlocks (th_R.i iv6_5) dX11_fullBy_49
      · skip
        have rlc3 : v6_6.toInt < x2.toInt := iv_nle c3
        have ir4 : IV v6_6 0 2147483646 := iv_uL iv6_6 ix2 (iv_nle c3) (by decide)
        have ir4a := ir4.1; have ir4b := ir4.2
        have ir5 : IV x2 1 2147483647 := iv_uR iv6_6 ix2 (iv_nle c3) (by decide)
        have ir5a := ir5.1; have ir5b := ir5.2
        refine lv_aload_n hx hb dX11_fullBy_15 rfl (lv_at hl 0 rfl) ?_
        refine lv_iload hx hb dX11_fullBy_16 (lv_at hl 6 rfl) ?_
        refine lv_iload hx hb dX11_fullBy_18 (lv_at hl 4 rfl) ?_
        refine th_callVi (n := 2) (As := [.int v6_6, .int y4]) S hK hH hS (th_A.sub (by decide)) (m_X11_doesFit l D cT T q hq a0 t0 (v6_6) (iv_top _) (y4) j4) gm_1884 gm_1881 gm_1883 gm_110 gm_124 (by decide +kernel) ⟨rfl, rfl, Nat.le_of_ble_eq_true rfl, Nat.le_of_ble_eq_true rfl⟩ t0 km_0 rfl rfl hl.1 rfl (Nat.le_of_ble_eq_true rfl) dX11_fullBy_20 ⟨Nat.zero_le _, Nat.zero_le _⟩ (fun x6 H locs ix6 hH hS hF1 => ?_)
        refine lv_if_eq (tgt := 41) hx hb dX11_fullBy_23 (by decide) (fun c7 => ?_) (fun c7 => ?_)
        · skip
          have rlc7 : x6.toInt = (0 : Int) := congrArg Int32.toInt c7
          have ir8 : IV x6 0 0 := iv_eL c7 (iv_c (by decide) : IV 0 0 0)
          have ir8a := ir8.1; have ir8b := ir8.2
          exact J41 H locs ls v6_5 iv6_5 ir4 hH hS (lv_sub hl [0, 1, 2, 3, 4, 5, 6] rfl)
        · skip
          have rlc7 : x6.toInt ≠ (0 : Int) := iv_ne c7
          have ir9 : IV x6 1 1 := iv_cutL ix6 (iv_c (by decide) : IV 0 0 0) c7 (by decide)
          have ir9a := ir9.1; have ir9b := ir9.2
          refine lv_iload_n hx hb dX11_fullBy_26 rfl (lv_at hl 2 rfl) ?_
          refine lv_iload hx hb dX11_fullBy_27 (lv_at hl 6 rfl) ?_
          refine lv_iload_n hx hb dX11_fullBy_29 rfl (lv_at hl 1 rfl) ?_
          refine th_callSi (n := 2) (As := [.int v6_6, .int y1]) S hK hH hS (th_A.sub (by decide)) (m_X11_likingOf l D cT T q hq (v6_6) (iv_top _) (y1) j1) gm_1887 gm_1885 gm_1886 gm_124 (by decide +kernel) ⟨rfl, rfl, Nat.le_of_ble_eq_true rfl, Nat.le_of_ble_eq_true rfl⟩ rfl hl.1 rfl (Nat.le_of_ble_eq_true rfl) dX11_fullBy_30 ⟨Nat.zero_le _, Nat.zero_le _⟩ (fun x10 H locs ix10 hH hS hF1 => ?_)
          refine lv_imul hx hb dX11_fullBy_33 ?_
          refine lv_topi (fun x11 ex11 => ?_)
          have ix11 := iv_top x11
          refine lv_iload_n hx hb dX11_fullBy_34 rfl (lv_at hl 3 rfl) ?_
          refine lv_icmp_lt (tgt := 41) hx hb dX11_fullBy_35 (by decide) (fun c12 => ?_) (fun c12 => ?_)
          · skip
            have rlc12 : x11.toInt < y3.toInt := iv_lt c12
            have ir13 : IV x11 (-2147483648) 2147483646 := iv_uL ix11 j3 (iv_lt c12) (by decide)
            have ir13a := ir13.1; have ir13b := ir13.2
            have ir14 : IV y3 (-2147483647) 2147483647 := iv_uR ix11 j3 (iv_lt c12) (by decide)
            have ir14a := ir14.1; have ir14b := ir14.2
            exact J41 H locs ls v6_5 iv6_5 ir4 hH hS (lv_sub hl [0, 1, 2, 3, 4, 5, 6] rfl)
          · skip
            have rlc12 : y3.toInt ≤ x11.toInt := iv_nlt c12
            obtain ⟨x15, ex15⟩ : ∃ z : Int32, z = v6_5 + Int32.ofInt 1 := ⟨_, rfl⟩
            refine lv_iinc (v := x15) (lv' := [(5, .int x15), (0, .ref a0), (1, .int y1), (2, .int y2), (3, .int y3), (4, .int y4), (6, .int v6_6)]) hx hb dX11_fullBy_38 hl (k := 5) rfl (by rw [ex15]) (by decide) rfl (fun ls hl => ?_)
            have ix15 := iv_top x15
            exact J41 H locs ls x15 ix15 ir4 hH hS (lv_sub hl [1, 2, 3, 4, 5, 0, 6] rfl)
  have J0 : ∀ (H : Heap) (locs : List Loc) (ls : Array Slot), th_H D cT T (km q) H → va_S (th_A T []) s.heap H locs → lv_has ls 7 [(0, .ref a0), (1, .int y1), (2, .int y2), (3, .int y3), (4, .int y4)] → W p l e (rmk 2 48) s m [.ref a0, .int y1, .int y2, .int y3, .int y4].toArray below meth c H locs 0 0 (MQ below (th_Q D cT T (km q) (th_R T (some (.inl (-2147483648, 2147483647)))) []) [.ref a0, .int y1, .int y2, .int y3, .int y4].toArray s 0 0 (th_A T [])) (F0 m 0 ls []) := by
    intro H locs ls hH hS hl
    refine lv_iconst (v := 0) hx hb dX11_fullBy_0 (by decide) ?_
    refine lv_istore (lv' := [(5, .int 0), (0, .ref a0), (1, .int y1), (2, .int y2), (3, .int y3), (4, .int y4)]) hx hb dX11_fullBy_1 hl (by decide) rfl (fun ls hl => ?_)
    refine lv_iconst (v := 0) hx hb dX11_fullBy_3 (by decide) ?_
    refine lv_istore (lv' := [(6, .int 0), (5, .int 0), (0, .ref a0), (1, .int y1), (2, .int y2), (3, .int y3), (4, .int y4)]) hx hb dX11_fullBy_4 hl (by decide) rfl (fun ls hl => ?_)
    exact J6 ((2147483647 + 1 - Int32.toInt 0).toNat + 1) H locs ls 0 0 (iv_top _) (iv_w (iv_c (by decide) : IV 0 0 0) (by decide)) hH hS (lv_sub hl [2, 3, 4, 5, 6, 1, 0] rfl) (Nat.lt_succ_self _)
  exact J0 s.heap [] ls hH va_S.rf hl

set_option maxRecDepth 100000 in
theorem m_X11_ask (l : Launch) (D : va_G) (cT : Nat → ClassId) (T : Nat → Option Nat) (q : Nat → Int) (hq : qkm q) (a0 : Nat) (t0 : T a0 = some 0) (y1 : Int32) (j1 : IV y1 (-2147483648) 2147483647) (y2 : Int32) (j2 : IV y2 (-2147483648) 2147483647) (y3 : Int32) (j3 : IV y3 (-2147483648) 2147483647) : th_Met l D cT T (km q) yX11_ask cX11_ask 11 (some .int) (rmk 3 74) [.ref a0, .int y1, .int y2, .int y3] (th_R T (some (.inl (-2147483648, 2147483647)))) [] := by
  refine th_start (by decide) (Nat.le_of_ble_eq_true rfl) ?_
  intro p e s m below meth c ls S hK hH hr hlocks hnm hl
  have hx := S.1
  have hb := S.2.1
  have hl : lv_has ls 11 [(0, .ref a0), (1, .int y1), (2, .int y2), (3, .int y3)] := hl
  have J163 : ∀ (H : Heap) (locs : List Loc) (ls : Array Slot) (w163_0 : Int32), IV w163_0 (-2147483648) 2147483647 → th_H D cT T (km q) H → va_S (th_A T []) s.heap H locs → lv_has ls 11 [] → W p l e (rmk 3 74) s m [.ref a0, .int y1, .int y2, .int y3].toArray below meth c H locs 0 0 (MQ below (th_Q D cT T (km q) (th_R T (some (.inl (-2147483648, 2147483647)))) []) [.ref a0, .int y1, .int y2, .int y3].toArray s 0 0 (th_A T [])) (F0 m 163 ls [.int w163_0]) := by
    intro H locs ls w163_0 iw163_0 hH hS hl
    exact th_iret S hK hH hS hr hlocks (th_R.i iw163_0) dX11_ask_163
  have J163_s0_m1 : ∀ (H : Heap) (locs : List Loc) (ls : Array Slot), th_H D cT T (km q) H → va_S (th_A T []) s.heap H locs → lv_has ls 11 [] → W p l e (rmk 3 74) s m [.ref a0, .int y1, .int y2, .int y3].toArray below meth c H locs 0 0 (MQ below (th_Q D cT T (km q) (th_R T (some (.inl (-2147483648, 2147483647)))) []) [.ref a0, .int y1, .int y2, .int y3].toArray s 0 0 (th_A T [])) (F0 m 163 ls [.int (-1)]) := by
    intro H locs ls hH hS hl
    exact th_iret S hK hH hS hr hlocks (th_R.i (iv_top _)) dX11_ask_163
  have J44 : ∀ (n : Nat) (H : Heap) (locs : List Loc) (ls : Array Slot) (v44_4 : Int32) (v44_5 : Int32) (v44_6 : Int32) (v44_7 : Int32), IV v44_4 (-2147483648) 2147483647 → IV v44_5 (-1) 29 → IV v44_6 (-2147483648) 2147483647 → IV v44_7 0 3 → ¬ v44_4 = 0 → IV y1 1 99 → IV y2 0 1 → th_H D cT T (km q) H → va_S (th_A T []) s.heap H locs → lv_has ls 11 [(0, .ref a0), (1, .int y1), (2, .int y2), (3, .int y3), (4, .int v44_4), (5, .int v44_5), (6, .int v44_6), (7, .int v44_7)] → (3 + 1 - Int32.toInt v44_7).toNat < n → W p l e (rmk 3 74) s m [.ref a0, .int y1, .int y2, .int y3].toArray below meth c H locs 0 0 (MQ below (th_Q D cT T (km q) (th_R T (some (.inl (-2147483648, 2147483647)))) []) [.ref a0, .int y1, .int y2, .int y3].toArray s 0 0 (th_A T [])) (F0 m 44 ls []) := by
    intro n
    induction n with
    | zero => intro H locs ls v44_4 v44_5 v44_6 v44_7 iv44_4 iv44_5 iv44_6 iv44_7 d44_4_0 f44_y1 f44_y2 hH hS hl hn; exact absurd hn (Nat.not_lt_zero _)
    | succ n ih44 =>
      intro H locs ls v44_4 v44_5 v44_6 v44_7 iv44_4 iv44_5 iv44_6 iv44_7 d44_4_0 f44_y1 f44_y2 hH hS hl hn44
      have J61 : ∀ (n : Nat) (H : Heap) (locs : List Loc) (ls : Array Slot) (v61_5 : Int32) (v61_6 : Int32) (v61_8 : Int32), IV v61_5 (-1) 29 → IV v61_6 (-2147483648) 2147483647 → IV v61_8 1 10 → ¬ v44_4 = 0 → IV v44_7 0 2 → IV y1 1 99 → IV y2 0 1 → th_H D cT T (km q) H → va_S (th_A T []) s.heap H locs → lv_has ls 11 [(0, .ref a0), (1, .int y1), (2, .int y2), (3, .int y3), (4, .int v44_4), (5, .int v61_5), (6, .int v61_6), (7, .int v44_7), (8, .int v61_8)] → (10 + 1 - Int32.toInt v61_8).toNat < n → W p l e (rmk 3 74) s m [.ref a0, .int y1, .int y2, .int y3].toArray below meth c H locs 0 0 (MQ below (th_Q D cT T (km q) (th_R T (some (.inl (-2147483648, 2147483647)))) []) [.ref a0, .int y1, .int y2, .int y3].toArray s 0 0 (th_A T [])) (F0 m 61 ls []) := by
        intro n
        induction n with
        | zero => intro H locs ls v61_5 v61_6 v61_8 iv61_5 iv61_6 iv61_8 d61_4_0 f61_v44_7 f61_y1 f61_y2 hH hS hl hn; exact absurd hn (Nat.not_lt_zero _)
        | succ n ih61 =>
          intro H locs ls v61_5 v61_6 v61_8 iv61_5 iv61_6 iv61_8 d61_4_0 f61_v44_7 f61_y1 f61_y2 hH hS hl hn61
          have J131 : ∀ (H : Heap) (locs : List Loc) (ls : Array Slot) (v131_5 : Int32) (v131_6 : Int32), IV v131_5 0 29 → IV v131_6 (-2147483648) 2147483647 → ¬ v44_4 = 0 → IV v44_7 0 2 → IV v61_8 1 9 → IV y1 1 99 → IV y2 0 1 → th_H D cT T (km q) H → va_S (th_A T []) s.heap H locs → lv_has ls 11 [(0, .ref a0), (1, .int y1), (2, .int y2), (3, .int y3), (4, .int v44_4), (5, .int v131_5), (6, .int v131_6), (7, .int v44_7), (8, .int v61_8)] → W p l e (rmk 3 74) s m [.ref a0, .int y1, .int y2, .int y3].toArray below meth c H locs 0 0 (MQ below (th_Q D cT T (km q) (th_R T (some (.inl (-2147483648, 2147483647)))) []) [.ref a0, .int y1, .int y2, .int y3].toArray s 0 0 (th_A T [])) (F0 m 131 ls []) := by
            intro H locs ls v131_5 v131_6 iv131_5 iv131_6 d131_4_0 f131_v44_7 f131_v61_8 f131_y1 f131_y2 hH hS hl
            have l1v131_5 := iv131_5.1; have l2v131_5 := iv131_5.2
            refine th_iinc S dX11_ask_131 hl (k := 8) rfl (by decide) f131_v61_8 (by decide) (fun x1 ls ex1 ix1 hl => ?_)
            have hl : lv_has ls 11 [(8, .int x1), (0, .ref a0), (1, .int y1), (2, .int y2), (3, .int y3), (4, .int v44_4), (5, .int v131_5), (6, .int v131_6), (7, .int v44_7)] := hl
            have ix1 : IV x1 2 10 := ix1
            refine lv_goto (tgt := 61) hx hb dX11_ask_134 (by decide) ?_
            exact ih61 H locs ls v131_5 v131_6 x1 (iv_w iv131_5 (by decide)) iv131_6 (iv_w ix1 (by decide)) d131_4_0 f131_v44_7 f131_y1 f131_y2 hH hS (lv_sub hl [1, 2, 3, 4, 5, 6, 7, 8, 0] rfl) (th_up iv61_8 ex1 (by decide) hn61)
          have J117 : ∀ (H : Heap) (locs : List Loc) (ls : Array Slot) (v117_10 : Int32), IV v117_10 (-2147483648) 2147483647 → ¬ v44_4 = 0 → IV v44_7 0 2 → IV v61_8 1 9 → IV y1 1 99 → IV y2 0 1 → th_H D cT T (km q) H → va_S (th_A T []) s.heap H locs → lv_has ls 11 [(0, .ref a0), (1, .int y1), (2, .int y2), (3, .int y3), (4, .int v44_4), (7, .int v44_7), (8, .int v61_8), (10, .int v117_10)] → W p l e (rmk 3 74) s m [.ref a0, .int y1, .int y2, .int y3].toArray below meth c H locs 0 0 (MQ below (th_Q D cT T (km q) (th_R T (some (.inl (-2147483648, 2147483647)))) []) [.ref a0, .int y1, .int y2, .int y3].toArray s 0 0 (th_A T [])) (F0 m 117 ls []) := by
            intro H locs ls v117_10 iv117_10 d117_4_0 f117_v44_7 f117_v61_8 f117_y1 f117_y2 hH hS hl
            refine lv_bipush (v := 10) hx hb dX11_ask_117 (by decide) ?_
            refine lv_iload hx hb dX11_ask_119 (lv_at hl 5 rfl) ?_
            refine lv_imul hx hb dX11_ask_121 ?_
            refine lv_topi (fun x2 ex2 => ?_)
            have ix2 : IV x2 0 20 := by rw [ex2]; exact iv_mul (iv_c (by decide) : IV 10 10 10) f117_v44_7 (by decide) (by decide)
            have ux2 : x2.toInt = (10 : Int) * v44_7.toInt := by rw [ex2]; exact iv_mulE (iv_corner ((iv_c (by decide) : IV 10 10 10)).1 ((iv_c (by decide) : IV 10 10 10)).2 (f117_v44_7).1 (f117_v44_7).2 (by decide))
            refine lv_iload hx hb dX11_ask_122 (lv_at hl 6 rfl) ?_
            refine lv_iadd hx hb dX11_ask_124 ?_
            refine lv_topi (fun x3 ex3 => ?_)
            have ix3 : IV x3 1 29 := by rw [ex3]; exact iv_add ix2 f117_v61_8 (by decide)
            have ux3 : x3.toInt = x2.toInt + v61_8.toInt := by rw [ex3]; exact iv_addE (by have z1 := (ix2).1; have z2 := (ix2).2; have z3 := (f117_v61_8).1; have z4 := (f117_v61_8).2; omega)
            refine lv_istore (lv' := [(5, .int x3), (0, .ref a0), (1, .int y1), (2, .int y2), (3, .int y3), (4, .int v44_4), (7, .int v44_7), (8, .int v61_8), (10, .int v117_10)]) hx hb dX11_ask_125 hl (by decide) rfl (fun ls hl => ?_)
            refine lv_iload hx hb dX11_ask_127 (lv_at hl 8 rfl) ?_
            refine lv_istore (lv' := [(6, .int v117_10), (5, .int x3), (0, .ref a0), (1, .int y1), (2, .int y2), (3, .int y3), (4, .int v44_4), (7, .int v44_7), (8, .int v61_8), (10, .int v117_10)]) hx hb dX11_ask_129 hl (by decide) rfl (fun ls hl => ?_)
            exact J131 H locs ls x3 v117_10 (iv_w ix3 (by decide)) iv117_10 d117_4_0 f117_v44_7 f117_v61_8 f117_y1 f117_y2 hH hS (lv_sub hl [2, 3, 4, 5, 6, 1, 0, 7, 8] rfl)
          have J100 : ∀ (H : Heap) (locs : List Loc) (ls : Array Slot) (w100_0 : Int32), IV w100_0 (-2147483648) 2147483647 → ¬ v44_4 = 0 → IV v44_7 0 2 → IV v61_8 1 9 → IV y1 1 99 → IV y2 0 1 → th_H D cT T (km q) H → va_S (th_A T []) s.heap H locs → lv_has ls 11 [(0, .ref a0), (1, .int y1), (2, .int y2), (3, .int y3), (4, .int v44_4), (5, .int v61_5), (6, .int v61_6), (7, .int v44_7), (8, .int v61_8)] → W p l e (rmk 3 74) s m [.ref a0, .int y1, .int y2, .int y3].toArray below meth c H locs 0 0 (MQ below (th_Q D cT T (km q) (th_R T (some (.inl (-2147483648, 2147483647)))) []) [.ref a0, .int y1, .int y2, .int y3].toArray s 0 0 (th_A T [])) (F0 m 100 ls [.int w100_0]) := by
            intro H locs ls w100_0 iw100_0 d100_4_0 f100_v44_7 f100_v61_8 f100_y1 f100_y2 hH hS hl
            refine lv_istore (lv' := [(10, .int w100_0), (0, .ref a0), (1, .int y1), (2, .int y2), (3, .int y3), (4, .int v44_4), (5, .int v61_5), (6, .int v61_6), (7, .int v44_7), (8, .int v61_8)]) hx hb dX11_ask_100 hl (by decide) rfl (fun ls hl => ?_)
            refine lv_iload hx hb dX11_ask_102 (lv_at hl 6 rfl) ?_
            refine lv_if_lt (tgt := 117) hx hb dX11_ask_104 (by decide) (fun c4 => ?_) (fun c4 => ?_)
            · skip
              have rlc4 : v61_5.toInt < (0 : Int) := iv_lt c4
              have ir5 : IV v61_5 (-1) (-1) := iv_uL iv61_5 (iv_c (by decide) : IV 0 0 0) (iv_lt c4) (by decide)
              have ir5a := ir5.1; have ir5b := ir5.2
              exact J117 H locs ls w100_0 iw100_0 d100_4_0 f100_v44_7 f100_v61_8 f100_y1 f100_y2 hH hS (lv_sub hl [1, 2, 3, 4, 5, 8, 9, 0] rfl)
            · skip
              have rlc4 : (0 : Int) ≤ v61_5.toInt := iv_nlt c4
              have ir6 : IV v61_5 0 29 := iv_vR (iv_c (by decide) : IV 0 0 0) iv61_5 (iv_nlt c4) (by decide)
              have ir6a := ir6.1; have ir6b := ir6.2
              refine lv_iload hx hb dX11_ask_107 (lv_at hl 0 rfl) ?_
              refine lv_iload hx hb dX11_ask_109 (lv_at hl 7 rfl) ?_
              refine lv_icmp_lt (tgt := 117) hx hb dX11_ask_111 (by decide) (fun c7 => ?_) (fun c7 => ?_)
              · skip
                have rlc7 : w100_0.toInt < v61_6.toInt := iv_lt c7
                have ir8 : IV w100_0 (-2147483648) 2147483646 := iv_uL iw100_0 iv61_6 (iv_lt c7) (by decide)
                have ir8a := ir8.1; have ir8b := ir8.2
                have ir9 : IV v61_6 (-2147483647) 2147483647 := iv_uR iw100_0 iv61_6 (iv_lt c7) (by decide)
                have ir9a := ir9.1; have ir9b := ir9.2
                exact J117 H locs ls w100_0 (iv_top _) d100_4_0 f100_v44_7 f100_v61_8 f100_y1 f100_y2 hH hS (lv_sub hl [1, 2, 3, 4, 5, 8, 9, 0] rfl)
              · skip
                have rlc7 : v61_6.toInt ≤ w100_0.toInt := iv_nlt c7
                refine lv_goto (tgt := 131) hx hb dX11_ask_114 (by decide) ?_
                exact J131 H locs ls v61_5 v61_6 ir6 iv61_6 d100_4_0 f100_v44_7 f100_v61_8 f100_y1 f100_y2 hH hS (lv_sub hl [1, 2, 3, 4, 5, 6, 7, 8, 9] rfl)
          have l1v61_5 := iv61_5.1; have l2v61_5 := iv61_5.2
          have l1v61_8 := iv61_8.1; have l2v61_8 := iv61_8.2
          refine lv_iload hx hb dX11_ask_61 (lv_at hl 8 rfl) ?_
          refine lv_bipush (v := 9) hx hb dX11_ask_63 (by decide) ?_
          refine lv_icmp_gt (tgt := 137) hx hb dX11_ask_65 (by decide) (fun c10 => ?_) (fun c10 => ?_)
          · skip
            have rlc10 : (9 : Int) < v61_8.toInt := iv_lt c10
            have ir11 : IV v61_8 10 10 := iv_uR (iv_c (by decide) : IV 9 9 9) iv61_8 (iv_lt c10) (by decide)
            have ir11a := ir11.1; have ir11b := ir11.2
            refine th_iinc S dX11_ask_137 hl (k := 7) rfl (by decide) f61_v44_7 (by decide) (fun x12 ls ex12 ix12 hl => ?_)
            have hl : lv_has ls 11 [(7, .int x12), (0, .ref a0), (1, .int y1), (2, .int y2), (3, .int y3), (4, .int v44_4), (5, .int v61_5), (6, .int v61_6), (8, .int v61_8)] := hl
            have ix12 : IV x12 1 3 := ix12
            refine lv_goto (tgt := 44) hx hb dX11_ask_140 (by decide) ?_
            exact ih44 H locs ls v44_4 v61_5 v61_6 x12 iv44_4 iv61_5 iv61_6 (iv_w ix12 (by decide)) d61_4_0 f61_y1 f61_y2 hH hS (lv_sub hl [1, 2, 3, 4, 5, 6, 7, 0] rfl) (th_up iv44_7 ex12 (by decide) hn44)
          · skip
            have rlc10 : v61_8.toInt ≤ (9 : Int) := iv_nlt c10
            have ir13 : IV v61_8 1 9 := iv_vL iv61_8 (iv_c (by decide) : IV 9 9 9) (iv_nlt c10) (by decide)
            have ir13a := ir13.1; have ir13b := ir13.2
            refine lv_aload_n hx hb dX11_ask_68 rfl (lv_at hl 0 rfl) ?_
            refine lv_iload hx hb dX11_ask_69 (lv_at hl 7 rfl) ?_
            refine lv_iload hx hb dX11_ask_71 (lv_at hl 8 rfl) ?_
            refine lv_iload_n hx hb dX11_ask_73 rfl (lv_at hl 1 rfl) ?_
            refine lv_iload_n hx hb dX11_ask_74 rfl (lv_at hl 3 rfl) ?_
            refine th_callVi (n := 4) (As := [.int v44_7, .int v61_8, .int y1, .int y3]) S hK hH hS (th_A.sub (by decide)) (m_X11_fullBy l D cT T q hq a0 t0 (v44_7) (iv_top _) (v61_8) (iv_top _) (y1) (iv_top _) (y3) j3) gm_1900 gm_1897 gm_1899 gm_111 gm_124 (by decide +kernel) ⟨rfl, rfl, Nat.le_of_ble_eq_true rfl, Nat.le_of_ble_eq_true rfl⟩ t0 km_0 rfl rfl hl.1 rfl (Nat.le_of_ble_eq_true rfl) dX11_ask_75 ⟨Nat.zero_le _, Nat.zero_le _⟩ (fun x14 H locs ix14 hH hS hF1 => ?_)
            refine lv_istore (lv' := [(9, .int x14), (0, .ref a0), (1, .int y1), (2, .int y2), (3, .int y3), (4, .int v44_4), (5, .int v61_5), (6, .int v61_6), (7, .int v44_7), (8, .int v61_8)]) hx hb dX11_ask_78 hl (by decide) rfl (fun ls hl => ?_)
            refine lv_iload hx hb dX11_ask_80 (lv_at hl 0 rfl) ?_
            refine lv_iload hx hb dX11_ask_82 (lv_at hl 5 rfl) ?_
            refine lv_iload hx hb dX11_ask_84 (lv_at hl 0 rfl) ?_
            refine lv_isub hx hb dX11_ask_86 ?_
            refine lv_topi (fun x15 ex15 => ?_)
            have ix15 := iv_top x15
            refine lv_icmp_le (tgt := 95) hx hb dX11_ask_87 (by decide) (fun c16 => ?_) (fun c16 => ?_)
            · skip
              have rlc16 : x14.toInt ≤ x15.toInt := iv_le c16
              refine lv_iload hx hb dX11_ask_95 (lv_at hl 5 rfl) ?_
              refine lv_iload hx hb dX11_ask_97 (lv_at hl 0 rfl) ?_
              refine lv_isub hx hb dX11_ask_99 ?_
              refine lv_topi (fun x17 ex17 => ?_)
              have zx17 : x15 = x17 := ex15.trans ex17.symm
              subst zx17
              exact J100 H locs ls x15 ix15 d61_4_0 f61_v44_7 ir13 f61_y1 f61_y2 hH hS (lv_sub hl [1, 2, 3, 4, 5, 6, 7, 8, 9] rfl)
            · skip
              have rlc16 : x15.toInt < x14.toInt := iv_nle c16
              have ir18 : IV x15 (-2147483648) 2147483646 := iv_uL ix15 ix14 (iv_nle c16) (by decide)
              have ir18a := ir18.1; have ir18b := ir18.2
              have ir19 : IV x14 (-2147483647) 2147483647 := iv_uR ix15 ix14 (iv_nle c16) (by decide)
              have ir19a := ir19.1; have ir19b := ir19.2
              refine lv_iload hx hb dX11_ask_90 (lv_at hl 0 rfl) ?_
              refine lv_goto (tgt := 100) hx hb dX11_ask_92 (by decide) ?_
              exact J100 H locs ls x14 (iv_top _) d61_4_0 f61_v44_7 ir13 f61_y1 f61_y2 hH hS (lv_sub hl [1, 2, 3, 4, 5, 6, 7, 8, 9] rfl)
      have l1v44_5 := iv44_5.1; have l2v44_5 := iv44_5.2
      have l1v44_7 := iv44_7.1; have l2v44_7 := iv44_7.2
      refine lv_iload hx hb dX11_ask_44 (lv_at hl 7 rfl) ?_
      refine lv_aload_n hx hb dX11_ask_46 rfl (lv_at hl 0 rfl) ?_
      refine th_get S hK hH inG11 t0 km_0 rfl 11 (by decide) gm_1241 rfl rfl dX11_ask_47 (fun v20 hv20 fv20 => ?_)
      obtain ⟨rf21, rfl, trf21⟩ := th_V.ref hv20
      refine lv_aload_n hx hb dX11_ask_50 rfl (lv_at hl 0 rfl) ?_
      refine th_get S hK hH inG11 t0 km_0 rfl 41 (by decide) gm_1271 rfl rfl dX11_ask_51 (fun v22 hv22 fv22 => ?_)
      obtain ⟨x23, rfl, ix23⟩ := th_V.int hv22
      have kx23a : q 10 ≤ x23.toInt := ix23.1
      have kx23b : x23.toInt ≤ q 10 := ix23.2
      have ix23 : IV x23 0 1 := iv_w ix23 (qkm_10 hq)
      refine th_iald S hK hH trf21 km_3 (th_in (hi := 1) ix23 (by decide)) dX11_ask_54 (fun v24 hv24 => ?_)
      obtain ⟨x25, rfl, ix25⟩ := th_bkA hv24 ix23 (by omega)
      have kx25a : q 16 ≤ x25.toInt := ix25.1
      have kx25b : x25.toInt ≤ q 16 := ix25.2
      have ix25 : IV x25 0 3 := iv_w ix25 (qkm_16 hq)
      refine lv_icmp_ge (tgt := 143) hx hb dX11_ask_55 (by decide) (fun c26 => ?_) (fun c26 => ?_)
      · skip
        have rlc26 : x25.toInt ≤ v44_7.toInt := iv_le c26
        refine lv_iload hx hb dX11_ask_143 (lv_at hl 5 rfl) ?_
        refine lv_if_ge (tgt := 152) hx hb dX11_ask_145 (by decide) (fun c27 => ?_) (fun c27 => ?_)
        · skip
          have rlc27 : (0 : Int) ≤ v44_5.toInt := iv_le c27
          have ir28 : IV v44_5 0 29 := iv_vR (iv_c (by decide) : IV 0 0 0) iv44_5 (iv_le c27) (by decide)
          have ir28a := ir28.1; have ir28b := ir28.2
          refine lv_iload_n hx hb dX11_ask_152 rfl (lv_at hl 2 rfl) ?_
          refine lv_if_ne (tgt := 161) hx hb dX11_ask_153 (by decide) (fun c29 => ?_) (fun c29 => ?_)
          · skip
            have rlc29 : y2.toInt ≠ (0 : Int) := iv_ne c29
            have ir30 : IV y2 1 1 := iv_cutL f44_y2 (iv_c (by decide) : IV 0 0 0) c29 (by decide)
            have ir30a := ir30.1; have ir30b := ir30.2
            refine lv_iload hx hb dX11_ask_161 (lv_at hl 6 rfl) ?_
            exact J163 H locs ls v44_6 iv44_6 hH hS (lv_sub hl [] rfl)
          · skip
            have rlc29 : y2.toInt = (0 : Int) := congrArg Int32.toInt c29
            have ir31 : IV y2 0 0 := iv_eL c29 (iv_c (by decide) : IV 0 0 0)
            have ir31a := ir31.1; have ir31b := ir31.2
            refine lv_iload hx hb dX11_ask_156 (lv_at hl 5 rfl) ?_
            refine lv_goto (tgt := 163) hx hb dX11_ask_158 (by decide) ?_
            exact J163 H locs ls v44_5 (iv_top _) hH hS (lv_sub hl [] rfl)
        · skip
          have rlc27 : v44_5.toInt < (0 : Int) := iv_nle c27
          have ir32 : IV v44_5 (-1) (-1) := iv_uL iv44_5 (iv_c (by decide) : IV 0 0 0) (iv_nle c27) (by decide)
          have ir32a := ir32.1; have ir32b := ir32.2
          refine lv_iconst (v := (-1)) hx hb dX11_ask_148 (by decide) ?_
          refine lv_goto (tgt := 163) hx hb dX11_ask_149 (by decide) ?_
          exact J163_s0_m1 H locs ls  hH hS (lv_sub hl [] rfl)
      · skip
        have rlc26 : v44_7.toInt < x25.toInt := iv_nle c26
        have ir33 : IV v44_7 0 2 := iv_uL iv44_7 ix25 (iv_nle c26) (by decide)
        have ir33a := ir33.1; have ir33b := ir33.2
        have ir34 : IV x25 1 3 := iv_uR iv44_7 ix25 (iv_nle c26) (by decide)
        have ir34a := ir34.1; have ir34b := ir34.2
        refine lv_iconst (v := 1) hx hb dX11_ask_58 (by decide) ?_
        refine lv_istore (lv' := [(8, .int 1), (0, .ref a0), (1, .int y1), (2, .int y2), (3, .int y3), (4, .int v44_4), (5, .int v44_5), (6, .int v44_6), (7, .int v44_7)]) hx hb dX11_ask_59 hl (by decide) rfl (fun ls hl => ?_)
        exact J61 ((10 + 1 - Int32.toInt 1).toNat + 1) H locs ls v44_5 v44_6 1 iv44_5 iv44_6 (iv_w (iv_c (by decide) : IV 1 1 1) (by decide)) d44_4_0 ir33 f44_y1 f44_y2 hH hS (lv_sub hl [1, 2, 3, 4, 5, 6, 7, 8, 0] rfl) (Nat.lt_succ_self _)
  have J19 : ∀ (H : Heap) (locs : List Loc) (ls : Array Slot), th_H D cT T (km q) H → va_S (th_A T []) s.heap H locs → lv_has ls 11 [] → W p l e (rmk 3 74) s m [.ref a0, .int y1, .int y2, .int y3].toArray below meth c H locs 0 0 (MQ below (th_Q D cT T (km q) (th_R T (some (.inl (-2147483648, 2147483647)))) []) [.ref a0, .int y1, .int y2, .int y3].toArray s 0 0 (th_A T [])) (F0 m 19 ls []) := by
    intro H locs ls hH hS hl
    refine lv_iconst (v := (-1)) hx hb dX11_ask_19 (by decide) ?_
    exact th_iret S hK hH hS hr hlocks (th_R.i (iv_top _)) dX11_ask_20
  have J0 : ∀ (H : Heap) (locs : List Loc) (ls : Array Slot), th_H D cT T (km q) H → va_S (th_A T []) s.heap H locs → lv_has ls 11 [(0, .ref a0), (1, .int y1), (2, .int y2), (3, .int y3)] → W p l e (rmk 3 74) s m [.ref a0, .int y1, .int y2, .int y3].toArray below meth c H locs 0 0 (MQ below (th_Q D cT T (km q) (th_R T (some (.inl (-2147483648, 2147483647)))) []) [.ref a0, .int y1, .int y2, .int y3].toArray s 0 0 (th_A T [])) (F0 m 0 ls []) := by
    intro H locs ls hH hS hl
    refine lv_iload_n hx hb dX11_ask_0 rfl (lv_at hl 1 rfl) ?_
    refine lv_iconst (v := 1) hx hb dX11_ask_1 (by decide) ?_
    refine lv_bipush (v := 99) hx hb dX11_ask_2 (by decide) ?_
    refine th_callSp (n := 3) (As := [.int y1, .int 1, .int 99]) S hK hH hS (th_A.sub (by decide)) (m_X11_isIn l D cT T q hq (y1) j1 (1) (iv_top _) (99) (iv_top _)) gm_1618 gm_1616 gm_1617 gm_124 (by decide +kernel) ⟨rfl, rfl, Nat.le_of_ble_eq_true rfl, Nat.le_of_ble_eq_true rfl⟩ rfl hl.1 rfl (Nat.le_of_ble_eq_true rfl) dX11_ask_4 ⟨Nat.zero_le _, Nat.zero_le _⟩ (fun x35 H locs ix35 ox35 hH hS hF1 => ?_)
    obtain ⟨ox35_0, ox35_1⟩ := ox35
    have ox35_0 : x35.toInt ≠ 0 → (1 : Int) ≤ y1.toInt ∧ y1.toInt ≤ (99 : Int) := ox35_0
    have ox35_1 : x35.toInt = 0 → y1.toInt < (1 : Int) ∨ (99 : Int) < y1.toInt := ox35_1
    refine lv_if_eq (tgt := 19) hx hb dX11_ask_7 (by decide) (fun c36 => ?_) (fun c36 => ?_)
    · skip
      have rlc36 : x35.toInt = (0 : Int) := congrArg Int32.toInt c36
      have ir37 : IV x35 0 0 := iv_eL c36 (iv_c (by decide) : IV 0 0 0)
      have ir37a := ir37.1; have ir37b := ir37.2
      exact J19 H locs ls  hH hS (lv_sub hl [] rfl)
    · skip
      have rlc36 : x35.toInt ≠ (0 : Int) := iv_ne c36
      have ir38 : IV x35 1 1 := iv_cutL ix35 (iv_c (by decide) : IV 0 0 0) c36 (by decide)
      have ir38a := ir38.1; have ir38b := ir38.2
      have ir39 : IV y1 1 99 := ((fun z => by have z1 := iv_ne z; have z2 : x35.toInt ≠ 0 := z1; have z4 := ((iv_c (by decide) : IV 1 1 1)).1; have z5 := ((iv_c (by decide) : IV 99 99 99)).2; exact ⟨by omega, by omega⟩) : ¬ x35 = 0 → IV y1 1 99) c36
      have ir39a := ir39.1; have ir39b := ir39.2
      refine lv_iload_n hx hb dX11_ask_10 rfl (lv_at hl 2 rfl) ?_
      refine lv_iconst (v := 0) hx hb dX11_ask_11 (by decide) ?_
      refine lv_iconst (v := 1) hx hb dX11_ask_12 (by decide) ?_
      refine th_callSp (n := 3) (As := [.int y2, .int 0, .int 1]) S hK hH hS (th_A.sub (by decide)) (m_X11_isIn l D cT T q hq (y2) j2 (0) (iv_top _) (1) (iv_top _)) gm_1618 gm_1616 gm_1617 gm_124 (by decide +kernel) ⟨rfl, rfl, Nat.le_of_ble_eq_true rfl, Nat.le_of_ble_eq_true rfl⟩ rfl hl.1 rfl (Nat.le_of_ble_eq_true rfl) dX11_ask_13 ⟨Nat.zero_le _, Nat.zero_le _⟩ (fun x40 H locs ix40 ox40 hH hS hF1 => ?_)
      obtain ⟨ox40_0, ox40_1⟩ := ox40
      have ox40_0 : x40.toInt ≠ 0 → (0 : Int) ≤ y2.toInt ∧ y2.toInt ≤ (1 : Int) := ox40_0
      have ox40_1 : x40.toInt = 0 → y2.toInt < (0 : Int) ∨ (1 : Int) < y2.toInt := ox40_1
      refine lv_if_ne (tgt := 21) hx hb dX11_ask_16 (by decide) (fun c41 => ?_) (fun c41 => ?_)
      · skip
        have rlc41 : x40.toInt ≠ (0 : Int) := iv_ne c41
        have ir42 : IV x40 1 1 := iv_cutL ix40 (iv_c (by decide) : IV 0 0 0) c41 (by decide)
        have ir42a := ir42.1; have ir42b := ir42.2
        have ir43 : IV y2 0 1 := ((fun z => by have z1 := iv_ne z; have z2 : x40.toInt ≠ 0 := z1; have z4 := ((iv_c (by decide) : IV 0 0 0)).1; have z5 := ((iv_c (by decide) : IV 1 1 1)).2; exact ⟨by omega, by omega⟩) : ¬ x40 = 0 → IV y2 0 1) c41
        have ir43a := ir43.1; have ir43b := ir43.2
        refine lv_aload_n hx hb dX11_ask_21 rfl (lv_at hl 0 rfl) ?_
        refine lv_iload_n hx hb dX11_ask_22 rfl (lv_at hl 3 rfl) ?_
        refine th_callVi (n := 1) (As := [.int y3]) S hK hH hS (th_A.sub (by decide)) (m_X11_fit l D cT T q hq a0 t0 (y3) j3) gm_1876 gm_1896 gm_1874 gm_1875 gm_124 (by decide +kernel) ⟨rfl, rfl, Nat.le_of_ble_eq_true rfl, Nat.le_of_ble_eq_true rfl⟩ t0 km_0 rfl rfl hl.1 rfl (Nat.le_of_ble_eq_true rfl) dX11_ask_23 ⟨Nat.zero_le _, Nat.zero_le _⟩ (fun x44 H locs ix44 hH hS hF1 => ?_)
        refine lv_istore (lv' := [(4, .int x44), (0, .ref a0), (1, .int y1), (2, .int y2), (3, .int y3)]) hx hb dX11_ask_26 hl (by decide) rfl (fun ls hl => ?_)
        refine lv_iload hx hb dX11_ask_28 (lv_at hl 0 rfl) ?_
        refine lv_if_ne (tgt := 35) hx hb dX11_ask_30 (by decide) (fun c45 => ?_) (fun c45 => ?_)
        · skip
          have rlc45 : x44.toInt ≠ (0 : Int) := iv_ne c45
          refine lv_iconst (v := (-1)) hx hb dX11_ask_35 (by decide) ?_
          refine lv_istore (lv' := [(5, .int (-1)), (4, .int x44), (0, .ref a0), (1, .int y1), (2, .int y2), (3, .int y3)]) hx hb dX11_ask_36 hl (by decide) rfl (fun ls hl => ?_)
          refine lv_iconst (v := 0) hx hb dX11_ask_38 (by decide) ?_
          refine lv_istore (lv' := [(6, .int 0), (5, .int (-1)), (4, .int x44), (0, .ref a0), (1, .int y1), (2, .int y2), (3, .int y3)]) hx hb dX11_ask_39 hl (by decide) rfl (fun ls hl => ?_)
          refine lv_iconst (v := 0) hx hb dX11_ask_41 (by decide) ?_
          refine lv_istore (lv' := [(7, .int 0), (6, .int 0), (5, .int (-1)), (4, .int x44), (0, .ref a0), (1, .int y1), (2, .int y2), (3, .int y3)]) hx hb dX11_ask_42 hl (by decide) rfl (fun ls hl => ?_)
          exact J44 ((3 + 1 - Int32.toInt 0).toNat + 1) H locs ls x44 (-1) 0 0 ix44 (iv_w (iv_c (by decide) : IV (-1) (-1) (-1)) (by decide)) (iv_top _) (iv_w (iv_c (by decide) : IV 0 0 0) (by decide)) c45 ir39 ir43 hH hS (lv_sub hl [4, 5, 6, 7, 3, 2, 1, 0] rfl) (Nat.lt_succ_self _)
        · skip
          have rlc45 : x44.toInt = (0 : Int) := congrArg Int32.toInt c45
          have ir46 : IV x44 0 0 := iv_eL c45 (iv_c (by decide) : IV 0 0 0)
          have ir46a := ir46.1; have ir46b := ir46.2
          refine lv_iconst (v := (-1)) hx hb dX11_ask_33 (by decide) ?_
          exact th_iret S hK hH hS hr hlocks (th_R.i (iv_top _)) dX11_ask_34
      · skip
        have rlc41 : x40.toInt = (0 : Int) := congrArg Int32.toInt c41
        have ir47 : IV x40 0 0 := iv_eL c41 (iv_c (by decide) : IV 0 0 0)
        have ir47a := ir47.1; have ir47b := ir47.2
        exact J19 H locs ls  hH hS (lv_sub hl [] rfl)
  exact J0 s.heap [] ls hH va_S.rf hl
