theorem dX5_findKeeping_0 : decode cX5_findKeeping 0 = .ok (.iload_n 1, 1) := by decide +kernel
theorem dX5_findKeeping_1 : decode cX5_findKeeping 1 = .ok (.aload_n 0, 1) := by decide +kernel
theorem dX5_findKeeping_2 : decode cX5_findKeeping 2 = .ok (.getfield 52, 3) := by decide +kernel
theorem dX5_findKeeping_5 : decode cX5_findKeeping 5 = .ok (.getfield 84, 3) := by decide +kernel
theorem dX5_findKeeping_8 : decode cX5_findKeeping 8 = .ok (.getfield 90, 3) := by decide +kernel
theorem dX5_findKeeping_11 : decode cX5_findKeeping 11 = .ok (.if_icmp .lt 35, 3) := by decide +kernel
theorem dX5_findKeeping_14 : decode cX5_findKeeping 14 = .ok (.aload_n 0, 1) := by decide +kernel
theorem dX5_findKeeping_15 : decode cX5_findKeeping 15 = .ok (.getfield 52, 3) := by decide +kernel
theorem dX5_findKeeping_18 : decode cX5_findKeeping 18 = .ok (.aload_n 0, 1) := by decide +kernel
theorem dX5_findKeeping_19 : decode cX5_findKeeping 19 = .ok (.getfield 21, 3) := by decide +kernel
theorem dX5_findKeeping_22 : decode cX5_findKeeping 22 = .ok (.iload_n 1, 1) := by decide +kernel
theorem dX5_findKeeping_23 : decode cX5_findKeeping 23 = .ok (.aaload, 1) := by decide +kernel
theorem dX5_findKeeping_24 : decode cX5_findKeeping 24 = .ok (.invokevirtual 128, 3) := by decide +kernel
theorem dX5_findKeeping_27 : decode cX5_findKeeping 27 = .ok (.istore_n 3, 1) := by decide +kernel
theorem dX5_findKeeping_28 : decode cX5_findKeeping 28 = .ok (.iload_n 3, 1) := by decide +kernel
theorem dX5_findKeeping_29 : decode cX5_findKeeping 29 = .ok (.aload_n 0, 1) := by decide +kernel
theorem dX5_findKeeping_30 : decode cX5_findKeeping 30 = .ok (.getfield 49, 3) := by decide +kernel
theorem dX5_findKeeping_33 : decode cX5_findKeeping 33 = .ok (.if_icmp .le 12, 3) := by decide +kernel
theorem dX5_findKeeping_36 : decode cX5_findKeeping 36 = .ok (.aload_n 0, 1) := by decide +kernel
theorem dX5_findKeeping_37 : decode cX5_findKeeping 37 = .ok (.iload_n 3, 1) := by decide +kernel
theorem dX5_findKeeping_38 : decode cX5_findKeeping 38 = .ok (.putfield 49, 3) := by decide +kernel
theorem dX5_findKeeping_41 : decode cX5_findKeeping 41 = .ok (.aload_n 0, 1) := by decide +kernel
theorem dX5_findKeeping_42 : decode cX5_findKeeping 42 = .ok (.invokevirtual 122, 3) := by decide +kernel
theorem dX5_findKeeping_45 : decode cX5_findKeeping 45 = .ok (.return_, 1) := by decide +kernel
theorem dX5_findKeeping_46 : decode cX5_findKeeping 46 = .ok (.aload_n 0, 1) := by decide +kernel
theorem dX5_findKeeping_47 : decode cX5_findKeeping 47 = .ok (.iload_n 1, 1) := by decide +kernel
theorem dX5_findKeeping_48 : decode cX5_findKeeping 48 = .ok (.iload_n 2, 1) := by decide +kernel
theorem dX5_findKeeping_49 : decode cX5_findKeeping 49 = .ok (.invokevirtual 132, 3) := by decide +kernel
theorem dX5_findKeeping_52 : decode cX5_findKeeping 52 = .ok (.istore_n 3, 1) := by decide +kernel
theorem dX5_findKeeping_53 : decode cX5_findKeeping 53 = .ok (.iload_n 3, 1) := by decide +kernel
theorem dX5_findKeeping_54 : decode cX5_findKeeping 54 = .ok (.iload_n 2, 1) := by decide +kernel
theorem dX5_findKeeping_55 : decode cX5_findKeeping 55 = .ok (.if_icmp .gt 25, 3) := by decide +kernel
theorem dX5_findKeeping_58 : decode cX5_findKeeping 58 = .ok (.aload_n 0, 1) := by decide +kernel
theorem dX5_findKeeping_59 : decode cX5_findKeeping 59 = .ok (.iload_n 1, 1) := by decide +kernel
theorem dX5_findKeeping_60 : decode cX5_findKeeping 60 = .ok (.iload_n 3, 1) := by decide +kernel
theorem dX5_findKeeping_61 : decode cX5_findKeeping 61 = .ok (.invokevirtual 125, 3) := by decide +kernel
theorem dX5_findKeeping_64 : decode cX5_findKeeping 64 = .ok (.aload_n 0, 1) := by decide +kernel
theorem dX5_findKeeping_65 : decode cX5_findKeeping 65 = .ok (.iload_n 1, 1) := by decide +kernel
theorem dX5_findKeeping_66 : decode cX5_findKeeping 66 = .ok (.iconst 1, 1) := by decide +kernel
theorem dX5_findKeeping_67 : decode cX5_findKeeping 67 = .ok (.iadd, 1) := by decide +kernel
theorem dX5_findKeeping_68 : decode cX5_findKeeping 68 = .ok (.iload_n 2, 1) := by decide +kernel
theorem dX5_findKeeping_69 : decode cX5_findKeeping 69 = .ok (.iload_n 3, 1) := by decide +kernel
theorem dX5_findKeeping_70 : decode cX5_findKeeping 70 = .ok (.isub, 1) := by decide +kernel
theorem dX5_findKeeping_71 : decode cX5_findKeeping 71 = .ok (.invokevirtual 77, 3) := by decide +kernel
theorem dX5_findKeeping_74 : decode cX5_findKeeping 74 = .ok (.iinc 3 1, 3) := by decide +kernel
theorem dX5_findKeeping_77 : decode cX5_findKeeping 77 = .ok (.goto (-24), 3) := by decide +kernel
theorem dX5_findKeeping_80 : decode cX5_findKeeping 80 = .ok (.return_, 1) := by decide +kernel
theorem dX5_mostKept_0 : decode cX5_mostKept 0 = .ok (.aload_n 0, 1) := by decide +kernel
theorem dX5_mostKept_1 : decode cX5_mostKept 1 = .ok (.aload_n 1, 1) := by decide +kernel
theorem dX5_mostKept_2 : decode cX5_mostKept 2 = .ok (.iload_n 2, 1) := by decide +kernel
theorem dX5_mostKept_3 : decode cX5_mostKept 3 = .ok (.invokevirtual 57, 3) := by decide +kernel
theorem dX5_mostKept_6 : decode cX5_mostKept 6 = .ok (.aload_n 0, 1) := by decide +kernel
theorem dX5_mostKept_7 : decode cX5_mostKept 7 = .ok (.iconst (-1), 1) := by decide +kernel
theorem dX5_mostKept_8 : decode cX5_mostKept 8 = .ok (.putfield 49, 3) := by decide +kernel
theorem dX5_mostKept_11 : decode cX5_mostKept 11 = .ok (.aload_n 0, 1) := by decide +kernel
theorem dX5_mostKept_12 : decode cX5_mostKept 12 = .ok (.iconst 0, 1) := by decide +kernel
theorem dX5_mostKept_13 : decode cX5_mostKept 13 = .ok (.iload_n 3, 1) := by decide +kernel
theorem dX5_mostKept_14 : decode cX5_mostKept 14 = .ok (.invokevirtual 77, 3) := by decide +kernel
theorem dX5_mostKept_17 : decode cX5_mostKept 17 = .ok (.aload_n 0, 1) := by decide +kernel
theorem dX5_mostKept_18 : decode cX5_mostKept 18 = .ok (.getfield 49, 3) := by decide +kernel
theorem dX5_mostKept_21 : decode cX5_mostKept 21 = .ok (.ireturn, 1) := by decide +kernel
theorem dX5_spell_0 : decode cX5_spell 0 = .ok (.iload_n 1, 1) := by decide +kernel
theorem dX5_spell_1 : decode cX5_spell 1 = .ok (.istore 4, 2) := by decide +kernel
theorem dX5_spell_3 : decode cX5_spell 3 = .ok (.aload_n 0, 1) := by decide +kernel
theorem dX5_spell_4 : decode cX5_spell 4 = .ok (.getfield 52, 3) := by decide +kernel
theorem dX5_spell_7 : decode cX5_spell 7 = .ok (.getfield 84, 3) := by decide +kernel
theorem dX5_spell_10 : decode cX5_spell 10 = .ok (.getfield 90, 3) := by decide +kernel
theorem dX5_spell_13 : decode cX5_spell 13 = .ok (.iconst 1, 1) := by decide +kernel
theorem dX5_spell_14 : decode cX5_spell 14 = .ok (.isub, 1) := by decide +kernel
theorem dX5_spell_15 : decode cX5_spell 15 = .ok (.istore 5, 2) := by decide +kernel
theorem dX5_spell_17 : decode cX5_spell 17 = .ok (.iload 5, 2) := by decide +kernel
theorem dX5_spell_19 : decode cX5_spell 19 = .ok (.ifCond .lt 27, 3) := by decide +kernel
theorem dX5_spell_22 : decode cX5_spell 22 = .ok (.iload_n 2, 1) := by decide +kernel
theorem dX5_spell_23 : decode cX5_spell 23 = .ok (.ifCond .le 23, 3) := by decide +kernel
theorem dX5_spell_26 : decode cX5_spell 26 = .ok (.aload_n 3, 1) := by decide +kernel
theorem dX5_spell_27 : decode cX5_spell 27 = .ok (.iload 5, 2) := by decide +kernel
theorem dX5_spell_29 : decode cX5_spell 29 = .ok (.iload 4, 2) := by decide +kernel
theorem dX5_spell_31 : decode cX5_spell 31 = .ok (.iload_n 2, 1) := by decide +kernel
theorem dX5_spell_32 : decode cX5_spell 32 = .ok (.irem, 1) := by decide +kernel
theorem dX5_spell_33 : decode cX5_spell 33 = .ok (.iastore, 1) := by decide +kernel
theorem dX5_spell_34 : decode cX5_spell 34 = .ok (.iload 4, 2) := by decide +kernel
theorem dX5_spell_36 : decode cX5_spell 36 = .ok (.iload_n 2, 1) := by decide +kernel
theorem dX5_spell_37 : decode cX5_spell 37 = .ok (.idiv, 1) := by decide +kernel
theorem dX5_spell_38 : decode cX5_spell 38 = .ok (.istore 4, 2) := by decide +kernel
theorem dX5_spell_40 : decode cX5_spell 40 = .ok (.iinc 5 (-1), 3) := by decide +kernel
theorem dX5_spell_43 : decode cX5_spell 43 = .ok (.goto (-26), 3) := by decide +kernel
theorem dX5_spell_46 : decode cX5_spell 46 = .ok (.return_, 1) := by decide +kernel
theorem dX5_isWithoutBites_0 : decode cX5_isWithoutBites 0 = .ok (.aload_n 0, 1) := by decide +kernel
theorem dX5_isWithoutBites_1 : decode cX5_isWithoutBites 1 = .ok (.iload_n 1, 1) := by decide +kernel
theorem dX5_isWithoutBites_2 : decode cX5_isWithoutBites 2 = .ok (.iload_n 2, 1) := by decide +kernel
theorem dX5_isWithoutBites_3 : decode cX5_isWithoutBites 3 = .ok (.aload_n 0, 1) := by decide +kernel
theorem dX5_isWithoutBites_4 : decode cX5_isWithoutBites 4 = .ok (.getfield 37, 3) := by decide +kernel
theorem dX5_isWithoutBites_7 : decode cX5_isWithoutBites 7 = .ok (.invokevirtual 152, 3) := by decide +kernel
theorem dX5_isWithoutBites_10 : decode cX5_isWithoutBites 10 = .ok (.iconst 0, 1) := by decide +kernel
theorem dX5_isWithoutBites_11 : decode cX5_isWithoutBites 11 = .ok (.istore_n 3, 1) := by decide +kernel
theorem dX5_isWithoutBites_12 : decode cX5_isWithoutBites 12 = .ok (.iload_n 3, 1) := by decide +kernel
theorem dX5_isWithoutBites_13 : decode cX5_isWithoutBites 13 = .ok (.aload_n 0, 1) := by decide +kernel
theorem dX5_isWithoutBites_14 : decode cX5_isWithoutBites 14 = .ok (.getfield 52, 3) := by decide +kernel
theorem dX5_isWithoutBites_17 : decode cX5_isWithoutBites 17 = .ok (.getfield 84, 3) := by decide +kernel
theorem dX5_isWithoutBites_20 : decode cX5_isWithoutBites 20 = .ok (.getfield 90, 3) := by decide +kernel
theorem dX5_isWithoutBites_23 : decode cX5_isWithoutBites 23 = .ok (.if_icmp .ge 74, 3) := by decide +kernel
theorem dX5_isWithoutBites_26 : decode cX5_isWithoutBites 26 = .ok (.iconst 0, 1) := by decide +kernel
theorem dX5_isWithoutBites_27 : decode cX5_isWithoutBites 27 = .ok (.istore 4, 2) := by decide +kernel
theorem dX5_isWithoutBites_29 : decode cX5_isWithoutBites 29 = .ok (.iload 4, 2) := by decide +kernel
theorem dX5_isWithoutBites_31 : decode cX5_isWithoutBites 31 = .ok (.iload_n 3, 1) := by decide +kernel
theorem dX5_isWithoutBites_32 : decode cX5_isWithoutBites 32 = .ok (.if_icmp .ge 59, 3) := by decide +kernel
theorem dX5_isWithoutBites_35 : decode cX5_isWithoutBites 35 = .ok (.aload_n 0, 1) := by decide +kernel
theorem dX5_isWithoutBites_36 : decode cX5_isWithoutBites 36 = .ok (.getfield 52, 3) := by decide +kernel
theorem dX5_isWithoutBites_39 : decode cX5_isWithoutBites 39 = .ok (.getfield 84, 3) := by decide +kernel
theorem dX5_isWithoutBites_42 : decode cX5_isWithoutBites 42 = .ok (.getfield 156, 3) := by decide +kernel
theorem dX5_isWithoutBites_45 : decode cX5_isWithoutBites 45 = .ok (.iload_n 3, 1) := by decide +kernel
theorem dX5_isWithoutBites_46 : decode cX5_isWithoutBites 46 = .ok (.iaload, 1) := by decide +kernel
theorem dX5_isWithoutBites_47 : decode cX5_isWithoutBites 47 = .ok (.iload 4, 2) := by decide +kernel
theorem dX5_isWithoutBites_49 : decode cX5_isWithoutBites 49 = .ok (.ishr, 1) := by decide +kernel
theorem dX5_isWithoutBites_50 : decode cX5_isWithoutBites 50 = .ok (.iconst 1, 1) := by decide +kernel
theorem dX5_isWithoutBites_51 : decode cX5_isWithoutBites 51 = .ok (.iand, 1) := by decide +kernel
theorem dX5_isWithoutBites_52 : decode cX5_isWithoutBites 52 = .ok (.ifCond .eq 7, 3) := by decide +kernel
theorem dX5_isWithoutBites_55 : decode cX5_isWithoutBites 55 = .ok (.iconst 1, 1) := by decide +kernel
theorem dX5_isWithoutBites_56 : decode cX5_isWithoutBites 56 = .ok (.goto 4, 3) := by decide +kernel
theorem dX5_isWithoutBites_59 : decode cX5_isWithoutBites 59 = .ok (.iconst 0, 1) := by decide +kernel
theorem dX5_isWithoutBites_60 : decode cX5_isWithoutBites 60 = .ok (.istore 5, 2) := by decide +kernel
theorem dX5_isWithoutBites_62 : decode cX5_isWithoutBites 62 = .ok (.iload 5, 2) := by decide +kernel
theorem dX5_isWithoutBites_64 : decode cX5_isWithoutBites 64 = .ok (.ifCond .eq 21, 3) := by decide +kernel
theorem dX5_isWithoutBites_67 : decode cX5_isWithoutBites 67 = .ok (.aload_n 0, 1) := by decide +kernel
theorem dX5_isWithoutBites_68 : decode cX5_isWithoutBites 68 = .ok (.getfield 37, 3) := by decide +kernel
theorem dX5_isWithoutBites_71 : decode cX5_isWithoutBites 71 = .ok (.iload_n 3, 1) := by decide +kernel
theorem dX5_isWithoutBites_72 : decode cX5_isWithoutBites 72 = .ok (.iaload, 1) := by decide +kernel
theorem dX5_isWithoutBites_73 : decode cX5_isWithoutBites 73 = .ok (.aload_n 0, 1) := by decide +kernel
theorem dX5_isWithoutBites_74 : decode cX5_isWithoutBites 74 = .ok (.getfield 37, 3) := by decide +kernel
theorem dX5_isWithoutBites_77 : decode cX5_isWithoutBites 77 = .ok (.iload 4, 2) := by decide +kernel
theorem dX5_isWithoutBites_79 : decode cX5_isWithoutBites 79 = .ok (.iaload, 1) := by decide +kernel
theorem dX5_isWithoutBites_80 : decode cX5_isWithoutBites 80 = .ok (.if_icmp .ne 5, 3) := by decide +kernel
theorem dX5_isWithoutBites_83 : decode cX5_isWithoutBites 83 = .ok (.iconst 0, 1) := by decide +kernel
theorem dX5_isWithoutBites_84 : decode cX5_isWithoutBites 84 = .ok (.ireturn, 1) := by decide +kernel
theorem dX5_isWithoutBites_85 : decode cX5_isWithoutBites 85 = .ok (.iinc 4 1, 3) := by decide +kernel
theorem dX5_isWithoutBites_88 : decode cX5_isWithoutBites 88 = .ok (.goto (-59), 3) := by decide +kernel
theorem dX5_isWithoutBites_91 : decode cX5_isWithoutBites 91 = .ok (.iinc 3 1, 3) := by decide +kernel
theorem dX5_isWithoutBites_94 : decode cX5_isWithoutBites 94 = .ok (.goto (-82), 3) := by decide +kernel
theorem dX5_isWithoutBites_97 : decode cX5_isWithoutBites 97 = .ok (.iconst 1, 1) := by decide +kernel
theorem dX5_isWithoutBites_98 : decode cX5_isWithoutBites 98 = .ok (.ireturn, 1) := by decide +kernel
theorem dX5_waysInto_0 : decode cX5_waysInto 0 = .ok (.aload_n 0, 1) := by decide +kernel
theorem dX5_waysInto_1 : decode cX5_waysInto 1 = .ok (.getfield 52, 3) := by decide +kernel
theorem dX5_waysInto_4 : decode cX5_waysInto 4 = .ok (.getfield 84, 3) := by decide +kernel
theorem dX5_waysInto_7 : decode cX5_waysInto 7 = .ok (.getfield 90, 3) := by decide +kernel
theorem dX5_waysInto_10 : decode cX5_waysInto 10 = .ok (.istore_n 2, 1) := by decide +kernel
theorem dX5_waysInto_11 : decode cX5_waysInto 11 = .ok (.iconst 1, 1) := by decide +kernel
theorem dX5_waysInto_12 : decode cX5_waysInto 12 = .ok (.istore_n 3, 1) := by decide +kernel
theorem dX5_waysInto_13 : decode cX5_waysInto 13 = .ok (.iconst 0, 1) := by decide +kernel
theorem dX5_waysInto_14 : decode cX5_waysInto 14 = .ok (.istore 4, 2) := by decide +kernel
theorem dX5_waysInto_16 : decode cX5_waysInto 16 = .ok (.iload 4, 2) := by decide +kernel
theorem dX5_waysInto_18 : decode cX5_waysInto 18 = .ok (.iload_n 2, 1) := by decide +kernel
theorem dX5_waysInto_19 : decode cX5_waysInto 19 = .ok (.if_icmp .ge 13, 3) := by decide +kernel
theorem dX5_waysInto_22 : decode cX5_waysInto 22 = .ok (.iload_n 3, 1) := by decide +kernel
theorem dX5_waysInto_23 : decode cX5_waysInto 23 = .ok (.iload_n 1, 1) := by decide +kernel
theorem dX5_waysInto_24 : decode cX5_waysInto 24 = .ok (.imul, 1) := by decide +kernel
theorem dX5_waysInto_25 : decode cX5_waysInto 25 = .ok (.istore_n 3, 1) := by decide +kernel
theorem dX5_waysInto_26 : decode cX5_waysInto 26 = .ok (.iinc 4 1, 3) := by decide +kernel
theorem dX5_waysInto_29 : decode cX5_waysInto 29 = .ok (.goto (-13), 3) := by decide +kernel
theorem dX5_waysInto_32 : decode cX5_waysInto 32 = .ok (.iconst 0, 1) := by decide +kernel
theorem dX5_waysInto_33 : decode cX5_waysInto 33 = .ok (.istore 4, 2) := by decide +kernel
theorem dX5_waysInto_35 : decode cX5_waysInto 35 = .ok (.iload_n 3, 1) := by decide +kernel
theorem dX5_waysInto_36 : decode cX5_waysInto 36 = .ok (.iconst 1, 1) := by decide +kernel
theorem dX5_waysInto_37 : decode cX5_waysInto 37 = .ok (.isub, 1) := by decide +kernel
theorem dX5_waysInto_38 : decode cX5_waysInto 38 = .ok (.istore 5, 2) := by decide +kernel
theorem dX5_waysInto_40 : decode cX5_waysInto 40 = .ok (.iload 5, 2) := by decide +kernel
theorem dX5_waysInto_42 : decode cX5_waysInto 42 = .ok (.ifCond .lt 33, 3) := by decide +kernel
theorem dX5_waysInto_45 : decode cX5_waysInto 45 = .ok (.aload_n 0, 1) := by decide +kernel
theorem dX5_waysInto_46 : decode cX5_waysInto 46 = .ok (.iload 5, 2) := by decide +kernel
theorem dX5_waysInto_48 : decode cX5_waysInto 48 = .ok (.iload_n 1, 1) := by decide +kernel
theorem dX5_waysInto_49 : decode cX5_waysInto 49 = .ok (.invokevirtual 148, 3) := by decide +kernel
theorem dX5_waysInto_52 : decode cX5_waysInto 52 = .ok (.ifCond .eq 17, 3) := by decide +kernel
theorem dX5_waysInto_55 : decode cX5_waysInto 55 = .ok (.iinc 4 1, 3) := by decide +kernel
theorem dX5_waysInto_58 : decode cX5_waysInto 58 = .ok (.aload_n 0, 1) := by decide +kernel
theorem dX5_waysInto_59 : decode cX5_waysInto 59 = .ok (.iload 5, 2) := by decide +kernel
theorem dX5_waysInto_61 : decode cX5_waysInto 61 = .ok (.iload_n 1, 1) := by decide +kernel
theorem dX5_waysInto_62 : decode cX5_waysInto 62 = .ok (.aload_n 0, 1) := by decide +kernel
theorem dX5_waysInto_63 : decode cX5_waysInto 63 = .ok (.getfield 34, 3) := by decide +kernel
theorem dX5_waysInto_66 : decode cX5_waysInto 66 = .ok (.invokevirtual 152, 3) := by decide +kernel
theorem dX5_waysInto_69 : decode cX5_waysInto 69 = .ok (.iinc 5 (-1), 3) := by decide +kernel
theorem dX5_waysInto_72 : decode cX5_waysInto 72 = .ok (.goto (-32), 3) := by decide +kernel
theorem dX5_waysInto_75 : decode cX5_waysInto 75 = .ok (.iload 4, 2) := by decide +kernel
theorem dX5_waysInto_77 : decode cX5_waysInto 77 = .ok (.ireturn, 1) := by decide +kernel
theorem dX5_layDrawers_0 : decode cX5_layDrawers 0 = .ok (.aload_n 0, 1) := by decide +kernel
theorem dX5_layDrawers_1 : decode cX5_layDrawers 1 = .ok (.iload_n 1, 1) := by decide +kernel
theorem dX5_layDrawers_2 : decode cX5_layDrawers 2 = .ok (.invokevirtual 145, 3) := by decide +kernel
theorem dX5_layDrawers_5 : decode cX5_layDrawers 5 = .ok (.istore_n 2, 1) := by decide +kernel
theorem dX5_layDrawers_6 : decode cX5_layDrawers 6 = .ok (.iload_n 2, 1) := by decide +kernel
theorem dX5_layDrawers_7 : decode cX5_layDrawers 7 = .ok (.ifCond .le 10, 3) := by decide +kernel
theorem dX5_layDrawers_10 : decode cX5_layDrawers 10 = .ok (.aload_n 0, 1) := by decide +kernel
theorem dX5_layDrawers_11 : decode cX5_layDrawers 11 = .ok (.invokevirtual 122, 3) := by decide +kernel
theorem dX5_layDrawers_14 : decode cX5_layDrawers 14 = .ok (.goto 8, 3) := by decide +kernel
theorem dX5_layDrawers_17 : decode cX5_layDrawers 17 = .ok (.aload_n 0, 1) := by decide +kernel
theorem dX5_layDrawers_18 : decode cX5_layDrawers 18 = .ok (.iconst 0, 1) := by decide +kernel
theorem dX5_layDrawers_19 : decode cX5_layDrawers 19 = .ok (.putfield 15, 3) := by decide +kernel
theorem dX5_layDrawers_22 : decode cX5_layDrawers 22 = .ok (.iload_n 2, 1) := by decide +kernel
theorem dX5_layDrawers_23 : decode cX5_layDrawers 23 = .ok (.ireturn, 1) := by decide +kernel
theorem dX6_kind_0 : decode cX6_kind 0 = .ok (.aload_n 0, 1) := by decide +kernel
theorem dX6_kind_1 : decode cX6_kind 1 = .ok (.getfield 18, 3) := by decide +kernel
theorem dX6_kind_4 : decode cX6_kind 4 = .ok (.ifCond .lt 32, 3) := by decide +kernel
theorem dX6_kind_7 : decode cX6_kind 7 = .ok (.aload_n 0, 1) := by decide +kernel
theorem dX6_kind_8 : decode cX6_kind 8 = .ok (.getfield 18, 3) := by decide +kernel
theorem dX6_kind_11 : decode cX6_kind 11 = .ok (.aload_n 0, 1) := by decide +kernel
theorem dX6_kind_12 : decode cX6_kind 12 = .ok (.getfield 31, 3) := by decide +kernel
theorem dX6_kind_15 : decode cX6_kind 15 = .ok (.getfield 38, 3) := by decide +kernel
theorem dX6_kind_18 : decode cX6_kind 18 = .ok (.if_icmp .ge 18, 3) := by decide +kernel
theorem dX6_kind_21 : decode cX6_kind 21 = .ok (.aload_n 0, 1) := by decide +kernel
theorem dX6_kind_22 : decode cX6_kind 22 = .ok (.getfield 31, 3) := by decide +kernel
theorem dX6_kind_25 : decode cX6_kind 25 = .ok (.getfield 194, 3) := by decide +kernel
theorem dX6_kind_28 : decode cX6_kind 28 = .ok (.aload_n 0, 1) := by decide +kernel
theorem dX6_kind_29 : decode cX6_kind 29 = .ok (.getfield 18, 3) := by decide +kernel
theorem dX6_kind_32 : decode cX6_kind 32 = .ok (.iaload, 1) := by decide +kernel
theorem dX6_kind_33 : decode cX6_kind 33 = .ok (.goto 4, 3) := by decide +kernel
theorem dX6_kind_36 : decode cX6_kind 36 = .ok (.iconst 0, 1) := by decide +kernel
theorem dX6_kind_37 : decode cX6_kind 37 = .ok (.ireturn, 1) := by decide +kernel
theorem dX6_blame_0 : decode cX6_blame 0 = .ok (.aload_n 0, 1) := by decide +kernel
theorem dX6_blame_1 : decode cX6_blame 1 = .ok (.getfield 18, 3) := by decide +kernel
theorem dX6_blame_4 : decode cX6_blame 4 = .ok (.ifCond .lt 21, 3) := by decide +kernel
theorem dX6_blame_7 : decode cX6_blame 7 = .ok (.aload_n 0, 1) := by decide +kernel
theorem dX6_blame_8 : decode cX6_blame 8 = .ok (.getfield 18, 3) := by decide +kernel
theorem dX6_blame_11 : decode cX6_blame 11 = .ok (.aload_n 0, 1) := by decide +kernel
theorem dX6_blame_12 : decode cX6_blame 12 = .ok (.getfield 31, 3) := by decide +kernel
theorem dX6_blame_15 : decode cX6_blame 15 = .ok (.getfield 38, 3) := by decide +kernel
theorem dX6_blame_18 : decode cX6_blame 18 = .ok (.if_icmp .ge 7, 3) := by decide +kernel
theorem dX6_blame_21 : decode cX6_blame 21 = .ok (.iconst 1, 1) := by decide +kernel
theorem dX6_blame_22 : decode cX6_blame 22 = .ok (.goto 4, 3) := by decide +kernel
theorem dX6_blame_25 : decode cX6_blame 25 = .ok (.iconst 0, 1) := by decide +kernel
theorem dX6_blame_26 : decode cX6_blame 26 = .ok (.istore_n 2, 1) := by decide +kernel
theorem dX6_blame_27 : decode cX6_blame 27 = .ok (.aload_n 0, 1) := by decide +kernel
theorem dX6_blame_28 : decode cX6_blame 28 = .ok (.iload_n 2, 1) := by decide +kernel
theorem dX6_blame_29 : decode cX6_blame 29 = .ok (.ifCond .eq 23, 3) := by decide +kernel
theorem dX6_blame_32 : decode cX6_blame 32 = .ok (.aload_n 0, 1) := by decide +kernel
theorem dX6_blame_33 : decode cX6_blame 33 = .ok (.getfield 31, 3) := by decide +kernel
theorem dX6_blame_36 : decode cX6_blame 36 = .ok (.getfield 194, 3) := by decide +kernel
theorem dX6_blame_39 : decode cX6_blame 39 = .ok (.aload_n 0, 1) := by decide +kernel
theorem dX6_blame_40 : decode cX6_blame 40 = .ok (.getfield 18, 3) := by decide +kernel
theorem dX6_blame_43 : decode cX6_blame 43 = .ok (.iaload, 1) := by decide +kernel
theorem dX6_blame_44 : decode cX6_blame 44 = .ok (.iconst 1, 1) := by decide +kernel
theorem dX6_blame_45 : decode cX6_blame 45 = .ok (.if_icmp .ne 7, 3) := by decide +kernel
theorem dX6_blame_48 : decode cX6_blame 48 = .ok (.iconst 1, 1) := by decide +kernel
theorem dX6_blame_49 : decode cX6_blame 49 = .ok (.goto 4, 3) := by decide +kernel
theorem dX6_blame_52 : decode cX6_blame 52 = .ok (.iload_n 1, 1) := by decide +kernel
theorem dX6_blame_53 : decode cX6_blame 53 = .ok (.putfield 25, 3) := by decide +kernel
theorem dX6_blame_56 : decode cX6_blame 56 = .ok (.aload_n 0, 1) := by decide +kernel
theorem dX6_blame_57 : decode cX6_blame 57 = .ok (.iload_n 2, 1) := by decide +kernel
theorem dX6_blame_58 : decode cX6_blame 58 = .ok (.ifCond .eq 18, 3) := by decide +kernel
theorem dX6_blame_61 : decode cX6_blame 61 = .ok (.aload_n 0, 1) := by decide +kernel
theorem dX6_blame_62 : decode cX6_blame 62 = .ok (.getfield 31, 3) := by decide +kernel
theorem dX6_blame_65 : decode cX6_blame 65 = .ok (.getfield 200, 3) := by decide +kernel
theorem dX6_blame_68 : decode cX6_blame 68 = .ok (.aload_n 0, 1) := by decide +kernel
theorem dX6_blame_69 : decode cX6_blame 69 = .ok (.getfield 18, 3) := by decide +kernel
theorem dX6_blame_72 : decode cX6_blame 72 = .ok (.iaload, 1) := by decide +kernel
theorem dX6_blame_73 : decode cX6_blame 73 = .ok (.goto 10, 3) := by decide +kernel
theorem dX6_blame_76 : decode cX6_blame 76 = .ok (.aload_n 0, 1) := by decide +kernel
theorem dX6_blame_77 : decode cX6_blame 77 = .ok (.getfield 31, 3) := by decide +kernel
theorem dX6_blame_80 : decode cX6_blame 80 = .ok (.getfield 203, 3) := by decide +kernel
theorem dX6_blame_83 : decode cX6_blame 83 = .ok (.putfield 28, 3) := by decide +kernel
theorem dX6_blame_86 : decode cX6_blame 86 = .ok (.iconst 0, 1) := by decide +kernel
theorem dX6_blame_87 : decode cX6_blame 87 = .ok (.ireturn, 1) := by decide +kernel
theorem dX6_value_0 : decode cX6_value 0 = .ok (.aload_n 0, 1) := by decide +kernel
theorem dX6_value_1 : decode cX6_value 1 = .ok (.getfield 18, 3) := by decide +kernel
theorem dX6_value_4 : decode cX6_value 4 = .ok (.ifCond .lt 32, 3) := by decide +kernel
theorem dX6_value_7 : decode cX6_value 7 = .ok (.aload_n 0, 1) := by decide +kernel
theorem dX6_value_8 : decode cX6_value 8 = .ok (.getfield 18, 3) := by decide +kernel
theorem dX6_value_11 : decode cX6_value 11 = .ok (.aload_n 0, 1) := by decide +kernel
theorem dX6_value_12 : decode cX6_value 12 = .ok (.getfield 31, 3) := by decide +kernel
theorem dX6_value_15 : decode cX6_value 15 = .ok (.getfield 38, 3) := by decide +kernel
theorem dX6_value_18 : decode cX6_value 18 = .ok (.if_icmp .ge 18, 3) := by decide +kernel
theorem dX6_value_21 : decode cX6_value 21 = .ok (.aload_n 0, 1) := by decide +kernel
theorem dX6_value_22 : decode cX6_value 22 = .ok (.getfield 31, 3) := by decide +kernel
theorem dX6_value_25 : decode cX6_value 25 = .ok (.getfield 197, 3) := by decide +kernel
theorem dX6_value_28 : decode cX6_value 28 = .ok (.aload_n 0, 1) := by decide +kernel
theorem dX6_value_29 : decode cX6_value 29 = .ok (.getfield 18, 3) := by decide +kernel
theorem dX6_value_32 : decode cX6_value 32 = .ok (.laload, 1) := by decide +kernel
theorem dX6_value_33 : decode cX6_value 33 = .ok (.goto 4, 3) := by decide +kernel
theorem dX6_value_36 : decode cX6_value 36 = .ok (.lconst 0, 1) := by decide +kernel
theorem dX6_value_37 : decode cX6_value 37 = .ok (.lreturn, 1) := by decide +kernel
theorem dX6_indexOf_0 : decode cX6_indexOf 0 = .ok (.iconst 0, 1) := by decide +kernel
theorem dX6_indexOf_1 : decode cX6_indexOf 1 = .ok (.istore_n 3, 1) := by decide +kernel
theorem dX6_indexOf_2 : decode cX6_indexOf 2 = .ok (.iload_n 3, 1) := by decide +kernel
theorem dX6_indexOf_3 : decode cX6_indexOf 3 = .ok (.iload_n 2, 1) := by decide +kernel
theorem dX6_indexOf_4 : decode cX6_indexOf 4 = .ok (.if_icmp .ge 28, 3) := by decide +kernel
theorem dX6_indexOf_7 : decode cX6_indexOf 7 = .ok (.iload_n 3, 1) := by decide +kernel
theorem dX6_indexOf_8 : decode cX6_indexOf 8 = .ok (.aload_n 1, 1) := by decide +kernel
theorem dX6_indexOf_9 : decode cX6_indexOf 9 = .ok (.arraylength, 1) := by decide +kernel
theorem dX6_indexOf_10 : decode cX6_indexOf 10 = .ok (.if_icmp .ge 22, 3) := by decide +kernel
theorem dX6_indexOf_13 : decode cX6_indexOf 13 = .ok (.aload_n 1, 1) := by decide +kernel
theorem dX6_indexOf_14 : decode cX6_indexOf 14 = .ok (.iload_n 3, 1) := by decide +kernel
theorem dX6_indexOf_15 : decode cX6_indexOf 15 = .ok (.laload, 1) := by decide +kernel
theorem dX6_indexOf_16 : decode cX6_indexOf 16 = .ok (.aload_n 0, 1) := by decide +kernel
theorem dX6_indexOf_17 : decode cX6_indexOf 17 = .ok (.invokevirtual 187, 3) := by decide +kernel
theorem dX6_indexOf_20 : decode cX6_indexOf 20 = .ok (.lcmp, 1) := by decide +kernel
theorem dX6_indexOf_21 : decode cX6_indexOf 21 = .ok (.ifCond .ne 5, 3) := by decide +kernel
theorem dX6_indexOf_24 : decode cX6_indexOf 24 = .ok (.iload_n 3, 1) := by decide +kernel
theorem dX6_indexOf_25 : decode cX6_indexOf 25 = .ok (.ireturn, 1) := by decide +kernel
theorem dX6_indexOf_26 : decode cX6_indexOf 26 = .ok (.iinc 3 1, 3) := by decide +kernel
theorem dX6_indexOf_29 : decode cX6_indexOf 29 = .ok (.goto (-27), 3) := by decide +kernel
theorem dX6_indexOf_32 : decode cX6_indexOf 32 = .ok (.iconst (-1), 1) := by decide +kernel
theorem dX6_indexOf_33 : decode cX6_indexOf 33 = .ok (.ireturn, 1) := by decide +kernel
theorem dX6_newName_0 : decode cX6_newName 0 = .ok (.aload_n 0, 1) := by decide +kernel
theorem dX6_newName_1 : decode cX6_newName 1 = .ok (.invokevirtual 43, 3) := by decide +kernel
theorem dX6_newName_4 : decode cX6_newName 4 = .ok (.iconst 2, 1) := by decide +kernel
theorem dX6_newName_5 : decode cX6_newName 5 = .ok (.if_icmp .eq 9, 3) := by decide +kernel
theorem dX6_newName_8 : decode cX6_newName 8 = .ok (.aload_n 0, 1) := by decide +kernel
theorem dX6_newName_9 : decode cX6_newName 9 = .ok (.iconst 2, 1) := by decide +kernel
theorem dX6_newName_10 : decode cX6_newName 10 = .ok (.invokevirtual 51, 3) := by decide +kernel
theorem dX6_newName_13 : decode cX6_newName 13 = .ok (.ireturn, 1) := by decide +kernel
theorem dX6_newName_14 : decode cX6_newName 14 = .ok (.aload_n 0, 1) := by decide +kernel
theorem dX6_newName_15 : decode cX6_newName 15 = .ok (.aload_n 1, 1) := by decide +kernel
theorem dX6_newName_16 : decode cX6_newName 16 = .ok (.iload_n 2, 1) := by decide +kernel
theorem dX6_newName_17 : decode cX6_newName 17 = .ok (.invokevirtual 191, 3) := by decide +kernel
theorem dX6_newName_20 : decode cX6_newName 20 = .ok (.ifCond .lt 9, 3) := by decide +kernel
theorem dX6_newName_23 : decode cX6_newName 23 = .ok (.aload_n 0, 1) := by decide +kernel
theorem dX6_newName_24 : decode cX6_newName 24 = .ok (.iconst 3, 1) := by decide +kernel
theorem dX6_newName_25 : decode cX6_newName 25 = .ok (.invokevirtual 51, 3) := by decide +kernel
theorem dX6_newName_28 : decode cX6_newName 28 = .ok (.ireturn, 1) := by decide +kernel
theorem dX6_newName_29 : decode cX6_newName 29 = .ok (.iload_n 2, 1) := by decide +kernel
theorem dX6_newName_30 : decode cX6_newName 30 = .ok (.ifCond .lt 16, 3) := by decide +kernel
theorem dX6_newName_33 : decode cX6_newName 33 = .ok (.iload_n 2, 1) := by decide +kernel
theorem dX6_newName_34 : decode cX6_newName 34 = .ok (.aload_n 1, 1) := by decide +kernel
theorem dX6_newName_35 : decode cX6_newName 35 = .ok (.arraylength, 1) := by decide +kernel
theorem dX6_newName_36 : decode cX6_newName 36 = .ok (.if_icmp .ge 10, 3) := by decide +kernel
theorem dX6_newName_39 : decode cX6_newName 39 = .ok (.aload_n 1, 1) := by decide +kernel
theorem dX6_newName_40 : decode cX6_newName 40 = .ok (.iload_n 2, 1) := by decide +kernel
theorem dX6_newName_41 : decode cX6_newName 41 = .ok (.aload_n 0, 1) := by decide +kernel
theorem dX6_newName_42 : decode cX6_newName 42 = .ok (.invokevirtual 187, 3) := by decide +kernel
theorem dX6_newName_45 : decode cX6_newName 45 = .ok (.lastore, 1) := by decide +kernel
theorem dX6_newName_46 : decode cX6_newName 46 = .ok (.aload_n 0, 1) := by decide +kernel
theorem dX6_newName_47 : decode cX6_newName 47 = .ok (.dup, 1) := by decide +kernel
theorem dX6_newName_48 : decode cX6_newName 48 = .ok (.getfield 18, 3) := by decide +kernel
theorem dX6_newName_51 : decode cX6_newName 51 = .ok (.iconst 1, 1) := by decide +kernel
theorem dX6_newName_52 : decode cX6_newName 52 = .ok (.iadd, 1) := by decide +kernel
theorem dX6_newName_53 : decode cX6_newName 53 = .ok (.putfield 18, 3) := by decide +kernel
theorem dX6_newName_56 : decode cX6_newName 56 = .ok (.iconst 1, 1) := by decide +kernel
theorem dX6_newName_57 : decode cX6_newName 57 = .ok (.ireturn, 1) := by decide +kernel
set_option maxRecDepth 100000 in
theorem m_X5_leastFor_v1 (l : Launch) (D : va_G) (cT : Nat → ClassId) (T : Nat → Option Nat) (q : Nat → Int) (hq : qok q) (a0 : Nat) (t0 : T a0 = some 7) (y1 : Int32) (j1 : IV y1 1 1) (y2 : Int32) (j2 : IV y2 (-24) 24) : th_Met l D cT T (kd q) yX5_leastFor cX5_leastFor 3 (some .int) (rmk 0 0) [.ref a0, .int y1, .int y2] (th_R T (some (.inl (-24, 24)))) [] := by
  refine th_start (by decide) (Nat.le_of_ble_eq_true rfl) ?_
  intro p e s m below meth c ls S hK hH hr hlocks hnm hl
  have hx := S.1
  have hb := S.2.1
  have hl : lv_has ls 3 [(0, .ref a0), (1, .int y1), (2, .int y2)] := hl
  have J21 : ∀ (H : Heap) (locs : List Loc) (ls : Array Slot), th_H D cT T (kd q) H → va_S (th_A T []) s.heap H locs → lv_has ls 3 [] → W p l e (rmk 0 0) s m [.ref a0, .int y1, .int y2].toArray below meth c H locs 0 0 (MQ below (th_Q D cT T (kd q) (th_R T (some (.inl (-24, 24)))) []) [.ref a0, .int y1, .int y2].toArray s 0 0 (th_A T [])) (F0 m 21 ls [.int y2]) := by
    intro H locs ls hH hS hl
    exact th_iret S hK hH hS hr hlocks (th_R.i j2) dX5_leastFor_21
  have J21_s0_0 : ∀ (H : Heap) (locs : List Loc) (ls : Array Slot), th_H D cT T (kd q) H → va_S (th_A T []) s.heap H locs → lv_has ls 3 [] → W p l e (rmk 0 0) s m [.ref a0, .int y1, .int y2].toArray below meth c H locs 0 0 (MQ below (th_Q D cT T (kd q) (th_R T (some (.inl (-24, 24)))) []) [.ref a0, .int y1, .int y2].toArray s 0 0 (th_A T [])) (F0 m 21 ls [.int 0]) := by
    intro H locs ls hH hS hl
    exact th_iret S hK hH hS hr hlocks (th_R.i (iv_w (iv_c (by decide) : IV 0 0 0) (by decide))) dX5_leastFor_21
  have J0 : ∀ (H : Heap) (locs : List Loc) (ls : Array Slot), th_H D cT T (kd q) H → va_S (th_A T []) s.heap H locs → lv_has ls 3 [(0, .ref a0), (1, .int y1), (2, .int y2)] → W p l e (rmk 0 0) s m [.ref a0, .int y1, .int y2].toArray below meth c H locs 0 0 (MQ below (th_Q D cT T (kd q) (th_R T (some (.inl (-24, 24)))) []) [.ref a0, .int y1, .int y2].toArray s 0 0 (th_A T [])) (F0 m 0 ls []) := by
    intro H locs ls hH hS hl
    refine lv_iload_n hx hb dX5_leastFor_0 rfl (lv_at hl 1 rfl) ?_
    refine lv_aload_n hx hb dX5_leastFor_1 rfl (lv_at hl 0 rfl) ?_
    refine th_get S hK hH inG5 t0 kd_7 rfl 0 (by decide) gm_427 rfl rfl dX5_leastFor_2 (fun v1 hv1 fv1 => ?_)
    obtain ⟨rf2, rfl, trf2⟩ := th_V.ref hv1
    refine th_get S hK hH inG0 trf2 kd_4 rfl 0 (by decide) gm_370 rfl rfl dX5_leastFor_5 (fun v3 hv3 fv3 => ?_)
    obtain ⟨rf4, rfl, trf4⟩ := th_V.ref hv3
    refine th_get S hK hH inG4 trf4 kd_3 rfl 12 (by decide) gm_281 rfl rfl dX5_leastFor_8 (fun v5 hv5 fv5 => ?_)
    obtain ⟨x6, rfl, ix6⟩ := th_V.int hv5
    refine lv_iconst (v := 1) hx hb dX5_leastFor_11 (by decide) ?_
    refine lv_isub hx hb dX5_leastFor_12 ?_
    refine lv_topi (fun x7 ex7 => ?_)
    have ix7 : IV x7 (-1) 3 := by rw [ex7]; exact iv_sub ix6 (iv_c (by decide) : IV 1 1 1) (by decide)
    refine lv_icmp_ne (tgt := 20) hx hb dX5_leastFor_13 (by decide) (fun c8 => ?_) (fun c8 => ?_)
    · skip
      refine lv_iconst (v := 0) hx hb dX5_leastFor_20 (by decide) ?_
      exact J21_s0_0 H locs ls  hH hS (lv_sub hl [] rfl)
    · skip
      have ir9 : IV x7 1 1 := iv_eR c8 j1
      refine lv_iload_n hx hb dX5_leastFor_16 rfl (lv_at hl 2 rfl) ?_
      refine lv_goto (tgt := 21) hx hb dX5_leastFor_17 (by decide) ?_
      exact J21 H locs ls  hH hS (lv_sub hl [] rfl)
  exact J0 s.heap [] ls hH va_S.rf hl

set_option maxRecDepth 100000 in
theorem m_X5_leastFor_v2 (l : Launch) (D : va_G) (cT : Nat → ClassId) (T : Nat → Option Nat) (q : Nat → Int) (hq : qok q) (a0 : Nat) (t0 : T a0 = some 7) (y1 : Int32) (j1 : IV y1 2 2) (y2 : Int32) (j2 : IV y2 (-48) 48) : th_Met l D cT T (kd q) yX5_leastFor cX5_leastFor 3 (some .int) (rmk 0 0) [.ref a0, .int y1, .int y2] (th_R T (some (.inl (-48, 48)))) [] := by
  refine th_start (by decide) (Nat.le_of_ble_eq_true rfl) ?_
  intro p e s m below meth c ls S hK hH hr hlocks hnm hl
  have hx := S.1
  have hb := S.2.1
  have hl : lv_has ls 3 [(0, .ref a0), (1, .int y1), (2, .int y2)] := hl
  have J21 : ∀ (H : Heap) (locs : List Loc) (ls : Array Slot), th_H D cT T (kd q) H → va_S (th_A T []) s.heap H locs → lv_has ls 3 [] → W p l e (rmk 0 0) s m [.ref a0, .int y1, .int y2].toArray below meth c H locs 0 0 (MQ below (th_Q D cT T (kd q) (th_R T (some (.inl (-48, 48)))) []) [.ref a0, .int y1, .int y2].toArray s 0 0 (th_A T [])) (F0 m 21 ls [.int y2]) := by
    intro H locs ls hH hS hl
    exact th_iret S hK hH hS hr hlocks (th_R.i j2) dX5_leastFor_21
  have J21_s0_0 : ∀ (H : Heap) (locs : List Loc) (ls : Array Slot), th_H D cT T (kd q) H → va_S (th_A T []) s.heap H locs → lv_has ls 3 [] → W p l e (rmk 0 0) s m [.ref a0, .int y1, .int y2].toArray below meth c H locs 0 0 (MQ below (th_Q D cT T (kd q) (th_R T (some (.inl (-48, 48)))) []) [.ref a0, .int y1, .int y2].toArray s 0 0 (th_A T [])) (F0 m 21 ls [.int 0]) := by
    intro H locs ls hH hS hl
    exact th_iret S hK hH hS hr hlocks (th_R.i (iv_w (iv_c (by decide) : IV 0 0 0) (by decide))) dX5_leastFor_21
  have J0 : ∀ (H : Heap) (locs : List Loc) (ls : Array Slot), th_H D cT T (kd q) H → va_S (th_A T []) s.heap H locs → lv_has ls 3 [(0, .ref a0), (1, .int y1), (2, .int y2)] → W p l e (rmk 0 0) s m [.ref a0, .int y1, .int y2].toArray below meth c H locs 0 0 (MQ below (th_Q D cT T (kd q) (th_R T (some (.inl (-48, 48)))) []) [.ref a0, .int y1, .int y2].toArray s 0 0 (th_A T [])) (F0 m 0 ls []) := by
    intro H locs ls hH hS hl
    refine lv_iload_n hx hb dX5_leastFor_0 rfl (lv_at hl 1 rfl) ?_
    refine lv_aload_n hx hb dX5_leastFor_1 rfl (lv_at hl 0 rfl) ?_
    refine th_get S hK hH inG5 t0 kd_7 rfl 0 (by decide) gm_427 rfl rfl dX5_leastFor_2 (fun v1 hv1 fv1 => ?_)
    obtain ⟨rf2, rfl, trf2⟩ := th_V.ref hv1
    refine th_get S hK hH inG0 trf2 kd_4 rfl 0 (by decide) gm_370 rfl rfl dX5_leastFor_5 (fun v3 hv3 fv3 => ?_)
    obtain ⟨rf4, rfl, trf4⟩ := th_V.ref hv3
    refine th_get S hK hH inG4 trf4 kd_3 rfl 12 (by decide) gm_281 rfl rfl dX5_leastFor_8 (fun v5 hv5 fv5 => ?_)
    obtain ⟨x6, rfl, ix6⟩ := th_V.int hv5
    refine lv_iconst (v := 1) hx hb dX5_leastFor_11 (by decide) ?_
    refine lv_isub hx hb dX5_leastFor_12 ?_
    refine lv_topi (fun x7 ex7 => ?_)
    have ix7 : IV x7 (-1) 3 := by rw [ex7]; exact iv_sub ix6 (iv_c (by decide) : IV 1 1 1) (by decide)
    refine lv_icmp_ne (tgt := 20) hx hb dX5_leastFor_13 (by decide) (fun c8 => ?_) (fun c8 => ?_)
    · skip
      refine lv_iconst (v := 0) hx hb dX5_leastFor_20 (by decide) ?_
      exact J21_s0_0 H locs ls  hH hS (lv_sub hl [] rfl)
    · skip
      have ir9 : IV x7 2 2 := iv_eR c8 j1
      refine lv_iload_n hx hb dX5_leastFor_16 rfl (lv_at hl 2 rfl) ?_
      refine lv_goto (tgt := 21) hx hb dX5_leastFor_17 (by decide) ?_
      exact J21 H locs ls  hH hS (lv_sub hl [] rfl)
  exact J0 s.heap [] ls hH va_S.rf hl

set_option maxRecDepth 100000 in
theorem m_X5_leastFor_v3 (l : Launch) (D : va_G) (cT : Nat → ClassId) (T : Nat → Option Nat) (q : Nat → Int) (hq : qok q) (a0 : Nat) (t0 : T a0 = some 7) (y1 : Int32) (j1 : IV y1 3 3) (y2 : Int32) (j2 : IV y2 (-96) 96) : th_Met l D cT T (kd q) yX5_leastFor cX5_leastFor 3 (some .int) (rmk 0 0) [.ref a0, .int y1, .int y2] (th_R T (some (.inl (-96, 96)))) [] := by
  refine th_start (by decide) (Nat.le_of_ble_eq_true rfl) ?_
  intro p e s m below meth c ls S hK hH hr hlocks hnm hl
  have hx := S.1
  have hb := S.2.1
  have hl : lv_has ls 3 [(0, .ref a0), (1, .int y1), (2, .int y2)] := hl
  have J21 : ∀ (H : Heap) (locs : List Loc) (ls : Array Slot), th_H D cT T (kd q) H → va_S (th_A T []) s.heap H locs → lv_has ls 3 [] → W p l e (rmk 0 0) s m [.ref a0, .int y1, .int y2].toArray below meth c H locs 0 0 (MQ below (th_Q D cT T (kd q) (th_R T (some (.inl (-96, 96)))) []) [.ref a0, .int y1, .int y2].toArray s 0 0 (th_A T [])) (F0 m 21 ls [.int y2]) := by
    intro H locs ls hH hS hl
    exact th_iret S hK hH hS hr hlocks (th_R.i j2) dX5_leastFor_21
  have J21_s0_0 : ∀ (H : Heap) (locs : List Loc) (ls : Array Slot), th_H D cT T (kd q) H → va_S (th_A T []) s.heap H locs → lv_has ls 3 [] → W p l e (rmk 0 0) s m [.ref a0, .int y1, .int y2].toArray below meth c H locs 0 0 (MQ below (th_Q D cT T (kd q) (th_R T (some (.inl (-96, 96)))) []) [.ref a0, .int y1, .int y2].toArray s 0 0 (th_A T [])) (F0 m 21 ls [.int 0]) := by
    intro H locs ls hH hS hl
    exact th_iret S hK hH hS hr hlocks (th_R.i (iv_w (iv_c (by decide) : IV 0 0 0) (by decide))) dX5_leastFor_21
  have J0 : ∀ (H : Heap) (locs : List Loc) (ls : Array Slot), th_H D cT T (kd q) H → va_S (th_A T []) s.heap H locs → lv_has ls 3 [(0, .ref a0), (1, .int y1), (2, .int y2)] → W p l e (rmk 0 0) s m [.ref a0, .int y1, .int y2].toArray below meth c H locs 0 0 (MQ below (th_Q D cT T (kd q) (th_R T (some (.inl (-96, 96)))) []) [.ref a0, .int y1, .int y2].toArray s 0 0 (th_A T [])) (F0 m 0 ls []) := by
    intro H locs ls hH hS hl
    refine lv_iload_n hx hb dX5_leastFor_0 rfl (lv_at hl 1 rfl) ?_
    refine lv_aload_n hx hb dX5_leastFor_1 rfl (lv_at hl 0 rfl) ?_
    refine th_get S hK hH inG5 t0 kd_7 rfl 0 (by decide) gm_427 rfl rfl dX5_leastFor_2 (fun v1 hv1 fv1 => ?_)
    obtain ⟨rf2, rfl, trf2⟩ := th_V.ref hv1
    refine th_get S hK hH inG0 trf2 kd_4 rfl 0 (by decide) gm_370 rfl rfl dX5_leastFor_5 (fun v3 hv3 fv3 => ?_)
    obtain ⟨rf4, rfl, trf4⟩ := th_V.ref hv3
    refine th_get S hK hH inG4 trf4 kd_3 rfl 12 (by decide) gm_281 rfl rfl dX5_leastFor_8 (fun v5 hv5 fv5 => ?_)
    obtain ⟨x6, rfl, ix6⟩ := th_V.int hv5
    refine lv_iconst (v := 1) hx hb dX5_leastFor_11 (by decide) ?_
    refine lv_isub hx hb dX5_leastFor_12 ?_
    refine lv_topi (fun x7 ex7 => ?_)
    have ix7 : IV x7 (-1) 3 := by rw [ex7]; exact iv_sub ix6 (iv_c (by decide) : IV 1 1 1) (by decide)
    refine lv_icmp_ne (tgt := 20) hx hb dX5_leastFor_13 (by decide) (fun c8 => ?_) (fun c8 => ?_)
    · skip
      refine lv_iconst (v := 0) hx hb dX5_leastFor_20 (by decide) ?_
      exact J21_s0_0 H locs ls  hH hS (lv_sub hl [] rfl)
    · skip
      have ir9 : IV x7 3 3 := iv_eR c8 j1
      refine lv_iload_n hx hb dX5_leastFor_16 rfl (lv_at hl 2 rfl) ?_
      refine lv_goto (tgt := 21) hx hb dX5_leastFor_17 (by decide) ?_
      exact J21 H locs ls  hH hS (lv_sub hl [] rfl)
  exact J0 s.heap [] ls hH va_S.rf hl

set_option maxRecDepth 100000 in
theorem m_X5_findKeeping_v0 (l : Launch) (D : va_G) (cT : Nat → ClassId) (T : Nat → Option Nat) (q : Nat → Int) (hq : qok q) (a0 : Nat) (t0 : T a0 = some 7) (y1 : Int32) (j1 : IV y1 4 4) (y2 : Int32) (j2 : IV y2 (-192) 192) : th_Met l D cT T (kd q) yX5_findKeeping cX5_findKeeping 4 none (rmk 2 80) [.ref a0, .int y1, .int y2] (th_R T none) [7, 34] := by
  refine th_start (by decide) (Nat.le_of_ble_eq_true rfl) ?_
  intro p e s m below meth c ls S hK hH hr hlocks hnm hl
  have hx := S.1
  have hb := S.2.1
  have hl : lv_has ls 4 [(0, .ref a0), (1, .int y1), (2, .int y2)] := hl
  have J45 : ∀ (H : Heap) (locs : List Loc) (ls : Array Slot), th_H D cT T (kd q) H → va_S (th_A T [7, 34]) s.heap H locs → lv_has ls 4 [] → W p l e (rmk 2 80) s m [.ref a0, .int y1, .int y2].toArray below meth c H locs 0 0 (MQ below (th_Q D cT T (kd q) (th_R T none) [7, 34]) [.ref a0, .int y1, .int y2].toArray s 0 0 (th_A T [7, 34])) (F0 m 45 ls []) := by
    intro H locs ls hH hS hl
    exact th_vret S hK hH hS hr hlocks rfl dX5_findKeeping_45
  have J0 : ∀ (H : Heap) (locs : List Loc) (ls : Array Slot), th_H D cT T (kd q) H → va_S (th_A T [7, 34]) s.heap H locs → lv_has ls 4 [(0, .ref a0), (1, .int y1), (2, .int y2)] → W p l e (rmk 2 80) s m [.ref a0, .int y1, .int y2].toArray below meth c H locs 0 0 (MQ below (th_Q D cT T (kd q) (th_R T none) [7, 34]) [.ref a0, .int y1, .int y2].toArray s 0 0 (th_A T [7, 34])) (F0 m 0 ls []) := by
    intro H locs ls hH hS hl
    refine lv_iload_n hx hb dX5_findKeeping_0 rfl (lv_at hl 1 rfl) ?_
    refine lv_aload_n hx hb dX5_findKeeping_1 rfl (lv_at hl 0 rfl) ?_
    refine th_get S hK hH inG5 t0 kd_7 rfl 0 (by decide) gm_427 rfl rfl dX5_findKeeping_2 (fun v1 hv1 fv1 => ?_)
    obtain ⟨rf2, rfl, trf2⟩ := th_V.ref hv1
    refine th_get S hK hH inG0 trf2 kd_4 rfl 0 (by decide) gm_370 rfl rfl dX5_findKeeping_5 (fun v3 hv3 fv3 => ?_)
    obtain ⟨rf4, rfl, trf4⟩ := th_V.ref hv3
    refine th_get S hK hH inG4 trf4 kd_3 rfl 12 (by decide) gm_281 rfl rfl dX5_findKeeping_8 (fun v5 hv5 fv5 => ?_)
    obtain ⟨x6, rfl, ix6⟩ := th_V.int hv5
    refine lv_icmp_lt (tgt := 46) hx hb dX5_findKeeping_11 (by decide) (fun c7 => ?_) (fun c7 => ?_)
    · skip
      exfalso
      have z1 := iv_lt c7
      have z2 := (j1).1
      have z3 := (j1).2
      have z4 := (ix6).1
      have z5 := (ix6).2
      omega
    · skip
      refine lv_aload_n hx hb dX5_findKeeping_14 rfl (lv_at hl 0 rfl) ?_
      refine th_getK S hK fv1 inG5 rfl (by decide) gm_427 rfl dX5_findKeeping_15 ?_
      refine lv_aload_n hx hb dX5_findKeeping_18 rfl (lv_at hl 0 rfl) ?_
      refine th_get S hK hH inG5 t0 kd_7 rfl 3 (by decide) gm_432 rfl rfl dX5_findKeeping_19 (fun v9 hv9 fv9 => ?_)
      obtain ⟨rf10, rfl, trf10⟩ := th_V.ref hv9
      refine lv_iload_n hx hb dX5_findKeeping_22 rfl (lv_at hl 1 rfl) ?_
      refine th_aald S hK hH trf10 kd_32 (th_in (hi := 4) (iv_w j1 (by decide)) (by decide)) dX5_findKeeping_23 (fun v11 hv11 => ?_)
      obtain ⟨rf12, rfl, trf12⟩ := th_V.ref hv11
      refine th_callVi (n := 1) (As := [.ref rf12]) S hK hH hS (th_A.sub (by decide)) (m_X0_landIn l D cT T q hq rf2 trf2 rf12 trf12) gm_1019 gm_1072 gm_1017 gm_1018 gm_119 (by decide +kernel) ⟨rfl, rfl, Nat.le_of_ble_eq_true rfl, Nat.le_of_ble_eq_true rfl⟩ trf2 kd_4 rfl rfl hl.1 rfl (Nat.le_of_ble_eq_true rfl) dX5_findKeeping_24 ⟨Nat.zero_le _, Nat.zero_le _⟩ (fun x13 H locs ix13 hH hS hF1 => ?_)
      have f14 := fv1.kept (hF1 _ fv1.lt (th_off t0 (by decide)))
      refine lv_istore_n (lv' := [(3, .int x13), (0, .ref a0), (1, .int y1), (2, .int y2)]) hx hb dX5_findKeeping_27 rfl hl (by decide) rfl (fun ls hl => ?_)
      refine lv_iload_n hx hb dX5_findKeeping_28 rfl (lv_at hl 0 rfl) ?_
      refine lv_aload_n hx hb dX5_findKeeping_29 rfl (lv_at hl 1 rfl) ?_
      refine th_get S hK hH inG5 t0 kd_7 rfl 12 (by decide) gm_441 rfl rfl dX5_findKeeping_30 (fun v15 hv15 fv15 => ?_)
      obtain ⟨x16, rfl, ix16⟩ := th_V.int hv15
      refine lv_icmp_le (tgt := 45) hx hb dX5_findKeeping_33 (by decide) (fun c17 => ?_) (fun c17 => ?_)
      · skip
        exact J45 H locs ls  hH hS (lv_sub hl [] rfl)
      · skip
        have ir18 : IV x16 (-2147483648) 2147483646 := iv_uL ix16 ix13 (iv_nle c17) (by decide)
        have ir19 : IV x13 (-2147483647) 2147483647 := iv_uR ix16 ix13 (iv_nle c17) (by decide)
        refine lv_aload_n hx hb dX5_findKeeping_36 rfl (lv_at hl 1 rfl) ?_
        refine lv_iload_n hx hb dX5_findKeeping_37 rfl (lv_at hl 0 rfl) ?_
        refine th_put S hK hH hS ⟨7, by decide, t0⟩ inG5 tyX5 tyX5_ok nmX5 t0 kd_7 rfl 12 (by decide) gm_441 rfl rfl rfl rfl (th_iv (iv_top _)) (fun _ _ => trivial) (ty := .int) (by decide +kernel) rfl rfl dX5_findKeeping_38 (fun H locs hH hS hq1 hp1 => ?_)
        have f20 := hp1.2 0 _ (by decide) (by decide) f14
        have f21 := hp1.1
        refine lv_aload_n hx hb dX5_findKeeping_41 rfl (lv_at hl 1 rfl) ?_
        refine th_callVv (n := 0) (As := []) S hK hH hS (th_A.sub (by decide)) (m_X5_layWay l D cT T q hq a0 t0) gm_1053 gm_1050 gm_1052 gm_34 gm_122 (by decide +kernel) ⟨rfl, rfl, Nat.le_of_ble_eq_true rfl, Nat.le_of_ble_eq_true rfl⟩ t0 kd_7 rfl rfl hl.1 rfl (Nat.le_of_ble_eq_true rfl) dX5_findKeeping_42 ⟨Nat.zero_le _, Nat.zero_le _⟩ (fun H locs hH hS hF1 => ?_)
        exact J45 H locs ls  hH hS (lv_sub hl [] rfl)
  exact J0 s.heap [] ls hH va_S.rf hl

set_option maxRecDepth 100000 in
theorem m_X5_findKeeping_v1 (l : Launch) (D : va_G) (cT : Nat → ClassId) (T : Nat → Option Nat) (q : Nat → Int) (hq : qok q) (a0 : Nat) (t0 : T a0 = some 7) (y1 : Int32) (j1 : IV y1 3 3) (y2 : Int32) (j2 : IV y2 (-96) 96) : th_Met l D cT T (kd q) yX5_findKeeping cX5_findKeeping 4 none (rmk 5 127) [.ref a0, .int y1, .int y2] (th_R T none) [7, 18, 19, 29, 34, 38] := by
  refine th_start (by decide) (Nat.le_of_ble_eq_true rfl) ?_
  intro p e s m below meth c ls S hK hH hr hlocks hnm hl
  have hx := S.1
  have hb := S.2.1
  have hl : lv_has ls 4 [(0, .ref a0), (1, .int y1), (2, .int y2)] := hl
  have J53 : ∀ (n : Nat) (H : Heap) (locs : List Loc) (ls : Array Slot) (v53_3 : Int32), IV v53_3 (-96) 97 → th_H D cT T (kd q) H → va_S (th_A T [7, 18, 19, 29, 34, 38]) s.heap H locs → lv_has ls 4 [(0, .ref a0), (1, .int y1), (2, .int y2), (3, .int v53_3)] → (97 + 1 - v53_3.toInt).toNat < n → W p l e (rmk 5 127) s m [.ref a0, .int y1, .int y2].toArray below meth c H locs 0 0 (MQ below (th_Q D cT T (kd q) (th_R T none) [7, 18, 19, 29, 34, 38]) [.ref a0, .int y1, .int y2].toArray s 0 0 (th_A T [7, 18, 19, 29, 34, 38])) (F0 m 53 ls []) := by
    intro n
    induction n with
    | zero => intro H locs ls v53_3 iv53_3 hH hS hl hn; exact absurd hn (Nat.not_lt_zero _)
    | succ n ih53 =>
      intro H locs ls v53_3 iv53_3 hH hS hl hn53
      refine lv_iload_n hx hb dX5_findKeeping_53 rfl (lv_at hl 3 rfl) ?_
      refine lv_iload_n hx hb dX5_findKeeping_54 rfl (lv_at hl 2 rfl) ?_
      refine lv_icmp_gt (tgt := 80) hx hb dX5_findKeeping_55 (by decide) (fun c1 => ?_) (fun c1 => ?_)
      · skip
        have ir2 : IV v53_3 (-95) 97 := iv_uR j2 iv53_3 (iv_lt c1) (by decide)
        exact th_vret S hK hH hS hr hlocks rfl dX5_findKeeping_80
      · skip
        have ir3 : IV v53_3 (-96) 96 := iv_vL iv53_3 j2 (iv_nlt c1) (by decide)
        refine lv_aload_n hx hb dX5_findKeeping_58 rfl (lv_at hl 0 rfl) ?_
        refine lv_iload_n hx hb dX5_findKeeping_59 rfl (lv_at hl 1 rfl) ?_
        refine lv_iload_n hx hb dX5_findKeeping_60 rfl (lv_at hl 3 rfl) ?_
        refine th_callVv (n := 2) (As := [.int y1, .int v53_3]) S hK hH hS (th_A.sub (by decide)) (m_X5_serve l D cT T q hq a0 t0 (y1) (iv_w j1 (by decide)) (v53_3) (iv_top _)) gm_1058 gm_1055 gm_1057 gm_35 gm_122 (by decide +kernel) ⟨rfl, rfl, Nat.le_of_ble_eq_true rfl, Nat.le_of_ble_eq_true rfl⟩ t0 kd_7 rfl rfl hl.1 rfl (Nat.le_of_ble_eq_true rfl) dX5_findKeeping_61 ⟨Nat.zero_le _, Nat.zero_le _⟩ (fun H locs hH hS hF1 => ?_)
        refine lv_aload_n hx hb dX5_findKeeping_64 rfl (lv_at hl 0 rfl) ?_
        refine lv_iload_n hx hb dX5_findKeeping_65 rfl (lv_at hl 1 rfl) ?_
        refine lv_iconst (v := 1) hx hb dX5_findKeeping_66 (by decide) ?_
        refine lv_iadd hx hb dX5_findKeeping_67 ?_
        refine lv_topi (fun x4 ex4 => ?_)
        have ix4 : IV x4 4 4 := by rw [ex4]; exact iv_add j1 (iv_c (by decide) : IV 1 1 1) (by decide)
        refine lv_iload_n hx hb dX5_findKeeping_68 rfl (lv_at hl 2 rfl) ?_
        refine lv_iload_n hx hb dX5_findKeeping_69 rfl (lv_at hl 3 rfl) ?_
        refine lv_isub hx hb dX5_findKeeping_70 ?_
        refine lv_topi (fun x5 ex5 => ?_)
        have ix5 : IV x5 (-192) 192 := by rw [ex5]; exact iv_sub j2 ir3 (by decide)
        refine th_callVv (n := 2) (As := [.int x4, .int x5]) S hK hH hS (th_A.sub (by decide)) (m_X5_findKeeping_v0 l D cT T q hq a0 t0 (x4) ix4 (x5) ix5) gm_1071 gm_1068 gm_1070 gm_36 gm_122 (by decide +kernel) ⟨rfl, rfl, Nat.le_of_ble_eq_true rfl, Nat.le_of_ble_eq_true rfl⟩ t0 kd_7 rfl rfl hl.1 rfl (Nat.le_of_ble_eq_true rfl) dX5_findKeeping_71 ⟨Nat.zero_le _, Nat.zero_le _⟩ (fun H locs hH hS hF1 => ?_)
        refine th_iinc S dX5_findKeeping_74 hl (k := 3) rfl (by decide) ir3 (by decide) (fun x6 ls ex6 ix6 hl => ?_)
        have hl : lv_has ls 4 [(3, .int x6), (0, .ref a0), (1, .int y1), (2, .int y2)] := hl
        have ix6 : IV x6 (-95) 97 := ix6
        refine lv_goto (tgt := 53) hx hb dX5_findKeeping_77 (by decide) ?_
        exact ih53 H locs ls x6 (iv_w ix6 (by decide)) hH hS (lv_sub hl [1, 2, 3, 0] rfl) (th_up iv53_3 ex6 (by decide) hn53)
  have J45 : ∀ (H : Heap) (locs : List Loc) (ls : Array Slot), th_H D cT T (kd q) H → va_S (th_A T [7, 18, 19, 29, 34, 38]) s.heap H locs → lv_has ls 4 [] → W p l e (rmk 5 127) s m [.ref a0, .int y1, .int y2].toArray below meth c H locs 0 0 (MQ below (th_Q D cT T (kd q) (th_R T none) [7, 18, 19, 29, 34, 38]) [.ref a0, .int y1, .int y2].toArray s 0 0 (th_A T [7, 18, 19, 29, 34, 38])) (F0 m 45 ls []) := by
    intro H locs ls hH hS hl
    exact th_vret S hK hH hS hr hlocks rfl dX5_findKeeping_45
  have J0 : ∀ (H : Heap) (locs : List Loc) (ls : Array Slot), th_H D cT T (kd q) H → va_S (th_A T [7, 18, 19, 29, 34, 38]) s.heap H locs → lv_has ls 4 [(0, .ref a0), (1, .int y1), (2, .int y2)] → W p l e (rmk 5 127) s m [.ref a0, .int y1, .int y2].toArray below meth c H locs 0 0 (MQ below (th_Q D cT T (kd q) (th_R T none) [7, 18, 19, 29, 34, 38]) [.ref a0, .int y1, .int y2].toArray s 0 0 (th_A T [7, 18, 19, 29, 34, 38])) (F0 m 0 ls []) := by
    intro H locs ls hH hS hl
    refine lv_iload_n hx hb dX5_findKeeping_0 rfl (lv_at hl 1 rfl) ?_
    refine lv_aload_n hx hb dX5_findKeeping_1 rfl (lv_at hl 0 rfl) ?_
    refine th_get S hK hH inG5 t0 kd_7 rfl 0 (by decide) gm_427 rfl rfl dX5_findKeeping_2 (fun v7 hv7 fv7 => ?_)
    obtain ⟨rf8, rfl, trf8⟩ := th_V.ref hv7
    refine th_get S hK hH inG0 trf8 kd_4 rfl 0 (by decide) gm_370 rfl rfl dX5_findKeeping_5 (fun v9 hv9 fv9 => ?_)
    obtain ⟨rf10, rfl, trf10⟩ := th_V.ref hv9
    refine th_get S hK hH inG4 trf10 kd_3 rfl 12 (by decide) gm_281 rfl rfl dX5_findKeeping_8 (fun v11 hv11 fv11 => ?_)
    obtain ⟨x12, rfl, ix12⟩ := th_V.int hv11
    refine lv_icmp_lt (tgt := 46) hx hb dX5_findKeeping_11 (by decide) (fun c13 => ?_) (fun c13 => ?_)
    · skip
      have ir14 : IV x12 4 4 := iv_uR j1 ix12 (iv_lt c13) (by decide)
      refine lv_aload_n hx hb dX5_findKeeping_46 rfl (lv_at hl 0 rfl) ?_
      refine lv_iload_n hx hb dX5_findKeeping_47 rfl (lv_at hl 1 rfl) ?_
      refine lv_iload_n hx hb dX5_findKeeping_48 rfl (lv_at hl 2 rfl) ?_
      refine th_callVi (n := 2) (As := [.int y1, .int y2]) S hK hH hS (th_A.sub (by decide)) (m_X5_leastFor_v3 l D cT T q hq a0 t0 (y1) j1 (y2) j2) gm_1076 gm_1073 gm_1075 gm_37 gm_122 (by decide +kernel) ⟨rfl, rfl, Nat.le_of_ble_eq_true rfl, Nat.le_of_ble_eq_true rfl⟩ t0 kd_7 rfl rfl hl.1 rfl (Nat.le_of_ble_eq_true rfl) dX5_findKeeping_49 ⟨Nat.zero_le _, Nat.zero_le _⟩ (fun x15 H locs ix15 hH hS hF1 => ?_)
      have f16 := fv7.kept (hF1 _ fv7.lt (th_off t0 (by decide)))
      refine lv_istore_n (lv' := [(3, .int x15), (0, .ref a0), (1, .int y1), (2, .int y2)]) hx hb dX5_findKeeping_52 rfl hl (by decide) rfl (fun ls hl => ?_)
      exact J53 ((97 + 1 - Int32.toInt x15).toNat + 1) H locs ls x15 (iv_w ix15 (by decide)) hH hS (lv_sub hl [1, 2, 3, 0] rfl) (Nat.lt_succ_self _)
    · skip
      have ir17 : IV x12 0 3 := iv_vL ix12 j1 (iv_nlt c13) (by decide)
      refine lv_aload_n hx hb dX5_findKeeping_14 rfl (lv_at hl 0 rfl) ?_
      refine th_getK S hK fv7 inG5 rfl (by decide) gm_427 rfl dX5_findKeeping_15 ?_
      refine lv_aload_n hx hb dX5_findKeeping_18 rfl (lv_at hl 0 rfl) ?_
      refine th_get S hK hH inG5 t0 kd_7 rfl 3 (by decide) gm_432 rfl rfl dX5_findKeeping_19 (fun v19 hv19 fv19 => ?_)
      obtain ⟨rf20, rfl, trf20⟩ := th_V.ref hv19
      refine lv_iload_n hx hb dX5_findKeeping_22 rfl (lv_at hl 1 rfl) ?_
      refine th_aald S hK hH trf20 kd_32 (th_in (hi := 3) (iv_w j1 (by decide)) (by decide)) dX5_findKeeping_23 (fun v21 hv21 => ?_)
      obtain ⟨rf22, rfl, trf22⟩ := th_V.ref hv21
      refine th_callVi (n := 1) (As := [.ref rf22]) S hK hH hS (th_A.sub (by decide)) (m_X0_landIn l D cT T q hq rf8 trf8 rf22 trf22) gm_1019 gm_1072 gm_1017 gm_1018 gm_119 (by decide +kernel) ⟨rfl, rfl, Nat.le_of_ble_eq_true rfl, Nat.le_of_ble_eq_true rfl⟩ trf8 kd_4 rfl rfl hl.1 rfl (Nat.le_of_ble_eq_true rfl) dX5_findKeeping_24 ⟨Nat.zero_le _, Nat.zero_le _⟩ (fun x23 H locs ix23 hH hS hF1 => ?_)
      have f24 := fv7.kept (hF1 _ fv7.lt (th_off t0 (by decide)))
      refine lv_istore_n (lv' := [(3, .int x23), (0, .ref a0), (1, .int y1), (2, .int y2)]) hx hb dX5_findKeeping_27 rfl hl (by decide) rfl (fun ls hl => ?_)
      refine lv_iload_n hx hb dX5_findKeeping_28 rfl (lv_at hl 0 rfl) ?_
      refine lv_aload_n hx hb dX5_findKeeping_29 rfl (lv_at hl 1 rfl) ?_
      refine th_get S hK hH inG5 t0 kd_7 rfl 12 (by decide) gm_441 rfl rfl dX5_findKeeping_30 (fun v25 hv25 fv25 => ?_)
      obtain ⟨x26, rfl, ix26⟩ := th_V.int hv25
      refine lv_icmp_le (tgt := 45) hx hb dX5_findKeeping_33 (by decide) (fun c27 => ?_) (fun c27 => ?_)
      · skip
        exact J45 H locs ls  hH hS (lv_sub hl [] rfl)
      · skip
        have ir28 : IV x26 (-2147483648) 2147483646 := iv_uL ix26 ix23 (iv_nle c27) (by decide)
        have ir29 : IV x23 (-2147483647) 2147483647 := iv_uR ix26 ix23 (iv_nle c27) (by decide)
        refine lv_aload_n hx hb dX5_findKeeping_36 rfl (lv_at hl 1 rfl) ?_
        refine lv_iload_n hx hb dX5_findKeeping_37 rfl (lv_at hl 0 rfl) ?_
        refine th_put S hK hH hS ⟨7, by decide, t0⟩ inG5 tyX5 tyX5_ok nmX5 t0 kd_7 rfl 12 (by decide) gm_441 rfl rfl rfl rfl (th_iv (iv_top _)) (fun _ _ => trivial) (ty := .int) (by decide +kernel) rfl rfl dX5_findKeeping_38 (fun H locs hH hS hq1 hp1 => ?_)
        have f30 := hp1.2 0 _ (by decide) (by decide) f24
        have f31 := hp1.1
        refine lv_aload_n hx hb dX5_findKeeping_41 rfl (lv_at hl 1 rfl) ?_
        refine th_callVv (n := 0) (As := []) S hK hH hS (th_A.sub (by decide)) (m_X5_layWay l D cT T q hq a0 t0) gm_1053 gm_1050 gm_1052 gm_34 gm_122 (by decide +kernel) ⟨rfl, rfl, Nat.le_of_ble_eq_true rfl, Nat.le_of_ble_eq_true rfl⟩ t0 kd_7 rfl rfl hl.1 rfl (Nat.le_of_ble_eq_true rfl) dX5_findKeeping_42 ⟨Nat.zero_le _, Nat.zero_le _⟩ (fun H locs hH hS hF1 => ?_)
        exact J45 H locs ls  hH hS (lv_sub hl [] rfl)
  exact J0 s.heap [] ls hH va_S.rf hl

set_option maxRecDepth 100000 in
theorem m_X5_findKeeping_v2 (l : Launch) (D : va_G) (cT : Nat → ClassId) (T : Nat → Option Nat) (q : Nat → Int) (hq : qok q) (a0 : Nat) (t0 : T a0 = some 7) (y1 : Int32) (j1 : IV y1 2 2) (y2 : Int32) (j2 : IV y2 (-48) 48) : th_Met l D cT T (kd q) yX5_findKeeping cX5_findKeeping 4 none (rmk 6 150) [.ref a0, .int y1, .int y2] (th_R T none) [7, 18, 19, 29, 34, 38] := by
  refine th_start (by decide) (Nat.le_of_ble_eq_true rfl) ?_
  intro p e s m below meth c ls S hK hH hr hlocks hnm hl
  have hx := S.1
  have hb := S.2.1
  have hl : lv_has ls 4 [(0, .ref a0), (1, .int y1), (2, .int y2)] := hl
  have J53 : ∀ (n : Nat) (H : Heap) (locs : List Loc) (ls : Array Slot) (v53_3 : Int32), IV v53_3 (-48) 49 → th_H D cT T (kd q) H → va_S (th_A T [7, 18, 19, 29, 34, 38]) s.heap H locs → lv_has ls 4 [(0, .ref a0), (1, .int y1), (2, .int y2), (3, .int v53_3)] → (49 + 1 - v53_3.toInt).toNat < n → W p l e (rmk 6 150) s m [.ref a0, .int y1, .int y2].toArray below meth c H locs 0 0 (MQ below (th_Q D cT T (kd q) (th_R T none) [7, 18, 19, 29, 34, 38]) [.ref a0, .int y1, .int y2].toArray s 0 0 (th_A T [7, 18, 19, 29, 34, 38])) (F0 m 53 ls []) := by
    intro n
    induction n with
    | zero => intro H locs ls v53_3 iv53_3 hH hS hl hn; exact absurd hn (Nat.not_lt_zero _)
    | succ n ih53 =>
      intro H locs ls v53_3 iv53_3 hH hS hl hn53
      refine lv_iload_n hx hb dX5_findKeeping_53 rfl (lv_at hl 3 rfl) ?_
      refine lv_iload_n hx hb dX5_findKeeping_54 rfl (lv_at hl 2 rfl) ?_
      refine lv_icmp_gt (tgt := 80) hx hb dX5_findKeeping_55 (by decide) (fun c1 => ?_) (fun c1 => ?_)
      · skip
        have ir2 : IV v53_3 (-47) 49 := iv_uR j2 iv53_3 (iv_lt c1) (by decide)
        exact th_vret S hK hH hS hr hlocks rfl dX5_findKeeping_80
      · skip
        have ir3 : IV v53_3 (-48) 48 := iv_vL iv53_3 j2 (iv_nlt c1) (by decide)
        refine lv_aload_n hx hb dX5_findKeeping_58 rfl (lv_at hl 0 rfl) ?_
        refine lv_iload_n hx hb dX5_findKeeping_59 rfl (lv_at hl 1 rfl) ?_
        refine lv_iload_n hx hb dX5_findKeeping_60 rfl (lv_at hl 3 rfl) ?_
        refine th_callVv (n := 2) (As := [.int y1, .int v53_3]) S hK hH hS (th_A.sub (by decide)) (m_X5_serve l D cT T q hq a0 t0 (y1) (iv_w j1 (by decide)) (v53_3) (iv_top _)) gm_1058 gm_1055 gm_1057 gm_35 gm_122 (by decide +kernel) ⟨rfl, rfl, Nat.le_of_ble_eq_true rfl, Nat.le_of_ble_eq_true rfl⟩ t0 kd_7 rfl rfl hl.1 rfl (Nat.le_of_ble_eq_true rfl) dX5_findKeeping_61 ⟨Nat.zero_le _, Nat.zero_le _⟩ (fun H locs hH hS hF1 => ?_)
        refine lv_aload_n hx hb dX5_findKeeping_64 rfl (lv_at hl 0 rfl) ?_
        refine lv_iload_n hx hb dX5_findKeeping_65 rfl (lv_at hl 1 rfl) ?_
        refine lv_iconst (v := 1) hx hb dX5_findKeeping_66 (by decide) ?_
        refine lv_iadd hx hb dX5_findKeeping_67 ?_
        refine lv_topi (fun x4 ex4 => ?_)
        have ix4 : IV x4 3 3 := by rw [ex4]; exact iv_add j1 (iv_c (by decide) : IV 1 1 1) (by decide)
        refine lv_iload_n hx hb dX5_findKeeping_68 rfl (lv_at hl 2 rfl) ?_
        refine lv_iload_n hx hb dX5_findKeeping_69 rfl (lv_at hl 3 rfl) ?_
        refine lv_isub hx hb dX5_findKeeping_70 ?_
        refine lv_topi (fun x5 ex5 => ?_)
        have ix5 : IV x5 (-96) 96 := by rw [ex5]; exact iv_sub j2 ir3 (by decide)
        refine th_callVv (n := 2) (As := [.int x4, .int x5]) S hK hH hS (th_A.sub (by decide)) (m_X5_findKeeping_v1 l D cT T q hq a0 t0 (x4) ix4 (x5) ix5) gm_1071 gm_1068 gm_1070 gm_36 gm_122 (by decide +kernel) ⟨rfl, rfl, Nat.le_of_ble_eq_true rfl, Nat.le_of_ble_eq_true rfl⟩ t0 kd_7 rfl rfl hl.1 rfl (Nat.le_of_ble_eq_true rfl) dX5_findKeeping_71 ⟨Nat.zero_le _, Nat.zero_le _⟩ (fun H locs hH hS hF1 => ?_)
        refine th_iinc S dX5_findKeeping_74 hl (k := 3) rfl (by decide) ir3 (by decide) (fun x6 ls ex6 ix6 hl => ?_)
        have hl : lv_has ls 4 [(3, .int x6), (0, .ref a0), (1, .int y1), (2, .int y2)] := hl
        have ix6 : IV x6 (-47) 49 := ix6
        refine lv_goto (tgt := 53) hx hb dX5_findKeeping_77 (by decide) ?_
        exact ih53 H locs ls x6 (iv_w ix6 (by decide)) hH hS (lv_sub hl [1, 2, 3, 0] rfl) (th_up iv53_3 ex6 (by decide) hn53)
  have J45 : ∀ (H : Heap) (locs : List Loc) (ls : Array Slot), th_H D cT T (kd q) H → va_S (th_A T [7, 18, 19, 29, 34, 38]) s.heap H locs → lv_has ls 4 [] → W p l e (rmk 6 150) s m [.ref a0, .int y1, .int y2].toArray below meth c H locs 0 0 (MQ below (th_Q D cT T (kd q) (th_R T none) [7, 18, 19, 29, 34, 38]) [.ref a0, .int y1, .int y2].toArray s 0 0 (th_A T [7, 18, 19, 29, 34, 38])) (F0 m 45 ls []) := by
    intro H locs ls hH hS hl
    exact th_vret S hK hH hS hr hlocks rfl dX5_findKeeping_45
  have J0 : ∀ (H : Heap) (locs : List Loc) (ls : Array Slot), th_H D cT T (kd q) H → va_S (th_A T [7, 18, 19, 29, 34, 38]) s.heap H locs → lv_has ls 4 [(0, .ref a0), (1, .int y1), (2, .int y2)] → W p l e (rmk 6 150) s m [.ref a0, .int y1, .int y2].toArray below meth c H locs 0 0 (MQ below (th_Q D cT T (kd q) (th_R T none) [7, 18, 19, 29, 34, 38]) [.ref a0, .int y1, .int y2].toArray s 0 0 (th_A T [7, 18, 19, 29, 34, 38])) (F0 m 0 ls []) := by
    intro H locs ls hH hS hl
    refine lv_iload_n hx hb dX5_findKeeping_0 rfl (lv_at hl 1 rfl) ?_
    refine lv_aload_n hx hb dX5_findKeeping_1 rfl (lv_at hl 0 rfl) ?_
    refine th_get S hK hH inG5 t0 kd_7 rfl 0 (by decide) gm_427 rfl rfl dX5_findKeeping_2 (fun v7 hv7 fv7 => ?_)
    obtain ⟨rf8, rfl, trf8⟩ := th_V.ref hv7
    refine th_get S hK hH inG0 trf8 kd_4 rfl 0 (by decide) gm_370 rfl rfl dX5_findKeeping_5 (fun v9 hv9 fv9 => ?_)
    obtain ⟨rf10, rfl, trf10⟩ := th_V.ref hv9
    refine th_get S hK hH inG4 trf10 kd_3 rfl 12 (by decide) gm_281 rfl rfl dX5_findKeeping_8 (fun v11 hv11 fv11 => ?_)
    obtain ⟨x12, rfl, ix12⟩ := th_V.int hv11
    refine lv_icmp_lt (tgt := 46) hx hb dX5_findKeeping_11 (by decide) (fun c13 => ?_) (fun c13 => ?_)
    · skip
      have ir14 : IV x12 3 4 := iv_uR j1 ix12 (iv_lt c13) (by decide)
      refine lv_aload_n hx hb dX5_findKeeping_46 rfl (lv_at hl 0 rfl) ?_
      refine lv_iload_n hx hb dX5_findKeeping_47 rfl (lv_at hl 1 rfl) ?_
      refine lv_iload_n hx hb dX5_findKeeping_48 rfl (lv_at hl 2 rfl) ?_
      refine th_callVi (n := 2) (As := [.int y1, .int y2]) S hK hH hS (th_A.sub (by decide)) (m_X5_leastFor_v2 l D cT T q hq a0 t0 (y1) j1 (y2) j2) gm_1076 gm_1073 gm_1075 gm_37 gm_122 (by decide +kernel) ⟨rfl, rfl, Nat.le_of_ble_eq_true rfl, Nat.le_of_ble_eq_true rfl⟩ t0 kd_7 rfl rfl hl.1 rfl (Nat.le_of_ble_eq_true rfl) dX5_findKeeping_49 ⟨Nat.zero_le _, Nat.zero_le _⟩ (fun x15 H locs ix15 hH hS hF1 => ?_)
      have f16 := fv7.kept (hF1 _ fv7.lt (th_off t0 (by decide)))
      refine lv_istore_n (lv' := [(3, .int x15), (0, .ref a0), (1, .int y1), (2, .int y2)]) hx hb dX5_findKeeping_52 rfl hl (by decide) rfl (fun ls hl => ?_)
      exact J53 ((49 + 1 - Int32.toInt x15).toNat + 1) H locs ls x15 (iv_w ix15 (by decide)) hH hS (lv_sub hl [1, 2, 3, 0] rfl) (Nat.lt_succ_self _)
    · skip
      have ir17 : IV x12 0 2 := iv_vL ix12 j1 (iv_nlt c13) (by decide)
      refine lv_aload_n hx hb dX5_findKeeping_14 rfl (lv_at hl 0 rfl) ?_
      refine th_getK S hK fv7 inG5 rfl (by decide) gm_427 rfl dX5_findKeeping_15 ?_
      refine lv_aload_n hx hb dX5_findKeeping_18 rfl (lv_at hl 0 rfl) ?_
      refine th_get S hK hH inG5 t0 kd_7 rfl 3 (by decide) gm_432 rfl rfl dX5_findKeeping_19 (fun v19 hv19 fv19 => ?_)
      obtain ⟨rf20, rfl, trf20⟩ := th_V.ref hv19
      refine lv_iload_n hx hb dX5_findKeeping_22 rfl (lv_at hl 1 rfl) ?_
      refine th_aald S hK hH trf20 kd_32 (th_in (hi := 2) (iv_w j1 (by decide)) (by decide)) dX5_findKeeping_23 (fun v21 hv21 => ?_)
      obtain ⟨rf22, rfl, trf22⟩ := th_V.ref hv21
      refine th_callVi (n := 1) (As := [.ref rf22]) S hK hH hS (th_A.sub (by decide)) (m_X0_landIn l D cT T q hq rf8 trf8 rf22 trf22) gm_1019 gm_1072 gm_1017 gm_1018 gm_119 (by decide +kernel) ⟨rfl, rfl, Nat.le_of_ble_eq_true rfl, Nat.le_of_ble_eq_true rfl⟩ trf8 kd_4 rfl rfl hl.1 rfl (Nat.le_of_ble_eq_true rfl) dX5_findKeeping_24 ⟨Nat.zero_le _, Nat.zero_le _⟩ (fun x23 H locs ix23 hH hS hF1 => ?_)
      have f24 := fv7.kept (hF1 _ fv7.lt (th_off t0 (by decide)))
      refine lv_istore_n (lv' := [(3, .int x23), (0, .ref a0), (1, .int y1), (2, .int y2)]) hx hb dX5_findKeeping_27 rfl hl (by decide) rfl (fun ls hl => ?_)
      refine lv_iload_n hx hb dX5_findKeeping_28 rfl (lv_at hl 0 rfl) ?_
      refine lv_aload_n hx hb dX5_findKeeping_29 rfl (lv_at hl 1 rfl) ?_
      refine th_get S hK hH inG5 t0 kd_7 rfl 12 (by decide) gm_441 rfl rfl dX5_findKeeping_30 (fun v25 hv25 fv25 => ?_)
      obtain ⟨x26, rfl, ix26⟩ := th_V.int hv25
      refine lv_icmp_le (tgt := 45) hx hb dX5_findKeeping_33 (by decide) (fun c27 => ?_) (fun c27 => ?_)
      · skip
        exact J45 H locs ls  hH hS (lv_sub hl [] rfl)
      · skip
        have ir28 : IV x26 (-2147483648) 2147483646 := iv_uL ix26 ix23 (iv_nle c27) (by decide)
        have ir29 : IV x23 (-2147483647) 2147483647 := iv_uR ix26 ix23 (iv_nle c27) (by decide)
        refine lv_aload_n hx hb dX5_findKeeping_36 rfl (lv_at hl 1 rfl) ?_
        refine lv_iload_n hx hb dX5_findKeeping_37 rfl (lv_at hl 0 rfl) ?_
        refine th_put S hK hH hS ⟨7, by decide, t0⟩ inG5 tyX5 tyX5_ok nmX5 t0 kd_7 rfl 12 (by decide) gm_441 rfl rfl rfl rfl (th_iv (iv_top _)) (fun _ _ => trivial) (ty := .int) (by decide +kernel) rfl rfl dX5_findKeeping_38 (fun H locs hH hS hq1 hp1 => ?_)
        have f30 := hp1.2 0 _ (by decide) (by decide) f24
        have f31 := hp1.1
        refine lv_aload_n hx hb dX5_findKeeping_41 rfl (lv_at hl 1 rfl) ?_
        refine th_callVv (n := 0) (As := []) S hK hH hS (th_A.sub (by decide)) (m_X5_layWay l D cT T q hq a0 t0) gm_1053 gm_1050 gm_1052 gm_34 gm_122 (by decide +kernel) ⟨rfl, rfl, Nat.le_of_ble_eq_true rfl, Nat.le_of_ble_eq_true rfl⟩ t0 kd_7 rfl rfl hl.1 rfl (Nat.le_of_ble_eq_true rfl) dX5_findKeeping_42 ⟨Nat.zero_le _, Nat.zero_le _⟩ (fun H locs hH hS hF1 => ?_)
        exact J45 H locs ls  hH hS (lv_sub hl [] rfl)
  exact J0 s.heap [] ls hH va_S.rf hl

set_option maxRecDepth 100000 in
theorem m_X5_findKeeping_v3 (l : Launch) (D : va_G) (cT : Nat → ClassId) (T : Nat → Option Nat) (q : Nat → Int) (hq : qok q) (a0 : Nat) (t0 : T a0 = some 7) (y1 : Int32) (j1 : IV y1 1 1) (y2 : Int32) (j2 : IV y2 (-24) 24) : th_Met l D cT T (kd q) yX5_findKeeping cX5_findKeeping 4 none (rmk 7 173) [.ref a0, .int y1, .int y2] (th_R T none) [7, 18, 19, 29, 34, 38] := by
  refine th_start (by decide) (Nat.le_of_ble_eq_true rfl) ?_
  intro p e s m below meth c ls S hK hH hr hlocks hnm hl
  have hx := S.1
  have hb := S.2.1
  have hl : lv_has ls 4 [(0, .ref a0), (1, .int y1), (2, .int y2)] := hl
  have J53 : ∀ (n : Nat) (H : Heap) (locs : List Loc) (ls : Array Slot) (v53_3 : Int32), IV v53_3 (-24) 25 → th_H D cT T (kd q) H → va_S (th_A T [7, 18, 19, 29, 34, 38]) s.heap H locs → lv_has ls 4 [(0, .ref a0), (1, .int y1), (2, .int y2), (3, .int v53_3)] → (25 + 1 - v53_3.toInt).toNat < n → W p l e (rmk 7 173) s m [.ref a0, .int y1, .int y2].toArray below meth c H locs 0 0 (MQ below (th_Q D cT T (kd q) (th_R T none) [7, 18, 19, 29, 34, 38]) [.ref a0, .int y1, .int y2].toArray s 0 0 (th_A T [7, 18, 19, 29, 34, 38])) (F0 m 53 ls []) := by
    intro n
    induction n with
    | zero => intro H locs ls v53_3 iv53_3 hH hS hl hn; exact absurd hn (Nat.not_lt_zero _)
    | succ n ih53 =>
      intro H locs ls v53_3 iv53_3 hH hS hl hn53
      refine lv_iload_n hx hb dX5_findKeeping_53 rfl (lv_at hl 3 rfl) ?_
      refine lv_iload_n hx hb dX5_findKeeping_54 rfl (lv_at hl 2 rfl) ?_
      refine lv_icmp_gt (tgt := 80) hx hb dX5_findKeeping_55 (by decide) (fun c1 => ?_) (fun c1 => ?_)
      · skip
        have ir2 : IV v53_3 (-23) 25 := iv_uR j2 iv53_3 (iv_lt c1) (by decide)
        exact th_vret S hK hH hS hr hlocks rfl dX5_findKeeping_80
      · skip
        have ir3 : IV v53_3 (-24) 24 := iv_vL iv53_3 j2 (iv_nlt c1) (by decide)
        refine lv_aload_n hx hb dX5_findKeeping_58 rfl (lv_at hl 0 rfl) ?_
        refine lv_iload_n hx hb dX5_findKeeping_59 rfl (lv_at hl 1 rfl) ?_
        refine lv_iload_n hx hb dX5_findKeeping_60 rfl (lv_at hl 3 rfl) ?_
        refine th_callVv (n := 2) (As := [.int y1, .int v53_3]) S hK hH hS (th_A.sub (by decide)) (m_X5_serve l D cT T q hq a0 t0 (y1) (iv_w j1 (by decide)) (v53_3) (iv_top _)) gm_1058 gm_1055 gm_1057 gm_35 gm_122 (by decide +kernel) ⟨rfl, rfl, Nat.le_of_ble_eq_true rfl, Nat.le_of_ble_eq_true rfl⟩ t0 kd_7 rfl rfl hl.1 rfl (Nat.le_of_ble_eq_true rfl) dX5_findKeeping_61 ⟨Nat.zero_le _, Nat.zero_le _⟩ (fun H locs hH hS hF1 => ?_)
        refine lv_aload_n hx hb dX5_findKeeping_64 rfl (lv_at hl 0 rfl) ?_
        refine lv_iload_n hx hb dX5_findKeeping_65 rfl (lv_at hl 1 rfl) ?_
        refine lv_iconst (v := 1) hx hb dX5_findKeeping_66 (by decide) ?_
        refine lv_iadd hx hb dX5_findKeeping_67 ?_
        refine lv_topi (fun x4 ex4 => ?_)
        have ix4 : IV x4 2 2 := by rw [ex4]; exact iv_add j1 (iv_c (by decide) : IV 1 1 1) (by decide)
        refine lv_iload_n hx hb dX5_findKeeping_68 rfl (lv_at hl 2 rfl) ?_
        refine lv_iload_n hx hb dX5_findKeeping_69 rfl (lv_at hl 3 rfl) ?_
        refine lv_isub hx hb dX5_findKeeping_70 ?_
        refine lv_topi (fun x5 ex5 => ?_)
        have ix5 : IV x5 (-48) 48 := by rw [ex5]; exact iv_sub j2 ir3 (by decide)
        refine th_callVv (n := 2) (As := [.int x4, .int x5]) S hK hH hS (th_A.sub (by decide)) (m_X5_findKeeping_v2 l D cT T q hq a0 t0 (x4) ix4 (x5) ix5) gm_1071 gm_1068 gm_1070 gm_36 gm_122 (by decide +kernel) ⟨rfl, rfl, Nat.le_of_ble_eq_true rfl, Nat.le_of_ble_eq_true rfl⟩ t0 kd_7 rfl rfl hl.1 rfl (Nat.le_of_ble_eq_true rfl) dX5_findKeeping_71 ⟨Nat.zero_le _, Nat.zero_le _⟩ (fun H locs hH hS hF1 => ?_)
        refine th_iinc S dX5_findKeeping_74 hl (k := 3) rfl (by decide) ir3 (by decide) (fun x6 ls ex6 ix6 hl => ?_)
        have hl : lv_has ls 4 [(3, .int x6), (0, .ref a0), (1, .int y1), (2, .int y2)] := hl
        have ix6 : IV x6 (-23) 25 := ix6
        refine lv_goto (tgt := 53) hx hb dX5_findKeeping_77 (by decide) ?_
        exact ih53 H locs ls x6 (iv_w ix6 (by decide)) hH hS (lv_sub hl [1, 2, 3, 0] rfl) (th_up iv53_3 ex6 (by decide) hn53)
  have J45 : ∀ (H : Heap) (locs : List Loc) (ls : Array Slot), th_H D cT T (kd q) H → va_S (th_A T [7, 18, 19, 29, 34, 38]) s.heap H locs → lv_has ls 4 [] → W p l e (rmk 7 173) s m [.ref a0, .int y1, .int y2].toArray below meth c H locs 0 0 (MQ below (th_Q D cT T (kd q) (th_R T none) [7, 18, 19, 29, 34, 38]) [.ref a0, .int y1, .int y2].toArray s 0 0 (th_A T [7, 18, 19, 29, 34, 38])) (F0 m 45 ls []) := by
    intro H locs ls hH hS hl
    exact th_vret S hK hH hS hr hlocks rfl dX5_findKeeping_45
  have J0 : ∀ (H : Heap) (locs : List Loc) (ls : Array Slot), th_H D cT T (kd q) H → va_S (th_A T [7, 18, 19, 29, 34, 38]) s.heap H locs → lv_has ls 4 [(0, .ref a0), (1, .int y1), (2, .int y2)] → W p l e (rmk 7 173) s m [.ref a0, .int y1, .int y2].toArray below meth c H locs 0 0 (MQ below (th_Q D cT T (kd q) (th_R T none) [7, 18, 19, 29, 34, 38]) [.ref a0, .int y1, .int y2].toArray s 0 0 (th_A T [7, 18, 19, 29, 34, 38])) (F0 m 0 ls []) := by
    intro H locs ls hH hS hl
    refine lv_iload_n hx hb dX5_findKeeping_0 rfl (lv_at hl 1 rfl) ?_
    refine lv_aload_n hx hb dX5_findKeeping_1 rfl (lv_at hl 0 rfl) ?_
    refine th_get S hK hH inG5 t0 kd_7 rfl 0 (by decide) gm_427 rfl rfl dX5_findKeeping_2 (fun v7 hv7 fv7 => ?_)
    obtain ⟨rf8, rfl, trf8⟩ := th_V.ref hv7
    refine th_get S hK hH inG0 trf8 kd_4 rfl 0 (by decide) gm_370 rfl rfl dX5_findKeeping_5 (fun v9 hv9 fv9 => ?_)
    obtain ⟨rf10, rfl, trf10⟩ := th_V.ref hv9
    refine th_get S hK hH inG4 trf10 kd_3 rfl 12 (by decide) gm_281 rfl rfl dX5_findKeeping_8 (fun v11 hv11 fv11 => ?_)
    obtain ⟨x12, rfl, ix12⟩ := th_V.int hv11
    refine lv_icmp_lt (tgt := 46) hx hb dX5_findKeeping_11 (by decide) (fun c13 => ?_) (fun c13 => ?_)
    · skip
      have ir14 : IV x12 2 4 := iv_uR j1 ix12 (iv_lt c13) (by decide)
      refine lv_aload_n hx hb dX5_findKeeping_46 rfl (lv_at hl 0 rfl) ?_
      refine lv_iload_n hx hb dX5_findKeeping_47 rfl (lv_at hl 1 rfl) ?_
      refine lv_iload_n hx hb dX5_findKeeping_48 rfl (lv_at hl 2 rfl) ?_
      refine th_callVi (n := 2) (As := [.int y1, .int y2]) S hK hH hS (th_A.sub (by decide)) (m_X5_leastFor_v1 l D cT T q hq a0 t0 (y1) j1 (y2) j2) gm_1076 gm_1073 gm_1075 gm_37 gm_122 (by decide +kernel) ⟨rfl, rfl, Nat.le_of_ble_eq_true rfl, Nat.le_of_ble_eq_true rfl⟩ t0 kd_7 rfl rfl hl.1 rfl (Nat.le_of_ble_eq_true rfl) dX5_findKeeping_49 ⟨Nat.zero_le _, Nat.zero_le _⟩ (fun x15 H locs ix15 hH hS hF1 => ?_)
      have f16 := fv7.kept (hF1 _ fv7.lt (th_off t0 (by decide)))
      refine lv_istore_n (lv' := [(3, .int x15), (0, .ref a0), (1, .int y1), (2, .int y2)]) hx hb dX5_findKeeping_52 rfl hl (by decide) rfl (fun ls hl => ?_)
      exact J53 ((25 + 1 - Int32.toInt x15).toNat + 1) H locs ls x15 (iv_w ix15 (by decide)) hH hS (lv_sub hl [1, 2, 3, 0] rfl) (Nat.lt_succ_self _)
    · skip
      have ir17 : IV x12 0 1 := iv_vL ix12 j1 (iv_nlt c13) (by decide)
      refine lv_aload_n hx hb dX5_findKeeping_14 rfl (lv_at hl 0 rfl) ?_
      refine th_getK S hK fv7 inG5 rfl (by decide) gm_427 rfl dX5_findKeeping_15 ?_
      refine lv_aload_n hx hb dX5_findKeeping_18 rfl (lv_at hl 0 rfl) ?_
      refine th_get S hK hH inG5 t0 kd_7 rfl 3 (by decide) gm_432 rfl rfl dX5_findKeeping_19 (fun v19 hv19 fv19 => ?_)
      obtain ⟨rf20, rfl, trf20⟩ := th_V.ref hv19
      refine lv_iload_n hx hb dX5_findKeeping_22 rfl (lv_at hl 1 rfl) ?_
      refine th_aald S hK hH trf20 kd_32 (th_in (hi := 1) (iv_w j1 (by decide)) (by decide)) dX5_findKeeping_23 (fun v21 hv21 => ?_)
      obtain ⟨rf22, rfl, trf22⟩ := th_V.ref hv21
      refine th_callVi (n := 1) (As := [.ref rf22]) S hK hH hS (th_A.sub (by decide)) (m_X0_landIn l D cT T q hq rf8 trf8 rf22 trf22) gm_1019 gm_1072 gm_1017 gm_1018 gm_119 (by decide +kernel) ⟨rfl, rfl, Nat.le_of_ble_eq_true rfl, Nat.le_of_ble_eq_true rfl⟩ trf8 kd_4 rfl rfl hl.1 rfl (Nat.le_of_ble_eq_true rfl) dX5_findKeeping_24 ⟨Nat.zero_le _, Nat.zero_le _⟩ (fun x23 H locs ix23 hH hS hF1 => ?_)
      have f24 := fv7.kept (hF1 _ fv7.lt (th_off t0 (by decide)))
      refine lv_istore_n (lv' := [(3, .int x23), (0, .ref a0), (1, .int y1), (2, .int y2)]) hx hb dX5_findKeeping_27 rfl hl (by decide) rfl (fun ls hl => ?_)
      refine lv_iload_n hx hb dX5_findKeeping_28 rfl (lv_at hl 0 rfl) ?_
      refine lv_aload_n hx hb dX5_findKeeping_29 rfl (lv_at hl 1 rfl) ?_
      refine th_get S hK hH inG5 t0 kd_7 rfl 12 (by decide) gm_441 rfl rfl dX5_findKeeping_30 (fun v25 hv25 fv25 => ?_)
      obtain ⟨x26, rfl, ix26⟩ := th_V.int hv25
      refine lv_icmp_le (tgt := 45) hx hb dX5_findKeeping_33 (by decide) (fun c27 => ?_) (fun c27 => ?_)
      · skip
        exact J45 H locs ls  hH hS (lv_sub hl [] rfl)
      · skip
        have ir28 : IV x26 (-2147483648) 2147483646 := iv_uL ix26 ix23 (iv_nle c27) (by decide)
        have ir29 : IV x23 (-2147483647) 2147483647 := iv_uR ix26 ix23 (iv_nle c27) (by decide)
        refine lv_aload_n hx hb dX5_findKeeping_36 rfl (lv_at hl 1 rfl) ?_
        refine lv_iload_n hx hb dX5_findKeeping_37 rfl (lv_at hl 0 rfl) ?_
        refine th_put S hK hH hS ⟨7, by decide, t0⟩ inG5 tyX5 tyX5_ok nmX5 t0 kd_7 rfl 12 (by decide) gm_441 rfl rfl rfl rfl (th_iv (iv_top _)) (fun _ _ => trivial) (ty := .int) (by decide +kernel) rfl rfl dX5_findKeeping_38 (fun H locs hH hS hq1 hp1 => ?_)
        have f30 := hp1.2 0 _ (by decide) (by decide) f24
        have f31 := hp1.1
        refine lv_aload_n hx hb dX5_findKeeping_41 rfl (lv_at hl 1 rfl) ?_
        refine th_callVv (n := 0) (As := []) S hK hH hS (th_A.sub (by decide)) (m_X5_layWay l D cT T q hq a0 t0) gm_1053 gm_1050 gm_1052 gm_34 gm_122 (by decide +kernel) ⟨rfl, rfl, Nat.le_of_ble_eq_true rfl, Nat.le_of_ble_eq_true rfl⟩ t0 kd_7 rfl rfl hl.1 rfl (Nat.le_of_ble_eq_true rfl) dX5_findKeeping_42 ⟨Nat.zero_le _, Nat.zero_le _⟩ (fun H locs hH hS hF1 => ?_)
        exact J45 H locs ls  hH hS (lv_sub hl [] rfl)
  exact J0 s.heap [] ls hH va_S.rf hl

set_option maxRecDepth 100000 in
theorem m_X5_findKeeping_v4 (l : Launch) (D : va_G) (cT : Nat → ClassId) (T : Nat → Option Nat) (q : Nat → Int) (hq : qok q) (a0 : Nat) (t0 : T a0 = some 7) (y1 : Int32) (j1 : IV y1 0 0) (y2 : Int32) (j2 : IV y2 0 12) : th_Met l D cT T (kd q) yX5_findKeeping cX5_findKeeping 4 none (rmk 8 196) [.ref a0, .int y1, .int y2] (th_R T none) [7, 18, 19, 29, 34, 38] := by
  refine th_start (by decide) (Nat.le_of_ble_eq_true rfl) ?_
  intro p e s m below meth c ls S hK hH hr hlocks hnm hl
  have hx := S.1
  have hb := S.2.1
  have hl : lv_has ls 4 [(0, .ref a0), (1, .int y1), (2, .int y2)] := hl
  have J53 : ∀ (n : Nat) (H : Heap) (locs : List Loc) (ls : Array Slot) (v53_3 : Int32), IV v53_3 0 13 → th_H D cT T (kd q) H → va_S (th_A T [7, 18, 19, 29, 34, 38]) s.heap H locs → lv_has ls 4 [(0, .ref a0), (1, .int y1), (2, .int y2), (3, .int v53_3)] → (13 + 1 - v53_3.toInt).toNat < n → W p l e (rmk 8 196) s m [.ref a0, .int y1, .int y2].toArray below meth c H locs 0 0 (MQ below (th_Q D cT T (kd q) (th_R T none) [7, 18, 19, 29, 34, 38]) [.ref a0, .int y1, .int y2].toArray s 0 0 (th_A T [7, 18, 19, 29, 34, 38])) (F0 m 53 ls []) := by
    intro n
    induction n with
    | zero => intro H locs ls v53_3 iv53_3 hH hS hl hn; exact absurd hn (Nat.not_lt_zero _)
    | succ n ih53 =>
      intro H locs ls v53_3 iv53_3 hH hS hl hn53
      refine lv_iload_n hx hb dX5_findKeeping_53 rfl (lv_at hl 3 rfl) ?_
      refine lv_iload_n hx hb dX5_findKeeping_54 rfl (lv_at hl 2 rfl) ?_
      refine lv_icmp_gt (tgt := 80) hx hb dX5_findKeeping_55 (by decide) (fun c1 => ?_) (fun c1 => ?_)
      · skip
        have ir2 : IV v53_3 1 13 := iv_uR j2 iv53_3 (iv_lt c1) (by decide)
        exact th_vret S hK hH hS hr hlocks rfl dX5_findKeeping_80
      · skip
        have ir3 : IV v53_3 0 12 := iv_vL iv53_3 j2 (iv_nlt c1) (by decide)
        refine lv_aload_n hx hb dX5_findKeeping_58 rfl (lv_at hl 0 rfl) ?_
        refine lv_iload_n hx hb dX5_findKeeping_59 rfl (lv_at hl 1 rfl) ?_
        refine lv_iload_n hx hb dX5_findKeeping_60 rfl (lv_at hl 3 rfl) ?_
        refine th_callVv (n := 2) (As := [.int y1, .int v53_3]) S hK hH hS (th_A.sub (by decide)) (m_X5_serve l D cT T q hq a0 t0 (y1) (iv_w j1 (by decide)) (v53_3) (iv_top _)) gm_1058 gm_1055 gm_1057 gm_35 gm_122 (by decide +kernel) ⟨rfl, rfl, Nat.le_of_ble_eq_true rfl, Nat.le_of_ble_eq_true rfl⟩ t0 kd_7 rfl rfl hl.1 rfl (Nat.le_of_ble_eq_true rfl) dX5_findKeeping_61 ⟨Nat.zero_le _, Nat.zero_le _⟩ (fun H locs hH hS hF1 => ?_)
        refine lv_aload_n hx hb dX5_findKeeping_64 rfl (lv_at hl 0 rfl) ?_
        refine lv_iload_n hx hb dX5_findKeeping_65 rfl (lv_at hl 1 rfl) ?_
        refine lv_iconst (v := 1) hx hb dX5_findKeeping_66 (by decide) ?_
        refine lv_iadd hx hb dX5_findKeeping_67 ?_
        refine lv_topi (fun x4 ex4 => ?_)
        have ix4 : IV x4 1 1 := by rw [ex4]; exact iv_add j1 (iv_c (by decide) : IV 1 1 1) (by decide)
        refine lv_iload_n hx hb dX5_findKeeping_68 rfl (lv_at hl 2 rfl) ?_
        refine lv_iload_n hx hb dX5_findKeeping_69 rfl (lv_at hl 3 rfl) ?_
        refine lv_isub hx hb dX5_findKeeping_70 ?_
        refine lv_topi (fun x5 ex5 => ?_)
        have ix5 : IV x5 (-12) 12 := by rw [ex5]; exact iv_sub j2 ir3 (by decide)
        refine th_callVv (n := 2) (As := [.int x4, .int x5]) S hK hH hS (th_A.sub (by decide)) (m_X5_findKeeping_v3 l D cT T q hq a0 t0 (x4) ix4 (x5) (iv_w ix5 (by decide))) gm_1071 gm_1068 gm_1070 gm_36 gm_122 (by decide +kernel) ⟨rfl, rfl, Nat.le_of_ble_eq_true rfl, Nat.le_of_ble_eq_true rfl⟩ t0 kd_7 rfl rfl hl.1 rfl (Nat.le_of_ble_eq_true rfl) dX5_findKeeping_71 ⟨Nat.zero_le _, Nat.zero_le _⟩ (fun H locs hH hS hF1 => ?_)
        refine th_iinc S dX5_findKeeping_74 hl (k := 3) rfl (by decide) ir3 (by decide) (fun x6 ls ex6 ix6 hl => ?_)
        have hl : lv_has ls 4 [(3, .int x6), (0, .ref a0), (1, .int y1), (2, .int y2)] := hl
        have ix6 : IV x6 1 13 := ix6
        refine lv_goto (tgt := 53) hx hb dX5_findKeeping_77 (by decide) ?_
        exact ih53 H locs ls x6 (iv_w ix6 (by decide)) hH hS (lv_sub hl [1, 2, 3, 0] rfl) (th_up iv53_3 ex6 (by decide) hn53)
  have J45 : ∀ (H : Heap) (locs : List Loc) (ls : Array Slot), th_H D cT T (kd q) H → va_S (th_A T [7, 18, 19, 29, 34, 38]) s.heap H locs → lv_has ls 4 [] → W p l e (rmk 8 196) s m [.ref a0, .int y1, .int y2].toArray below meth c H locs 0 0 (MQ below (th_Q D cT T (kd q) (th_R T none) [7, 18, 19, 29, 34, 38]) [.ref a0, .int y1, .int y2].toArray s 0 0 (th_A T [7, 18, 19, 29, 34, 38])) (F0 m 45 ls []) := by
    intro H locs ls hH hS hl
    exact th_vret S hK hH hS hr hlocks rfl dX5_findKeeping_45
  have J0 : ∀ (H : Heap) (locs : List Loc) (ls : Array Slot), th_H D cT T (kd q) H → va_S (th_A T [7, 18, 19, 29, 34, 38]) s.heap H locs → lv_has ls 4 [(0, .ref a0), (1, .int y1), (2, .int y2)] → W p l e (rmk 8 196) s m [.ref a0, .int y1, .int y2].toArray below meth c H locs 0 0 (MQ below (th_Q D cT T (kd q) (th_R T none) [7, 18, 19, 29, 34, 38]) [.ref a0, .int y1, .int y2].toArray s 0 0 (th_A T [7, 18, 19, 29, 34, 38])) (F0 m 0 ls []) := by
    intro H locs ls hH hS hl
    refine lv_iload_n hx hb dX5_findKeeping_0 rfl (lv_at hl 1 rfl) ?_
    refine lv_aload_n hx hb dX5_findKeeping_1 rfl (lv_at hl 0 rfl) ?_
    refine th_get S hK hH inG5 t0 kd_7 rfl 0 (by decide) gm_427 rfl rfl dX5_findKeeping_2 (fun v7 hv7 fv7 => ?_)
    obtain ⟨rf8, rfl, trf8⟩ := th_V.ref hv7
    refine th_get S hK hH inG0 trf8 kd_4 rfl 0 (by decide) gm_370 rfl rfl dX5_findKeeping_5 (fun v9 hv9 fv9 => ?_)
    obtain ⟨rf10, rfl, trf10⟩ := th_V.ref hv9
    refine th_get S hK hH inG4 trf10 kd_3 rfl 12 (by decide) gm_281 rfl rfl dX5_findKeeping_8 (fun v11 hv11 fv11 => ?_)
    obtain ⟨x12, rfl, ix12⟩ := th_V.int hv11
    refine lv_icmp_lt (tgt := 46) hx hb dX5_findKeeping_11 (by decide) (fun c13 => ?_) (fun c13 => ?_)
    · skip
      have ir14 : IV x12 1 4 := iv_uR j1 ix12 (iv_lt c13) (by decide)
      refine lv_aload_n hx hb dX5_findKeeping_46 rfl (lv_at hl 0 rfl) ?_
      refine lv_iload_n hx hb dX5_findKeeping_47 rfl (lv_at hl 1 rfl) ?_
      refine lv_iload_n hx hb dX5_findKeeping_48 rfl (lv_at hl 2 rfl) ?_
      refine th_callVi (n := 2) (As := [.int y1, .int y2]) S hK hH hS (th_A.sub (by decide)) (m_X5_leastFor_v0 l D cT T q hq a0 t0 (y1) j1 (y2) j2) gm_1076 gm_1073 gm_1075 gm_37 gm_122 (by decide +kernel) ⟨rfl, rfl, Nat.le_of_ble_eq_true rfl, Nat.le_of_ble_eq_true rfl⟩ t0 kd_7 rfl rfl hl.1 rfl (Nat.le_of_ble_eq_true rfl) dX5_findKeeping_49 ⟨Nat.zero_le _, Nat.zero_le _⟩ (fun x15 H locs ix15 hH hS hF1 => ?_)
      have f16 := fv7.kept (hF1 _ fv7.lt (th_off t0 (by decide)))
      refine lv_istore_n (lv' := [(3, .int x15), (0, .ref a0), (1, .int y1), (2, .int y2)]) hx hb dX5_findKeeping_52 rfl hl (by decide) rfl (fun ls hl => ?_)
      exact J53 ((13 + 1 - Int32.toInt x15).toNat + 1) H locs ls x15 (iv_w ix15 (by decide)) hH hS (lv_sub hl [1, 2, 3, 0] rfl) (Nat.lt_succ_self _)
    · skip
      have ir17 : IV x12 0 0 := iv_vL ix12 j1 (iv_nlt c13) (by decide)
      refine lv_aload_n hx hb dX5_findKeeping_14 rfl (lv_at hl 0 rfl) ?_
      refine th_getK S hK fv7 inG5 rfl (by decide) gm_427 rfl dX5_findKeeping_15 ?_
      refine lv_aload_n hx hb dX5_findKeeping_18 rfl (lv_at hl 0 rfl) ?_
      refine th_get S hK hH inG5 t0 kd_7 rfl 3 (by decide) gm_432 rfl rfl dX5_findKeeping_19 (fun v19 hv19 fv19 => ?_)
      obtain ⟨rf20, rfl, trf20⟩ := th_V.ref hv19
      refine lv_iload_n hx hb dX5_findKeeping_22 rfl (lv_at hl 1 rfl) ?_
      refine th_aald S hK hH trf20 kd_32 (th_in (hi := 0) j1 (by decide)) dX5_findKeeping_23 (fun v21 hv21 => ?_)
      obtain ⟨rf22, rfl, trf22⟩ := th_V.ref hv21
      refine th_callVi (n := 1) (As := [.ref rf22]) S hK hH hS (th_A.sub (by decide)) (m_X0_landIn l D cT T q hq rf8 trf8 rf22 trf22) gm_1019 gm_1072 gm_1017 gm_1018 gm_119 (by decide +kernel) ⟨rfl, rfl, Nat.le_of_ble_eq_true rfl, Nat.le_of_ble_eq_true rfl⟩ trf8 kd_4 rfl rfl hl.1 rfl (Nat.le_of_ble_eq_true rfl) dX5_findKeeping_24 ⟨Nat.zero_le _, Nat.zero_le _⟩ (fun x23 H locs ix23 hH hS hF1 => ?_)
      have f24 := fv7.kept (hF1 _ fv7.lt (th_off t0 (by decide)))
      refine lv_istore_n (lv' := [(3, .int x23), (0, .ref a0), (1, .int y1), (2, .int y2)]) hx hb dX5_findKeeping_27 rfl hl (by decide) rfl (fun ls hl => ?_)
      refine lv_iload_n hx hb dX5_findKeeping_28 rfl (lv_at hl 0 rfl) ?_
      refine lv_aload_n hx hb dX5_findKeeping_29 rfl (lv_at hl 1 rfl) ?_
      refine th_get S hK hH inG5 t0 kd_7 rfl 12 (by decide) gm_441 rfl rfl dX5_findKeeping_30 (fun v25 hv25 fv25 => ?_)
      obtain ⟨x26, rfl, ix26⟩ := th_V.int hv25
      refine lv_icmp_le (tgt := 45) hx hb dX5_findKeeping_33 (by decide) (fun c27 => ?_) (fun c27 => ?_)
      · skip
        exact J45 H locs ls  hH hS (lv_sub hl [] rfl)
      · skip
        have ir28 : IV x26 (-2147483648) 2147483646 := iv_uL ix26 ix23 (iv_nle c27) (by decide)
        have ir29 : IV x23 (-2147483647) 2147483647 := iv_uR ix26 ix23 (iv_nle c27) (by decide)
        refine lv_aload_n hx hb dX5_findKeeping_36 rfl (lv_at hl 1 rfl) ?_
        refine lv_iload_n hx hb dX5_findKeeping_37 rfl (lv_at hl 0 rfl) ?_
        refine th_put S hK hH hS ⟨7, by decide, t0⟩ inG5 tyX5 tyX5_ok nmX5 t0 kd_7 rfl 12 (by decide) gm_441 rfl rfl rfl rfl (th_iv (iv_top _)) (fun _ _ => trivial) (ty := .int) (by decide +kernel) rfl rfl dX5_findKeeping_38 (fun H locs hH hS hq1 hp1 => ?_)
        have f30 := hp1.2 0 _ (by decide) (by decide) f24
        have f31 := hp1.1
        refine lv_aload_n hx hb dX5_findKeeping_41 rfl (lv_at hl 1 rfl) ?_
        refine th_callVv (n := 0) (As := []) S hK hH hS (th_A.sub (by decide)) (m_X5_layWay l D cT T q hq a0 t0) gm_1053 gm_1050 gm_1052 gm_34 gm_122 (by decide +kernel) ⟨rfl, rfl, Nat.le_of_ble_eq_true rfl, Nat.le_of_ble_eq_true rfl⟩ t0 kd_7 rfl rfl hl.1 rfl (Nat.le_of_ble_eq_true rfl) dX5_findKeeping_42 ⟨Nat.zero_le _, Nat.zero_le _⟩ (fun H locs hH hS hF1 => ?_)
        exact J45 H locs ls  hH hS (lv_sub hl [] rfl)
  exact J0 s.heap [] ls hH va_S.rf hl

set_option maxRecDepth 100000 in
theorem m_X5_mostKept (l : Launch) (D : va_G) (cT : Nat → ClassId) (T : Nat → Option Nat) (q : Nat → Int) (hq : qok q) (a0 : Nat) (t0 : T a0 = some 7) (a1 : Nat) (t1 : T a1 = some 10) (y2 : Int32) (j2 : IV y2 0 2) (y3 : Int32) (j3 : IV y3 0 12) : th_Met l D cT T (kd q) yX5_mostKept cX5_mostKept 4 (some .int) (rmk 9 219) [.ref a0, .ref a1, .int y2, .int y3] (th_R T (some (.inl (-2147483648, 2147483647)))) [7, 18, 19, 29, 34, 35, 38] := by
  refine th_start (by decide) (Nat.le_of_ble_eq_true rfl) ?_
  intro p e s m below meth c ls S hK hH hr hlocks hnm hl
  have hx := S.1
  have hb := S.2.1
  have hl : lv_has ls 4 [(0, .ref a0), (1, .ref a1), (2, .int y2), (3, .int y3)] := hl
  have J0 : ∀ (H : Heap) (locs : List Loc) (ls : Array Slot), th_H D cT T (kd q) H → va_S (th_A T [7, 18, 19, 29, 34, 35, 38]) s.heap H locs → lv_has ls 4 [(0, .ref a0), (1, .ref a1), (2, .int y2), (3, .int y3)] → W p l e (rmk 9 219) s m [.ref a0, .ref a1, .int y2, .int y3].toArray below meth c H locs 0 0 (MQ below (th_Q D cT T (kd q) (th_R T (some (.inl (-2147483648, 2147483647)))) [7, 18, 19, 29, 34, 35, 38]) [.ref a0, .ref a1, .int y2, .int y3].toArray s 0 0 (th_A T [7, 18, 19, 29, 34, 35, 38])) (F0 m 0 ls []) := by
    intro H locs ls hH hS hl
    refine lv_aload_n hx hb dX5_mostKept_0 rfl (lv_at hl 0 rfl) ?_
    refine lv_aload_n hx hb dX5_mostKept_1 rfl (lv_at hl 1 rfl) ?_
    refine lv_iload_n hx hb dX5_mostKept_2 rfl (lv_at hl 2 rfl) ?_
    refine th_callVv (n := 2) (As := [.ref a1, .int y2]) S hK hH hS (th_A.sub (by decide)) (m_X5_prepare l D cT T q hq a0 t0 a1 t1 (y2) j2) gm_1031 gm_1028 gm_1030 gm_30 gm_122 (by decide +kernel) ⟨rfl, rfl, Nat.le_of_ble_eq_true rfl, Nat.le_of_ble_eq_true rfl⟩ t0 kd_7 rfl rfl hl.1 rfl (Nat.le_of_ble_eq_true rfl) dX5_mostKept_3 ⟨Nat.zero_le _, Nat.zero_le _⟩ (fun H locs hH hS hF1 => ?_)
    refine lv_aload_n hx hb dX5_mostKept_6 rfl (lv_at hl 0 rfl) ?_
    refine lv_iconst (v := (-1)) hx hb dX5_mostKept_7 (by decide) ?_
    refine th_put S hK hH hS ⟨7, by decide, t0⟩ inG5 tyX5 tyX5_ok nmX5 t0 kd_7 rfl 12 (by decide) gm_441 rfl rfl rfl rfl (th_iv (iv_top _)) (fun _ _ => trivial) (ty := .int) (by decide +kernel) rfl rfl dX5_mostKept_8 (fun H locs hH hS hq1 hp1 => ?_)
    have f1 := hp1.1
    refine lv_aload_n hx hb dX5_mostKept_11 rfl (lv_at hl 0 rfl) ?_
    refine lv_iconst (v := 0) hx hb dX5_mostKept_12 (by decide) ?_
    refine lv_iload_n hx hb dX5_mostKept_13 rfl (lv_at hl 3 rfl) ?_
    refine th_callVv (n := 2) (As := [.int 0, .int y3]) S hK hH hS (th_A.sub (by decide)) (m_X5_findKeeping_v4 l D cT T q hq a0 t0 (0) (iv_c (by decide) : IV 0 0 0) (y3) j3) gm_1071 gm_1068 gm_1070 gm_36 gm_122 (by decide +kernel) ⟨rfl, rfl, Nat.le_of_ble_eq_true rfl, Nat.le_of_ble_eq_true rfl⟩ t0 kd_7 rfl rfl hl.1 rfl (Nat.le_of_ble_eq_true rfl) dX5_mostKept_14 ⟨Nat.zero_le _, Nat.zero_le _⟩ (fun H locs hH hS hF1 => ?_)
    refine lv_aload_n hx hb dX5_mostKept_17 rfl (lv_at hl 0 rfl) ?_
    refine th_get S hK hH inG5 t0 kd_7 rfl 12 (by decide) gm_441 rfl rfl dX5_mostKept_18 (fun v2 hv2 fv2 => ?_)
    obtain ⟨x3, rfl, ix3⟩ := th_V.int hv2
    exact th_iret S hK hH hS hr hlocks (th_R.i ix3) dX5_mostKept_21
  exact J0 s.heap [] ls hH va_S.rf hl

set_option maxRecDepth 100000 in
theorem m_X5_spell (l : Launch) (D : va_G) (cT : Nat → ClassId) (T : Nat → Option Nat) (q : Nat → Int) (hq : qok q) (a0 : Nat) (t0 : T a0 = some 7) (y1 : Int32) (j1 : IV y1 (-2147483648) 2147483647) (y2 : Int32) (j2 : IV y2 1 4) (a3 : Nat) (t3 : T a3 = some 38) : th_Met l D cT T (kd q) yX5_spell cX5_spell 6 none (rmk 0 0) [.ref a0, .int y1, .int y2, .ref a3] (th_R T none) [38] := by
  refine th_start (by decide) (Nat.le_of_ble_eq_true rfl) ?_
  intro p e s m below meth c ls S hK hH hr hlocks hnm hl
  have hx := S.1
  have hb := S.2.1
  have hl : lv_has ls 6 [(0, .ref a0), (1, .int y1), (2, .int y2), (3, .ref a3)] := hl
  have J46 : ∀ (H : Heap) (locs : List Loc) (ls : Array Slot), th_H D cT T (kd q) H → va_S (th_A T [38]) s.heap H locs → lv_has ls 6 [] → W p l e (rmk 0 0) s m [.ref a0, .int y1, .int y2, .ref a3].toArray below meth c H locs 0 0 (MQ below (th_Q D cT T (kd q) (th_R T none) [38]) [.ref a0, .int y1, .int y2, .ref a3].toArray s 0 0 (th_A T [38])) (F0 m 46 ls []) := by
    intro H locs ls hH hS hl
    exact th_vret S hK hH hS hr hlocks rfl dX5_spell_46
  have J17 : ∀ (n : Nat) (H : Heap) (locs : List Loc) (ls : Array Slot) (v17_4 : Int32) (v17_5 : Int32), IV v17_4 (-2147483648) 2147483647 → IV v17_5 (-1) 3 → th_H D cT T (kd q) H → va_S (th_A T [38]) s.heap H locs → lv_has ls 6 [(2, .int y2), (3, .ref a3), (4, .int v17_4), (5, .int v17_5)] → (v17_5.toInt + 1 - (-1)).toNat < n → W p l e (rmk 0 0) s m [.ref a0, .int y1, .int y2, .ref a3].toArray below meth c H locs 0 0 (MQ below (th_Q D cT T (kd q) (th_R T none) [38]) [.ref a0, .int y1, .int y2, .ref a3].toArray s 0 0 (th_A T [38])) (F0 m 17 ls []) := by
    intro n
    induction n with
    | zero => intro H locs ls v17_4 v17_5 iv17_4 iv17_5 hH hS hl hn; exact absurd hn (Nat.not_lt_zero _)
    | succ n ih17 =>
      intro H locs ls v17_4 v17_5 iv17_4 iv17_5 hH hS hl hn17
      refine lv_iload hx hb dX5_spell_17 (lv_at hl 3 rfl) ?_
      refine lv_if_lt (tgt := 46) hx hb dX5_spell_19 (by decide) (fun c1 => ?_) (fun c1 => ?_)
      · skip
        have ir2 : IV v17_5 (-1) (-1) := iv_uL iv17_5 (iv_c (by decide) : IV 0 0 0) (iv_lt c1) (by decide)
        exact J46 H locs ls  hH hS (lv_sub hl [] rfl)
      · skip
        have ir3 : IV v17_5 0 3 := iv_vR (iv_c (by decide) : IV 0 0 0) iv17_5 (iv_nlt c1) (by decide)
        refine lv_iload_n hx hb dX5_spell_22 rfl (lv_at hl 0 rfl) ?_
        refine lv_if_le (tgt := 46) hx hb dX5_spell_23 (by decide) (fun c4 => ?_) (fun c4 => ?_)
        · skip
          exfalso
          have z1 := iv_le c4
          have z2 := ((iv_c (by decide) : IV 0 0 0)).1
          have z3 := ((iv_c (by decide) : IV 0 0 0)).2
          have z4 := (j2).1
          have z5 := (j2).2
          omega
        · skip
          refine lv_aload_n hx hb dX5_spell_26 rfl (lv_at hl 1 rfl) ?_
          refine lv_iload hx hb dX5_spell_27 (lv_at hl 3 rfl) ?_
          refine lv_iload hx hb dX5_spell_29 (lv_at hl 2 rfl) ?_
          refine lv_iload_n hx hb dX5_spell_31 rfl (lv_at hl 0 rfl) ?_
          refine lv_irem hx hb dX5_spell_32 (iv_n0 j2 (by decide)) ?_
          refine lv_topi (fun x5 ex5 => ?_)
          have ix5 : IV x5 (-3) 3 := by rw [ex5]; exact iv_rmS j2 (by decide)
          refine th_iast S hK hH hS ⟨38, by decide, t3⟩ t3 kd_38 (th_in (hi := 3) ir3 (by decide)) (th_iv (iv_top _)) dX5_spell_33 (fun H locs hH hS hq1 => ?_)
          refine lv_iload hx hb dX5_spell_34 (lv_at hl 2 rfl) ?_
          refine lv_iload_n hx hb dX5_spell_36 rfl (lv_at hl 0 rfl) ?_
          refine lv_idiv hx hb dX5_spell_37 (iv_n0 j2 (by decide)) ?_
          refine lv_topi (fun x6 ex6 => ?_)
          have ix6 := iv_top x6
          refine lv_istore (lv' := [(4, .int x6), (2, .int y2), (3, .ref a3), (5, .int v17_5)]) hx hb dX5_spell_38 hl (by decide) rfl (fun ls hl => ?_)
          refine th_iinc S dX5_spell_40 hl (k := 3) rfl (by decide) ir3 (by decide) (fun x7 ls ex7 ix7 hl => ?_)
          have hl : lv_has ls 6 [(5, .int x7), (4, .int x6), (2, .int y2), (3, .ref a3)] := hl
          have ix7 : IV x7 (-1) 2 := ix7
          refine lv_goto (tgt := 17) hx hb dX5_spell_43 (by decide) ?_
          exact ih17 H locs ls x6 x7 ix6 (iv_w ix7 (by decide)) hH hS (lv_sub hl [2, 3, 1, 0] rfl) (th_down iv17_5 ex7 (by decide) hn17)
  have J0 : ∀ (H : Heap) (locs : List Loc) (ls : Array Slot), th_H D cT T (kd q) H → va_S (th_A T [38]) s.heap H locs → lv_has ls 6 [(0, .ref a0), (1, .int y1), (2, .int y2), (3, .ref a3)] → W p l e (rmk 0 0) s m [.ref a0, .int y1, .int y2, .ref a3].toArray below meth c H locs 0 0 (MQ below (th_Q D cT T (kd q) (th_R T none) [38]) [.ref a0, .int y1, .int y2, .ref a3].toArray s 0 0 (th_A T [38])) (F0 m 0 ls []) := by
    intro H locs ls hH hS hl
    refine lv_iload_n hx hb dX5_spell_0 rfl (lv_at hl 1 rfl) ?_
    refine lv_istore (lv' := [(4, .int y1), (0, .ref a0), (1, .int y1), (2, .int y2), (3, .ref a3)]) hx hb dX5_spell_1 hl (by decide) rfl (fun ls hl => ?_)
    refine lv_aload_n hx hb dX5_spell_3 rfl (lv_at hl 1 rfl) ?_
    refine th_get S hK hH inG5 t0 kd_7 rfl 0 (by decide) gm_427 rfl rfl dX5_spell_4 (fun v8 hv8 fv8 => ?_)
    obtain ⟨rf9, rfl, trf9⟩ := th_V.ref hv8
    refine th_get S hK hH inG0 trf9 kd_4 rfl 0 (by decide) gm_370 rfl rfl dX5_spell_7 (fun v10 hv10 fv10 => ?_)
    obtain ⟨rf11, rfl, trf11⟩ := th_V.ref hv10
    refine th_get S hK hH inG4 trf11 kd_3 rfl 12 (by decide) gm_281 rfl rfl dX5_spell_10 (fun v12 hv12 fv12 => ?_)
    obtain ⟨x13, rfl, ix13⟩ := th_V.int hv12
    refine lv_iconst (v := 1) hx hb dX5_spell_13 (by decide) ?_
    refine lv_isub hx hb dX5_spell_14 ?_
    refine lv_topi (fun x14 ex14 => ?_)
    have ix14 : IV x14 (-1) 3 := by rw [ex14]; exact iv_sub ix13 (iv_c (by decide) : IV 1 1 1) (by decide)
    refine lv_istore (lv' := [(5, .int x14), (4, .int y1), (0, .ref a0), (1, .int y1), (2, .int y2), (3, .ref a3)]) hx hb dX5_spell_15 hl (by decide) rfl (fun ls hl => ?_)
    exact J17 ((Int32.toInt x14 + 1 - (-1)).toNat + 1) H locs ls y1 x14 j1 ix14 hH hS (lv_sub hl [4, 5, 1, 0] rfl) (Nat.lt_succ_self _)
  exact J0 s.heap [] ls hH va_S.rf hl

set_option maxRecDepth 100000 in
theorem m_X5_isWithoutBites (l : Launch) (D : va_G) (cT : Nat → ClassId) (T : Nat → Option Nat) (q : Nat → Int) (hq : qok q) (a0 : Nat) (t0 : T a0 = some 7) (y1 : Int32) (j1 : IV y1 (-2147483648) 2147483647) (y2 : Int32) (j2 : IV y2 1 4) : th_Met l D cT T (kd q) yX5_isWithoutBites cX5_isWithoutBites 6 (some .boolean) (rmk 1 25) [.ref a0, .int y1, .int y2] (th_R T (some (.inl (0, 1)))) [38] := by
  refine th_start (by decide) (Nat.le_of_ble_eq_true rfl) ?_
  intro p e s m below meth c ls S hK hH hr hlocks hnm hl
  have hx := S.1
  have hb := S.2.1
  have hl : lv_has ls 6 [(0, .ref a0), (1, .int y1), (2, .int y2)] := hl
  have J12 : ∀ (n : Nat) (H : Heap) (locs : List Loc) (ls : Array Slot) (v12_3 : Int32), IV v12_3 0 4 → th_H D cT T (kd q) H → va_S (th_A T [38]) s.heap H locs → lv_has ls 6 [(0, .ref a0), (3, .int v12_3)] → (4 + 1 - v12_3.toInt).toNat < n → W p l e (rmk 1 25) s m [.ref a0, .int y1, .int y2].toArray below meth c H locs 0 0 (MQ below (th_Q D cT T (kd q) (th_R T (some (.inl (0, 1)))) [38]) [.ref a0, .int y1, .int y2].toArray s 0 0 (th_A T [38])) (F0 m 12 ls []) := by
    intro n
    induction n with
    | zero => intro H locs ls v12_3 iv12_3 hH hS hl hn; exact absurd hn (Nat.not_lt_zero _)
    | succ n ih12 =>
      intro H locs ls v12_3 iv12_3 hH hS hl hn12
      have J29 : ∀ (n : Nat) (H : Heap) (locs : List Loc) (ls : Array Slot) (v29_4 : Int32), IV v29_4 0 3 → IV v12_3 0 3 → th_H D cT T (kd q) H → va_S (th_A T [38]) s.heap H locs → lv_has ls 6 [(0, .ref a0), (3, .int v12_3), (4, .int v29_4)] → (3 + 1 - v29_4.toInt).toNat < n → W p l e (rmk 1 25) s m [.ref a0, .int y1, .int y2].toArray below meth c H locs 0 0 (MQ below (th_Q D cT T (kd q) (th_R T (some (.inl (0, 1)))) [38]) [.ref a0, .int y1, .int y2].toArray s 0 0 (th_A T [38])) (F0 m 29 ls []) := by
        intro n
        induction n with
        | zero => intro H locs ls v29_4 iv29_4 f29_v12_3 hH hS hl hn; exact absurd hn (Nat.not_lt_zero _)
        | succ n ih29 =>
          intro H locs ls v29_4 iv29_4 f29_v12_3 hH hS hl hn29
          have J85 : ∀ (H : Heap) (locs : List Loc) (ls : Array Slot), IV v12_3 1 3 → IV v29_4 0 2 → th_H D cT T (kd q) H → va_S (th_A T [38]) s.heap H locs → lv_has ls 6 [(0, .ref a0), (3, .int v12_3), (4, .int v29_4)] → W p l e (rmk 1 25) s m [.ref a0, .int y1, .int y2].toArray below meth c H locs 0 0 (MQ below (th_Q D cT T (kd q) (th_R T (some (.inl (0, 1)))) [38]) [.ref a0, .int y1, .int y2].toArray s 0 0 (th_A T [38])) (F0 m 85 ls []) := by
            intro H locs ls f85_v12_3 f85_v29_4 hH hS hl
            refine th_iinc S dX5_isWithoutBites_85 hl (k := 2) rfl (by decide) f85_v29_4 (by decide) (fun x1 ls ex1 ix1 hl => ?_)
            have hl : lv_has ls 6 [(4, .int x1), (0, .ref a0), (3, .int v12_3)] := hl
            have ix1 : IV x1 1 3 := ix1
            refine lv_goto (tgt := 29) hx hb dX5_isWithoutBites_88 (by decide) ?_
            exact ih29 H locs ls x1 (iv_w ix1 (by decide)) (iv_w f85_v12_3 (by decide)) hH hS (lv_sub hl [1, 2, 0] rfl) (th_up iv29_4 ex1 (by decide) hn29)
          have J60_s0_0 : ∀ (H : Heap) (locs : List Loc) (ls : Array Slot), IV v12_3 1 3 → IV v29_4 0 2 → th_H D cT T (kd q) H → va_S (th_A T [38]) s.heap H locs → lv_has ls 6 [(0, .ref a0), (3, .int v12_3), (4, .int v29_4)] → W p l e (rmk 1 25) s m [.ref a0, .int y1, .int y2].toArray below meth c H locs 0 0 (MQ below (th_Q D cT T (kd q) (th_R T (some (.inl (0, 1)))) [38]) [.ref a0, .int y1, .int y2].toArray s 0 0 (th_A T [38])) (F0 m 60 ls [.int 0]) := by
            intro H locs ls f60_v12_3 f60_v29_4 hH hS hl
            refine lv_istore (lv' := [(5, .int 0), (0, .ref a0), (3, .int v12_3), (4, .int v29_4)]) hx hb dX5_isWithoutBites_60 hl (by decide) rfl (fun ls hl => ?_)
            refine lv_iload hx hb dX5_isWithoutBites_62 (lv_at hl 0 rfl) ?_
            refine lv_if_eq (tgt := 85) hx hb dX5_isWithoutBites_64 (by decide) (fun c2 => ?_) (fun c2 => ?_)
            · skip
              exact J85 H locs ls f60_v12_3 f60_v29_4 hH hS (lv_sub hl [1, 2, 3] rfl)
            · skip
              exact absurd (iv_eqc (iv_c (by decide) : IV 0 0 0) (iv_c (by decide) : IV 0 0 0)) c2
          have J60_s0_1 : ∀ (H : Heap) (locs : List Loc) (ls : Array Slot), IV v12_3 1 3 → IV v29_4 0 2 → th_H D cT T (kd q) H → va_S (th_A T [38]) s.heap H locs → lv_has ls 6 [(0, .ref a0), (3, .int v12_3), (4, .int v29_4)] → W p l e (rmk 1 25) s m [.ref a0, .int y1, .int y2].toArray below meth c H locs 0 0 (MQ below (th_Q D cT T (kd q) (th_R T (some (.inl (0, 1)))) [38]) [.ref a0, .int y1, .int y2].toArray s 0 0 (th_A T [38])) (F0 m 60 ls [.int 1]) := by
            intro H locs ls f60_v12_3 f60_v29_4 hH hS hl
            refine lv_istore (lv' := [(5, .int 1), (0, .ref a0), (3, .int v12_3), (4, .int v29_4)]) hx hb dX5_isWithoutBites_60 hl (by decide) rfl (fun ls hl => ?_)
            refine lv_iload hx hb dX5_isWithoutBites_62 (lv_at hl 0 rfl) ?_
            refine lv_if_eq (tgt := 85) hx hb dX5_isWithoutBites_64 (by decide) (fun c3 => ?_) (fun c3 => ?_)
            · skip
              exfalso
              have z1 := congrArg Int32.toInt c3
              have z2 := ((iv_c (by decide) : IV 1 1 1)).1
              have z3 := ((iv_c (by decide) : IV 1 1 1)).2
              have z4 := ((iv_c (by decide) : IV 0 0 0)).1
              have z5 := ((iv_c (by decide) : IV 0 0 0)).2
              omega
            · skip
              refine lv_aload_n hx hb dX5_isWithoutBites_67 rfl (lv_at hl 1 rfl) ?_
              refine th_get S hK hH inG5 t0 kd_7 rfl 8 (by decide) gm_437 rfl rfl dX5_isWithoutBites_68 (fun v4 hv4 fv4 => ?_)
              obtain ⟨rf5, rfl, trf5⟩ := th_V.ref hv4
              refine lv_iload_n hx hb dX5_isWithoutBites_71 rfl (lv_at hl 2 rfl) ?_
              refine th_iald S hK hH trf5 kd_38 (th_in (hi := 3) (iv_w f60_v12_3 (by decide)) (by decide)) dX5_isWithoutBites_72 (fun v6 hv6 => ?_)
              obtain ⟨x7, rfl, ix7⟩ := th_V.int hv6
              refine lv_aload_n hx hb dX5_isWithoutBites_73 rfl (lv_at hl 1 rfl) ?_
              refine th_getK S hK fv4 inG5 rfl (by decide) gm_437 rfl dX5_isWithoutBites_74 ?_
              refine lv_iload hx hb dX5_isWithoutBites_77 (lv_at hl 3 rfl) ?_
              refine th_iald S hK hH trf5 kd_38 (th_in (hi := 2) f60_v29_4 (by decide)) dX5_isWithoutBites_79 (fun v9 hv9 => ?_)
              obtain ⟨x10, rfl, ix10⟩ := th_V.int hv9
              refine lv_icmp_ne (tgt := 85) hx hb dX5_isWithoutBites_80 (by decide) (fun c11 => ?_) (fun c11 => ?_)
              · skip
                exact J85 H locs ls f60_v12_3 f60_v29_4 hH hS (lv_sub hl [1, 2, 3] rfl)
              · skip
                refine lv_iconst (v := 0) hx hb dX5_isWithoutBites_83 (by decide) ?_
                exact th_zret S hK hH hS hr hlocks (iv_w (iv_c (by decide) : IV 0 0 0) (by decide)) (th_R.i (iv_w (iv_c (by decide) : IV 0 0 0) (by decide))) dX5_isWithoutBites_84
          refine lv_iload hx hb dX5_isWithoutBites_29 (lv_at hl 2 rfl) ?_
          refine lv_iload_n hx hb dX5_isWithoutBites_31 rfl (lv_at hl 1 rfl) ?_
          refine lv_icmp_ge (tgt := 91) hx hb dX5_isWithoutBites_32 (by decide) (fun c12 => ?_) (fun c12 => ?_)
          · skip
            refine th_iinc S dX5_isWithoutBites_91 hl (k := 1) rfl (by decide) f29_v12_3 (by decide) (fun x13 ls ex13 ix13 hl => ?_)
            have hl : lv_has ls 6 [(3, .int x13), (0, .ref a0), (4, .int v29_4)] := hl
            have ix13 : IV x13 1 4 := ix13
            refine lv_goto (tgt := 12) hx hb dX5_isWithoutBites_94 (by decide) ?_
            exact ih12 H locs ls x13 (iv_w ix13 (by decide)) hH hS (lv_sub hl [1, 0] rfl) (th_up iv12_3 ex13 (by decide) hn12)
          · skip
            have ir14 : IV v29_4 0 2 := iv_uL iv29_4 f29_v12_3 (iv_nle c12) (by decide)
            have ir15 : IV v12_3 1 3 := iv_uR iv29_4 f29_v12_3 (iv_nle c12) (by decide)
            refine lv_aload_n hx hb dX5_isWithoutBites_35 rfl (lv_at hl 0 rfl) ?_
            refine th_get S hK hH inG5 t0 kd_7 rfl 0 (by decide) gm_427 rfl rfl dX5_isWithoutBites_36 (fun v16 hv16 fv16 => ?_)
            obtain ⟨rf17, rfl, trf17⟩ := th_V.ref hv16
            refine th_get S hK hH inG0 trf17 kd_4 rfl 0 (by decide) gm_370 rfl rfl dX5_isWithoutBites_39 (fun v18 hv18 fv18 => ?_)
            obtain ⟨rf19, rfl, trf19⟩ := th_V.ref hv18
            refine th_get S hK hH inG4 trf19 kd_3 rfl 7 (by decide) gm_261 rfl rfl dX5_isWithoutBites_42 (fun v20 hv20 fv20 => ?_)
            obtain ⟨rf21, rfl, trf21⟩ := th_V.ref hv20
            refine lv_iload_n hx hb dX5_isWithoutBites_45 rfl (lv_at hl 1 rfl) ?_
            refine th_iald S hK hH trf21 kd_27 (th_in (hi := 3) (iv_w ir15 (by decide)) (by decide)) dX5_isWithoutBites_46 (fun v22 hv22 => ?_)
            obtain ⟨x23, rfl, ix23⟩ := th_V.int hv22
            refine lv_iload hx hb dX5_isWithoutBites_47 (lv_at hl 2 rfl) ?_
            refine lv_ishr hx hb dX5_isWithoutBites_49 ?_
            refine lv_topi (fun x24 ex24 => ?_)
            have ix24 := iv_top x24
            refine lv_iconst (v := 1) hx hb dX5_isWithoutBites_50 (by decide) ?_
            refine lv_iand hx hb dX5_isWithoutBites_51 ?_
            refine lv_topi (fun x25 ex25 => ?_)
            have ix25 : IV x25 0 1 := by rw [ex25]; exact iv_and (h2 := 1) (iv_w (iv_c (by decide) : IV 1 1 1) (by decide)) (by decide)
            refine lv_if_eq (tgt := 59) hx hb dX5_isWithoutBites_52 (by decide) (fun c26 => ?_) (fun c26 => ?_)
            · skip
              have ir27 : IV x25 0 0 := iv_eL c26 (iv_c (by decide) : IV 0 0 0)
              refine lv_iconst (v := 0) hx hb dX5_isWithoutBites_59 (by decide) ?_
              exact J60_s0_0 H locs ls ir15 ir14 hH hS (lv_sub hl [0, 1, 2] rfl)
            · skip
              have ir28 : IV x25 1 1 := iv_cutL ix25 (iv_c (by decide) : IV 0 0 0) c26 (by decide)
              refine lv_iconst (v := 1) hx hb dX5_isWithoutBites_55 (by decide) ?_
              refine lv_goto (tgt := 60) hx hb dX5_isWithoutBites_56 (by decide) ?_
              exact J60_s0_1 H locs ls ir15 ir14 hH hS (lv_sub hl [0, 1, 2] rfl)
      refine lv_iload_n hx hb dX5_isWithoutBites_12 rfl (lv_at hl 1 rfl) ?_
      refine lv_aload_n hx hb dX5_isWithoutBites_13 rfl (lv_at hl 0 rfl) ?_
      refine th_get S hK hH inG5 t0 kd_7 rfl 0 (by decide) gm_427 rfl rfl dX5_isWithoutBites_14 (fun v29 hv29 fv29 => ?_)
      obtain ⟨rf30, rfl, trf30⟩ := th_V.ref hv29
      refine th_get S hK hH inG0 trf30 kd_4 rfl 0 (by decide) gm_370 rfl rfl dX5_isWithoutBites_17 (fun v31 hv31 fv31 => ?_)
      obtain ⟨rf32, rfl, trf32⟩ := th_V.ref hv31
      refine th_get S hK hH inG4 trf32 kd_3 rfl 12 (by decide) gm_281 rfl rfl dX5_isWithoutBites_20 (fun v33 hv33 fv33 => ?_)
      obtain ⟨x34, rfl, ix34⟩ := th_V.int hv33
      refine lv_icmp_ge (tgt := 97) hx hb dX5_isWithoutBites_23 (by decide) (fun c35 => ?_) (fun c35 => ?_)
      · skip
        refine lv_iconst (v := 1) hx hb dX5_isWithoutBites_97 (by decide) ?_
        exact th_zret S hK hH hS hr hlocks (iv_w (iv_c (by decide) : IV 1 1 1) (by decide)) (th_R.i (iv_w (iv_c (by decide) : IV 1 1 1) (by decide))) dX5_isWithoutBites_98
      · skip
        have ir36 : IV v12_3 0 3 := iv_uL iv12_3 ix34 (iv_nle c35) (by decide)
        have ir37 : IV x34 1 4 := iv_uR iv12_3 ix34 (iv_nle c35) (by decide)
        refine lv_iconst (v := 0) hx hb dX5_isWithoutBites_26 (by decide) ?_
        refine lv_istore (lv' := [(4, .int 0), (0, .ref a0), (3, .int v12_3)]) hx hb dX5_isWithoutBites_27 hl (by decide) rfl (fun ls hl => ?_)
        exact J29 ((3 + 1 - Int32.toInt 0).toNat + 1) H locs ls 0 (iv_w (iv_c (by decide) : IV 0 0 0) (by decide)) ir36 hH hS (lv_sub hl [1, 2, 0] rfl) (Nat.lt_succ_self _)
  have J0 : ∀ (H : Heap) (locs : List Loc) (ls : Array Slot), th_H D cT T (kd q) H → va_S (th_A T [38]) s.heap H locs → lv_has ls 6 [(0, .ref a0), (1, .int y1), (2, .int y2)] → W p l e (rmk 1 25) s m [.ref a0, .int y1, .int y2].toArray below meth c H locs 0 0 (MQ below (th_Q D cT T (kd q) (th_R T (some (.inl (0, 1)))) [38]) [.ref a0, .int y1, .int y2].toArray s 0 0 (th_A T [38])) (F0 m 0 ls []) := by
    intro H locs ls hH hS hl
    refine lv_aload_n hx hb dX5_isWithoutBites_0 rfl (lv_at hl 0 rfl) ?_
    refine lv_iload_n hx hb dX5_isWithoutBites_1 rfl (lv_at hl 1 rfl) ?_
    refine lv_iload_n hx hb dX5_isWithoutBites_2 rfl (lv_at hl 2 rfl) ?_
    refine lv_aload_n hx hb dX5_isWithoutBites_3 rfl (lv_at hl 0 rfl) ?_
    refine th_get S hK hH inG5 t0 kd_7 rfl 8 (by decide) gm_437 rfl rfl dX5_isWithoutBites_4 (fun v38 hv38 fv38 => ?_)
    obtain ⟨rf39, rfl, trf39⟩ := th_V.ref hv38
    refine th_callVv (n := 3) (As := [.int y1, .int y2, .ref rf39]) S hK hH hS (th_A.sub (by decide)) (m_X5_spell l D cT T q hq a0 t0 (y1) j1 (y2) j2 rf39 trf39) gm_1105 gm_1102 gm_1104 gm_39 gm_122 (by decide +kernel) ⟨rfl, rfl, Nat.le_of_ble_eq_true rfl, Nat.le_of_ble_eq_true rfl⟩ t0 kd_7 rfl rfl hl.1 rfl (Nat.le_of_ble_eq_true rfl) dX5_isWithoutBites_7 ⟨Nat.zero_le _, Nat.zero_le _⟩ (fun H locs hH hS hF1 => ?_)
    have f40 := fv38.kept (hF1 _ fv38.lt (th_off t0 (by decide)))
    refine lv_iconst (v := 0) hx hb dX5_isWithoutBites_10 (by decide) ?_
    refine lv_istore_n (lv' := [(3, .int 0), (0, .ref a0), (1, .int y1), (2, .int y2)]) hx hb dX5_isWithoutBites_11 rfl hl (by decide) rfl (fun ls hl => ?_)
    exact J12 ((4 + 1 - Int32.toInt 0).toNat + 1) H locs ls 0 (iv_w (iv_c (by decide) : IV 0 0 0) (by decide)) hH hS (lv_sub hl [1, 0] rfl) (Nat.lt_succ_self _)
  exact J0 s.heap [] ls hH va_S.rf hl

set_option maxRecDepth 100000 in
theorem m_X5_waysInto (l : Launch) (D : va_G) (cT : Nat → ClassId) (T : Nat → Option Nat) (q : Nat → Int) (hq : qok q) (a0 : Nat) (t0 : T a0 = some 7) (y1 : Int32) (j1 : IV y1 1 4) : th_Met l D cT T (kd q) yX5_waysInto cX5_waysInto 6 (some .int) (rmk 2 50) [.ref a0, .int y1] (th_R T (some (.inl (-2147483648, 2147483647)))) [38] := by
  refine th_start (by decide) (Nat.le_of_ble_eq_true rfl) ?_
  intro p e s m below meth c ls S hK hH hr hlocks hnm hl
  have hx := S.1
  have hb := S.2.1
  have hl : lv_has ls 6 [(0, .ref a0), (1, .int y1)] := hl
  have J40 : ∀ (n : Nat) (H : Heap) (locs : List Loc) (ls : Array Slot) (v40_4 : Int32) (v40_5 : Int32), IV v40_4 (-2147483648) 2147483647 → IV v40_5 (-2147483648) 2147483647 → th_H D cT T (kd q) H → va_S (th_A T [38]) s.heap H locs → lv_has ls 6 [(0, .ref a0), (1, .int y1), (4, .int v40_4), (5, .int v40_5)] → (v40_5.toInt + 1 - (-2147483648)).toNat < n → W p l e (rmk 2 50) s m [.ref a0, .int y1].toArray below meth c H locs 0 0 (MQ below (th_Q D cT T (kd q) (th_R T (some (.inl (-2147483648, 2147483647)))) [38]) [.ref a0, .int y1].toArray s 0 0 (th_A T [38])) (F0 m 40 ls []) := by
    intro n
    induction n with
    | zero => intro H locs ls v40_4 v40_5 iv40_4 iv40_5 hH hS hl hn; exact absurd hn (Nat.not_lt_zero _)
    | succ n ih40 =>
      intro H locs ls v40_4 v40_5 iv40_4 iv40_5 hH hS hl hn40
      have J69 : ∀ (H : Heap) (locs : List Loc) (ls : Array Slot) (v69_4 : Int32), IV v69_4 (-2147483648) 2147483647 → IV v40_5 0 2147483647 → th_H D cT T (kd q) H → va_S (th_A T [38]) s.heap H locs → lv_has ls 6 [(0, .ref a0), (1, .int y1), (4, .int v69_4), (5, .int v40_5)] → W p l e (rmk 2 50) s m [.ref a0, .int y1].toArray below meth c H locs 0 0 (MQ below (th_Q D cT T (kd q) (th_R T (some (.inl (-2147483648, 2147483647)))) [38]) [.ref a0, .int y1].toArray s 0 0 (th_A T [38])) (F0 m 69 ls []) := by
        intro H locs ls v69_4 iv69_4 f69_v40_5 hH hS hl
        refine th_iinc S dX5_waysInto_69 hl (k := 3) rfl (by decide) f69_v40_5 (by decide) (fun x1 ls ex1 ix1 hl => ?_)
        have hl : lv_has ls 6 [(5, .int x1), (0, .ref a0), (1, .int y1), (4, .int v69_4)] := hl
        have ix1 : IV x1 (-1) 2147483646 := ix1
        refine lv_goto (tgt := 40) hx hb dX5_waysInto_72 (by decide) ?_
        exact ih40 H locs ls v69_4 x1 iv69_4 (iv_top _) hH hS (lv_sub hl [1, 2, 3, 0] rfl) (th_down iv40_5 ex1 (by decide) hn40)
      refine lv_iload hx hb dX5_waysInto_40 (lv_at hl 3 rfl) ?_
      refine lv_if_lt (tgt := 75) hx hb dX5_waysInto_42 (by decide) (fun c2 => ?_) (fun c2 => ?_)
      · skip
        have ir3 : IV v40_5 (-2147483648) (-1) := iv_uL iv40_5 (iv_c (by decide) : IV 0 0 0) (iv_lt c2) (by decide)
        refine lv_iload hx hb dX5_waysInto_75 (lv_at hl 2 rfl) ?_
        exact th_iret S hK hH hS hr hlocks (th_R.i iv40_4) dX5_waysInto_77
      · skip
        have ir4 : IV v40_5 0 2147483647 := iv_vR (iv_c (by decide) : IV 0 0 0) iv40_5 (iv_nlt c2) (by decide)
        refine lv_aload_n hx hb dX5_waysInto_45 rfl (lv_at hl 0 rfl) ?_
        refine lv_iload hx hb dX5_waysInto_46 (lv_at hl 3 rfl) ?_
        refine lv_iload_n hx hb dX5_waysInto_48 rfl (lv_at hl 1 rfl) ?_
        refine th_callVi (n := 2) (As := [.int v40_5, .int y1]) S hK hH hS (th_A.sub (by decide)) (m_X5_isWithoutBites l D cT T q hq a0 t0 (v40_5) (iv_top _) (y1) j1) gm_1101 gm_1098 gm_1100 gm_38 gm_122 (by decide +kernel) ⟨rfl, rfl, Nat.le_of_ble_eq_true rfl, Nat.le_of_ble_eq_true rfl⟩ t0 kd_7 rfl rfl hl.1 rfl (Nat.le_of_ble_eq_true rfl) dX5_waysInto_49 ⟨Nat.zero_le _, Nat.zero_le _⟩ (fun x5 H locs ix5 hH hS hF1 => ?_)
        refine lv_if_eq (tgt := 69) hx hb dX5_waysInto_52 (by decide) (fun c6 => ?_) (fun c6 => ?_)
        · skip
          have ir7 : IV x5 0 0 := iv_eL c6 (iv_c (by decide) : IV 0 0 0)
          exact J69 H locs ls v40_4 iv40_4 ir4 hH hS (lv_sub hl [0, 1, 2, 3] rfl)
        · skip
          have ir8 : IV x5 1 1 := iv_cutL ix5 (iv_c (by decide) : IV 0 0 0) c6 (by decide)
          obtain ⟨x9, ex9⟩ : ∃ z : Int32, z = v40_4 + Int32.ofInt 1 := ⟨_, rfl⟩
          refine lv_iinc (v := x9) (lv' := [(4, .int x9), (0, .ref a0), (1, .int y1), (5, .int v40_5)]) hx hb dX5_waysInto_55 hl (k := 2) rfl (by rw [ex9]) (by decide) rfl (fun ls hl => ?_)
          have ix9 := iv_top x9
          refine lv_aload_n hx hb dX5_waysInto_58 rfl (lv_at hl 1 rfl) ?_
          refine lv_iload hx hb dX5_waysInto_59 (lv_at hl 3 rfl) ?_
          refine lv_iload_n hx hb dX5_waysInto_61 rfl (lv_at hl 2 rfl) ?_
          refine lv_aload_n hx hb dX5_waysInto_62 rfl (lv_at hl 1 rfl) ?_
          refine th_get S hK hH inG5 t0 kd_7 rfl 7 (by decide) gm_436 rfl rfl dX5_waysInto_63 (fun v10 hv10 fv10 => ?_)
          obtain ⟨rf11, rfl, trf11⟩ := th_V.ref hv10
          refine th_callVv (n := 3) (As := [.int v40_5, .int y1, .ref rf11]) S hK hH hS (th_A.sub (by decide)) (m_X5_spell l D cT T q hq a0 t0 (v40_5) (iv_top _) (y1) j1 rf11 trf11) gm_1105 gm_1102 gm_1104 gm_39 gm_122 (by decide +kernel) ⟨rfl, rfl, Nat.le_of_ble_eq_true rfl, Nat.le_of_ble_eq_true rfl⟩ t0 kd_7 rfl rfl hl.1 rfl (Nat.le_of_ble_eq_true rfl) dX5_waysInto_66 ⟨Nat.zero_le _, Nat.zero_le _⟩ (fun H locs hH hS hF1 => ?_)
          exact J69 H locs ls x9 ix9 ir4 hH hS (lv_sub hl [1, 2, 0, 3] rfl)
  have J16 : ∀ (n : Nat) (H : Heap) (locs : List Loc) (ls : Array Slot) (v16_2 : Int32) (v16_3 : Int32) (v16_4 : Int32), IV v16_2 0 4 → IV v16_3 (-2147483648) 2147483647 → IV v16_4 0 4 → th_H D cT T (kd q) H → va_S (th_A T [38]) s.heap H locs → lv_has ls 6 [(0, .ref a0), (1, .int y1), (2, .int v16_2), (3, .int v16_3), (4, .int v16_4)] → (4 + 1 - v16_4.toInt).toNat < n → W p l e (rmk 2 50) s m [.ref a0, .int y1].toArray below meth c H locs 0 0 (MQ below (th_Q D cT T (kd q) (th_R T (some (.inl (-2147483648, 2147483647)))) [38]) [.ref a0, .int y1].toArray s 0 0 (th_A T [38])) (F0 m 16 ls []) := by
    intro n
    induction n with
    | zero => intro H locs ls v16_2 v16_3 v16_4 iv16_2 iv16_3 iv16_4 hH hS hl hn; exact absurd hn (Nat.not_lt_zero _)
    | succ n ih16 =>
      intro H locs ls v16_2 v16_3 v16_4 iv16_2 iv16_3 iv16_4 hH hS hl hn16
      refine lv_iload hx hb dX5_waysInto_16 (lv_at hl 4 rfl) ?_
      refine lv_iload_n hx hb dX5_waysInto_18 rfl (lv_at hl 2 rfl) ?_
      refine lv_icmp_ge (tgt := 32) hx hb dX5_waysInto_19 (by decide) (fun c12 => ?_) (fun c12 => ?_)
      · skip
        refine lv_iconst (v := 0) hx hb dX5_waysInto_32 (by decide) ?_
        refine lv_istore (lv' := [(4, .int 0), (0, .ref a0), (1, .int y1), (2, .int v16_2), (3, .int v16_3)]) hx hb dX5_waysInto_33 hl (by decide) rfl (fun ls hl => ?_)
        refine lv_iload_n hx hb dX5_waysInto_35 rfl (lv_at hl 4 rfl) ?_
        refine lv_iconst (v := 1) hx hb dX5_waysInto_36 (by decide) ?_
        refine lv_isub hx hb dX5_waysInto_37 ?_
        refine lv_topi (fun x13 ex13 => ?_)
        have ix13 := iv_top x13
        refine lv_istore (lv' := [(5, .int x13), (4, .int 0), (0, .ref a0), (1, .int y1), (2, .int v16_2), (3, .int v16_3)]) hx hb dX5_waysInto_38 hl (by decide) rfl (fun ls hl => ?_)
        exact J40 ((Int32.toInt x13 + 1 - (-2147483648)).toNat + 1) H locs ls 0 x13 (iv_top _) ix13 hH hS (lv_sub hl [2, 3, 1, 0] rfl) (Nat.lt_succ_self _)
      · skip
        have ir14 : IV v16_4 0 3 := iv_uL iv16_4 iv16_2 (iv_nle c12) (by decide)
        have ir15 : IV v16_2 1 4 := iv_uR iv16_4 iv16_2 (iv_nle c12) (by decide)
        refine lv_iload_n hx hb dX5_waysInto_22 rfl (lv_at hl 3 rfl) ?_
        refine lv_iload_n hx hb dX5_waysInto_23 rfl (lv_at hl 1 rfl) ?_
        refine lv_imul hx hb dX5_waysInto_24 ?_
        refine lv_topi (fun x16 ex16 => ?_)
        have ix16 := iv_top x16
        refine lv_istore_n (lv' := [(3, .int x16), (0, .ref a0), (1, .int y1), (2, .int v16_2), (4, .int v16_4)]) hx hb dX5_waysInto_25 rfl hl (by decide) rfl (fun ls hl => ?_)
        refine th_iinc S dX5_waysInto_26 hl (k := 4) rfl (by decide) ir14 (by decide) (fun x17 ls ex17 ix17 hl => ?_)
        have hl : lv_has ls 6 [(4, .int x17), (3, .int x16), (0, .ref a0), (1, .int y1), (2, .int v16_2)] := hl
        have ix17 : IV x17 1 4 := ix17
        refine lv_goto (tgt := 16) hx hb dX5_waysInto_29 (by decide) ?_
        exact ih16 H locs ls v16_2 x16 x17 (iv_w ir15 (by decide)) ix16 (iv_w ix17 (by decide)) hH hS (lv_sub hl [2, 3, 4, 1, 0] rfl) (th_up iv16_4 ex17 (by decide) hn16)
  have J0 : ∀ (H : Heap) (locs : List Loc) (ls : Array Slot), th_H D cT T (kd q) H → va_S (th_A T [38]) s.heap H locs → lv_has ls 6 [(0, .ref a0), (1, .int y1)] → W p l e (rmk 2 50) s m [.ref a0, .int y1].toArray below meth c H locs 0 0 (MQ below (th_Q D cT T (kd q) (th_R T (some (.inl (-2147483648, 2147483647)))) [38]) [.ref a0, .int y1].toArray s 0 0 (th_A T [38])) (F0 m 0 ls []) := by
    intro H locs ls hH hS hl
    refine lv_aload_n hx hb dX5_waysInto_0 rfl (lv_at hl 0 rfl) ?_
    refine th_get S hK hH inG5 t0 kd_7 rfl 0 (by decide) gm_427 rfl rfl dX5_waysInto_1 (fun v18 hv18 fv18 => ?_)
    obtain ⟨rf19, rfl, trf19⟩ := th_V.ref hv18
    refine th_get S hK hH inG0 trf19 kd_4 rfl 0 (by decide) gm_370 rfl rfl dX5_waysInto_4 (fun v20 hv20 fv20 => ?_)
    obtain ⟨rf21, rfl, trf21⟩ := th_V.ref hv20
    refine th_get S hK hH inG4 trf21 kd_3 rfl 12 (by decide) gm_281 rfl rfl dX5_waysInto_7 (fun v22 hv22 fv22 => ?_)
    obtain ⟨x23, rfl, ix23⟩ := th_V.int hv22
    refine lv_istore_n (lv' := [(2, .int x23), (0, .ref a0), (1, .int y1)]) hx hb dX5_waysInto_10 rfl hl (by decide) rfl (fun ls hl => ?_)
    refine lv_iconst (v := 1) hx hb dX5_waysInto_11 (by decide) ?_
    refine lv_istore_n (lv' := [(3, .int 1), (2, .int x23), (0, .ref a0), (1, .int y1)]) hx hb dX5_waysInto_12 rfl hl (by decide) rfl (fun ls hl => ?_)
    refine lv_iconst (v := 0) hx hb dX5_waysInto_13 (by decide) ?_
    refine lv_istore (lv' := [(4, .int 0), (3, .int 1), (2, .int x23), (0, .ref a0), (1, .int y1)]) hx hb dX5_waysInto_14 hl (by decide) rfl (fun ls hl => ?_)
    exact J16 ((4 + 1 - Int32.toInt 0).toNat + 1) H locs ls x23 1 0 ix23 (iv_top _) (iv_w (iv_c (by decide) : IV 0 0 0) (by decide)) hH hS (lv_sub hl [3, 4, 2, 1, 0] rfl) (Nat.lt_succ_self _)
  exact J0 s.heap [] ls hH va_S.rf hl

set_option maxRecDepth 100000 in
theorem m_X5_layDrawers (l : Launch) (D : va_G) (cT : Nat → ClassId) (T : Nat → Option Nat) (q : Nat → Int) (hq : qok q) (a0 : Nat) (t0 : T a0 = some 7) (y1 : Int32) (j1 : IV y1 1 4) : th_Met l D cT T (kd q) yX5_layDrawers cX5_layDrawers 3 (some .int) (rmk 3 80) [.ref a0, .int y1] (th_R T (some (.inl (-2147483648, 2147483647)))) [7, 34, 38] := by
  refine th_start (by decide) (Nat.le_of_ble_eq_true rfl) ?_
  intro p e s m below meth c ls S hK hH hr hlocks hnm hl
  have hx := S.1
  have hb := S.2.1
  have hl : lv_has ls 3 [(0, .ref a0), (1, .int y1)] := hl
  have J22 : ∀ (H : Heap) (locs : List Loc) (ls : Array Slot) (v22_2 : Int32), IV v22_2 (-2147483648) 2147483647 → th_H D cT T (kd q) H → va_S (th_A T [7, 34, 38]) s.heap H locs → lv_has ls 3 [(2, .int v22_2)] → W p l e (rmk 3 80) s m [.ref a0, .int y1].toArray below meth c H locs 0 0 (MQ below (th_Q D cT T (kd q) (th_R T (some (.inl (-2147483648, 2147483647)))) [7, 34, 38]) [.ref a0, .int y1].toArray s 0 0 (th_A T [7, 34, 38])) (F0 m 22 ls []) := by
    intro H locs ls v22_2 iv22_2 hH hS hl
    refine lv_iload_n hx hb dX5_layDrawers_22 rfl (lv_at hl 0 rfl) ?_
    exact th_iret S hK hH hS hr hlocks (th_R.i iv22_2) dX5_layDrawers_23
  have J0 : ∀ (H : Heap) (locs : List Loc) (ls : Array Slot), th_H D cT T (kd q) H → va_S (th_A T [7, 34, 38]) s.heap H locs → lv_has ls 3 [(0, .ref a0), (1, .int y1)] → W p l e (rmk 3 80) s m [.ref a0, .int y1].toArray below meth c H locs 0 0 (MQ below (th_Q D cT T (kd q) (th_R T (some (.inl (-2147483648, 2147483647)))) [7, 34, 38]) [.ref a0, .int y1].toArray s 0 0 (th_A T [7, 34, 38])) (F0 m 0 ls []) := by
    intro H locs ls hH hS hl
    refine lv_aload_n hx hb dX5_layDrawers_0 rfl (lv_at hl 0 rfl) ?_
    refine lv_iload_n hx hb dX5_layDrawers_1 rfl (lv_at hl 1 rfl) ?_
    refine th_callVi (n := 1) (As := [.int y1]) S hK hH hS (th_A.sub (by decide)) (m_X5_waysInto l D cT T q hq a0 t0 (y1) j1) gm_1097 gm_1094 gm_1095 gm_1096 gm_122 (by decide +kernel) ⟨rfl, rfl, Nat.le_of_ble_eq_true rfl, Nat.le_of_ble_eq_true rfl⟩ t0 kd_7 rfl rfl hl.1 rfl (Nat.le_of_ble_eq_true rfl) dX5_layDrawers_2 ⟨Nat.zero_le _, Nat.zero_le _⟩ (fun x1 H locs ix1 hH hS hF1 => ?_)
    refine lv_istore_n (lv' := [(2, .int x1), (0, .ref a0), (1, .int y1)]) hx hb dX5_layDrawers_5 rfl hl (by decide) rfl (fun ls hl => ?_)
    refine lv_iload_n hx hb dX5_layDrawers_6 rfl (lv_at hl 0 rfl) ?_
    refine lv_if_le (tgt := 17) hx hb dX5_layDrawers_7 (by decide) (fun c2 => ?_) (fun c2 => ?_)
    · skip
      have ir3 : IV x1 (-2147483648) 0 := iv_vL ix1 (iv_c (by decide) : IV 0 0 0) (iv_le c2) (by decide)
      refine lv_aload_n hx hb dX5_layDrawers_17 rfl (lv_at hl 1 rfl) ?_
      refine lv_iconst (v := 0) hx hb dX5_layDrawers_18 (by decide) ?_
      refine th_put S hK hH hS ⟨7, by decide, t0⟩ inG5 tyX5 tyX5_ok nmX5 t0 kd_7 rfl 2 (by decide) gm_430 rfl rfl rfl rfl (th_iv (iv_top _)) (fun _ _ => trivial) (ty := .int) (by decide +kernel) rfl rfl dX5_layDrawers_19 (fun H locs hH hS hq1 hp1 => ?_)
      exact J22 H locs ls x1 (iv_top _) hH hS (lv_sub hl [0] rfl)
    · skip
      have ir4 : IV x1 1 2147483647 := iv_uR (iv_c (by decide) : IV 0 0 0) ix1 (iv_nle c2) (by decide)
      refine lv_aload_n hx hb dX5_layDrawers_10 rfl (lv_at hl 1 rfl) ?_
      refine th_callVv (n := 0) (As := []) S hK hH hS (th_A.sub (by decide)) (m_X5_layWay l D cT T q hq a0 t0) gm_1053 gm_1050 gm_1052 gm_34 gm_122 (by decide +kernel) ⟨rfl, rfl, Nat.le_of_ble_eq_true rfl, Nat.le_of_ble_eq_true rfl⟩ t0 kd_7 rfl rfl hl.1 rfl (Nat.le_of_ble_eq_true rfl) dX5_layDrawers_11 ⟨Nat.zero_le _, Nat.zero_le _⟩ (fun H locs hH hS hF1 => ?_)
      refine lv_goto (tgt := 22) hx hb dX5_layDrawers_14 (by decide) ?_
      exact J22 H locs ls x1 (iv_top _) hH hS (lv_sub hl [0] rfl)
  exact J0 s.heap [] ls hH va_S.rf hl

set_option maxRecDepth 100000 in
theorem m_X6_kind (l : Launch) (D : va_G) (cT : Nat → ClassId) (T : Nat → Option Nat) (q : Nat → Int) (hq : qok q) (a0 : Nat) (t0 : T a0 = some 2) : th_Met l D cT T (kd q) yX6_kind cX6_kind 1 (some .int) (rmk 0 0) [.ref a0] (th_R T (some (.inl (-2147483648, 2147483647)))) [] := by
  refine th_start (by decide) (Nat.le_of_ble_eq_true rfl) ?_
  intro p e s m below meth c ls S hK hH hr hlocks hnm hl
  have hx := S.1
  have hb := S.2.1
  have hl : lv_has ls 1 [(0, .ref a0)] := hl
  have J37 : ∀ (H : Heap) (locs : List Loc) (ls : Array Slot) (w37_0 : Int32) (u37_a0_2 : Int32), IV w37_0 (-2147483648) 2147483647 → IV u37_a0_2 0 1600 → th_fa D H a0 6 2 (.int u37_a0_2) → th_H D cT T (kd q) H → va_S (th_A T []) s.heap H locs → lv_has ls 1 [] → W p l e (rmk 0 0) s m [.ref a0].toArray below meth c H locs 0 0 (MQ below (th_Q D cT T (kd q) (th_R T (some (.inl (-2147483648, 2147483647)))) []) [.ref a0].toArray s 0 0 (th_A T [])) (F0 m 37 ls [.int w37_0]) := by
    intro H locs ls w37_0 u37_a0_2 iw37_0 iu37_a0_2 gu37_a0_2 hH hS hl
    exact th_iret S hK hH hS hr hlocks (th_R.i iw37_0) dX6_kind_37
  have J37_s0_0 : ∀ (H : Heap) (locs : List Loc) (ls : Array Slot) (u37_a0_2 : Int32), IV u37_a0_2 (-2147483648) 2147483647 → th_fa D H a0 6 2 (.int u37_a0_2) → th_H D cT T (kd q) H → va_S (th_A T []) s.heap H locs → lv_has ls 1 [] → W p l e (rmk 0 0) s m [.ref a0].toArray below meth c H locs 0 0 (MQ below (th_Q D cT T (kd q) (th_R T (some (.inl (-2147483648, 2147483647)))) []) [.ref a0].toArray s 0 0 (th_A T [])) (F0 m 37 ls [.int 0]) := by
    intro H locs ls u37_a0_2 iu37_a0_2 gu37_a0_2 hH hS hl
    exact th_iret S hK hH hS hr hlocks (th_R.i (iv_top _)) dX6_kind_37
  have J36 : ∀ (H : Heap) (locs : List Loc) (ls : Array Slot) (u36_a0_2 : Int32), IV u36_a0_2 (-2147483648) 2147483647 → th_fa D H a0 6 2 (.int u36_a0_2) → th_H D cT T (kd q) H → va_S (th_A T []) s.heap H locs → lv_has ls 1 [] → W p l e (rmk 0 0) s m [.ref a0].toArray below meth c H locs 0 0 (MQ below (th_Q D cT T (kd q) (th_R T (some (.inl (-2147483648, 2147483647)))) []) [.ref a0].toArray s 0 0 (th_A T [])) (F0 m 36 ls []) := by
    intro H locs ls u36_a0_2 iu36_a0_2 gu36_a0_2 hH hS hl
    refine lv_iconst (v := 0) hx hb dX6_kind_36 (by decide) ?_
    exact J37_s0_0 H locs ls u36_a0_2 iu36_a0_2 gu36_a0_2 hH hS (lv_sub hl [] rfl)
  have J0 : ∀ (H : Heap) (locs : List Loc) (ls : Array Slot), th_H D cT T (kd q) H → va_S (th_A T []) s.heap H locs → lv_has ls 1 [(0, .ref a0)] → W p l e (rmk 0 0) s m [.ref a0].toArray below meth c H locs 0 0 (MQ below (th_Q D cT T (kd q) (th_R T (some (.inl (-2147483648, 2147483647)))) []) [.ref a0].toArray s 0 0 (th_A T [])) (F0 m 0 ls []) := by
    intro H locs ls hH hS hl
    refine lv_aload_n hx hb dX6_kind_0 rfl (lv_at hl 0 rfl) ?_
    refine th_get S hK hH inG6 t0 kd_2 rfl 2 (by decide) gm_342 rfl rfl dX6_kind_1 (fun v1 hv1 fv1 => ?_)
    obtain ⟨x2, rfl, ix2⟩ := th_V.int hv1
    refine lv_if_lt (tgt := 36) hx hb dX6_kind_4 (by decide) (fun c3 => ?_) (fun c3 => ?_)
    · skip
      have ir4 : IV x2 (-2147483648) (-1) := iv_uL ix2 (iv_c (by decide) : IV 0 0 0) (iv_lt c3) (by decide)
      exact J36 H locs ls x2 (iv_top _) fv1 hH hS (lv_sub hl [] rfl)
    · skip
      have ir5 : IV x2 0 2147483647 := iv_vR (iv_c (by decide) : IV 0 0 0) ix2 (iv_nlt c3) (by decide)
      refine lv_aload_n hx hb dX6_kind_7 rfl (lv_at hl 0 rfl) ?_
      refine th_getK S hK fv1 inG6 rfl (by decide) gm_342 rfl dX6_kind_8 ?_
      refine lv_aload_n hx hb dX6_kind_11 rfl (lv_at hl 0 rfl) ?_
      refine th_get S hK hH inG6 t0 kd_2 rfl 0 (by decide) gm_339 rfl rfl dX6_kind_12 (fun v7 hv7 fv7 => ?_)
      obtain ⟨rf8, rfl, trf8⟩ := th_V.ref hv7
      refine th_get S hK hH inG8 trf8 kd_1 rfl 5 (by decide) gm_159 rfl rfl dX6_kind_15 (fun v9 hv9 fv9 => ?_)
      obtain ⟨x10, rfl, ix10⟩ := th_V.int hv9
      refine lv_icmp_ge (tgt := 36) hx hb dX6_kind_18 (by decide) (fun c11 => ?_) (fun c11 => ?_)
      · skip
        exact J36 H locs ls x2 (iv_top _) fv1 hH hS (lv_sub hl [] rfl)
      · skip
        have ir12 : IV x2 0 1600 := iv_uL ir5 ix10 (iv_nle c11) (by decide)
        have ir13 : IV x10 1 1601 := iv_uR ir5 ix10 (iv_nle c11) (by decide)
        refine lv_aload_n hx hb dX6_kind_21 rfl (lv_at hl 0 rfl) ?_
        refine th_getK S hK fv7 inG6 rfl (by decide) gm_339 rfl dX6_kind_22 ?_
        refine th_get S hK hH inG8 trf8 kd_1 rfl 1 (by decide) gm_150 rfl rfl dX6_kind_25 (fun v15 hv15 fv15 => ?_)
        obtain ⟨rf16, rfl, trf16⟩ := th_V.ref hv15
        refine lv_aload_n hx hb dX6_kind_28 rfl (lv_at hl 0 rfl) ?_
        refine th_getK S hK fv1 inG6 rfl (by decide) gm_342 rfl dX6_kind_29 ?_
        refine th_iald S hK hH trf16 kd_12 (th_in (hi := 1600) ir12 (by decide)) dX6_kind_32 (fun v18 hv18 => ?_)
        obtain ⟨x19, rfl, ix19⟩ := th_V.int hv18
        refine lv_goto (tgt := 37) hx hb dX6_kind_33 (by decide) ?_
        exact J37 H locs ls x19 x2 ix19 ir12 fv1 hH hS (lv_sub hl [] rfl)
  exact J0 s.heap [] ls hH va_S.rf hl

set_option maxRecDepth 100000 in
theorem m_X6_blame (l : Launch) (D : va_G) (cT : Nat → ClassId) (T : Nat → Option Nat) (q : Nat → Int) (hq : qok q) (a0 : Nat) (t0 : T a0 = some 2) (y1 : Int32) (j1 : IV y1 (-2147483648) 2147483647) : th_Met l D cT T (kd q) yX6_blame cX6_blame 3 (some .boolean) (rmk 0 0) [.ref a0, .int y1] (th_R T (some (.inl (0, 0)))) [2] := by
  refine th_start (by decide) (Nat.le_of_ble_eq_true rfl) ?_
  intro p e s m below meth c ls S hK hH hr hlocks hnm hl
  have hx := S.1
  have hb := S.2.1
  have hl : lv_has ls 3 [(0, .ref a0), (1, .int y1)] := hl
  have J83 : ∀ (H : Heap) (locs : List Loc) (ls : Array Slot) (w83_1 : Int32) (u83_a0_2 : Int32), IV w83_1 (-2147483648) 2147483647 → IV u83_a0_2 (-2147483648) 2147483647 → th_fa D H a0 6 2 (.int u83_a0_2) → th_H D cT T (kd q) H → va_S (th_A T [2]) s.heap H locs → lv_has ls 3 [] → W p l e (rmk 0 0) s m [.ref a0, .int y1].toArray below meth c H locs 0 0 (MQ below (th_Q D cT T (kd q) (th_R T (some (.inl (0, 0)))) [2]) [.ref a0, .int y1].toArray s 0 0 (th_A T [2])) (F0 m 83 ls [.int w83_1, .ref a0]) := by
    intro H locs ls w83_1 u83_a0_2 iw83_1 iu83_a0_2 gu83_a0_2 hH hS hl
    refine th_put S hK hH hS ⟨2, by decide, t0⟩ inG6 tyX6 tyX6_ok nmX6 t0 kd_2 rfl 5 (by decide) gm_346 rfl rfl rfl rfl (th_iv iw83_1) (fun _ _ => trivial) (ty := .int) (by decide +kernel) rfl rfl dX6_blame_83 (fun H locs hH hS hq1 hp1 => ?_)
    have f1 := hp1.2 2 _ (by decide) (by decide) gu83_a0_2
    refine lv_iconst (v := 0) hx hb dX6_blame_86 (by decide) ?_
    exact th_zret S hK hH hS hr hlocks (iv_w (iv_c (by decide) : IV 0 0 0) (by decide)) (th_R.i (iv_c (by decide) : IV 0 0 0)) dX6_blame_87
  have J53_l2_0 : ∀ (H : Heap) (locs : List Loc) (ls : Array Slot) (u53_a0_2 : Int32), IV u53_a0_2 (-2147483648) 2147483647 → th_fa D H a0 6 2 (.int u53_a0_2) → th_H D cT T (kd q) H → va_S (th_A T [2]) s.heap H locs → lv_has ls 3 [(0, .ref a0), (2, .int 0)] → W p l e (rmk 0 0) s m [.ref a0, .int y1].toArray below meth c H locs 0 0 (MQ below (th_Q D cT T (kd q) (th_R T (some (.inl (0, 0)))) [2]) [.ref a0, .int y1].toArray s 0 0 (th_A T [2])) (F0 m 53 ls [.int y1, .ref a0]) := by
    intro H locs ls u53_a0_2 iu53_a0_2 gu53_a0_2 hH hS hl
    refine th_put S hK hH hS ⟨2, by decide, t0⟩ inG6 tyX6 tyX6_ok nmX6 t0 kd_2 rfl 4 (by decide) gm_344 rfl rfl rfl rfl (th_iv j1) (fun _ _ => trivial) (ty := .int) (by decide +kernel) rfl rfl dX6_blame_53 (fun H locs hH hS hq1 hp1 => ?_)
    have f2 := hp1.2 2 _ (by decide) (by decide) gu53_a0_2
    refine lv_aload_n hx hb dX6_blame_56 rfl (lv_at hl 0 rfl) ?_
    refine lv_iload_n hx hb dX6_blame_57 rfl (lv_at hl 1 rfl) ?_
    refine lv_if_eq (tgt := 76) hx hb dX6_blame_58 (by decide) (fun c3 => ?_) (fun c3 => ?_)
    · skip
      refine lv_aload_n hx hb dX6_blame_76 rfl (lv_at hl 0 rfl) ?_
      refine th_get S hK hH inG6 t0 kd_2 rfl 0 (by decide) gm_339 rfl rfl dX6_blame_77 (fun v4 hv4 fv4 => ?_)
      obtain ⟨rf5, rfl, trf5⟩ := th_V.ref hv4
      refine th_get S hK hH inG8 trf5 kd_1 rfl 4 (by decide) gm_157 rfl rfl dX6_blame_80 (fun v6 hv6 fv6 => ?_)
      obtain ⟨x7, rfl, ix7⟩ := th_V.int hv6
      exact J83 H locs ls x7 u53_a0_2 (iv_top _) iu53_a0_2 f2 hH hS (lv_sub hl [] rfl)
    · skip
      exact absurd (iv_eqc (iv_c (by decide) : IV 0 0 0) (iv_c (by decide) : IV 0 0 0)) c3
  have J53_l2_1 : ∀ (H : Heap) (locs : List Loc) (ls : Array Slot) (u53_a0_2 : Int32), IV u53_a0_2 0 1600 → th_fa D H a0 6 2 (.int u53_a0_2) → th_H D cT T (kd q) H → va_S (th_A T [2]) s.heap H locs → lv_has ls 3 [(0, .ref a0), (2, .int 1)] → W p l e (rmk 0 0) s m [.ref a0, .int y1].toArray below meth c H locs 0 0 (MQ below (th_Q D cT T (kd q) (th_R T (some (.inl (0, 0)))) [2]) [.ref a0, .int y1].toArray s 0 0 (th_A T [2])) (F0 m 53 ls [.int y1, .ref a0]) := by
    intro H locs ls u53_a0_2 iu53_a0_2 gu53_a0_2 hH hS hl
    refine th_put S hK hH hS ⟨2, by decide, t0⟩ inG6 tyX6 tyX6_ok nmX6 t0 kd_2 rfl 4 (by decide) gm_344 rfl rfl rfl rfl (th_iv j1) (fun _ _ => trivial) (ty := .int) (by decide +kernel) rfl rfl dX6_blame_53 (fun H locs hH hS hq1 hp1 => ?_)
    have f8 := hp1.2 2 _ (by decide) (by decide) gu53_a0_2
    refine lv_aload_n hx hb dX6_blame_56 rfl (lv_at hl 0 rfl) ?_
    refine lv_iload_n hx hb dX6_blame_57 rfl (lv_at hl 1 rfl) ?_
    refine lv_if_eq (tgt := 76) hx hb dX6_blame_58 (by decide) (fun c9 => ?_) (fun c9 => ?_)
    · skip
      exfalso
      have z1 := congrArg Int32.toInt c9
      have z2 := ((iv_c (by decide) : IV 1 1 1)).1
      have z3 := ((iv_c (by decide) : IV 1 1 1)).2
      have z4 := ((iv_c (by decide) : IV 0 0 0)).1
      have z5 := ((iv_c (by decide) : IV 0 0 0)).2
      omega
    · skip
      refine lv_aload_n hx hb dX6_blame_61 rfl (lv_at hl 0 rfl) ?_
      refine th_get S hK hH inG6 t0 kd_2 rfl 0 (by decide) gm_339 rfl rfl dX6_blame_62 (fun v10 hv10 fv10 => ?_)
      obtain ⟨rf11, rfl, trf11⟩ := th_V.ref hv10
      refine th_get S hK hH inG8 trf11 kd_1 rfl 2 (by decide) gm_152 rfl rfl dX6_blame_65 (fun v12 hv12 fv12 => ?_)
      obtain ⟨rf13, rfl, trf13⟩ := th_V.ref hv12
      refine lv_aload_n hx hb dX6_blame_68 rfl (lv_at hl 0 rfl) ?_
      refine th_getK S hK f8 inG6 rfl (by decide) gm_342 rfl dX6_blame_69 ?_
      refine th_iald S hK hH trf13 kd_13 (th_in (hi := 1600) iu53_a0_2 (by decide)) dX6_blame_72 (fun v15 hv15 => ?_)
      obtain ⟨x16, rfl, ix16⟩ := th_V.int hv15
      refine lv_goto (tgt := 83) hx hb dX6_blame_73 (by decide) ?_
      exact J83 H locs ls x16 u53_a0_2 ix16 (iv_top _) f8 hH hS (lv_sub hl [] rfl)
  have J53_s1_1_l2_1 : ∀ (H : Heap) (locs : List Loc) (ls : Array Slot) (u53_a0_2 : Int32), IV u53_a0_2 0 1600 → th_fa D H a0 6 2 (.int u53_a0_2) → th_H D cT T (kd q) H → va_S (th_A T [2]) s.heap H locs → lv_has ls 3 [(0, .ref a0), (2, .int 1)] → W p l e (rmk 0 0) s m [.ref a0, .int y1].toArray below meth c H locs 0 0 (MQ below (th_Q D cT T (kd q) (th_R T (some (.inl (0, 0)))) [2]) [.ref a0, .int y1].toArray s 0 0 (th_A T [2])) (F0 m 53 ls [.int 1, .ref a0]) := by
    intro H locs ls u53_a0_2 iu53_a0_2 gu53_a0_2 hH hS hl
    refine th_put S hK hH hS ⟨2, by decide, t0⟩ inG6 tyX6 tyX6_ok nmX6 t0 kd_2 rfl 4 (by decide) gm_344 rfl rfl rfl rfl (th_iv (iv_top _)) (fun _ _ => trivial) (ty := .int) (by decide +kernel) rfl rfl dX6_blame_53 (fun H locs hH hS hq1 hp1 => ?_)
    have f17 := hp1.2 2 _ (by decide) (by decide) gu53_a0_2
    refine lv_aload_n hx hb dX6_blame_56 rfl (lv_at hl 0 rfl) ?_
    refine lv_iload_n hx hb dX6_blame_57 rfl (lv_at hl 1 rfl) ?_
    refine lv_if_eq (tgt := 76) hx hb dX6_blame_58 (by decide) (fun c18 => ?_) (fun c18 => ?_)
    · skip
      exfalso
      have z1 := congrArg Int32.toInt c18
      have z2 := ((iv_c (by decide) : IV 1 1 1)).1
      have z3 := ((iv_c (by decide) : IV 1 1 1)).2
      have z4 := ((iv_c (by decide) : IV 0 0 0)).1
      have z5 := ((iv_c (by decide) : IV 0 0 0)).2
      omega
    · skip
      refine lv_aload_n hx hb dX6_blame_61 rfl (lv_at hl 0 rfl) ?_
      refine th_get S hK hH inG6 t0 kd_2 rfl 0 (by decide) gm_339 rfl rfl dX6_blame_62 (fun v19 hv19 fv19 => ?_)
      obtain ⟨rf20, rfl, trf20⟩ := th_V.ref hv19
      refine th_get S hK hH inG8 trf20 kd_1 rfl 2 (by decide) gm_152 rfl rfl dX6_blame_65 (fun v21 hv21 fv21 => ?_)
      obtain ⟨rf22, rfl, trf22⟩ := th_V.ref hv21
      refine lv_aload_n hx hb dX6_blame_68 rfl (lv_at hl 0 rfl) ?_
      refine th_getK S hK f17 inG6 rfl (by decide) gm_342 rfl dX6_blame_69 ?_
      refine th_iald S hK hH trf22 kd_13 (th_in (hi := 1600) iu53_a0_2 (by decide)) dX6_blame_72 (fun v24 hv24 => ?_)
      obtain ⟨x25, rfl, ix25⟩ := th_V.int hv24
      refine lv_goto (tgt := 83) hx hb dX6_blame_73 (by decide) ?_
      exact J83 H locs ls x25 u53_a0_2 ix25 (iv_top _) f17 hH hS (lv_sub hl [] rfl)
  have J52_l2_0 : ∀ (H : Heap) (locs : List Loc) (ls : Array Slot) (u52_a0_2 : Int32), IV u52_a0_2 (-2147483648) 2147483647 → th_fa D H a0 6 2 (.int u52_a0_2) → th_H D cT T (kd q) H → va_S (th_A T [2]) s.heap H locs → lv_has ls 3 [(0, .ref a0), (1, .int y1), (2, .int 0)] → W p l e (rmk 0 0) s m [.ref a0, .int y1].toArray below meth c H locs 0 0 (MQ below (th_Q D cT T (kd q) (th_R T (some (.inl (0, 0)))) [2]) [.ref a0, .int y1].toArray s 0 0 (th_A T [2])) (F0 m 52 ls [.ref a0]) := by
    intro H locs ls u52_a0_2 iu52_a0_2 gu52_a0_2 hH hS hl
    refine lv_iload_n hx hb dX6_blame_52 rfl (lv_at hl 1 rfl) ?_
    exact J53_l2_0 H locs ls u52_a0_2 iu52_a0_2 gu52_a0_2 hH hS (lv_sub hl [0, 2] rfl)
  have J52_l2_1 : ∀ (H : Heap) (locs : List Loc) (ls : Array Slot) (u52_a0_2 : Int32), IV u52_a0_2 0 1600 → th_fa D H a0 6 2 (.int u52_a0_2) → th_H D cT T (kd q) H → va_S (th_A T [2]) s.heap H locs → lv_has ls 3 [(0, .ref a0), (1, .int y1), (2, .int 1)] → W p l e (rmk 0 0) s m [.ref a0, .int y1].toArray below meth c H locs 0 0 (MQ below (th_Q D cT T (kd q) (th_R T (some (.inl (0, 0)))) [2]) [.ref a0, .int y1].toArray s 0 0 (th_A T [2])) (F0 m 52 ls [.ref a0]) := by
    intro H locs ls u52_a0_2 iu52_a0_2 gu52_a0_2 hH hS hl
    refine lv_iload_n hx hb dX6_blame_52 rfl (lv_at hl 1 rfl) ?_
    exact J53_l2_1 H locs ls u52_a0_2 iu52_a0_2 gu52_a0_2 hH hS (lv_sub hl [0, 2] rfl)
  have J26_s0_0 : ∀ (H : Heap) (locs : List Loc) (ls : Array Slot) (u26_a0_2 : Int32), IV u26_a0_2 (-2147483648) 2147483647 → th_fa D H a0 6 2 (.int u26_a0_2) → th_H D cT T (kd q) H → va_S (th_A T [2]) s.heap H locs → lv_has ls 3 [(0, .ref a0), (1, .int y1)] → W p l e (rmk 0 0) s m [.ref a0, .int y1].toArray below meth c H locs 0 0 (MQ below (th_Q D cT T (kd q) (th_R T (some (.inl (0, 0)))) [2]) [.ref a0, .int y1].toArray s 0 0 (th_A T [2])) (F0 m 26 ls [.int 0]) := by
    intro H locs ls u26_a0_2 iu26_a0_2 gu26_a0_2 hH hS hl
    refine lv_istore_n (lv' := [(2, .int 0), (0, .ref a0), (1, .int y1)]) hx hb dX6_blame_26 rfl hl (by decide) rfl (fun ls hl => ?_)
    refine lv_aload_n hx hb dX6_blame_27 rfl (lv_at hl 1 rfl) ?_
    refine lv_iload_n hx hb dX6_blame_28 rfl (lv_at hl 0 rfl) ?_
    refine lv_if_eq (tgt := 52) hx hb dX6_blame_29 (by decide) (fun c26 => ?_) (fun c26 => ?_)
    · skip
      exact J52_l2_0 H locs ls u26_a0_2 iu26_a0_2 gu26_a0_2 hH hS (lv_sub hl [1, 2, 0] rfl)
    · skip
      exact absurd (iv_eqc (iv_c (by decide) : IV 0 0 0) (iv_c (by decide) : IV 0 0 0)) c26
  have J26_s0_1 : ∀ (H : Heap) (locs : List Loc) (ls : Array Slot) (u26_a0_2 : Int32), IV u26_a0_2 0 1600 → th_fa D H a0 6 2 (.int u26_a0_2) → th_H D cT T (kd q) H → va_S (th_A T [2]) s.heap H locs → lv_has ls 3 [(0, .ref a0), (1, .int y1)] → W p l e (rmk 0 0) s m [.ref a0, .int y1].toArray below meth c H locs 0 0 (MQ below (th_Q D cT T (kd q) (th_R T (some (.inl (0, 0)))) [2]) [.ref a0, .int y1].toArray s 0 0 (th_A T [2])) (F0 m 26 ls [.int 1]) := by
    intro H locs ls u26_a0_2 iu26_a0_2 gu26_a0_2 hH hS hl
    refine lv_istore_n (lv' := [(2, .int 1), (0, .ref a0), (1, .int y1)]) hx hb dX6_blame_26 rfl hl (by decide) rfl (fun ls hl => ?_)
    refine lv_aload_n hx hb dX6_blame_27 rfl (lv_at hl 1 rfl) ?_
    refine lv_iload_n hx hb dX6_blame_28 rfl (lv_at hl 0 rfl) ?_
    refine lv_if_eq (tgt := 52) hx hb dX6_blame_29 (by decide) (fun c27 => ?_) (fun c27 => ?_)
    · skip
      exfalso
      have z1 := congrArg Int32.toInt c27
      have z2 := ((iv_c (by decide) : IV 1 1 1)).1
      have z3 := ((iv_c (by decide) : IV 1 1 1)).2
      have z4 := ((iv_c (by decide) : IV 0 0 0)).1
      have z5 := ((iv_c (by decide) : IV 0 0 0)).2
      omega
    · skip
      refine lv_aload_n hx hb dX6_blame_32 rfl (lv_at hl 1 rfl) ?_
      refine th_get S hK hH inG6 t0 kd_2 rfl 0 (by decide) gm_339 rfl rfl dX6_blame_33 (fun v28 hv28 fv28 => ?_)
      obtain ⟨rf29, rfl, trf29⟩ := th_V.ref hv28
      refine th_get S hK hH inG8 trf29 kd_1 rfl 1 (by decide) gm_150 rfl rfl dX6_blame_36 (fun v30 hv30 fv30 => ?_)
      obtain ⟨rf31, rfl, trf31⟩ := th_V.ref hv30
      refine lv_aload_n hx hb dX6_blame_39 rfl (lv_at hl 1 rfl) ?_
      refine th_getK S hK gu26_a0_2 inG6 rfl (by decide) gm_342 rfl dX6_blame_40 ?_
      refine th_iald S hK hH trf31 kd_12 (th_in (hi := 1600) iu26_a0_2 (by decide)) dX6_blame_43 (fun v33 hv33 => ?_)
      obtain ⟨x34, rfl, ix34⟩ := th_V.int hv33
      refine lv_iconst (v := 1) hx hb dX6_blame_44 (by decide) ?_
      refine lv_icmp_ne (tgt := 52) hx hb dX6_blame_45 (by decide) (fun c35 => ?_) (fun c35 => ?_)
      · skip
        exact J52_l2_1 H locs ls u26_a0_2 iu26_a0_2 gu26_a0_2 hH hS (lv_sub hl [1, 2, 0] rfl)
      · skip
        have ir36 : IV x34 1 1 := iv_eL c35 (iv_c (by decide) : IV 1 1 1)
        refine lv_iconst (v := 1) hx hb dX6_blame_48 (by decide) ?_
        refine lv_goto (tgt := 53) hx hb dX6_blame_49 (by decide) ?_
        exact J53_s1_1_l2_1 H locs ls u26_a0_2 iu26_a0_2 gu26_a0_2 hH hS (lv_sub hl [1, 0] rfl)
  have J25 : ∀ (H : Heap) (locs : List Loc) (ls : Array Slot) (u25_a0_2 : Int32), IV u25_a0_2 (-2147483648) 2147483647 → th_fa D H a0 6 2 (.int u25_a0_2) → th_H D cT T (kd q) H → va_S (th_A T [2]) s.heap H locs → lv_has ls 3 [(0, .ref a0), (1, .int y1)] → W p l e (rmk 0 0) s m [.ref a0, .int y1].toArray below meth c H locs 0 0 (MQ below (th_Q D cT T (kd q) (th_R T (some (.inl (0, 0)))) [2]) [.ref a0, .int y1].toArray s 0 0 (th_A T [2])) (F0 m 25 ls []) := by
    intro H locs ls u25_a0_2 iu25_a0_2 gu25_a0_2 hH hS hl
    refine lv_iconst (v := 0) hx hb dX6_blame_25 (by decide) ?_
    exact J26_s0_0 H locs ls u25_a0_2 iu25_a0_2 gu25_a0_2 hH hS (lv_sub hl [0, 1] rfl)
  have J0 : ∀ (H : Heap) (locs : List Loc) (ls : Array Slot), th_H D cT T (kd q) H → va_S (th_A T [2]) s.heap H locs → lv_has ls 3 [(0, .ref a0), (1, .int y1)] → W p l e (rmk 0 0) s m [.ref a0, .int y1].toArray below meth c H locs 0 0 (MQ below (th_Q D cT T (kd q) (th_R T (some (.inl (0, 0)))) [2]) [.ref a0, .int y1].toArray s 0 0 (th_A T [2])) (F0 m 0 ls []) := by
    intro H locs ls hH hS hl
    refine lv_aload_n hx hb dX6_blame_0 rfl (lv_at hl 0 rfl) ?_
    refine th_get S hK hH inG6 t0 kd_2 rfl 2 (by decide) gm_342 rfl rfl dX6_blame_1 (fun v37 hv37 fv37 => ?_)
    obtain ⟨x38, rfl, ix38⟩ := th_V.int hv37
    refine lv_if_lt (tgt := 25) hx hb dX6_blame_4 (by decide) (fun c39 => ?_) (fun c39 => ?_)
    · skip
      have ir40 : IV x38 (-2147483648) (-1) := iv_uL ix38 (iv_c (by decide) : IV 0 0 0) (iv_lt c39) (by decide)
      exact J25 H locs ls x38 (iv_top _) fv37 hH hS (lv_sub hl [0, 1] rfl)
    · skip
      have ir41 : IV x38 0 2147483647 := iv_vR (iv_c (by decide) : IV 0 0 0) ix38 (iv_nlt c39) (by decide)
      refine lv_aload_n hx hb dX6_blame_7 rfl (lv_at hl 0 rfl) ?_
      refine th_getK S hK fv37 inG6 rfl (by decide) gm_342 rfl dX6_blame_8 ?_
      refine lv_aload_n hx hb dX6_blame_11 rfl (lv_at hl 0 rfl) ?_
      refine th_get S hK hH inG6 t0 kd_2 rfl 0 (by decide) gm_339 rfl rfl dX6_blame_12 (fun v43 hv43 fv43 => ?_)
      obtain ⟨rf44, rfl, trf44⟩ := th_V.ref hv43
      refine th_get S hK hH inG8 trf44 kd_1 rfl 5 (by decide) gm_159 rfl rfl dX6_blame_15 (fun v45 hv45 fv45 => ?_)
      obtain ⟨x46, rfl, ix46⟩ := th_V.int hv45
      refine lv_icmp_ge (tgt := 25) hx hb dX6_blame_18 (by decide) (fun c47 => ?_) (fun c47 => ?_)
      · skip
        exact J25 H locs ls x38 (iv_top _) fv37 hH hS (lv_sub hl [0, 1] rfl)
      · skip
        have ir48 : IV x38 0 1600 := iv_uL ir41 ix46 (iv_nle c47) (by decide)
        have ir49 : IV x46 1 1601 := iv_uR ir41 ix46 (iv_nle c47) (by decide)
        refine lv_iconst (v := 1) hx hb dX6_blame_21 (by decide) ?_
        refine lv_goto (tgt := 26) hx hb dX6_blame_22 (by decide) ?_
        exact J26_s0_1 H locs ls x38 ir48 fv37 hH hS (lv_sub hl [0, 1] rfl)
  exact J0 s.heap [] ls hH va_S.rf hl

set_option maxRecDepth 100000 in
theorem m_X6_value (l : Launch) (D : va_G) (cT : Nat → ClassId) (T : Nat → Option Nat) (q : Nat → Int) (hq : qok q) (a0 : Nat) (t0 : T a0 = some 2) : th_Met l D cT T (kd q) yX6_value cX6_value 1 (some .long) (rmk 0 0) [.ref a0] (th_R T (some (.inr 0))) [] := by
  refine th_start (by decide) (Nat.le_of_ble_eq_true rfl) ?_
  intro p e s m below meth c ls S hK hH hr hlocks hnm hl
  have hx := S.1
  have hb := S.2.1
  have hl : lv_has ls 1 [(0, .ref a0)] := hl
  have J37 : ∀ (H : Heap) (locs : List Loc) (ls : Array Slot) (w37_0 : Int64) (u37_a0_2 : Int32), IV u37_a0_2 (-2147483648) 2147483647 → th_fa D H a0 6 2 (.int u37_a0_2) → th_H D cT T (kd q) H → va_S (th_A T []) s.heap H locs → lv_has ls 1 [] → W p l e (rmk 0 0) s m [.ref a0].toArray below meth c H locs 0 0 (MQ below (th_Q D cT T (kd q) (th_R T (some (.inr 0))) []) [.ref a0].toArray s 0 0 (th_A T [])) (F0 m 37 ls [.long w37_0]) := by
    intro H locs ls w37_0 u37_a0_2 iu37_a0_2 gu37_a0_2 hH hS hl
    exact th_lret S hK hH hS hr hlocks (th_R.l _) dX6_value_37
  have J36 : ∀ (H : Heap) (locs : List Loc) (ls : Array Slot) (u36_a0_2 : Int32), IV u36_a0_2 (-2147483648) 2147483647 → th_fa D H a0 6 2 (.int u36_a0_2) → th_H D cT T (kd q) H → va_S (th_A T []) s.heap H locs → lv_has ls 1 [] → W p l e (rmk 0 0) s m [.ref a0].toArray below meth c H locs 0 0 (MQ below (th_Q D cT T (kd q) (th_R T (some (.inr 0))) []) [.ref a0].toArray s 0 0 (th_A T [])) (F0 m 36 ls []) := by
    intro H locs ls u36_a0_2 iu36_a0_2 gu36_a0_2 hH hS hl
    refine lv_lconst (v := 0) hx hb dX6_value_36 (by decide) ?_
    exact J37 H locs ls 0 u36_a0_2 iu36_a0_2 gu36_a0_2 hH hS (lv_sub hl [] rfl)
  have J0 : ∀ (H : Heap) (locs : List Loc) (ls : Array Slot), th_H D cT T (kd q) H → va_S (th_A T []) s.heap H locs → lv_has ls 1 [(0, .ref a0)] → W p l e (rmk 0 0) s m [.ref a0].toArray below meth c H locs 0 0 (MQ below (th_Q D cT T (kd q) (th_R T (some (.inr 0))) []) [.ref a0].toArray s 0 0 (th_A T [])) (F0 m 0 ls []) := by
    intro H locs ls hH hS hl
    refine lv_aload_n hx hb dX6_value_0 rfl (lv_at hl 0 rfl) ?_
    refine th_get S hK hH inG6 t0 kd_2 rfl 2 (by decide) gm_342 rfl rfl dX6_value_1 (fun v1 hv1 fv1 => ?_)
    obtain ⟨x2, rfl, ix2⟩ := th_V.int hv1
    refine lv_if_lt (tgt := 36) hx hb dX6_value_4 (by decide) (fun c3 => ?_) (fun c3 => ?_)
    · skip
      have ir4 : IV x2 (-2147483648) (-1) := iv_uL ix2 (iv_c (by decide) : IV 0 0 0) (iv_lt c3) (by decide)
      exact J36 H locs ls x2 (iv_top _) fv1 hH hS (lv_sub hl [] rfl)
    · skip
      have ir5 : IV x2 0 2147483647 := iv_vR (iv_c (by decide) : IV 0 0 0) ix2 (iv_nlt c3) (by decide)
      refine lv_aload_n hx hb dX6_value_7 rfl (lv_at hl 0 rfl) ?_
      refine th_getK S hK fv1 inG6 rfl (by decide) gm_342 rfl dX6_value_8 ?_
      refine lv_aload_n hx hb dX6_value_11 rfl (lv_at hl 0 rfl) ?_
      refine th_get S hK hH inG6 t0 kd_2 rfl 0 (by decide) gm_339 rfl rfl dX6_value_12 (fun v7 hv7 fv7 => ?_)
      obtain ⟨rf8, rfl, trf8⟩ := th_V.ref hv7
      refine th_get S hK hH inG8 trf8 kd_1 rfl 5 (by decide) gm_159 rfl rfl dX6_value_15 (fun v9 hv9 fv9 => ?_)
      obtain ⟨x10, rfl, ix10⟩ := th_V.int hv9
      refine lv_icmp_ge (tgt := 36) hx hb dX6_value_18 (by decide) (fun c11 => ?_) (fun c11 => ?_)
      · skip
        exact J36 H locs ls x2 (iv_top _) fv1 hH hS (lv_sub hl [] rfl)
      · skip
        have ir12 : IV x2 0 1600 := iv_uL ir5 ix10 (iv_nle c11) (by decide)
        have ir13 : IV x10 1 1601 := iv_uR ir5 ix10 (iv_nle c11) (by decide)
        refine lv_aload_n hx hb dX6_value_21 rfl (lv_at hl 0 rfl) ?_
        refine th_getK S hK fv7 inG6 rfl (by decide) gm_339 rfl dX6_value_22 ?_
        refine th_get S hK hH inG8 trf8 kd_1 rfl 3 (by decide) gm_154 rfl rfl dX6_value_25 (fun v15 hv15 fv15 => ?_)
        obtain ⟨rf16, rfl, trf16⟩ := th_V.ref hv15
        refine lv_aload_n hx hb dX6_value_28 rfl (lv_at hl 0 rfl) ?_
        refine th_getK S hK fv1 inG6 rfl (by decide) gm_342 rfl dX6_value_29 ?_
        refine th_lald S hK hH trf16 kd_14 (th_in (hi := 1600) ir12 (by decide)) dX6_value_32 (fun v18 hv18 => ?_)
        obtain ⟨lg19, rfl⟩ := th_V.long hv18
        refine lv_goto (tgt := 37) hx hb dX6_value_33 (by decide) ?_
        exact J37 H locs ls lg19 x2 (iv_top _) fv1 hH hS (lv_sub hl [] rfl)
  exact J0 s.heap [] ls hH va_S.rf hl

set_option maxRecDepth 100000 in
theorem m_X6_indexOf_v0 (l : Launch) (D : va_G) (cT : Nat → ClassId) (T : Nat → Option Nat) (q : Nat → Int) (hq : qok q) (a0 : Nat) (t0 : T a0 = some 2) (a1 : Nat) (t1 : T a1 = some 47) (y2 : Int32) (j2 : IV y2 (-2147483648) 2147483647) : th_Met l D cT T (kd q) yX6_indexOf cX6_indexOf 4 (some .int) (rmk 1 20) [.ref a0, .ref a1, .int y2] (th_R T (some (.inl (-1, 2)))) [] := by
  refine th_start (by decide) (Nat.le_of_ble_eq_true rfl) ?_
  intro p e s m below meth c ls S hK hH hr hlocks hnm hl
  have hx := S.1
  have hb := S.2.1
  have hl : lv_has ls 4 [(0, .ref a0), (1, .ref a1), (2, .int y2)] := hl
  have J32 : ∀ (H : Heap) (locs : List Loc) (ls : Array Slot), th_H D cT T (kd q) H → va_S (th_A T []) s.heap H locs → lv_has ls 4 [] → W p l e (rmk 1 20) s m [.ref a0, .ref a1, .int y2].toArray below meth c H locs 0 0 (MQ below (th_Q D cT T (kd q) (th_R T (some (.inl (-1, 2)))) []) [.ref a0, .ref a1, .int y2].toArray s 0 0 (th_A T [])) (F0 m 32 ls []) := by
    intro H locs ls hH hS hl
    refine lv_iconst (v := (-1)) hx hb dX6_indexOf_32 (by decide) ?_
    exact th_iret S hK hH hS hr hlocks (th_R.i (iv_w (iv_c (by decide) : IV (-1) (-1) (-1)) (by decide))) dX6_indexOf_33
  have J2 : ∀ (n : Nat) (H : Heap) (locs : List Loc) (ls : Array Slot) (v2_3 : Int32), IV v2_3 0 3 → th_H D cT T (kd q) H → va_S (th_A T []) s.heap H locs → lv_has ls 4 [(0, .ref a0), (1, .ref a1), (2, .int y2), (3, .int v2_3)] → (3 + 1 - v2_3.toInt).toNat < n → W p l e (rmk 1 20) s m [.ref a0, .ref a1, .int y2].toArray below meth c H locs 0 0 (MQ below (th_Q D cT T (kd q) (th_R T (some (.inl (-1, 2)))) []) [.ref a0, .ref a1, .int y2].toArray s 0 0 (th_A T [])) (F0 m 2 ls []) := by
    intro n
    induction n with
    | zero => intro H locs ls v2_3 iv2_3 hH hS hl hn; exact absurd hn (Nat.not_lt_zero _)
    | succ n ih2 =>
      intro H locs ls v2_3 iv2_3 hH hS hl hn2
      refine lv_iload_n hx hb dX6_indexOf_2 rfl (lv_at hl 3 rfl) ?_
      refine lv_iload_n hx hb dX6_indexOf_3 rfl (lv_at hl 2 rfl) ?_
      refine lv_icmp_ge (tgt := 32) hx hb dX6_indexOf_4 (by decide) (fun c1 => ?_) (fun c1 => ?_)
      · skip
        have ir2 : IV y2 (-2147483648) 3 := iv_vL j2 iv2_3 (iv_le c1) (by decide)
        exact J32 H locs ls  hH hS (lv_sub hl [] rfl)
      · skip
        have ir3 : IV y2 1 2147483647 := iv_uR iv2_3 j2 (iv_nle c1) (by decide)
        refine lv_iload_n hx hb dX6_indexOf_7 rfl (lv_at hl 3 rfl) ?_
        refine lv_aload_n hx hb dX6_indexOf_8 rfl (lv_at hl 1 rfl) ?_
        refine th_alen S hK hH t1 kd_47 rfl (v := 3) (by decide) dX6_indexOf_9 ?_
        refine lv_icmp_ge (tgt := 32) hx hb dX6_indexOf_10 (by decide) (fun c4 => ?_) (fun c4 => ?_)
        · skip
          have ir5 : IV v2_3 3 3 := iv_vR (iv_c (by decide) : IV 3 3 3) iv2_3 (iv_le c4) (by decide)
          exact J32 H locs ls  hH hS (lv_sub hl [] rfl)
        · skip
          have ir6 : IV v2_3 0 2 := iv_uL iv2_3 (iv_c (by decide) : IV 3 3 3) (iv_nle c4) (by decide)
          refine lv_aload_n hx hb dX6_indexOf_13 rfl (lv_at hl 1 rfl) ?_
          refine lv_iload_n hx hb dX6_indexOf_14 rfl (lv_at hl 3 rfl) ?_
          refine th_lald S hK hH t1 kd_47 (th_in (hi := 2) ir6 (by decide)) dX6_indexOf_15 (fun v7 hv7 => ?_)
          obtain ⟨lg8, rfl⟩ := th_V.long hv7
          refine lv_aload_n hx hb dX6_indexOf_16 rfl (lv_at hl 0 rfl) ?_
          refine th_callVl (n := 0) (As := []) S hK hH hS (th_A.sub (by decide)) (m_X6_value l D cT T q hq a0 t0) gm_738 gm_735 gm_737 gm_10 gm_115 (by decide +kernel) ⟨rfl, rfl, Nat.le_of_ble_eq_true rfl, Nat.le_of_ble_eq_true rfl⟩ t0 kd_2 rfl rfl hl.1 rfl (Nat.le_of_ble_eq_true rfl) dX6_indexOf_17 ⟨Nat.zero_le _, Nat.zero_le _⟩ (fun lg9 H locs hH hS hF1 => ?_)
          refine W.lcmp hx hb dX6_indexOf_20 ?_
          refine lv_topi (fun x10 ex10 => ?_)
          have ix10 := iv_top x10
          refine lv_if_ne (tgt := 26) hx hb dX6_indexOf_21 (by decide) (fun c11 => ?_) (fun c11 => ?_)
          · skip
            refine th_iinc S dX6_indexOf_26 hl (k := 3) rfl (by decide) ir6 (by decide) (fun x12 ls ex12 ix12 hl => ?_)
            have hl : lv_has ls 4 [(3, .int x12), (0, .ref a0), (1, .ref a1), (2, .int y2)] := hl
            have ix12 : IV x12 1 3 := ix12
            refine lv_goto (tgt := 2) hx hb dX6_indexOf_29 (by decide) ?_
            exact ih2 H locs ls x12 (iv_w ix12 (by decide)) hH hS (lv_sub hl [1, 2, 3, 0] rfl) (th_up iv2_3 ex12 (by decide) hn2)
          · skip
            have ir13 : IV x10 0 0 := iv_eL c11 (iv_c (by decide) : IV 0 0 0)
            refine lv_iload_n hx hb dX6_indexOf_24 rfl (lv_at hl 3 rfl) ?_
            exact th_iret S hK hH hS hr hlocks (th_R.i (iv_w ir6 (by decide))) dX6_indexOf_25
  have J0 : ∀ (H : Heap) (locs : List Loc) (ls : Array Slot), th_H D cT T (kd q) H → va_S (th_A T []) s.heap H locs → lv_has ls 4 [(0, .ref a0), (1, .ref a1), (2, .int y2)] → W p l e (rmk 1 20) s m [.ref a0, .ref a1, .int y2].toArray below meth c H locs 0 0 (MQ below (th_Q D cT T (kd q) (th_R T (some (.inl (-1, 2)))) []) [.ref a0, .ref a1, .int y2].toArray s 0 0 (th_A T [])) (F0 m 0 ls []) := by
    intro H locs ls hH hS hl
    refine lv_iconst (v := 0) hx hb dX6_indexOf_0 (by decide) ?_
    refine lv_istore_n (lv' := [(3, .int 0), (0, .ref a0), (1, .ref a1), (2, .int y2)]) hx hb dX6_indexOf_1 rfl hl (by decide) rfl (fun ls hl => ?_)
    exact J2 ((3 + 1 - Int32.toInt 0).toNat + 1) H locs ls 0 (iv_w (iv_c (by decide) : IV 0 0 0) (by decide)) hH hS (lv_sub hl [1, 2, 3, 0] rfl) (Nat.lt_succ_self _)
  exact J0 s.heap [] ls hH va_S.rf hl

set_option maxRecDepth 100000 in
theorem m_X6_indexOf_v1 (l : Launch) (D : va_G) (cT : Nat → ClassId) (T : Nat → Option Nat) (q : Nat → Int) (hq : qok q) (a0 : Nat) (t0 : T a0 = some 2) (a1 : Nat) (t1 : T a1 = some 48) (y2 : Int32) (j2 : IV y2 (-2147483648) 2147483647) : th_Met l D cT T (kd q) yX6_indexOf cX6_indexOf 4 (some .int) (rmk 1 20) [.ref a0, .ref a1, .int y2] (th_R T (some (.inl (-1, 3)))) [] := by
  refine th_start (by decide) (Nat.le_of_ble_eq_true rfl) ?_
  intro p e s m below meth c ls S hK hH hr hlocks hnm hl
  have hx := S.1
  have hb := S.2.1
  have hl : lv_has ls 4 [(0, .ref a0), (1, .ref a1), (2, .int y2)] := hl
  have J32 : ∀ (H : Heap) (locs : List Loc) (ls : Array Slot), th_H D cT T (kd q) H → va_S (th_A T []) s.heap H locs → lv_has ls 4 [] → W p l e (rmk 1 20) s m [.ref a0, .ref a1, .int y2].toArray below meth c H locs 0 0 (MQ below (th_Q D cT T (kd q) (th_R T (some (.inl (-1, 3)))) []) [.ref a0, .ref a1, .int y2].toArray s 0 0 (th_A T [])) (F0 m 32 ls []) := by
    intro H locs ls hH hS hl
    refine lv_iconst (v := (-1)) hx hb dX6_indexOf_32 (by decide) ?_
    exact th_iret S hK hH hS hr hlocks (th_R.i (iv_w (iv_c (by decide) : IV (-1) (-1) (-1)) (by decide))) dX6_indexOf_33
  have J2 : ∀ (n : Nat) (H : Heap) (locs : List Loc) (ls : Array Slot) (v2_3 : Int32), IV v2_3 0 4 → th_H D cT T (kd q) H → va_S (th_A T []) s.heap H locs → lv_has ls 4 [(0, .ref a0), (1, .ref a1), (2, .int y2), (3, .int v2_3)] → (4 + 1 - v2_3.toInt).toNat < n → W p l e (rmk 1 20) s m [.ref a0, .ref a1, .int y2].toArray below meth c H locs 0 0 (MQ below (th_Q D cT T (kd q) (th_R T (some (.inl (-1, 3)))) []) [.ref a0, .ref a1, .int y2].toArray s 0 0 (th_A T [])) (F0 m 2 ls []) := by
    intro n
    induction n with
    | zero => intro H locs ls v2_3 iv2_3 hH hS hl hn; exact absurd hn (Nat.not_lt_zero _)
    | succ n ih2 =>
      intro H locs ls v2_3 iv2_3 hH hS hl hn2
      refine lv_iload_n hx hb dX6_indexOf_2 rfl (lv_at hl 3 rfl) ?_
      refine lv_iload_n hx hb dX6_indexOf_3 rfl (lv_at hl 2 rfl) ?_
      refine lv_icmp_ge (tgt := 32) hx hb dX6_indexOf_4 (by decide) (fun c1 => ?_) (fun c1 => ?_)
      · skip
        have ir2 : IV y2 (-2147483648) 4 := iv_vL j2 iv2_3 (iv_le c1) (by decide)
        exact J32 H locs ls  hH hS (lv_sub hl [] rfl)
      · skip
        have ir3 : IV y2 1 2147483647 := iv_uR iv2_3 j2 (iv_nle c1) (by decide)
        refine lv_iload_n hx hb dX6_indexOf_7 rfl (lv_at hl 3 rfl) ?_
        refine lv_aload_n hx hb dX6_indexOf_8 rfl (lv_at hl 1 rfl) ?_
        refine th_alen S hK hH t1 kd_48 rfl (v := 4) (by decide) dX6_indexOf_9 ?_
        refine lv_icmp_ge (tgt := 32) hx hb dX6_indexOf_10 (by decide) (fun c4 => ?_) (fun c4 => ?_)
        · skip
          have ir5 : IV v2_3 4 4 := iv_vR (iv_c (by decide) : IV 4 4 4) iv2_3 (iv_le c4) (by decide)
          exact J32 H locs ls  hH hS (lv_sub hl [] rfl)
        · skip
          have ir6 : IV v2_3 0 3 := iv_uL iv2_3 (iv_c (by decide) : IV 4 4 4) (iv_nle c4) (by decide)
          refine lv_aload_n hx hb dX6_indexOf_13 rfl (lv_at hl 1 rfl) ?_
          refine lv_iload_n hx hb dX6_indexOf_14 rfl (lv_at hl 3 rfl) ?_
          refine th_lald S hK hH t1 kd_48 (th_in (hi := 3) ir6 (by decide)) dX6_indexOf_15 (fun v7 hv7 => ?_)
          obtain ⟨lg8, rfl⟩ := th_V.long hv7
          refine lv_aload_n hx hb dX6_indexOf_16 rfl (lv_at hl 0 rfl) ?_
          refine th_callVl (n := 0) (As := []) S hK hH hS (th_A.sub (by decide)) (m_X6_value l D cT T q hq a0 t0) gm_738 gm_735 gm_737 gm_10 gm_115 (by decide +kernel) ⟨rfl, rfl, Nat.le_of_ble_eq_true rfl, Nat.le_of_ble_eq_true rfl⟩ t0 kd_2 rfl rfl hl.1 rfl (Nat.le_of_ble_eq_true rfl) dX6_indexOf_17 ⟨Nat.zero_le _, Nat.zero_le _⟩ (fun lg9 H locs hH hS hF1 => ?_)
          refine W.lcmp hx hb dX6_indexOf_20 ?_
          refine lv_topi (fun x10 ex10 => ?_)
          have ix10 := iv_top x10
          refine lv_if_ne (tgt := 26) hx hb dX6_indexOf_21 (by decide) (fun c11 => ?_) (fun c11 => ?_)
          · skip
            refine th_iinc S dX6_indexOf_26 hl (k := 3) rfl (by decide) ir6 (by decide) (fun x12 ls ex12 ix12 hl => ?_)
            have hl : lv_has ls 4 [(3, .int x12), (0, .ref a0), (1, .ref a1), (2, .int y2)] := hl
            have ix12 : IV x12 1 4 := ix12
            refine lv_goto (tgt := 2) hx hb dX6_indexOf_29 (by decide) ?_
            exact ih2 H locs ls x12 (iv_w ix12 (by decide)) hH hS (lv_sub hl [1, 2, 3, 0] rfl) (th_up iv2_3 ex12 (by decide) hn2)
          · skip
            have ir13 : IV x10 0 0 := iv_eL c11 (iv_c (by decide) : IV 0 0 0)
            refine lv_iload_n hx hb dX6_indexOf_24 rfl (lv_at hl 3 rfl) ?_
            exact th_iret S hK hH hS hr hlocks (th_R.i (iv_w ir6 (by decide))) dX6_indexOf_25
  have J0 : ∀ (H : Heap) (locs : List Loc) (ls : Array Slot), th_H D cT T (kd q) H → va_S (th_A T []) s.heap H locs → lv_has ls 4 [(0, .ref a0), (1, .ref a1), (2, .int y2)] → W p l e (rmk 1 20) s m [.ref a0, .ref a1, .int y2].toArray below meth c H locs 0 0 (MQ below (th_Q D cT T (kd q) (th_R T (some (.inl (-1, 3)))) []) [.ref a0, .ref a1, .int y2].toArray s 0 0 (th_A T [])) (F0 m 0 ls []) := by
    intro H locs ls hH hS hl
    refine lv_iconst (v := 0) hx hb dX6_indexOf_0 (by decide) ?_
    refine lv_istore_n (lv' := [(3, .int 0), (0, .ref a0), (1, .ref a1), (2, .int y2)]) hx hb dX6_indexOf_1 rfl hl (by decide) rfl (fun ls hl => ?_)
    exact J2 ((4 + 1 - Int32.toInt 0).toNat + 1) H locs ls 0 (iv_w (iv_c (by decide) : IV 0 0 0) (by decide)) hH hS (lv_sub hl [1, 2, 3, 0] rfl) (Nat.lt_succ_self _)
  exact J0 s.heap [] ls hH va_S.rf hl

set_option maxRecDepth 100000 in
theorem m_X6_indexOf_v2 (l : Launch) (D : va_G) (cT : Nat → ClassId) (T : Nat → Option Nat) (q : Nat → Int) (hq : qok q) (a0 : Nat) (t0 : T a0 = some 2) (a1 : Nat) (t1 : T a1 = some 49) (y2 : Int32) (j2 : IV y2 (-2147483648) 2147483647) : th_Met l D cT T (kd q) yX6_indexOf cX6_indexOf 4 (some .int) (rmk 1 20) [.ref a0, .ref a1, .int y2] (th_R T (some (.inl (-1, 7)))) [] := by
  refine th_start (by decide) (Nat.le_of_ble_eq_true rfl) ?_
  intro p e s m below meth c ls S hK hH hr hlocks hnm hl
  have hx := S.1
  have hb := S.2.1
  have hl : lv_has ls 4 [(0, .ref a0), (1, .ref a1), (2, .int y2)] := hl
  have J32 : ∀ (H : Heap) (locs : List Loc) (ls : Array Slot), th_H D cT T (kd q) H → va_S (th_A T []) s.heap H locs → lv_has ls 4 [] → W p l e (rmk 1 20) s m [.ref a0, .ref a1, .int y2].toArray below meth c H locs 0 0 (MQ below (th_Q D cT T (kd q) (th_R T (some (.inl (-1, 7)))) []) [.ref a0, .ref a1, .int y2].toArray s 0 0 (th_A T [])) (F0 m 32 ls []) := by
    intro H locs ls hH hS hl
    refine lv_iconst (v := (-1)) hx hb dX6_indexOf_32 (by decide) ?_
    exact th_iret S hK hH hS hr hlocks (th_R.i (iv_w (iv_c (by decide) : IV (-1) (-1) (-1)) (by decide))) dX6_indexOf_33
  have J2 : ∀ (n : Nat) (H : Heap) (locs : List Loc) (ls : Array Slot) (v2_3 : Int32), IV v2_3 0 8 → th_H D cT T (kd q) H → va_S (th_A T []) s.heap H locs → lv_has ls 4 [(0, .ref a0), (1, .ref a1), (2, .int y2), (3, .int v2_3)] → (8 + 1 - v2_3.toInt).toNat < n → W p l e (rmk 1 20) s m [.ref a0, .ref a1, .int y2].toArray below meth c H locs 0 0 (MQ below (th_Q D cT T (kd q) (th_R T (some (.inl (-1, 7)))) []) [.ref a0, .ref a1, .int y2].toArray s 0 0 (th_A T [])) (F0 m 2 ls []) := by
    intro n
    induction n with
    | zero => intro H locs ls v2_3 iv2_3 hH hS hl hn; exact absurd hn (Nat.not_lt_zero _)
    | succ n ih2 =>
      intro H locs ls v2_3 iv2_3 hH hS hl hn2
      refine lv_iload_n hx hb dX6_indexOf_2 rfl (lv_at hl 3 rfl) ?_
      refine lv_iload_n hx hb dX6_indexOf_3 rfl (lv_at hl 2 rfl) ?_
      refine lv_icmp_ge (tgt := 32) hx hb dX6_indexOf_4 (by decide) (fun c1 => ?_) (fun c1 => ?_)
      · skip
        have ir2 : IV y2 (-2147483648) 8 := iv_vL j2 iv2_3 (iv_le c1) (by decide)
        exact J32 H locs ls  hH hS (lv_sub hl [] rfl)
      · skip
        have ir3 : IV y2 1 2147483647 := iv_uR iv2_3 j2 (iv_nle c1) (by decide)
        refine lv_iload_n hx hb dX6_indexOf_7 rfl (lv_at hl 3 rfl) ?_
        refine lv_aload_n hx hb dX6_indexOf_8 rfl (lv_at hl 1 rfl) ?_
        refine th_alen S hK hH t1 kd_49 rfl (v := 8) (by decide) dX6_indexOf_9 ?_
        refine lv_icmp_ge (tgt := 32) hx hb dX6_indexOf_10 (by decide) (fun c4 => ?_) (fun c4 => ?_)
        · skip
          have ir5 : IV v2_3 8 8 := iv_vR (iv_c (by decide) : IV 8 8 8) iv2_3 (iv_le c4) (by decide)
          exact J32 H locs ls  hH hS (lv_sub hl [] rfl)
        · skip
          have ir6 : IV v2_3 0 7 := iv_uL iv2_3 (iv_c (by decide) : IV 8 8 8) (iv_nle c4) (by decide)
          refine lv_aload_n hx hb dX6_indexOf_13 rfl (lv_at hl 1 rfl) ?_
          refine lv_iload_n hx hb dX6_indexOf_14 rfl (lv_at hl 3 rfl) ?_
          refine th_lald S hK hH t1 kd_49 (th_in (hi := 7) ir6 (by decide)) dX6_indexOf_15 (fun v7 hv7 => ?_)
          obtain ⟨lg8, rfl⟩ := th_V.long hv7
          refine lv_aload_n hx hb dX6_indexOf_16 rfl (lv_at hl 0 rfl) ?_
          refine th_callVl (n := 0) (As := []) S hK hH hS (th_A.sub (by decide)) (m_X6_value l D cT T q hq a0 t0) gm_738 gm_735 gm_737 gm_10 gm_115 (by decide +kernel) ⟨rfl, rfl, Nat.le_of_ble_eq_true rfl, Nat.le_of_ble_eq_true rfl⟩ t0 kd_2 rfl rfl hl.1 rfl (Nat.le_of_ble_eq_true rfl) dX6_indexOf_17 ⟨Nat.zero_le _, Nat.zero_le _⟩ (fun lg9 H locs hH hS hF1 => ?_)
          refine W.lcmp hx hb dX6_indexOf_20 ?_
          refine lv_topi (fun x10 ex10 => ?_)
          have ix10 := iv_top x10
          refine lv_if_ne (tgt := 26) hx hb dX6_indexOf_21 (by decide) (fun c11 => ?_) (fun c11 => ?_)
          · skip
            refine th_iinc S dX6_indexOf_26 hl (k := 3) rfl (by decide) ir6 (by decide) (fun x12 ls ex12 ix12 hl => ?_)
            have hl : lv_has ls 4 [(3, .int x12), (0, .ref a0), (1, .ref a1), (2, .int y2)] := hl
            have ix12 : IV x12 1 8 := ix12
            refine lv_goto (tgt := 2) hx hb dX6_indexOf_29 (by decide) ?_
            exact ih2 H locs ls x12 (iv_w ix12 (by decide)) hH hS (lv_sub hl [1, 2, 3, 0] rfl) (th_up iv2_3 ex12 (by decide) hn2)
          · skip
            have ir13 : IV x10 0 0 := iv_eL c11 (iv_c (by decide) : IV 0 0 0)
            refine lv_iload_n hx hb dX6_indexOf_24 rfl (lv_at hl 3 rfl) ?_
            exact th_iret S hK hH hS hr hlocks (th_R.i (iv_w ir6 (by decide))) dX6_indexOf_25
  have J0 : ∀ (H : Heap) (locs : List Loc) (ls : Array Slot), th_H D cT T (kd q) H → va_S (th_A T []) s.heap H locs → lv_has ls 4 [(0, .ref a0), (1, .ref a1), (2, .int y2)] → W p l e (rmk 1 20) s m [.ref a0, .ref a1, .int y2].toArray below meth c H locs 0 0 (MQ below (th_Q D cT T (kd q) (th_R T (some (.inl (-1, 7)))) []) [.ref a0, .ref a1, .int y2].toArray s 0 0 (th_A T [])) (F0 m 0 ls []) := by
    intro H locs ls hH hS hl
    refine lv_iconst (v := 0) hx hb dX6_indexOf_0 (by decide) ?_
    refine lv_istore_n (lv' := [(3, .int 0), (0, .ref a0), (1, .ref a1), (2, .int y2)]) hx hb dX6_indexOf_1 rfl hl (by decide) rfl (fun ls hl => ?_)
    exact J2 ((8 + 1 - Int32.toInt 0).toNat + 1) H locs ls 0 (iv_w (iv_c (by decide) : IV 0 0 0) (by decide)) hH hS (lv_sub hl [1, 2, 3, 0] rfl) (Nat.lt_succ_self _)
  exact J0 s.heap [] ls hH va_S.rf hl

set_option maxRecDepth 100000 in
theorem m_X6_newName_v0 (l : Launch) (D : va_G) (cT : Nat → ClassId) (T : Nat → Option Nat) (q : Nat → Int) (hq : qok q) (a0 : Nat) (t0 : T a0 = some 2) (a1 : Nat) (t1 : T a1 = some 47) (y2 : Int32) (j2 : IV y2 0 3) : th_Met l D cT T (kd q) yX6_newName cX6_newName 3 (some .boolean) (rmk 2 43) [.ref a0, .ref a1, .int y2] (th_R T (some (.inl (0, 1)))) [2, 47] := by
  refine th_start (by decide) (Nat.le_of_ble_eq_true rfl) ?_
  intro p e s m below meth c ls S hK hH hr hlocks hnm hl
  have hx := S.1
  have hb := S.2.1
  have hl : lv_has ls 3 [(0, .ref a0), (1, .ref a1), (2, .int y2)] := hl
  have J46 : ∀ (H : Heap) (locs : List Loc) (ls : Array Slot), th_H D cT T (kd q) H → va_S (th_A T [2, 47]) s.heap H locs → lv_has ls 3 [(0, .ref a0)] → W p l e (rmk 2 43) s m [.ref a0, .ref a1, .int y2].toArray below meth c H locs 0 0 (MQ below (th_Q D cT T (kd q) (th_R T (some (.inl (0, 1)))) [2, 47]) [.ref a0, .ref a1, .int y2].toArray s 0 0 (th_A T [2, 47])) (F0 m 46 ls []) := by
    intro H locs ls hH hS hl
    refine lv_aload_n hx hb dX6_newName_46 rfl (lv_at hl 0 rfl) ?_
    refine lv_dup hx hb dX6_newName_47 rfl ?_
    refine th_get S hK hH inG6 t0 kd_2 rfl 2 (by decide) gm_342 rfl rfl dX6_newName_48 (fun v1 hv1 fv1 => ?_)
    obtain ⟨x2, rfl, ix2⟩ := th_V.int hv1
    refine lv_iconst (v := 1) hx hb dX6_newName_51 (by decide) ?_
    refine lv_iadd hx hb dX6_newName_52 ?_
    refine lv_topi (fun x3 ex3 => ?_)
    have ix3 := iv_top x3
    refine th_put S hK hH hS ⟨2, by decide, t0⟩ inG6 tyX6 tyX6_ok nmX6 t0 kd_2 rfl 2 (by decide) gm_342 rfl rfl rfl rfl (th_iv ix3) (fun _ _ => trivial) (ty := .int) (by decide +kernel) rfl rfl dX6_newName_53 (fun H locs hH hS hq1 hp1 => ?_)
    have f4 := hp1.1
    refine lv_iconst (v := 1) hx hb dX6_newName_56 (by decide) ?_
    exact th_zret S hK hH hS hr hlocks (iv_w (iv_c (by decide) : IV 1 1 1) (by decide)) (th_R.i (iv_w (iv_c (by decide) : IV 1 1 1) (by decide))) dX6_newName_57
  have J0 : ∀ (H : Heap) (locs : List Loc) (ls : Array Slot), th_H D cT T (kd q) H → va_S (th_A T [2, 47]) s.heap H locs → lv_has ls 3 [(0, .ref a0), (1, .ref a1), (2, .int y2)] → W p l e (rmk 2 43) s m [.ref a0, .ref a1, .int y2].toArray below meth c H locs 0 0 (MQ below (th_Q D cT T (kd q) (th_R T (some (.inl (0, 1)))) [2, 47]) [.ref a0, .ref a1, .int y2].toArray s 0 0 (th_A T [2, 47])) (F0 m 0 ls []) := by
    intro H locs ls hH hS hl
    refine lv_aload_n hx hb dX6_newName_0 rfl (lv_at hl 0 rfl) ?_
    refine th_callVi (n := 0) (As := []) S hK hH hS (th_A.sub (by decide)) (m_X6_kind l D cT T q hq a0 t0) gm_708 gm_705 gm_707 gm_5 gm_115 (by decide +kernel) ⟨rfl, rfl, Nat.le_of_ble_eq_true rfl, Nat.le_of_ble_eq_true rfl⟩ t0 kd_2 rfl rfl hl.1 rfl (Nat.le_of_ble_eq_true rfl) dX6_newName_1 ⟨Nat.zero_le _, Nat.zero_le _⟩ (fun x5 H locs ix5 hH hS hF1 => ?_)
    refine lv_iconst (v := 2) hx hb dX6_newName_4 (by decide) ?_
    refine lv_icmp_eq (tgt := 14) hx hb dX6_newName_5 (by decide) (fun c6 => ?_) (fun c6 => ?_)
    · skip
      have ir7 : IV x5 2 2 := iv_eL c6 (iv_c (by decide) : IV 2 2 2)
      refine lv_aload_n hx hb dX6_newName_14 rfl (lv_at hl 0 rfl) ?_
      refine lv_aload_n hx hb dX6_newName_15 rfl (lv_at hl 1 rfl) ?_
      refine lv_iload_n hx hb dX6_newName_16 rfl (lv_at hl 2 rfl) ?_
      refine th_callVi (n := 2) (As := [.ref a1, .int y2]) S hK hH hS (th_A.sub (by decide)) (m_X6_indexOf_v0 l D cT T q hq a0 t0 a1 t1 (y2) (iv_top _)) gm_734 gm_731 gm_733 gm_9 gm_115 (by decide +kernel) ⟨rfl, rfl, Nat.le_of_ble_eq_true rfl, Nat.le_of_ble_eq_true rfl⟩ t0 kd_2 rfl rfl hl.1 rfl (Nat.le_of_ble_eq_true rfl) dX6_newName_17 ⟨Nat.zero_le _, Nat.zero_le _⟩ (fun x8 H locs ix8 hH hS hF1 => ?_)
      refine lv_if_lt (tgt := 29) hx hb dX6_newName_20 (by decide) (fun c9 => ?_) (fun c9 => ?_)
      · skip
        have ir10 : IV x8 (-1) (-1) := iv_uL ix8 (iv_c (by decide) : IV 0 0 0) (iv_lt c9) (by decide)
        refine lv_iload_n hx hb dX6_newName_29 rfl (lv_at hl 2 rfl) ?_
        refine lv_if_lt (tgt := 46) hx hb dX6_newName_30 (by decide) (fun c11 => ?_) (fun c11 => ?_)
        · skip
          exfalso
          have z1 := iv_lt c11
          have z2 := (j2).1
          have z3 := (j2).2
          have z4 := ((iv_c (by decide) : IV 0 0 0)).1
          have z5 := ((iv_c (by decide) : IV 0 0 0)).2
          omega
        · skip
          refine lv_iload_n hx hb dX6_newName_33 rfl (lv_at hl 2 rfl) ?_
          refine lv_aload_n hx hb dX6_newName_34 rfl (lv_at hl 1 rfl) ?_
          refine th_alen S hK hH t1 kd_47 rfl (v := 3) (by decide) dX6_newName_35 ?_
          refine lv_icmp_ge (tgt := 46) hx hb dX6_newName_36 (by decide) (fun c12 => ?_) (fun c12 => ?_)
          · skip
            have ir13 : IV y2 3 3 := iv_vR (iv_c (by decide) : IV 3 3 3) j2 (iv_le c12) (by decide)
            exact J46 H locs ls  hH hS (lv_sub hl [0] rfl)
          · skip
            have ir14 : IV y2 0 2 := iv_uL j2 (iv_c (by decide) : IV 3 3 3) (iv_nle c12) (by decide)
            refine lv_aload_n hx hb dX6_newName_39 rfl (lv_at hl 1 rfl) ?_
            refine lv_iload_n hx hb dX6_newName_40 rfl (lv_at hl 2 rfl) ?_
            refine lv_aload_n hx hb dX6_newName_41 rfl (lv_at hl 0 rfl) ?_
            refine th_callVl (n := 0) (As := []) S hK hH hS (th_A.sub (by decide)) (m_X6_value l D cT T q hq a0 t0) gm_738 gm_735 gm_737 gm_10 gm_115 (by decide +kernel) ⟨rfl, rfl, Nat.le_of_ble_eq_true rfl, Nat.le_of_ble_eq_true rfl⟩ t0 kd_2 rfl rfl hl.1 rfl (Nat.le_of_ble_eq_true rfl) dX6_newName_42 ⟨Nat.zero_le _, Nat.zero_le _⟩ (fun lg15 H locs hH hS hF1 => ?_)
            refine th_last S hK hH hS ⟨47, by decide, t1⟩ t1 kd_47 (th_in (hi := 2) ir14 (by decide)) (th_lg _) dX6_newName_45 (fun H locs hH hS hq1 => ?_)
            exact J46 H locs ls  hH hS (lv_sub hl [0] rfl)
      · skip
        have ir16 : IV x8 0 2 := iv_vR (iv_c (by decide) : IV 0 0 0) ix8 (iv_nlt c9) (by decide)
        refine lv_aload_n hx hb dX6_newName_23 rfl (lv_at hl 0 rfl) ?_
        refine lv_iconst (v := 3) hx hb dX6_newName_24 (by decide) ?_
        refine th_callVi (n := 1) (As := [.int 3]) S hK hH hS (th_A.sub (by decide)) (m_X6_blame l D cT T q hq a0 t0 (3) (iv_top _)) gm_722 gm_719 gm_721 gm_6 gm_115 (by decide +kernel) ⟨rfl, rfl, Nat.le_of_ble_eq_true rfl, Nat.le_of_ble_eq_true rfl⟩ t0 kd_2 rfl rfl hl.1 rfl (Nat.le_of_ble_eq_true rfl) dX6_newName_25 ⟨Nat.zero_le _, Nat.zero_le _⟩ (fun x17 H locs ix17 hH hS hF1 => ?_)
        exact th_zret S hK hH hS hr hlocks (iv_w ix17 (by decide)) (th_R.i (iv_w ix17 (by decide))) dX6_newName_28
    · skip
      refine lv_aload_n hx hb dX6_newName_8 rfl (lv_at hl 0 rfl) ?_
      refine lv_iconst (v := 2) hx hb dX6_newName_9 (by decide) ?_
      refine th_callVi (n := 1) (As := [.int 2]) S hK hH hS (th_A.sub (by decide)) (m_X6_blame l D cT T q hq a0 t0 (2) (iv_top _)) gm_722 gm_719 gm_721 gm_6 gm_115 (by decide +kernel) ⟨rfl, rfl, Nat.le_of_ble_eq_true rfl, Nat.le_of_ble_eq_true rfl⟩ t0 kd_2 rfl rfl hl.1 rfl (Nat.le_of_ble_eq_true rfl) dX6_newName_10 ⟨Nat.zero_le _, Nat.zero_le _⟩ (fun x18 H locs ix18 hH hS hF1 => ?_)
      exact th_zret S hK hH hS hr hlocks (iv_w ix18 (by decide)) (th_R.i (iv_w ix18 (by decide))) dX6_newName_13
  exact J0 s.heap [] ls hH va_S.rf hl

set_option maxRecDepth 100000 in
theorem m_X6_newName_v1 (l : Launch) (D : va_G) (cT : Nat → ClassId) (T : Nat → Option Nat) (q : Nat → Int) (hq : qok q) (a0 : Nat) (t0 : T a0 = some 2) (a1 : Nat) (t1 : T a1 = some 48) (y2 : Int32) (j2 : IV y2 0 4) : th_Met l D cT T (kd q) yX6_newName cX6_newName 3 (some .boolean) (rmk 2 43) [.ref a0, .ref a1, .int y2] (th_R T (some (.inl (0, 1)))) [2, 48] := by
  refine th_start (by decide) (Nat.le_of_ble_eq_true rfl) ?_
  intro p e s m below meth c ls S hK hH hr hlocks hnm hl
  have hx := S.1
  have hb := S.2.1
  have hl : lv_has ls 3 [(0, .ref a0), (1, .ref a1), (2, .int y2)] := hl
  have J46 : ∀ (H : Heap) (locs : List Loc) (ls : Array Slot), th_H D cT T (kd q) H → va_S (th_A T [2, 48]) s.heap H locs → lv_has ls 3 [(0, .ref a0)] → W p l e (rmk 2 43) s m [.ref a0, .ref a1, .int y2].toArray below meth c H locs 0 0 (MQ below (th_Q D cT T (kd q) (th_R T (some (.inl (0, 1)))) [2, 48]) [.ref a0, .ref a1, .int y2].toArray s 0 0 (th_A T [2, 48])) (F0 m 46 ls []) := by
    intro H locs ls hH hS hl
    refine lv_aload_n hx hb dX6_newName_46 rfl (lv_at hl 0 rfl) ?_
    refine lv_dup hx hb dX6_newName_47 rfl ?_
    refine th_get S hK hH inG6 t0 kd_2 rfl 2 (by decide) gm_342 rfl rfl dX6_newName_48 (fun v1 hv1 fv1 => ?_)
    obtain ⟨x2, rfl, ix2⟩ := th_V.int hv1
    refine lv_iconst (v := 1) hx hb dX6_newName_51 (by decide) ?_
    refine lv_iadd hx hb dX6_newName_52 ?_
    refine lv_topi (fun x3 ex3 => ?_)
    have ix3 := iv_top x3
    refine th_put S hK hH hS ⟨2, by decide, t0⟩ inG6 tyX6 tyX6_ok nmX6 t0 kd_2 rfl 2 (by decide) gm_342 rfl rfl rfl rfl (th_iv ix3) (fun _ _ => trivial) (ty := .int) (by decide +kernel) rfl rfl dX6_newName_53 (fun H locs hH hS hq1 hp1 => ?_)
    have f4 := hp1.1
    refine lv_iconst (v := 1) hx hb dX6_newName_56 (by decide) ?_
    exact th_zret S hK hH hS hr hlocks (iv_w (iv_c (by decide) : IV 1 1 1) (by decide)) (th_R.i (iv_w (iv_c (by decide) : IV 1 1 1) (by decide))) dX6_newName_57
  have J0 : ∀ (H : Heap) (locs : List Loc) (ls : Array Slot), th_H D cT T (kd q) H → va_S (th_A T [2, 48]) s.heap H locs → lv_has ls 3 [(0, .ref a0), (1, .ref a1), (2, .int y2)] → W p l e (rmk 2 43) s m [.ref a0, .ref a1, .int y2].toArray below meth c H locs 0 0 (MQ below (th_Q D cT T (kd q) (th_R T (some (.inl (0, 1)))) [2, 48]) [.ref a0, .ref a1, .int y2].toArray s 0 0 (th_A T [2, 48])) (F0 m 0 ls []) := by
    intro H locs ls hH hS hl
    refine lv_aload_n hx hb dX6_newName_0 rfl (lv_at hl 0 rfl) ?_
    refine th_callVi (n := 0) (As := []) S hK hH hS (th_A.sub (by decide)) (m_X6_kind l D cT T q hq a0 t0) gm_708 gm_705 gm_707 gm_5 gm_115 (by decide +kernel) ⟨rfl, rfl, Nat.le_of_ble_eq_true rfl, Nat.le_of_ble_eq_true rfl⟩ t0 kd_2 rfl rfl hl.1 rfl (Nat.le_of_ble_eq_true rfl) dX6_newName_1 ⟨Nat.zero_le _, Nat.zero_le _⟩ (fun x5 H locs ix5 hH hS hF1 => ?_)
    refine lv_iconst (v := 2) hx hb dX6_newName_4 (by decide) ?_
    refine lv_icmp_eq (tgt := 14) hx hb dX6_newName_5 (by decide) (fun c6 => ?_) (fun c6 => ?_)
    · skip
      have ir7 : IV x5 2 2 := iv_eL c6 (iv_c (by decide) : IV 2 2 2)
      refine lv_aload_n hx hb dX6_newName_14 rfl (lv_at hl 0 rfl) ?_
      refine lv_aload_n hx hb dX6_newName_15 rfl (lv_at hl 1 rfl) ?_
      refine lv_iload_n hx hb dX6_newName_16 rfl (lv_at hl 2 rfl) ?_
      refine th_callVi (n := 2) (As := [.ref a1, .int y2]) S hK hH hS (th_A.sub (by decide)) (m_X6_indexOf_v1 l D cT T q hq a0 t0 a1 t1 (y2) (iv_top _)) gm_734 gm_731 gm_733 gm_9 gm_115 (by decide +kernel) ⟨rfl, rfl, Nat.le_of_ble_eq_true rfl, Nat.le_of_ble_eq_true rfl⟩ t0 kd_2 rfl rfl hl.1 rfl (Nat.le_of_ble_eq_true rfl) dX6_newName_17 ⟨Nat.zero_le _, Nat.zero_le _⟩ (fun x8 H locs ix8 hH hS hF1 => ?_)
      refine lv_if_lt (tgt := 29) hx hb dX6_newName_20 (by decide) (fun c9 => ?_) (fun c9 => ?_)
      · skip
        have ir10 : IV x8 (-1) (-1) := iv_uL ix8 (iv_c (by decide) : IV 0 0 0) (iv_lt c9) (by decide)
        refine lv_iload_n hx hb dX6_newName_29 rfl (lv_at hl 2 rfl) ?_
        refine lv_if_lt (tgt := 46) hx hb dX6_newName_30 (by decide) (fun c11 => ?_) (fun c11 => ?_)
        · skip
          exfalso
          have z1 := iv_lt c11
          have z2 := (j2).1
          have z3 := (j2).2
          have z4 := ((iv_c (by decide) : IV 0 0 0)).1
          have z5 := ((iv_c (by decide) : IV 0 0 0)).2
          omega
        · skip
          refine lv_iload_n hx hb dX6_newName_33 rfl (lv_at hl 2 rfl) ?_
          refine lv_aload_n hx hb dX6_newName_34 rfl (lv_at hl 1 rfl) ?_
          refine th_alen S hK hH t1 kd_48 rfl (v := 4) (by decide) dX6_newName_35 ?_
          refine lv_icmp_ge (tgt := 46) hx hb dX6_newName_36 (by decide) (fun c12 => ?_) (fun c12 => ?_)
          · skip
            have ir13 : IV y2 4 4 := iv_vR (iv_c (by decide) : IV 4 4 4) j2 (iv_le c12) (by decide)
            exact J46 H locs ls  hH hS (lv_sub hl [0] rfl)
          · skip
            have ir14 : IV y2 0 3 := iv_uL j2 (iv_c (by decide) : IV 4 4 4) (iv_nle c12) (by decide)
            refine lv_aload_n hx hb dX6_newName_39 rfl (lv_at hl 1 rfl) ?_
            refine lv_iload_n hx hb dX6_newName_40 rfl (lv_at hl 2 rfl) ?_
            refine lv_aload_n hx hb dX6_newName_41 rfl (lv_at hl 0 rfl) ?_
            refine th_callVl (n := 0) (As := []) S hK hH hS (th_A.sub (by decide)) (m_X6_value l D cT T q hq a0 t0) gm_738 gm_735 gm_737 gm_10 gm_115 (by decide +kernel) ⟨rfl, rfl, Nat.le_of_ble_eq_true rfl, Nat.le_of_ble_eq_true rfl⟩ t0 kd_2 rfl rfl hl.1 rfl (Nat.le_of_ble_eq_true rfl) dX6_newName_42 ⟨Nat.zero_le _, Nat.zero_le _⟩ (fun lg15 H locs hH hS hF1 => ?_)
            refine th_last S hK hH hS ⟨48, by decide, t1⟩ t1 kd_48 (th_in (hi := 3) ir14 (by decide)) (th_lg _) dX6_newName_45 (fun H locs hH hS hq1 => ?_)
            exact J46 H locs ls  hH hS (lv_sub hl [0] rfl)
      · skip
        have ir16 : IV x8 0 3 := iv_vR (iv_c (by decide) : IV 0 0 0) ix8 (iv_nlt c9) (by decide)
        refine lv_aload_n hx hb dX6_newName_23 rfl (lv_at hl 0 rfl) ?_
        refine lv_iconst (v := 3) hx hb dX6_newName_24 (by decide) ?_
        refine th_callVi (n := 1) (As := [.int 3]) S hK hH hS (th_A.sub (by decide)) (m_X6_blame l D cT T q hq a0 t0 (3) (iv_top _)) gm_722 gm_719 gm_721 gm_6 gm_115 (by decide +kernel) ⟨rfl, rfl, Nat.le_of_ble_eq_true rfl, Nat.le_of_ble_eq_true rfl⟩ t0 kd_2 rfl rfl hl.1 rfl (Nat.le_of_ble_eq_true rfl) dX6_newName_25 ⟨Nat.zero_le _, Nat.zero_le _⟩ (fun x17 H locs ix17 hH hS hF1 => ?_)
        exact th_zret S hK hH hS hr hlocks (iv_w ix17 (by decide)) (th_R.i (iv_w ix17 (by decide))) dX6_newName_28
    · skip
      refine lv_aload_n hx hb dX6_newName_8 rfl (lv_at hl 0 rfl) ?_
      refine lv_iconst (v := 2) hx hb dX6_newName_9 (by decide) ?_
      refine th_callVi (n := 1) (As := [.int 2]) S hK hH hS (th_A.sub (by decide)) (m_X6_blame l D cT T q hq a0 t0 (2) (iv_top _)) gm_722 gm_719 gm_721 gm_6 gm_115 (by decide +kernel) ⟨rfl, rfl, Nat.le_of_ble_eq_true rfl, Nat.le_of_ble_eq_true rfl⟩ t0 kd_2 rfl rfl hl.1 rfl (Nat.le_of_ble_eq_true rfl) dX6_newName_10 ⟨Nat.zero_le _, Nat.zero_le _⟩ (fun x18 H locs ix18 hH hS hF1 => ?_)
      exact th_zret S hK hH hS hr hlocks (iv_w ix18 (by decide)) (th_R.i (iv_w ix18 (by decide))) dX6_newName_13
  exact J0 s.heap [] ls hH va_S.rf hl
